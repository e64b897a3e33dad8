theorem kw_0 : Cond.fieldLink "NoonShade$Isle" 57 "NoonShade$Isle" "casters" "I" ∈ gtb := gtb_mem (in_t1 (List.mem_of_getElem? (i := 73) (by decide +kernel))) rfl
theorem kw_1 : Cond.fieldLink "NoonShade$Isle" 60 "NoonShade$Isle" "jars" "I" ∈ gtb := gtb_mem (in_t1 (List.mem_of_getElem? (i := 76) (by decide +kernel))) rfl
theorem kw_2 : Cond.fieldLink "NoonShade" 260 "NoonShade" "fulls" "I" ∈ gtb := gtb_mem (in_t1 (List.mem_of_getElem? (i := 211) (by decide +kernel))) rfl
theorem kw_3 : Cond.fieldLink "NoonShade" 257 "NoonShade" "noes" "I" ∈ gtb := gtb_mem (in_t1 (List.mem_of_getElem? (i := 210) (by decide +kernel))) rfl
theorem kw_4 : Cond.fieldLink "NoonShade" 254 "NoonShade" "bads" "I" ∈ gtb := gtb_mem (in_t1 (List.mem_of_getElem? (i := 209) (by decide +kernel))) rfl
theorem kw_5 : Cond.fieldLink "NoonShade" 10 "NoonShade" "now" "LNoonShade$Isle;" ∈ gtb := gtb_mem (in_t1 (List.mem_of_getElem? (i := 200) (by decide +kernel))) rfl
theorem kw_6 : Cond.methodLink "NoonShade" 108 yX2_hasCaster ∈ gtb := gtb_mem (in_t3 (List.mem_of_getElem? (i := 8) (by decide +kernel))) rfl
theorem kw_7 : Cond.instanceMethod yX2_hasCaster ∈ gtb := gtb_mem (in_t2 (List.mem_of_getElem? (i := 163) (by decide +kernel))) rfl
theorem kw_8 : Cond.selects "NoonShade$Isle" yX2_hasCaster yX2_hasCaster ∈ gtb := gtb_mem (in_t2 (List.mem_of_getElem? (i := 164) (by decide +kernel))) rfl
theorem kw_9 : Cond.initialized "NoonShade$Isle" ∈ gtb := gtb_mem (in_t1 (List.mem_of_getElem? (i := 2) (by decide +kernel))) rfl
theorem kw_10 : Cond.code yX2_hasCaster prog_4_method_4_code 2 (some .boolean) ∈ gtb := gtb_mem (in_t2 (List.mem_of_getElem? (i := 165) (rfl))) rfl
theorem kw_11 : Cond.methodLink "NoonShade" 59 yX8_refused ∈ gtb := gtb_mem (in_t2 (List.mem_of_getElem? (i := 4) (by decide +kernel))) rfl
theorem kw_12 : Cond.instanceMethod yX8_refused ∈ gtb := gtb_mem (in_t2 (List.mem_of_getElem? (i := 6) (by decide +kernel))) rfl
theorem kw_13 : Cond.selects "NoonShade" yX8_refused yX8_refused ∈ gtb := gtb_mem (in_t0 (List.mem_of_getElem? (i := 0) (by decide +kernel))) rfl
theorem kw_14 : Cond.initialized "NoonShade" ∈ gtb := gtb_mem (in_t1 (List.mem_of_getElem? (i := 1) (by decide +kernel))) rfl
theorem kw_15 : Cond.code yX8_refused prog_1_method_39_code 2 (some .int) ∈ gtb := gtb_mem (in_t2 (List.mem_of_getElem? (i := 7) (rfl))) rfl
theorem kw_16 : Cond.methodLink "NoonShade" 112 yX2_hasJar ∈ gtb := gtb_mem (in_t3 (List.mem_of_getElem? (i := 9) (by decide +kernel))) rfl
theorem kw_17 : Cond.instanceMethod yX2_hasJar ∈ gtb := gtb_mem (in_t2 (List.mem_of_getElem? (i := 171) (by decide +kernel))) rfl
theorem kw_18 : Cond.selects "NoonShade$Isle" yX2_hasJar yX2_hasJar ∈ gtb := gtb_mem (in_t2 (List.mem_of_getElem? (i := 172) (by decide +kernel))) rfl
theorem kw_19 : Cond.code yX2_hasJar prog_4_method_5_code 2 (some .boolean) ∈ gtb := gtb_mem (in_t2 (List.mem_of_getElem? (i := 173) (rfl))) rfl
theorem kw_20 : Cond.fieldLink "NoonShade$Rows" 15 "NoonShade$Rows" "size" "I" ∈ gtb := gtb_mem (in_t1 (List.mem_of_getElem? (i := 39) (by decide +kernel))) rfl
theorem kw_21 : Cond.fieldLink "NoonShade$Past" 15 "NoonShade$Past" "steps" "I" ∈ gtb := gtb_mem (in_t1 (List.mem_of_getElem? (i := 54) (by decide +kernel))) rfl
theorem kw_22 : Cond.fieldLink "NoonShade$Isle" 47 "NoonShade$Isle" "hour" "I" ∈ gtb := gtb_mem (in_t1 (List.mem_of_getElem? (i := 61) (by decide +kernel))) rfl
theorem kw_23 : Cond.fieldLink "NoonShade$Isle" 51 "NoonShade$Isle" "sold" "I" ∈ gtb := gtb_mem (in_t1 (List.mem_of_getElem? (i := 66) (by decide +kernel))) rfl
theorem kw_24 : Cond.fieldLink "NoonShade$Isle" 54 "NoonShade$Isle" "milked" "I" ∈ gtb := gtb_mem (in_t1 (List.mem_of_getElem? (i := 69) (by decide +kernel))) rfl
theorem kw_25 : Cond.fieldLink "NoonShade$Isle" 33 "NoonShade$Isle" "notes" "LNoonShade$Rows;" ∈ gtb := gtb_mem (in_t1 (List.mem_of_getElem? (i := 96) (by decide +kernel))) rfl
theorem kw_26 : Cond.methodLink "NoonShade$Isle" 63 yX6_empty ∈ gtb := gtb_mem (in_t2 (List.mem_of_getElem? (i := 12) (by decide +kernel))) rfl
theorem kw_27 : Cond.instanceMethod yX6_empty ∈ gtb := gtb_mem (in_t2 (List.mem_of_getElem? (i := 13) (by decide +kernel))) rfl
theorem kw_28 : Cond.selects "NoonShade$Rows" yX6_empty yX6_empty ∈ gtb := gtb_mem (in_t2 (List.mem_of_getElem? (i := 14) (by decide +kernel))) rfl
theorem kw_29 : Cond.initialized "NoonShade$Rows" ∈ gtb := gtb_mem (in_t1 (List.mem_of_getElem? (i := 3) (by decide +kernel))) rfl
theorem kw_30 : Cond.code yX6_empty prog_8_method_4_code 2 (some .int) ∈ gtb := gtb_mem (in_t2 (List.mem_of_getElem? (i := 15) (rfl))) rfl
theorem kw_31 : Cond.fieldLink "NoonShade$Isle" 37 "NoonShade$Isle" "marks" "LNoonShade$Rows;" ∈ gtb := gtb_mem (in_t1 (List.mem_of_getElem? (i := 98) (by decide +kernel))) rfl
theorem kw_32 : Cond.fieldLink "NoonShade$Isle" 43 "NoonShade$Isle" "past" "LNoonShade$Past;" ∈ gtb := gtb_mem (in_t1 (List.mem_of_getElem? (i := 100) (by decide +kernel))) rfl
theorem kw_33 : Cond.methodLink "NoonShade$Isle" 67 yX4_empty ∈ gtb := gtb_mem (in_t2 (List.mem_of_getElem? (i := 16) (by decide +kernel))) rfl
theorem kw_34 : Cond.instanceMethod yX4_empty ∈ gtb := gtb_mem (in_t2 (List.mem_of_getElem? (i := 17) (by decide +kernel))) rfl
theorem kw_35 : Cond.selects "NoonShade$Past" yX4_empty yX4_empty ∈ gtb := gtb_mem (in_t2 (List.mem_of_getElem? (i := 18) (by decide +kernel))) rfl
theorem kw_36 : Cond.initialized "NoonShade$Past" ∈ gtb := gtb_mem (in_t1 (List.mem_of_getElem? (i := 4) (by decide +kernel))) rfl
theorem kw_37 : Cond.code yX4_empty prog_6_method_2_code 1 none ∈ gtb := gtb_mem (in_t2 (List.mem_of_getElem? (i := 19) (rfl))) rfl
theorem kw_38 : Cond.methodLink "NoonShade" 55 yX8_within ∈ gtb := gtb_mem (in_t2 (List.mem_of_getElem? (i := 1) (by decide +kernel))) rfl
theorem kw_39 : Cond.static yX8_within ∈ gtb := gtb_mem (in_t2 (List.mem_of_getElem? (i := 2) (by decide +kernel))) rfl
theorem kw_40 : Cond.code yX8_within prog_1_method_38_code 3 (some .boolean) ∈ gtb := gtb_mem (in_t2 (List.mem_of_getElem? (i := 3) (rfl))) rfl
theorem kw_41 : Cond.fieldLink "NoonShade" 63 "NoonShade$Isle" "casters" "I" ∈ gtb := gtb_mem (in_t1 (List.mem_of_getElem? (i := 74) (by decide +kernel))) rfl
theorem kw_42 : Cond.methodLink "NoonShade" 67 yX2_begin ∈ gtb := gtb_mem (in_t2 (List.mem_of_getElem? (i := 8) (by decide +kernel))) rfl
theorem kw_43 : Cond.instanceMethod yX2_begin ∈ gtb := gtb_mem (in_t2 (List.mem_of_getElem? (i := 9) (by decide +kernel))) rfl
theorem kw_44 : Cond.selects "NoonShade$Isle" yX2_begin yX2_begin ∈ gtb := gtb_mem (in_t2 (List.mem_of_getElem? (i := 10) (by decide +kernel))) rfl
theorem kw_45 : Cond.code yX2_begin prog_4_method_2_code 2 none ∈ gtb := gtb_mem (in_t2 (List.mem_of_getElem? (i := 11) (rfl))) rfl
theorem kw_46 : Cond.fieldLink "NoonShade$Isle" 9 "NoonShade$Isle" "casterKind" "[I" ∈ gtb := gtb_mem (in_t1 (List.mem_of_getElem? (i := 79) (by decide +kernel))) rfl
theorem kw_47 : Cond.fieldLink "NoonShade$Isle" 15 "NoonShade$Isle" "height" "[I" ∈ gtb := gtb_mem (in_t1 (List.mem_of_getElem? (i := 81) (by decide +kernel))) rfl
theorem kw_48 : Cond.fieldLink "NoonShade$Isle" 18 "NoonShade$Isle" "casterTaste" "[I" ∈ gtb := gtb_mem (in_t1 (List.mem_of_getElem? (i := 83) (by decide +kernel))) rfl
theorem kw_49 : Cond.fieldLink "NoonShade$Isle" 21 "NoonShade$Isle" "jarKind" "[I" ∈ gtb := gtb_mem (in_t1 (List.mem_of_getElem? (i := 85) (by decide +kernel))) rfl
theorem kw_50 : Cond.fieldLink "NoonShade$Isle" 24 "NoonShade$Isle" "cool" "[I" ∈ gtb := gtb_mem (in_t1 (List.mem_of_getElem? (i := 88) (by decide +kernel))) rfl
theorem kw_51 : Cond.fieldLink "NoonShade$Isle" 27 "NoonShade$Isle" "jarTaste" "[I" ∈ gtb := gtb_mem (in_t1 (List.mem_of_getElem? (i := 93) (by decide +kernel))) rfl
theorem kw_52 : Cond.fieldLink "NoonShade" 71 "NoonShade$Isle" "past" "LNoonShade$Past;" ∈ gtb := gtb_mem (in_t1 (List.mem_of_getElem? (i := 101) (by decide +kernel))) rfl
theorem kw_53 : Cond.methodLink "NoonShade" 75 yX4_empty ∈ gtb := gtb_mem (in_t2 (List.mem_of_getElem? (i := 24) (by decide +kernel))) rfl
theorem kw_54 : Cond.methodLink "NoonShade" 80 yX2_addCaster ∈ gtb := gtb_mem (in_t2 (List.mem_of_getElem? (i := 25) (by decide +kernel))) rfl
theorem kw_55 : Cond.instanceMethod yX2_addCaster ∈ gtb := gtb_mem (in_t2 (List.mem_of_getElem? (i := 26) (by decide +kernel))) rfl
theorem kw_56 : Cond.selects "NoonShade$Isle" yX2_addCaster yX2_addCaster ∈ gtb := gtb_mem (in_t2 (List.mem_of_getElem? (i := 27) (by decide +kernel))) rfl
theorem kw_57 : Cond.code yX2_addCaster prog_4_method_7_code 4 (some .int) ∈ gtb := gtb_mem (in_t2 (List.mem_of_getElem? (i := 28) (rfl))) rfl
theorem kw_58 : Cond.fieldLink "NoonShade" 84 "NoonShade$Isle" "jars" "I" ∈ gtb := gtb_mem (in_t1 (List.mem_of_getElem? (i := 77) (by decide +kernel))) rfl
theorem kw_59 : Cond.methodLink "NoonShade" 87 yX2_addJar ∈ gtb := gtb_mem (in_t2 (List.mem_of_getElem? (i := 33) (by decide +kernel))) rfl
theorem kw_60 : Cond.instanceMethod yX2_addJar ∈ gtb := gtb_mem (in_t2 (List.mem_of_getElem? (i := 34) (by decide +kernel))) rfl
theorem kw_61 : Cond.selects "NoonShade$Isle" yX2_addJar yX2_addJar ∈ gtb := gtb_mem (in_t2 (List.mem_of_getElem? (i := 35) (by decide +kernel))) rfl
theorem kw_62 : Cond.code yX2_addJar prog_4_method_8_code 2 (some .int) ∈ gtb := gtb_mem (in_t2 (List.mem_of_getElem? (i := 36) (rfl))) rfl
theorem kw_63 : Cond.fieldLink "NoonShade$Text" 19 "NoonShade$Text" "length" "I" ∈ gtb := gtb_mem (in_t1 (List.mem_of_getElem? (i := 140) (by decide +kernel))) rfl
theorem kw_64 : Cond.methodLink "NoonShade$Text" 23 yX7_isFull ∈ gtb := gtb_mem (in_t2 (List.mem_of_getElem? (i := 49) (by decide +kernel))) rfl
theorem kw_65 : Cond.instanceMethod yX7_isFull ∈ gtb := gtb_mem (in_t2 (List.mem_of_getElem? (i := 42) (by decide +kernel))) rfl
theorem kw_66 : Cond.selects "NoonShade$Text" yX7_isFull yX7_isFull ∈ gtb := gtb_mem (in_t2 (List.mem_of_getElem? (i := 43) (by decide +kernel))) rfl
theorem kw_67 : Cond.initialized "NoonShade$Text" ∈ gtb := gtb_mem (in_t1 (List.mem_of_getElem? (i := 5) (by decide +kernel))) rfl
theorem kw_68 : Cond.code yX7_isFull prog_9_method_2_code 1 (some .boolean) ∈ gtb := gtb_mem (in_t2 (List.mem_of_getElem? (i := 44) (rfl))) rfl
theorem kw_69 : Cond.fieldLink "NoonShade$Text" 11 "NoonShade$Text" "bytes" "[B" ∈ gtb := gtb_mem (in_t1 (List.mem_of_getElem? (i := 138) (by decide +kernel))) rfl
theorem kw_70 : Cond.fieldLink "NoonShade" 30 "NoonShade" "text" "LNoonShade$Text;" ∈ gtb := gtb_mem (in_t1 (List.mem_of_getElem? (i := 204) (by decide +kernel))) rfl
theorem kw_71 : Cond.methodLink "NoonShade" 90 yX7_isFull ∈ gtb := gtb_mem (in_t2 (List.mem_of_getElem? (i := 41) (by decide +kernel))) rfl
theorem kw_72 : Cond.methodLink "NoonShade" 94 yX7_add ∈ gtb := gtb_mem (in_t2 (List.mem_of_getElem? (i := 45) (by decide +kernel))) rfl
theorem kw_73 : Cond.instanceMethod yX7_add ∈ gtb := gtb_mem (in_t2 (List.mem_of_getElem? (i := 46) (by decide +kernel))) rfl
theorem kw_74 : Cond.selects "NoonShade$Text" yX7_add yX7_add ∈ gtb := gtb_mem (in_t2 (List.mem_of_getElem? (i := 47) (by decide +kernel))) rfl
theorem kw_75 : Cond.code yX7_add prog_9_method_3_code 2 (some .int) ∈ gtb := gtb_mem (in_t2 (List.mem_of_getElem? (i := 48) (rfl))) rfl
theorem kw_76 : Cond.methodLink "NoonShade" 97 yX7_empty ∈ gtb := gtb_mem (in_t2 (List.mem_of_getElem? (i := 54) (by decide +kernel))) rfl
theorem kw_77 : Cond.instanceMethod yX7_empty ∈ gtb := gtb_mem (in_t2 (List.mem_of_getElem? (i := 55) (by decide +kernel))) rfl
theorem kw_78 : Cond.selects "NoonShade$Text" yX7_empty yX7_empty ∈ gtb := gtb_mem (in_t2 (List.mem_of_getElem? (i := 56) (by decide +kernel))) rfl
theorem kw_79 : Cond.code yX7_empty prog_9_method_4_code 2 (some .int) ∈ gtb := gtb_mem (in_t2 (List.mem_of_getElem? (i := 57) (rfl))) rfl
theorem kw_80 : Cond.fieldLink "NoonShade$Text" 33 "NoonShade$Text" "at" "I" ∈ gtb := gtb_mem (in_t1 (List.mem_of_getElem? (i := 143) (by decide +kernel))) rfl
theorem kw_81 : Cond.fieldLink "NoonShade$Text" 58 "NoonShade$Text" "start" "I" ∈ gtb := gtb_mem (in_t1 (List.mem_of_getElem? (i := 142) (by decide +kernel))) rfl
theorem kw_82 : Cond.fieldLink "NoonShade$Text" 39 "NoonShade$Text" "token" "I" ∈ gtb := gtb_mem (in_t1 (List.mem_of_getElem? (i := 144) (by decide +kernel))) rfl
theorem kw_83 : Cond.methodLink "NoonShade$Text" 27 yX2_begin ∈ gtb := gtb_mem (in_t2 (List.mem_of_getElem? (i := 66) (by decide +kernel))) rfl
theorem kw_84 : Cond.methodLink "NoonShade$Text" 36 yX7_step ∈ gtb := gtb_mem (in_t2 (List.mem_of_getElem? (i := 67) (by decide +kernel))) rfl
theorem kw_85 : Cond.instanceMethod yX7_step ∈ gtb := gtb_mem (in_t2 (List.mem_of_getElem? (i := 69) (by decide +kernel))) rfl
theorem kw_86 : Cond.selects "NoonShade$Text" yX7_step yX7_step ∈ gtb := gtb_mem (in_t0 (List.mem_of_getElem? (i := 1) (by decide +kernel))) rfl
theorem kw_87 : Cond.code yX7_step prog_9_method_12_code 1 none ∈ gtb := gtb_mem (in_t2 (List.mem_of_getElem? (i := 70) (rfl))) rfl
theorem kw_88 : Cond.methodLink "NoonShade$Text" 46 yX7_mayBegin ∈ gtb := gtb_mem (in_t2 (List.mem_of_getElem? (i := 143) (by decide +kernel))) rfl
theorem kw_89 : Cond.static yX7_mayBegin ∈ gtb := gtb_mem (in_t2 (List.mem_of_getElem? (i := 144) (by decide +kernel))) rfl
theorem kw_90 : Cond.code yX7_mayBegin prog_9_method_6_code 3 (some .boolean) ∈ gtb := gtb_mem (in_t2 (List.mem_of_getElem? (i := 145) (rfl))) rfl
theorem kw_91 : Cond.fieldLink "NoonShade" 16 "NoonShade" "draft" "LNoonShade$Isle;" ∈ gtb := gtb_mem (in_t1 (List.mem_of_getElem? (i := 201) (by decide +kernel))) rfl
theorem kw_92 : Cond.methodLink "NoonShade" 100 yX7_tell ∈ gtb := gtb_mem (in_t2 (List.mem_of_getElem? (i := 62) (by decide +kernel))) rfl
theorem kw_93 : Cond.instanceMethod yX7_tell ∈ gtb := gtb_mem (in_t2 (List.mem_of_getElem? (i := 63) (by decide +kernel))) rfl
theorem kw_94 : Cond.selects "NoonShade$Text" yX7_tell yX7_tell ∈ gtb := gtb_mem (in_t2 (List.mem_of_getElem? (i := 64) (by decide +kernel))) rfl
theorem kw_95 : Cond.code yX7_tell prog_9_method_5_code 4 (some .int) ∈ gtb := gtb_mem (in_t2 (List.mem_of_getElem? (i := 65) (rfl))) rfl
theorem kw_96 : Cond.methodLink "NoonShade" 141 yX4_bringBack ∈ gtb := gtb_mem (in_t3 (List.mem_of_getElem? (i := 38) (by decide +kernel))) rfl
theorem kw_97 : Cond.instanceMethod yX4_bringBack ∈ gtb := gtb_mem (in_t3 (List.mem_of_getElem? (i := 39) (by decide +kernel))) rfl
theorem kw_98 : Cond.selects "NoonShade$Past" yX4_bringBack yX4_bringBack ∈ gtb := gtb_mem (in_t3 (List.mem_of_getElem? (i := 40) (by decide +kernel))) rfl
theorem kw_99 : Cond.code yX4_bringBack prog_6_method_5_code 3 (some .boolean) ∈ gtb := gtb_mem (in_t3 (List.mem_of_getElem? (i := 41) (rfl))) rfl
theorem kw_100 : Cond.fieldLink "NoonShade" 192 "NoonShade$Isle" "notes" "LNoonShade$Rows;" ∈ gtb := gtb_mem (in_t1 (List.mem_of_getElem? (i := 97) (by decide +kernel))) rfl
theorem kw_101 : Cond.methodLink "NoonShade" 205 yX6_empty ∈ gtb := gtb_mem (in_t3 (List.mem_of_getElem? (i := 167) (by decide +kernel))) rfl
theorem kw_102 : Cond.fieldLink "NoonShade" 202 "NoonShade$Isle" "marks" "LNoonShade$Rows;" ∈ gtb := gtb_mem (in_t1 (List.mem_of_getElem? (i := 99) (by decide +kernel))) rfl
theorem kw_103 : Cond.fieldLink "NoonShade" 48 "NoonShade" "above" "J" ∈ gtb := gtb_mem (in_t1 (List.mem_of_getElem? (i := 207) (by decide +kernel))) rfl
theorem kw_104 : Cond.fieldLink "NoonShade" 52 "NoonShade" "below" "J" ∈ gtb := gtb_mem (in_t1 (List.mem_of_getElem? (i := 208) (by decide +kernel))) rfl
theorem kw_105 : Cond.fieldLink "NoonShade" 23 "NoonShade" "imageKept" "[Z" ∈ gtb := gtb_mem (in_t1 (List.mem_of_getElem? (i := 203) (by decide +kernel))) rfl
theorem kw_106 : Cond.constant "java/lang/Integer" 265 1431655765 ∈ gtb := gtb_mem (in_t3 (List.mem_of_getElem? (i := 124) (by decide +kernel))) rfl
theorem kw_107 : Cond.constant "java/lang/Integer" 266 858993459 ∈ gtb := gtb_mem (in_t3 (List.mem_of_getElem? (i := 125) (by decide +kernel))) rfl
theorem kw_108 : Cond.constant "java/lang/Integer" 267 252645135 ∈ gtb := gtb_mem (in_t3 (List.mem_of_getElem? (i := 126) (by decide +kernel))) rfl
theorem kw_109 : Cond.methodLink "NoonShade" 251 yX2_coolInAll ∈ gtb := gtb_mem (in_t4 (List.mem_of_getElem? (i := 18) (by decide +kernel))) rfl
theorem kw_110 : Cond.instanceMethod yX2_coolInAll ∈ gtb := gtb_mem (in_t4 (List.mem_of_getElem? (i := 19) (by decide +kernel))) rfl
theorem kw_111 : Cond.selects "NoonShade$Isle" yX2_coolInAll yX2_coolInAll ∈ gtb := gtb_mem (in_t4 (List.mem_of_getElem? (i := 20) (by decide +kernel))) rfl
theorem kw_112 : Cond.code yX2_coolInAll prog_4_method_20_code 3 (some .int) ∈ gtb := gtb_mem (in_t4 (List.mem_of_getElem? (i := 21) (rfl))) rfl
theorem kw_113 : Cond.fieldLink "NoonShade" 135 "NoonShade$Isle" "hour" "I" ∈ gtb := gtb_mem (in_t1 (List.mem_of_getElem? (i := 64) (by decide +kernel))) rfl
theorem kw_114 : Cond.fieldLink "NoonShade" 274 "NoonShade$Isle" "milked" "I" ∈ gtb := gtb_mem (in_t1 (List.mem_of_getElem? (i := 71) (by decide +kernel))) rfl
theorem kw_115 : Cond.methodLink "NoonShade" 184 yJ6_bitCount_0f7a4 ∈ gtb := gtb_mem (in_t3 (List.mem_of_getElem? (i := 121) (by decide +kernel))) rfl
theorem kw_116 : Cond.static yJ6_bitCount_0f7a4 ∈ gtb := gtb_mem (in_t3 (List.mem_of_getElem? (i := 122) (by decide +kernel))) rfl
theorem kw_117 : Cond.initialized "java/lang/Integer" ∈ gtb := gtb_mem (in_t1 (List.mem_of_getElem? (i := 17) (by decide +kernel))) rfl
theorem kw_118 : Cond.code yJ6_bitCount_0f7a4 prog_12_method_49_code 1 (some .int) ∈ gtb := gtb_mem (in_t3 (List.mem_of_getElem? (i := 123) (rfl))) rfl
theorem kw_119 : Cond.fieldLink "NoonShade" 277 "NoonShade$Isle" "sold" "I" ∈ gtb := gtb_mem (in_t1 (List.mem_of_getElem? (i := 68) (by decide +kernel))) rfl
theorem kw_120 : Cond.fieldLink "NoonShade" 280 "NoonShade$Rows" "size" "I" ∈ gtb := gtb_mem (in_t1 (List.mem_of_getElem? (i := 40) (by decide +kernel))) rfl
theorem kw_121 : Cond.fieldLink "NoonShade" 283 "NoonShade$Past" "steps" "I" ∈ gtb := gtb_mem (in_t1 (List.mem_of_getElem? (i := 55) (by decide +kernel))) rfl
theorem kw_122 : Cond.fieldLink "NoonShade" 286 "NoonShade$Text" "length" "I" ∈ gtb := gtb_mem (in_t1 (List.mem_of_getElem? (i := 141) (by decide +kernel))) rfl
theorem kw_123 : Cond.methodLink "NoonShade" 263 yX8_counted ∈ gtb := gtb_mem (in_t4 (List.mem_of_getElem? (i := 42) (by decide +kernel))) rfl
theorem kw_124 : Cond.instanceMethod yX8_counted ∈ gtb := gtb_mem (in_t4 (List.mem_of_getElem? (i := 44) (by decide +kernel))) rfl
theorem kw_125 : Cond.selects "NoonShade" yX8_counted yX8_counted ∈ gtb := gtb_mem (in_t0 (List.mem_of_getElem? (i := 24) (by decide +kernel))) rfl
theorem kw_126 : Cond.code yX8_counted prog_1_method_40_code 2 (some .int) ∈ gtb := gtb_mem (in_t4 (List.mem_of_getElem? (i := 45) (rfl))) rfl
theorem kw_127 : Cond.methodLink "NoonShade$Isle" 122 yX6_mixed ∈ gtb := gtb_mem (in_t4 (List.mem_of_getElem? (i := 57) (by decide +kernel))) rfl
theorem kw_128 : Cond.instanceMethod yX6_mixed ∈ gtb := gtb_mem (in_t4 (List.mem_of_getElem? (i := 58) (by decide +kernel))) rfl
theorem kw_129 : Cond.selects "NoonShade$Rows" yX6_mixed yX6_mixed ∈ gtb := gtb_mem (in_t4 (List.mem_of_getElem? (i := 59) (by decide +kernel))) rfl
theorem kw_130 : Cond.code yX6_mixed prog_8_method_7_code 6 (some .long) ∈ gtb := gtb_mem (in_t4 (List.mem_of_getElem? (i := 60) (rfl))) rfl
theorem kw_131 : Cond.constantLong "NoonShade" 266 1879 ∈ gtb := gtb_mem (in_t4 (List.mem_of_getElem? (i := 50) (by decide +kernel))) rfl
theorem kw_132 : Cond.constantLong "NoonShade" 268 31 ∈ gtb := gtb_mem (in_t4 (List.mem_of_getElem? (i := 51) (by decide +kernel))) rfl
theorem kw_133 : Cond.methodLink "NoonShade" 270 yX2_mixed ∈ gtb := gtb_mem (in_t4 (List.mem_of_getElem? (i := 52) (by decide +kernel))) rfl
theorem kw_134 : Cond.instanceMethod yX2_mixed ∈ gtb := gtb_mem (in_t4 (List.mem_of_getElem? (i := 53) (by decide +kernel))) rfl
theorem kw_135 : Cond.selects "NoonShade$Isle" yX2_mixed yX2_mixed ∈ gtb := gtb_mem (in_t4 (List.mem_of_getElem? (i := 54) (by decide +kernel))) rfl
theorem kw_136 : Cond.code yX2_mixed prog_4_method_21_code 6 (some .long) ∈ gtb := gtb_mem (in_t4 (List.mem_of_getElem? (i := 55) (rfl))) rfl
theorem kw_137 : Cond.methodLink "NoonShade$Isle" 114 yX2_passHour ∈ gtb := gtb_mem (in_t2 (List.mem_of_getElem? (i := 214) (by decide +kernel))) rfl
theorem kw_138 : Cond.instanceMethod yX2_passHour ∈ gtb := gtb_mem (in_t2 (List.mem_of_getElem? (i := 215) (by decide +kernel))) rfl
theorem kw_139 : Cond.selects "NoonShade$Isle" yX2_passHour yX2_passHour ∈ gtb := gtb_mem (in_t2 (List.mem_of_getElem? (i := 216) (by decide +kernel))) rfl
theorem kw_140 : Cond.code yX2_passHour prog_4_method_19_code 2 none ∈ gtb := gtb_mem (in_t2 (List.mem_of_getElem? (i := 217) (rfl))) rfl
theorem kw_141 : Cond.fieldLink "NoonShade$Past" 25 "NoonShade$Isle" "cool" "[I" ∈ gtb := gtb_mem (in_t1 (List.mem_of_getElem? (i := 90) (by decide +kernel))) rfl
theorem kw_142 : Cond.fieldLink "NoonShade$Past" 11 "NoonShade$Past" "cells" "[I" ∈ gtb := gtb_mem (in_t1 (List.mem_of_getElem? (i := 53) (by decide +kernel))) rfl
theorem kw_143 : Cond.methodLink "NoonShade$Past" 19 ⟨"java/lang/System", "arraycopy", "(Ljava/lang/Object;ILjava/lang/Object;II)V"⟩ ∈ gtb := gtb_mem (in_t3 (List.mem_of_getElem? (i := 3) (by decide +kernel))) rfl
theorem kw_144 : Cond.native ⟨"java/lang/System", "arraycopy", "(Ljava/lang/Object;ILjava/lang/Object;II)V"⟩ ∈ gtb := gtb_mem (in_t2 (List.mem_of_getElem? (i := 233) (by decide +kernel))) rfl
theorem kw_145 : Cond.static ⟨"java/lang/System", "arraycopy", "(Ljava/lang/Object;ILjava/lang/Object;II)V"⟩ ∈ gtb := gtb_mem (in_t2 (List.mem_of_getElem? (i := 232) (by decide +kernel))) rfl
theorem kw_146 : Cond.initialized "java/lang/System" ∈ gtb := gtb_mem (in_t1 (List.mem_of_getElem? (i := 16) (by decide +kernel))) rfl
theorem kw_147 : Cond.fieldLink "NoonShade$Past" 30 "NoonShade$Isle" "jarTaste" "[I" ∈ gtb := gtb_mem (in_t1 (List.mem_of_getElem? (i := 94) (by decide +kernel))) rfl
theorem kw_148 : Cond.fieldLink "NoonShade$Past" 33 "NoonShade$Isle" "milked" "I" ∈ gtb := gtb_mem (in_t1 (List.mem_of_getElem? (i := 70) (by decide +kernel))) rfl
theorem kw_149 : Cond.fieldLink "NoonShade$Past" 36 "NoonShade$Isle" "sold" "I" ∈ gtb := gtb_mem (in_t1 (List.mem_of_getElem? (i := 67) (by decide +kernel))) rfl
theorem kw_150 : Cond.fieldLink "NoonShade$Past" 39 "NoonShade$Isle" "hour" "I" ∈ gtb := gtb_mem (in_t1 (List.mem_of_getElem? (i := 63) (by decide +kernel))) rfl
theorem kw_151 : Cond.methodLink "NoonShade" 118 yX4_remember ∈ gtb := gtb_mem (in_t3 (List.mem_of_getElem? (i := 11) (by decide +kernel))) rfl
theorem kw_152 : Cond.instanceMethod yX4_remember ∈ gtb := gtb_mem (in_t3 (List.mem_of_getElem? (i := 12) (by decide +kernel))) rfl
theorem kw_153 : Cond.selects "NoonShade$Past" yX4_remember yX4_remember ∈ gtb := gtb_mem (in_t3 (List.mem_of_getElem? (i := 13) (by decide +kernel))) rfl
theorem kw_154 : Cond.code yX4_remember prog_6_method_4_code 3 none ∈ gtb := gtb_mem (in_t3 (List.mem_of_getElem? (i := 14) (rfl))) rfl
theorem kw_155 : Cond.methodLink "NoonShade" 138 yX2_passHours ∈ gtb := gtb_mem (in_t3 (List.mem_of_getElem? (i := 33) (by decide +kernel))) rfl
theorem kw_156 : Cond.instanceMethod yX2_passHours ∈ gtb := gtb_mem (in_t2 (List.mem_of_getElem? (i := 211) (by decide +kernel))) rfl
theorem kw_157 : Cond.selects "NoonShade$Isle" yX2_passHours yX2_passHours ∈ gtb := gtb_mem (in_t2 (List.mem_of_getElem? (i := 212) (by decide +kernel))) rfl
theorem kw_158 : Cond.code yX2_passHours prog_4_method_18_code 3 none ∈ gtb := gtb_mem (in_t2 (List.mem_of_getElem? (i := 213) (rfl))) rfl
theorem kw_159 : Cond.fieldLink "NoonShade$Rows" 11 "NoonShade$Rows" "cells" "[I" ∈ gtb := gtb_mem (in_t1 (List.mem_of_getElem? (i := 38) (by decide +kernel))) rfl
theorem kw_160 : Cond.methodLink "NoonShade$Rows" 23 ⟨"java/lang/System", "arraycopy", "(Ljava/lang/Object;ILjava/lang/Object;II)V"⟩ ∈ gtb := gtb_mem (in_t2 (List.mem_of_getElem? (i := 238) (by decide +kernel))) rfl
theorem kw_161 : Cond.methodLink "NoonShade$Isle" 69 ⟨"java/lang/System", "arraycopy", "(Ljava/lang/Object;ILjava/lang/Object;II)V"⟩ ∈ gtb := gtb_mem (in_t2 (List.mem_of_getElem? (i := 231) (by decide +kernel))) rfl
theorem kw_162 : Cond.methodLink "NoonShade$Isle" 75 yX6_become ∈ gtb := gtb_mem (in_t2 (List.mem_of_getElem? (i := 234) (by decide +kernel))) rfl
theorem kw_163 : Cond.instanceMethod yX6_become ∈ gtb := gtb_mem (in_t2 (List.mem_of_getElem? (i := 235) (by decide +kernel))) rfl
theorem kw_164 : Cond.selects "NoonShade$Rows" yX6_become yX6_become ∈ gtb := gtb_mem (in_t2 (List.mem_of_getElem? (i := 236) (by decide +kernel))) rfl
theorem kw_165 : Cond.code yX6_become prog_8_method_5_code 2 none ∈ gtb := gtb_mem (in_t2 (List.mem_of_getElem? (i := 237) (rfl))) rfl
theorem kw_166 : Cond.methodLink "NoonShade$Isle" 79 yX4_become ∈ gtb := gtb_mem (in_t2 (List.mem_of_getElem? (i := 239) (by decide +kernel))) rfl
theorem kw_167 : Cond.instanceMethod yX4_become ∈ gtb := gtb_mem (in_t3 (List.mem_of_getElem? (i := 0) (by decide +kernel))) rfl
theorem kw_168 : Cond.selects "NoonShade$Past" yX4_become yX4_become ∈ gtb := gtb_mem (in_t3 (List.mem_of_getElem? (i := 1) (by decide +kernel))) rfl
theorem kw_169 : Cond.code yX4_become prog_6_method_3_code 2 none ∈ gtb := gtb_mem (in_t3 (List.mem_of_getElem? (i := 2) (rfl))) rfl
theorem kw_170 : Cond.fieldLink "NoonShade" 19 "NoonShade" "images" "[LNoonShade$Isle;" ∈ gtb := gtb_mem (in_t1 (List.mem_of_getElem? (i := 202) (by decide +kernel))) rfl
theorem kw_171 : Cond.methodLink "NoonShade" 104 yX2_become ∈ gtb := gtb_mem (in_t2 (List.mem_of_getElem? (i := 227) (by decide +kernel))) rfl
theorem kw_172 : Cond.instanceMethod yX2_become ∈ gtb := gtb_mem (in_t2 (List.mem_of_getElem? (i := 228) (by decide +kernel))) rfl
theorem kw_173 : Cond.selects "NoonShade$Isle" yX2_become yX2_become ∈ gtb := gtb_mem (in_t2 (List.mem_of_getElem? (i := 229) (by decide +kernel))) rfl
theorem kw_174 : Cond.code yX2_become prog_4_method_3_code 2 none ∈ gtb := gtb_mem (in_t2 (List.mem_of_getElem? (i := 230) (rfl))) rfl
theorem kw_175 : Cond.constant "NoonShade" 229 999999 ∈ gtb := gtb_mem (in_t4 (List.mem_of_getElem? (i := 7) (by decide +kernel))) rfl
theorem kw_176 : Cond.constantLong "NoonShade" 230 1103515245 ∈ gtb := gtb_mem (in_t4 (List.mem_of_getElem? (i := 8) (by decide +kernel))) rfl
theorem kw_177 : Cond.constantLong "NoonShade" 232 12345 ∈ gtb := gtb_mem (in_t4 (List.mem_of_getElem? (i := 9) (by decide +kernel))) rfl
theorem kw_178 : Cond.constantLong "NoonShade" 234 2147483648 ∈ gtb := gtb_mem (in_t4 (List.mem_of_getElem? (i := 10) (by decide +kernel))) rfl
theorem kw_179 : Cond.constantLong "NoonShade" 236 65536 ∈ gtb := gtb_mem (in_t4 (List.mem_of_getElem? (i := 11) (by decide +kernel))) rfl
theorem kw_180 : Cond.constantLong "NoonShade" 238 7 ∈ gtb := gtb_mem (in_t4 (List.mem_of_getElem? (i := 12) (by decide +kernel))) rfl
theorem kw_181 : Cond.constantLong "NoonShade" 240 1048576 ∈ gtb := gtb_mem (in_t4 (List.mem_of_getElem? (i := 13) (by decide +kernel))) rfl
theorem kw_182 : Cond.constantLong "NoonShade" 242 4 ∈ gtb := gtb_mem (in_t4 (List.mem_of_getElem? (i := 14) (by decide +kernel))) rfl
theorem kw_183 : Cond.constantLong "NoonShade" 244 16384 ∈ gtb := gtb_mem (in_t4 (List.mem_of_getElem? (i := 15) (by decide +kernel))) rfl
theorem kw_184 : Cond.constantLong "NoonShade" 246 2 ∈ gtb := gtb_mem (in_t4 (List.mem_of_getElem? (i := 16) (by decide +kernel))) rfl
theorem kw_185 : Cond.methodLink "NoonShade" 248 yX2_passHour ∈ gtb := gtb_mem (in_t4 (List.mem_of_getElem? (i := 17) (by decide +kernel))) rfl
theorem kw_186 : Cond.fieldLink "NoonShadeModel" 20 "NoonShadeModel" "refused" "[I" ∈ gtb := gtb_mem (in_t4 (List.mem_of_getElem? (i := 74) (by decide +kernel))) rfl
theorem kw_187 : Cond.fieldLink "NoonShadeModel" 7 "NoonShadeModel" "all" "[I" ∈ gtb := gtb_mem (in_t4 (List.mem_of_getElem? (i := 71) (by decide +kernel))) rfl
theorem kw_188 : Cond.methodLink "NoonShadeModel" 46 yX9_in ∈ gtb := gtb_mem (in_t4 (List.mem_of_getElem? (i := 128) (by decide +kernel))) rfl
theorem kw_189 : Cond.static yX9_in ∈ gtb := gtb_mem (in_t4 (List.mem_of_getElem? (i := 129) (by decide +kernel))) rfl
theorem kw_190 : Cond.initialized "NoonShadeModel" ∈ gtb := gtb_mem (in_t1 (List.mem_of_getElem? (i := 8) (by decide +kernel))) rfl
theorem kw_191 : Cond.code yX9_in prog_11_method_3_code 6 (some .boolean) ∈ gtb := gtb_mem (in_t4 (List.mem_of_getElem? (i := 130) (rfl))) rfl
theorem kw_192 : Cond.constantLong "NoonShadeModel" 50 5 ∈ gtb := gtb_mem (in_t4 (List.mem_of_getElem? (i := 142) (by decide +kernel))) rfl
theorem kw_193 : Cond.constantLong "NoonShadeModel" 52 9 ∈ gtb := gtb_mem (in_t4 (List.mem_of_getElem? (i := 146) (by decide +kernel))) rfl
theorem kw_194 : Cond.constantLong "NoonShadeModel" 54 3 ∈ gtb := gtb_mem (in_t4 (List.mem_of_getElem? (i := 150) (by decide +kernel))) rfl
theorem kw_195 : Cond.methodLink "NoonShadeModel" 110 yX9_isCaster ∈ gtb := gtb_mem (in_t4 (List.mem_of_getElem? (i := 169) (by decide +kernel))) rfl
theorem kw_196 : Cond.instanceMethod yX9_isCaster ∈ gtb := gtb_mem (in_t4 (List.mem_of_getElem? (i := 171) (by decide +kernel))) rfl
theorem kw_197 : Cond.selects "NoonShadeModel" yX9_isCaster yX9_isCaster ∈ gtb := gtb_mem (in_t0 (List.mem_of_getElem? (i := 27) (by decide +kernel))) rfl
theorem kw_198 : Cond.code yX9_isCaster prog_11_method_10_code 2 (some .boolean) ∈ gtb := gtb_mem (in_t4 (List.mem_of_getElem? (i := 172) (rfl))) rfl
theorem kw_199 : Cond.methodLink "NoonShadeModel" 62 yX9_bad ∈ gtb := gtb_mem (in_t4 (List.mem_of_getElem? (i := 131) (by decide +kernel))) rfl
theorem kw_200 : Cond.instanceMethod yX9_bad ∈ gtb := gtb_mem (in_t4 (List.mem_of_getElem? (i := 133) (by decide +kernel))) rfl
theorem kw_201 : Cond.selects "NoonShadeModel" yX9_bad yX9_bad ∈ gtb := gtb_mem (in_t0 (List.mem_of_getElem? (i := 25) (by decide +kernel))) rfl
theorem kw_202 : Cond.code yX9_bad prog_11_method_4_code 2 (some .int) ∈ gtb := gtb_mem (in_t4 (List.mem_of_getElem? (i := 134) (rfl))) rfl
theorem kw_203 : Cond.methodLink "NoonShadeModel" 113 yX9_isJar ∈ gtb := gtb_mem (in_t4 (List.mem_of_getElem? (i := 173) (by decide +kernel))) rfl
theorem kw_204 : Cond.instanceMethod yX9_isJar ∈ gtb := gtb_mem (in_t4 (List.mem_of_getElem? (i := 175) (by decide +kernel))) rfl
theorem kw_205 : Cond.selects "NoonShadeModel" yX9_isJar yX9_isJar ∈ gtb := gtb_mem (in_t0 (List.mem_of_getElem? (i := 28) (by decide +kernel))) rfl
theorem kw_206 : Cond.code yX9_isJar prog_11_method_11_code 2 (some .boolean) ∈ gtb := gtb_mem (in_t4 (List.mem_of_getElem? (i := 176) (rfl))) rfl
theorem kw_207 : Cond.constantLong "NoonShadeModel" 60 99 ∈ gtb := gtb_mem (in_t4 (List.mem_of_getElem? (i := 127) (by decide +kernel))) rfl
theorem kw_208 : Cond.methodLink "NoonShadeModel" 42 yX9_begin ∈ gtb := gtb_mem (in_t4 (List.mem_of_getElem? (i := 68) (by decide +kernel))) rfl
theorem kw_209 : Cond.static yX9_begin ∈ gtb := gtb_mem (in_t4 (List.mem_of_getElem? (i := 69) (by decide +kernel))) rfl
theorem kw_210 : Cond.code yX9_begin prog_11_method_9_code 3 none ∈ gtb := gtb_mem (in_t4 (List.mem_of_getElem? (i := 70) (rfl))) rfl
theorem kw_211 : Cond.methodLink "NoonShadeModel" 66 yX9_isKind ∈ gtb := gtb_mem (in_t4 (List.mem_of_getElem? (i := 139) (by decide +kernel))) rfl
theorem kw_212 : Cond.static yX9_isKind ∈ gtb := gtb_mem (in_t4 (List.mem_of_getElem? (i := 140) (by decide +kernel))) rfl
theorem kw_213 : Cond.code yX9_isKind prog_11_method_12_code 1 (some .boolean) ∈ gtb := gtb_mem (in_t4 (List.mem_of_getElem? (i := 141) (rfl))) rfl
theorem kw_214 : Cond.methodLink "NoonShadeModel" 70 yX9_isHeight ∈ gtb := gtb_mem (in_t4 (List.mem_of_getElem? (i := 143) (by decide +kernel))) rfl
theorem kw_215 : Cond.static yX9_isHeight ∈ gtb := gtb_mem (in_t4 (List.mem_of_getElem? (i := 144) (by decide +kernel))) rfl
theorem kw_216 : Cond.code yX9_isHeight prog_11_method_13_code 1 (some .boolean) ∈ gtb := gtb_mem (in_t4 (List.mem_of_getElem? (i := 145) (rfl))) rfl
theorem kw_217 : Cond.methodLink "NoonShadeModel" 73 yX9_isTaste ∈ gtb := gtb_mem (in_t4 (List.mem_of_getElem? (i := 147) (by decide +kernel))) rfl
theorem kw_218 : Cond.static yX9_isTaste ∈ gtb := gtb_mem (in_t4 (List.mem_of_getElem? (i := 148) (by decide +kernel))) rfl
theorem kw_219 : Cond.code yX9_isTaste prog_11_method_14_code 1 (some .boolean) ∈ gtb := gtb_mem (in_t4 (List.mem_of_getElem? (i := 149) (rfl))) rfl
theorem kw_220 : Cond.methodLink "NoonShadeModel" 80 yX9_layCaster ∈ gtb := gtb_mem (in_t4 (List.mem_of_getElem? (i := 155) (by decide +kernel))) rfl
theorem kw_221 : Cond.static yX9_layCaster ∈ gtb := gtb_mem (in_t4 (List.mem_of_getElem? (i := 156) (by decide +kernel))) rfl
theorem kw_222 : Cond.code yX9_layCaster prog_11_method_18_code 4 none ∈ gtb := gtb_mem (in_t4 (List.mem_of_getElem? (i := 157) (rfl))) rfl
theorem kw_223 : Cond.methodLink "NoonShadeModel" 84 yX9_layJar ∈ gtb := gtb_mem (in_t4 (List.mem_of_getElem? (i := 162) (by decide +kernel))) rfl
theorem kw_224 : Cond.static yX9_layJar ∈ gtb := gtb_mem (in_t4 (List.mem_of_getElem? (i := 163) (by decide +kernel))) rfl
theorem kw_225 : Cond.code yX9_layJar prog_11_method_20_code 2 none ∈ gtb := gtb_mem (in_t4 (List.mem_of_getElem? (i := 164) (rfl))) rfl
theorem kw_226 : Cond.constantLong "NoonShadeModel" 237 127 ∈ gtb := gtb_mem (in_t5 (List.mem_of_getElem? (i := 166) (by decide +kernel))) rfl
theorem kw_227 : Cond.fieldLink "NoonShadeModel" 239 "NoonShadeModel" "bytesLong" "I" ∈ gtb := gtb_mem (in_t4 (List.mem_of_getElem? (i := 81) (by decide +kernel))) rfl
theorem kw_228 : Cond.fieldLink "NoonShadeModel" 33 "NoonShadeModel" "bytes" "[I" ∈ gtb := gtb_mem (in_t4 (List.mem_of_getElem? (i := 80) (by decide +kernel))) rfl
theorem kw_229 : Cond.fieldLink "NoonShadeModel" 250 "NoonShadeModel" "tokenAt" "I" ∈ gtb := gtb_mem (in_t4 (List.mem_of_getElem? (i := 82) (by decide +kernel))) rfl
theorem kw_230 : Cond.fieldLink "NoonShadeModel" 253 "NoonShadeModel" "tokenLong" "I" ∈ gtb := gtb_mem (in_t4 (List.mem_of_getElem? (i := 83) (by decide +kernel))) rfl
theorem kw_231 : Cond.fieldLink "NoonShadeModel" 256 "NoonShadeModel" "token" "I" ∈ gtb := gtb_mem (in_t4 (List.mem_of_getElem? (i := 84) (by decide +kernel))) rfl
theorem kw_232 : Cond.fieldLink "NoonShadeModel" 259 "NoonShadeModel" "value" "I" ∈ gtb := gtb_mem (in_t4 (List.mem_of_getElem? (i := 85) (by decide +kernel))) rfl
theorem kw_233 : Cond.methodLink "NoonShadeModel" 268 yX9_lookAt ∈ gtb := gtb_mem (in_t5 (List.mem_of_getElem? (i := 175) (by decide +kernel))) rfl
theorem kw_234 : Cond.instanceMethod yX9_lookAt ∈ gtb := gtb_mem (in_t5 (List.mem_of_getElem? (i := 177) (by decide +kernel))) rfl
theorem kw_235 : Cond.selects "NoonShadeModel" yX9_lookAt yX9_lookAt ∈ gtb := gtb_mem (in_t0 (List.mem_of_getElem? (i := 47) (by decide +kernel))) rfl
theorem kw_236 : Cond.code yX9_lookAt prog_11_method_77_code 5 none ∈ gtb := gtb_mem (in_t5 (List.mem_of_getElem? (i := 178) (rfl))) rfl
theorem kw_237 : Cond.methodLink "NoonShadeModel" 279 yX9_spells ∈ gtb := gtb_mem (in_t5 (List.mem_of_getElem? (i := 189) (by decide +kernel))) rfl
theorem kw_238 : Cond.instanceMethod yX9_spells ∈ gtb := gtb_mem (in_t5 (List.mem_of_getElem? (i := 191) (by decide +kernel))) rfl
theorem kw_239 : Cond.selects "NoonShadeModel" yX9_spells yX9_spells ∈ gtb := gtb_mem (in_t0 (List.mem_of_getElem? (i := 48) (by decide +kernel))) rfl
theorem kw_240 : Cond.code yX9_spells prog_11_method_79_code 10 (some .boolean) ∈ gtb := gtb_mem (in_t5 (List.mem_of_getElem? (i := 192) (rfl))) rfl
theorem kw_241 : Cond.methodLink "NoonShadeModel" 120 yX9_no ∈ gtb := gtb_mem (in_t4 (List.mem_of_getElem? (i := 180) (by decide +kernel))) rfl
theorem kw_242 : Cond.instanceMethod yX9_no ∈ gtb := gtb_mem (in_t4 (List.mem_of_getElem? (i := 182) (by decide +kernel))) rfl
theorem kw_243 : Cond.selects "NoonShadeModel" yX9_no yX9_no ∈ gtb := gtb_mem (in_t0 (List.mem_of_getElem? (i := 29) (by decide +kernel))) rfl
theorem kw_244 : Cond.code yX9_no prog_11_method_5_code 1 (some .int) ∈ gtb := gtb_mem (in_t4 (List.mem_of_getElem? (i := 183) (rfl))) rfl
theorem kw_245 : Cond.methodLink "NoonShadeModel" 106 yX9_goHour ∈ gtb := gtb_mem (in_t4 (List.mem_of_getElem? (i := 219) (by decide +kernel))) rfl
theorem kw_246 : Cond.static yX9_goHour ∈ gtb := gtb_mem (in_t4 (List.mem_of_getElem? (i := 220) (by decide +kernel))) rfl
theorem kw_247 : Cond.code yX9_goHour prog_11_method_29_code 2 none ∈ gtb := gtb_mem (in_t4 (List.mem_of_getElem? (i := 221) (rfl))) rfl
theorem kw_248 : Cond.constantLong "NoonShadeModel" 58 60 ∈ gtb := gtb_mem (in_t4 (List.mem_of_getElem? (i := 215) (by decide +kernel))) rfl
theorem kw_249 : Cond.methodLink "NoonShadeModel" 123 yX9_save ∈ gtb := gtb_mem (in_t4 (List.mem_of_getElem? (i := 184) (by decide +kernel))) rfl
theorem kw_250 : Cond.instanceMethod yX9_save ∈ gtb := gtb_mem (in_t4 (List.mem_of_getElem? (i := 186) (by decide +kernel))) rfl
theorem kw_251 : Cond.selects "NoonShadeModel" yX9_save yX9_save ∈ gtb := gtb_mem (in_t0 (List.mem_of_getElem? (i := 30) (by decide +kernel))) rfl
theorem kw_252 : Cond.code yX9_save prog_11_method_31_code 2 none ∈ gtb := gtb_mem (in_t4 (List.mem_of_getElem? (i := 187) (rfl))) rfl
theorem kw_253 : Cond.methodLink "NoonShadeModel" 132 yX9_goHours ∈ gtb := gtb_mem (in_t4 (List.mem_of_getElem? (i := 216) (by decide +kernel))) rfl
theorem kw_254 : Cond.static yX9_goHours ∈ gtb := gtb_mem (in_t4 (List.mem_of_getElem? (i := 217) (by decide +kernel))) rfl
theorem kw_255 : Cond.code yX9_goHours prog_11_method_30_code 3 none ∈ gtb := gtb_mem (in_t4 (List.mem_of_getElem? (i := 218) (rfl))) rfl
theorem kw_256 : Cond.methodLink "NoonShadeModel" 197 yX9_mayName ∈ gtb := gtb_mem (in_t5 (List.mem_of_getElem? (i := 125) (by decide +kernel))) rfl
theorem kw_257 : Cond.instanceMethod yX9_mayName ∈ gtb := gtb_mem (in_t5 (List.mem_of_getElem? (i := 127) (by decide +kernel))) rfl
theorem kw_258 : Cond.selects "NoonShadeModel" yX9_mayName yX9_mayName ∈ gtb := gtb_mem (in_t0 (List.mem_of_getElem? (i := 43) (by decide +kernel))) rfl
theorem kw_259 : Cond.code yX9_mayName prog_11_method_67_code 2 (some .boolean) ∈ gtb := gtb_mem (in_t5 (List.mem_of_getElem? (i := 128) (rfl))) rfl
theorem kw_260 : Cond.fieldLink "NoonShadeModel" 23 "NoonShadeModel" "below" "J" ∈ gtb := gtb_mem (in_t4 (List.mem_of_getElem? (i := 76) (by decide +kernel))) rfl
theorem kw_261 : Cond.fieldLink "NoonShadeModel" 206 "NoonShadeModel" "above" "J" ∈ gtb := gtb_mem (in_t4 (List.mem_of_getElem? (i := 75) (by decide +kernel))) rfl
theorem kw_262 : Cond.fieldLink "NoonShadeModel" 16 "NoonShadeModel" "isKept" "[Z" ∈ gtb := gtb_mem (in_t4 (List.mem_of_getElem? (i := 73) (by decide +kernel))) rfl
theorem kw_263 : Cond.constantLong "NoonShadeModel" 231 2 ∈ gtb := gtb_mem (in_t5 (List.mem_of_getElem? (i := 158) (by decide +kernel))) rfl
theorem kw_264 : Cond.fieldLink "NoonShadeModel" 13 "NoonShadeModel" "kept" "[I" ∈ gtb := gtb_mem (in_t4 (List.mem_of_getElem? (i := 72) (by decide +kernel))) rfl
theorem kw_265 : Cond.methodLink "NoonShadeModel" 233 yX9_coolOf ∈ gtb := gtb_mem (in_t5 (List.mem_of_getElem? (i := 159) (by decide +kernel))) rfl
theorem kw_266 : Cond.static yX9_coolOf ∈ gtb := gtb_mem (in_t5 (List.mem_of_getElem? (i := 160) (by decide +kernel))) rfl
theorem kw_267 : Cond.code yX9_coolOf prog_11_method_92_code 3 (some .int) ∈ gtb := gtb_mem (in_t5 (List.mem_of_getElem? (i := 161) (rfl))) rfl
theorem kw_268 : Cond.methodLink "NoonShadeModel" 166 yX9_bits ∈ gtb := gtb_mem (in_t5 (List.mem_of_getElem? (i := 56) (by decide +kernel))) rfl
theorem kw_269 : Cond.static yX9_bits ∈ gtb := gtb_mem (in_t5 (List.mem_of_getElem? (i := 57) (by decide +kernel))) rfl
theorem kw_270 : Cond.code yX9_bits prog_11_method_8_code 3 (some .int) ∈ gtb := gtb_mem (in_t5 (List.mem_of_getElem? (i := 58) (rfl))) rfl
theorem kw_271 : Cond.methodLink "NoonShadeModel" 302 yX9_counted ∈ gtb := gtb_mem (in_t6 (List.mem_of_getElem? (i := 5) (by decide +kernel))) rfl
theorem kw_272 : Cond.instanceMethod yX9_counted ∈ gtb := gtb_mem (in_t6 (List.mem_of_getElem? (i := 7) (by decide +kernel))) rfl
theorem kw_273 : Cond.selects "NoonShadeModel" yX9_counted yX9_counted ∈ gtb := gtb_mem (in_t0 (List.mem_of_getElem? (i := 57) (by decide +kernel))) rfl
theorem kw_274 : Cond.code yX9_counted prog_11_method_93_code 2 (some .int) ∈ gtb := gtb_mem (in_t6 (List.mem_of_getElem? (i := 8) (rfl))) rfl
theorem kw_275 : Cond.constantLong "NoonShadeModel" 307 1879 ∈ gtb := gtb_mem (in_t6 (List.mem_of_getElem? (i := 13) (by decide +kernel))) rfl
theorem kw_276 : Cond.constantLong "NoonShadeModel" 305 31 ∈ gtb := gtb_mem (in_t6 (List.mem_of_getElem? (i := 14) (by decide +kernel))) rfl
theorem kw_277 : Cond.methodLink "NoonShadeModel" 309 yX9_sums ∈ gtb := gtb_mem (in_t6 (List.mem_of_getElem? (i := 15) (by decide +kernel))) rfl
theorem kw_278 : Cond.instanceMethod yX9_sums ∈ gtb := gtb_mem (in_t6 (List.mem_of_getElem? (i := 17) (by decide +kernel))) rfl
theorem kw_279 : Cond.selects "NoonShadeModel" yX9_sums yX9_sums ∈ gtb := gtb_mem (in_t0 (List.mem_of_getElem? (i := 58) (by decide +kernel))) rfl
theorem kw_280 : Cond.code yX9_sums prog_11_method_95_code 8 (some .long) ∈ gtb := gtb_mem (in_t6 (List.mem_of_getElem? (i := 18) (rfl))) rfl
theorem kw_281 : Cond.fieldLink "NoonShadeModel" 27 "NoonShadeModel" "hand" "[I" ∈ gtb := gtb_mem (in_t4 (List.mem_of_getElem? (i := 77) (by decide +kernel))) rfl
theorem kw_282 : Cond.constantLong "NoonShadeModel" 215 999999 ∈ gtb := gtb_mem (in_t5 (List.mem_of_getElem? (i := 150) (by decide +kernel))) rfl
theorem kw_283 : Cond.methodLink "NoonShadeModel" 144 yX9_layHand ∈ gtb := gtb_mem (in_t5 (List.mem_of_getElem? (i := 17) (by decide +kernel))) rfl
theorem kw_284 : Cond.instanceMethod yX9_layHand ∈ gtb := gtb_mem (in_t5 (List.mem_of_getElem? (i := 19) (by decide +kernel))) rfl
theorem kw_285 : Cond.selects "NoonShadeModel" yX9_layHand yX9_layHand ∈ gtb := gtb_mem (in_t0 (List.mem_of_getElem? (i := 33) (by decide +kernel))) rfl
theorem kw_286 : Cond.code yX9_layHand prog_11_method_41_code 2 none ∈ gtb := gtb_mem (in_t5 (List.mem_of_getElem? (i := 20) (rfl))) rfl
theorem kw_287 : Cond.constantLong "NoonShadeModel" 217 1103515245 ∈ gtb := gtb_mem (in_t5 (List.mem_of_getElem? (i := 151) (by decide +kernel))) rfl
theorem kw_288 : Cond.constantLong "NoonShadeModel" 219 12345 ∈ gtb := gtb_mem (in_t5 (List.mem_of_getElem? (i := 152) (by decide +kernel))) rfl
theorem kw_289 : Cond.constantLong "NoonShadeModel" 221 2147483648 ∈ gtb := gtb_mem (in_t5 (List.mem_of_getElem? (i := 153) (by decide +kernel))) rfl
theorem kw_290 : Cond.constantLong "NoonShadeModel" 223 65536 ∈ gtb := gtb_mem (in_t5 (List.mem_of_getElem? (i := 154) (by decide +kernel))) rfl
theorem kw_291 : Cond.constantLong "NoonShadeModel" 225 7 ∈ gtb := gtb_mem (in_t5 (List.mem_of_getElem? (i := 155) (by decide +kernel))) rfl
theorem kw_292 : Cond.constantLong "NoonShadeModel" 227 1048576 ∈ gtb := gtb_mem (in_t5 (List.mem_of_getElem? (i := 156) (by decide +kernel))) rfl
theorem kw_293 : Cond.constantLong "NoonShadeModel" 135 4 ∈ gtb := gtb_mem (in_t4 (List.mem_of_getElem? (i := 236) (by decide +kernel))) rfl
theorem kw_294 : Cond.constantLong "NoonShadeModel" 229 16384 ∈ gtb := gtb_mem (in_t5 (List.mem_of_getElem? (i := 157) (by decide +kernel))) rfl
