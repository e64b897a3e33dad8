theorem kv_0 : Cond.methodLink "NoonShade$CasterKinds" 7 Lib.Math.abs.name ∈ gtb := gtb_mem (in_t2 (List.mem_of_getElem? (i := 191) (by decide +kernel))) rfl
theorem kv_1 : Cond.static Lib.Math.abs.name ∈ gtb := gtb_mem (in_t2 (List.mem_of_getElem? (i := 192) (by decide +kernel))) rfl
theorem kv_2 : Cond.initialized "java/lang/Math" ∈ gtb := gtb_mem (in_t1 (List.mem_of_getElem? (i := 14) (by decide +kernel))) rfl
theorem kv_3 : Cond.code Lib.Math.abs.name Lib.Math.abs.code 1 (some .int) ∈ gtb := gtb_mem (in_t2 (List.mem_of_getElem? (i := 193) (rfl))) rfl
theorem kv_4 : Cond.methodLink "NoonShade$CasterKinds" 13 Lib.Math.min.name ∈ gtb := gtb_mem (in_t2 (List.mem_of_getElem? (i := 194) (by decide +kernel))) rfl
theorem kv_5 : Cond.static Lib.Math.min.name ∈ gtb := gtb_mem (in_t2 (List.mem_of_getElem? (i := 195) (by decide +kernel))) rfl
theorem kv_6 : Cond.code Lib.Math.min.name Lib.Math.min.code 2 (some .int) ∈ gtb := gtb_mem (in_t2 (List.mem_of_getElem? (i := 196) (rfl))) rfl
theorem kv_7 : Cond.methodLink "NoonShade$JarKinds" 9 yX3_lost ∈ gtb := gtb_mem (in_t2 (List.mem_of_getElem? (i := 221) (by decide +kernel))) rfl
theorem kv_8 : Cond.static yX3_lost ∈ gtb := gtb_mem (in_t2 (List.mem_of_getElem? (i := 222) (by decide +kernel))) rfl
theorem kv_9 : Cond.initialized "NoonShade$JarKinds" ∈ gtb := gtb_mem (in_t1 (List.mem_of_getElem? (i := 15) (by decide +kernel))) rfl
theorem kv_10 : Cond.code yX3_lost prog_5_method_2_code 6 (some .int) ∈ gtb := gtb_mem (in_t2 (List.mem_of_getElem? (i := 223) (rfl))) rfl
theorem kv_11 : Cond.methodLink "NoonShade$JarKinds" 15 Lib.Math.max.name ∈ gtb := gtb_mem (in_t2 (List.mem_of_getElem? (i := 224) (by decide +kernel))) rfl
theorem kv_12 : Cond.static Lib.Math.max.name ∈ gtb := gtb_mem (in_t2 (List.mem_of_getElem? (i := 225) (by decide +kernel))) rfl
theorem kv_13 : Cond.code Lib.Math.max.name Lib.Math.max.code 2 (some .int) ∈ gtb := gtb_mem (in_t2 (List.mem_of_getElem? (i := 226) (rfl))) rfl
theorem kv_14 : Cond.methodLink "NoonShade$JarKinds" 21 yX3_kept ∈ gtb := gtb_mem (in_t3 (List.mem_of_getElem? (i := 58) (by decide +kernel))) rfl
theorem kv_15 : Cond.static yX3_kept ∈ gtb := gtb_mem (in_t2 (List.mem_of_getElem? (i := 219) (by decide +kernel))) rfl
theorem kv_16 : Cond.code yX3_kept prog_5_method_3_code 3 (some .int) ∈ gtb := gtb_mem (in_t2 (List.mem_of_getElem? (i := 220) (rfl))) rfl
theorem kv_17 : Cond.fieldLink "NoonShade$Isle" 57 "NoonShade$Isle" "casters" "I" ∈ gtb := gtb_mem (in_t1 (List.mem_of_getElem? (i := 73) (by decide +kernel))) rfl
theorem kv_18 : Cond.fieldLink "NoonShade$Isle" 60 "NoonShade$Isle" "jars" "I" ∈ gtb := gtb_mem (in_t1 (List.mem_of_getElem? (i := 76) (by decide +kernel))) rfl
theorem kv_19 : Cond.fieldLink "NoonShade$Isle" 54 "NoonShade$Isle" "milked" "I" ∈ gtb := gtb_mem (in_t1 (List.mem_of_getElem? (i := 69) (by decide +kernel))) rfl
theorem kv_20 : Cond.fieldLink "NoonShade$Isle" 9 "NoonShade$Isle" "casterKind" "[I" ∈ gtb := gtb_mem (in_t1 (List.mem_of_getElem? (i := 79) (by decide +kernel))) rfl
theorem kv_21 : Cond.fieldLink "NoonShade$Isle" 15 "NoonShade$Isle" "height" "[I" ∈ gtb := gtb_mem (in_t1 (List.mem_of_getElem? (i := 81) (by decide +kernel))) rfl
theorem kv_22 : Cond.fieldLink "NoonShade$Isle" 18 "NoonShade$Isle" "casterTaste" "[I" ∈ gtb := gtb_mem (in_t1 (List.mem_of_getElem? (i := 83) (by decide +kernel))) rfl
theorem kv_23 : Cond.fieldLink "NoonShade$Isle" 21 "NoonShade$Isle" "jarKind" "[I" ∈ gtb := gtb_mem (in_t1 (List.mem_of_getElem? (i := 85) (by decide +kernel))) rfl
theorem kv_24 : Cond.fieldLink "NoonShade$Isle" 24 "NoonShade$Isle" "cool" "[I" ∈ gtb := gtb_mem (in_t1 (List.mem_of_getElem? (i := 88) (by decide +kernel))) rfl
theorem kv_25 : Cond.fieldLink "NoonShade$Isle" 27 "NoonShade$Isle" "jarTaste" "[I" ∈ gtb := gtb_mem (in_t1 (List.mem_of_getElem? (i := 93) (by decide +kernel))) rfl
theorem kv_26 : Cond.fieldLink "NoonShade$Isle" 47 "NoonShade$Isle" "hour" "I" ∈ gtb := gtb_mem (in_t1 (List.mem_of_getElem? (i := 61) (by decide +kernel))) rfl
theorem kv_27 : Cond.methodLink "NoonShade$Isle" 82 yX0_given ∈ gtb := gtb_mem (in_t2 (List.mem_of_getElem? (i := 188) (by decide +kernel))) rfl
theorem kv_28 : Cond.static yX0_given ∈ gtb := gtb_mem (in_t2 (List.mem_of_getElem? (i := 189) (by decide +kernel))) rfl
theorem kv_29 : Cond.initialized "NoonShade$CasterKinds" ∈ gtb := gtb_mem (in_t1 (List.mem_of_getElem? (i := 13) (by decide +kernel))) rfl
theorem kv_30 : Cond.code yX0_given prog_2_method_2_code 5 (some .int) ∈ gtb := gtb_mem (in_t2 (List.mem_of_getElem? (i := 190) (rfl))) rfl
theorem kv_31 : Cond.methodLink "NoonShade$Isle" 88 yX3_keptBehind ∈ gtb := gtb_mem (in_t3 (List.mem_of_getElem? (i := 55) (by decide +kernel))) rfl
theorem kv_32 : Cond.static yX3_keptBehind ∈ gtb := gtb_mem (in_t3 (List.mem_of_getElem? (i := 56) (by decide +kernel))) rfl
theorem kv_33 : Cond.code yX3_keptBehind prog_5_method_4_code 6 (some .int) ∈ gtb := gtb_mem (in_t3 (List.mem_of_getElem? (i := 57) (rfl))) rfl
theorem kv_34 : Cond.methodLink "NoonShade$Isle" 94 yX2_isMilked ∈ gtb := gtb_mem (in_t3 (List.mem_of_getElem? (i := 131) (by decide +kernel))) rfl
theorem kv_35 : Cond.instanceMethod yX2_isMilked ∈ gtb := gtb_mem (in_t2 (List.mem_of_getElem? (i := 167) (by decide +kernel))) rfl
theorem kv_36 : Cond.selects "NoonShade$Isle" yX2_isMilked yX2_isMilked ∈ gtb := gtb_mem (in_t2 (List.mem_of_getElem? (i := 168) (by decide +kernel))) rfl
theorem kv_37 : Cond.initialized "NoonShade$Isle" ∈ gtb := gtb_mem (in_t1 (List.mem_of_getElem? (i := 2) (by decide +kernel))) rfl
theorem kv_38 : Cond.code yX2_isMilked prog_4_method_6_code 2 (some .boolean) ∈ gtb := gtb_mem (in_t2 (List.mem_of_getElem? (i := 169) (rfl))) rfl
theorem kv_39 : Cond.methodLink "NoonShade$Isle" 98 yX2_givenBehind ∈ gtb := gtb_mem (in_t2 (List.mem_of_getElem? (i := 184) (by decide +kernel))) rfl
theorem kv_40 : Cond.instanceMethod yX2_givenBehind ∈ gtb := gtb_mem (in_t2 (List.mem_of_getElem? (i := 185) (by decide +kernel))) rfl
theorem kv_41 : Cond.selects "NoonShade$Isle" yX2_givenBehind yX2_givenBehind ∈ gtb := gtb_mem (in_t2 (List.mem_of_getElem? (i := 186) (by decide +kernel))) rfl
theorem kv_42 : Cond.code yX2_givenBehind prog_4_method_9_code 3 (some .int) ∈ gtb := gtb_mem (in_t2 (List.mem_of_getElem? (i := 187) (rfl))) rfl
theorem kv_43 : Cond.methodLink "NoonShade$Isle" 109 Lib.Math.min.name ∈ gtb := gtb_mem (in_t2 (List.mem_of_getElem? (i := 201) (by decide +kernel))) rfl
theorem kv_44 : Cond.methodLink "NoonShade$Isle" 102 yX2_fill ∈ gtb := gtb_mem (in_t2 (List.mem_of_getElem? (i := 197) (by decide +kernel))) rfl
theorem kv_45 : Cond.instanceMethod yX2_fill ∈ gtb := gtb_mem (in_t2 (List.mem_of_getElem? (i := 199) (by decide +kernel))) rfl
theorem kv_46 : Cond.selects "NoonShade$Isle" yX2_fill yX2_fill ∈ gtb := gtb_mem (in_t0 (List.mem_of_getElem? (i := 9) (by decide +kernel))) rfl
theorem kv_47 : Cond.code yX2_fill prog_4_method_16_code 5 (some .int) ∈ gtb := gtb_mem (in_t2 (List.mem_of_getElem? (i := 200) (rfl))) rfl
theorem kv_48 : Cond.methodLink "NoonShade$Isle" 105 yX2_drain ∈ gtb := gtb_mem (in_t2 (List.mem_of_getElem? (i := 206) (by decide +kernel))) rfl
theorem kv_49 : Cond.instanceMethod yX2_drain ∈ gtb := gtb_mem (in_t2 (List.mem_of_getElem? (i := 208) (by decide +kernel))) rfl
theorem kv_50 : Cond.selects "NoonShade$Isle" yX2_drain yX2_drain ∈ gtb := gtb_mem (in_t0 (List.mem_of_getElem? (i := 10) (by decide +kernel))) rfl
theorem kv_51 : Cond.code yX2_drain prog_4_method_17_code 3 none ∈ gtb := gtb_mem (in_t2 (List.mem_of_getElem? (i := 209) (rfl))) rfl
theorem kv_52 : Cond.fieldLink "NoonShade$Isle" 51 "NoonShade$Isle" "sold" "I" ∈ gtb := gtb_mem (in_t1 (List.mem_of_getElem? (i := 66) (by decide +kernel))) rfl
theorem kv_53 : Cond.methodLink "NoonShade$Isle" 117 yX3_kept ∈ gtb := gtb_mem (in_t2 (List.mem_of_getElem? (i := 218) (by decide +kernel))) rfl
theorem kv_54 : Cond.methodLink "NoonShade$Isle" 114 yX2_passHour ∈ gtb := gtb_mem (in_t2 (List.mem_of_getElem? (i := 214) (by decide +kernel))) rfl
theorem kv_55 : Cond.instanceMethod yX2_passHour ∈ gtb := gtb_mem (in_t2 (List.mem_of_getElem? (i := 215) (by decide +kernel))) rfl
theorem kv_56 : Cond.selects "NoonShade$Isle" yX2_passHour yX2_passHour ∈ gtb := gtb_mem (in_t2 (List.mem_of_getElem? (i := 216) (by decide +kernel))) rfl
theorem kv_57 : Cond.code yX2_passHour prog_4_method_19_code 2 none ∈ gtb := gtb_mem (in_t2 (List.mem_of_getElem? (i := 217) (rfl))) rfl
theorem kv_58 : Cond.fieldLink "NoonShade$Rows" 15 "NoonShade$Rows" "size" "I" ∈ gtb := gtb_mem (in_t1 (List.mem_of_getElem? (i := 39) (by decide +kernel))) rfl
theorem kv_59 : Cond.fieldLink "NoonShade$Past" 15 "NoonShade$Past" "steps" "I" ∈ gtb := gtb_mem (in_t1 (List.mem_of_getElem? (i := 54) (by decide +kernel))) rfl
theorem kv_60 : Cond.fieldLink "NoonShade$Isle" 33 "NoonShade$Isle" "notes" "LNoonShade$Rows;" ∈ gtb := gtb_mem (in_t1 (List.mem_of_getElem? (i := 96) (by decide +kernel))) rfl
theorem kv_61 : Cond.methodLink "NoonShade$Isle" 63 yX6_empty ∈ gtb := gtb_mem (in_t2 (List.mem_of_getElem? (i := 12) (by decide +kernel))) rfl
theorem kv_62 : Cond.instanceMethod yX6_empty ∈ gtb := gtb_mem (in_t2 (List.mem_of_getElem? (i := 13) (by decide +kernel))) rfl
theorem kv_63 : Cond.selects "NoonShade$Rows" yX6_empty yX6_empty ∈ gtb := gtb_mem (in_t2 (List.mem_of_getElem? (i := 14) (by decide +kernel))) rfl
theorem kv_64 : Cond.initialized "NoonShade$Rows" ∈ gtb := gtb_mem (in_t1 (List.mem_of_getElem? (i := 3) (by decide +kernel))) rfl
theorem kv_65 : Cond.code yX6_empty prog_8_method_4_code 2 (some .int) ∈ gtb := gtb_mem (in_t2 (List.mem_of_getElem? (i := 15) (rfl))) rfl
theorem kv_66 : Cond.fieldLink "NoonShade$Isle" 37 "NoonShade$Isle" "marks" "LNoonShade$Rows;" ∈ gtb := gtb_mem (in_t1 (List.mem_of_getElem? (i := 98) (by decide +kernel))) rfl
theorem kv_67 : Cond.fieldLink "NoonShade$Isle" 43 "NoonShade$Isle" "past" "LNoonShade$Past;" ∈ gtb := gtb_mem (in_t1 (List.mem_of_getElem? (i := 100) (by decide +kernel))) rfl
theorem kv_68 : Cond.methodLink "NoonShade$Isle" 67 yX4_empty ∈ gtb := gtb_mem (in_t2 (List.mem_of_getElem? (i := 16) (by decide +kernel))) rfl
theorem kv_69 : Cond.instanceMethod yX4_empty ∈ gtb := gtb_mem (in_t2 (List.mem_of_getElem? (i := 17) (by decide +kernel))) rfl
theorem kv_70 : Cond.selects "NoonShade$Past" yX4_empty yX4_empty ∈ gtb := gtb_mem (in_t2 (List.mem_of_getElem? (i := 18) (by decide +kernel))) rfl
theorem kv_71 : Cond.initialized "NoonShade$Past" ∈ gtb := gtb_mem (in_t1 (List.mem_of_getElem? (i := 4) (by decide +kernel))) rfl
theorem kv_72 : Cond.code yX4_empty prog_6_method_2_code 1 none ∈ gtb := gtb_mem (in_t2 (List.mem_of_getElem? (i := 19) (rfl))) rfl
theorem kv_73 : Cond.methodLink "NoonShade$Rows" 19 yX6_isFull ∈ gtb := gtb_mem (in_t3 (List.mem_of_getElem? (i := 158) (by decide +kernel))) rfl
theorem kv_74 : Cond.instanceMethod yX6_isFull ∈ gtb := gtb_mem (in_t3 (List.mem_of_getElem? (i := 151) (by decide +kernel))) rfl
theorem kv_75 : Cond.selects "NoonShade$Rows" yX6_isFull yX6_isFull ∈ gtb := gtb_mem (in_t3 (List.mem_of_getElem? (i := 152) (by decide +kernel))) rfl
theorem kv_76 : Cond.code yX6_isFull prog_8_method_2_code 1 (some .boolean) ∈ gtb := gtb_mem (in_t3 (List.mem_of_getElem? (i := 153) (rfl))) rfl
theorem kv_77 : Cond.fieldLink "NoonShade$Rows" 11 "NoonShade$Rows" "cells" "[I" ∈ gtb := gtb_mem (in_t1 (List.mem_of_getElem? (i := 38) (by decide +kernel))) rfl
theorem kv_78 : Cond.methodLink "NoonShade$Guess" 21 yX3_lost ∈ gtb := gtb_mem (in_t3 (List.mem_of_getElem? (i := 184) (by decide +kernel))) rfl
theorem kv_79 : Cond.methodLink "NoonShade$Guess" 15 yX0_given ∈ gtb := gtb_mem (in_t3 (List.mem_of_getElem? (i := 183) (by decide +kernel))) rfl
theorem kv_80 : Cond.methodLink "NoonShade$Rows" 29 yX1_says ∈ gtb := gtb_mem (in_t3 (List.mem_of_getElem? (i := 180) (by decide +kernel))) rfl
theorem kv_81 : Cond.static yX1_says ∈ gtb := gtb_mem (in_t3 (List.mem_of_getElem? (i := 181) (by decide +kernel))) rfl
theorem kv_82 : Cond.initialized "NoonShade$Guess" ∈ gtb := gtb_mem (in_t1 (List.mem_of_getElem? (i := 7) (by decide +kernel))) rfl
theorem kv_83 : Cond.code yX1_says prog_3_method_2_code 4 (some .int) ∈ gtb := gtb_mem (in_t3 (List.mem_of_getElem? (i := 182) (rfl))) rfl
theorem kv_84 : Cond.constantLong "NoonShade$Rows" 35 31 ∈ gtb := gtb_mem (in_t4 (List.mem_of_getElem? (i := 61) (by decide +kernel))) rfl
theorem kv_85 : Cond.fieldLink "NoonShade$Past" 25 "NoonShade$Isle" "cool" "[I" ∈ gtb := gtb_mem (in_t1 (List.mem_of_getElem? (i := 90) (by decide +kernel))) rfl
theorem kv_86 : Cond.fieldLink "NoonShade$Past" 11 "NoonShade$Past" "cells" "[I" ∈ gtb := gtb_mem (in_t1 (List.mem_of_getElem? (i := 53) (by decide +kernel))) rfl
theorem kv_87 : Cond.methodLink "NoonShade$Past" 19 ⟨"java/lang/System", "arraycopy", "(Ljava/lang/Object;ILjava/lang/Object;II)V"⟩ ∈ gtb := gtb_mem (in_t3 (List.mem_of_getElem? (i := 3) (by decide +kernel))) rfl
theorem kv_88 : Cond.native ⟨"java/lang/System", "arraycopy", "(Ljava/lang/Object;ILjava/lang/Object;II)V"⟩ ∈ gtb := gtb_mem (in_t2 (List.mem_of_getElem? (i := 233) (by decide +kernel))) rfl
theorem kv_89 : Cond.static ⟨"java/lang/System", "arraycopy", "(Ljava/lang/Object;ILjava/lang/Object;II)V"⟩ ∈ gtb := gtb_mem (in_t2 (List.mem_of_getElem? (i := 232) (by decide +kernel))) rfl
theorem kv_90 : Cond.initialized "java/lang/System" ∈ gtb := gtb_mem (in_t1 (List.mem_of_getElem? (i := 16) (by decide +kernel))) rfl
theorem kv_91 : Cond.fieldLink "NoonShade$Past" 30 "NoonShade$Isle" "jarTaste" "[I" ∈ gtb := gtb_mem (in_t1 (List.mem_of_getElem? (i := 94) (by decide +kernel))) rfl
theorem kv_92 : Cond.fieldLink "NoonShade$Past" 33 "NoonShade$Isle" "milked" "I" ∈ gtb := gtb_mem (in_t1 (List.mem_of_getElem? (i := 70) (by decide +kernel))) rfl
theorem kv_93 : Cond.fieldLink "NoonShade$Past" 36 "NoonShade$Isle" "sold" "I" ∈ gtb := gtb_mem (in_t1 (List.mem_of_getElem? (i := 67) (by decide +kernel))) rfl
theorem kv_94 : Cond.fieldLink "NoonShade$Past" 39 "NoonShade$Isle" "hour" "I" ∈ gtb := gtb_mem (in_t1 (List.mem_of_getElem? (i := 63) (by decide +kernel))) rfl
theorem kv_95 : Cond.fieldLink "NoonShade$Guess" 9 "NoonShade$Guess" "answers" "[I" ∈ gtb := gtb_mem (in_t1 (List.mem_of_getElem? (i := 196) (by decide +kernel))) rfl
theorem kv_96 : Cond.methodLink "NoonShade$Guess" 36 yX1_says ∈ gtb := gtb_mem (in_t3 (List.mem_of_getElem? (i := 197) (by decide +kernel))) rfl
theorem kv_97 : Cond.methodLink "NoonShade$Guess" 39 yX1_answeredSo ∈ gtb := gtb_mem (in_t3 (List.mem_of_getElem? (i := 198) (by decide +kernel))) rfl
theorem kv_98 : Cond.instanceMethod yX1_answeredSo ∈ gtb := gtb_mem (in_t3 (List.mem_of_getElem? (i := 200) (by decide +kernel))) rfl
theorem kv_99 : Cond.selects "NoonShade$Guess" yX1_answeredSo yX1_answeredSo ∈ gtb := gtb_mem (in_t0 (List.mem_of_getElem? (i := 20) (by decide +kernel))) rfl
theorem kv_100 : Cond.code yX1_answeredSo prog_3_method_6_code 5 (some .int) ∈ gtb := gtb_mem (in_t3 (List.mem_of_getElem? (i := 201) (rfl))) rfl
theorem kv_101 : Cond.methodLink "NoonShade$Guess" 43 Lib.Math.max.name ∈ gtb := gtb_mem (in_t3 (List.mem_of_getElem? (i := 202) (by decide +kernel))) rfl
theorem kv_102 : Cond.methodLink "NoonShade$Guess" 32 yX1_mostAlike ∈ gtb := gtb_mem (in_t3 (List.mem_of_getElem? (i := 193) (by decide +kernel))) rfl
theorem kv_103 : Cond.instanceMethod yX1_mostAlike ∈ gtb := gtb_mem (in_t3 (List.mem_of_getElem? (i := 195) (by decide +kernel))) rfl
theorem kv_104 : Cond.selects "NoonShade$Guess" yX1_mostAlike yX1_mostAlike ∈ gtb := gtb_mem (in_t0 (List.mem_of_getElem? (i := 19) (by decide +kernel))) rfl
theorem kv_105 : Cond.code yX1_mostAlike prog_3_method_5_code 9 (some .int) ∈ gtb := gtb_mem (in_t3 (List.mem_of_getElem? (i := 196) (rfl))) rfl
theorem kv_106 : Cond.methodLink "NoonShade$Guess" 26 yX6_agree ∈ gtb := gtb_mem (in_t3 (List.mem_of_getElem? (i := 176) (by decide +kernel))) rfl
theorem kv_107 : Cond.instanceMethod yX6_agree ∈ gtb := gtb_mem (in_t3 (List.mem_of_getElem? (i := 177) (by decide +kernel))) rfl
theorem kv_108 : Cond.selects "NoonShade$Rows" yX6_agree yX6_agree ∈ gtb := gtb_mem (in_t3 (List.mem_of_getElem? (i := 178) (by decide +kernel))) rfl
theorem kv_109 : Cond.code yX6_agree prog_8_method_6_code 5 (some .boolean) ∈ gtb := gtb_mem (in_t3 (List.mem_of_getElem? (i := 179) (rfl))) rfl
theorem kv_110 : Cond.fieldLink "NoonShade$Plan" 11 "NoonShade$Plan" "given" "[I" ∈ gtb := gtb_mem (in_t1 (List.mem_of_getElem? (i := 169) (by decide +kernel))) rfl
theorem kv_111 : Cond.methodLink "NoonShade$Plan" 76 Lib.Math.max.name ∈ gtb := gtb_mem (in_t3 (List.mem_of_getElem? (i := 99) (by decide +kernel))) rfl
theorem kv_112 : Cond.methodLink "NoonShade$Plan" 81 Lib.Math.min.name ∈ gtb := gtb_mem (in_t3 (List.mem_of_getElem? (i := 100) (by decide +kernel))) rfl
theorem kv_113 : Cond.fieldLink "NoonShade$Plan" 18 "NoonShade$Plan" "row" "[I" ∈ gtb := gtb_mem (in_t1 (List.mem_of_getElem? (i := 171) (by decide +kernel))) rfl
theorem kv_114 : Cond.methodLink "NoonShade$Plan" 73 yX5_with ∈ gtb := gtb_mem (in_t3 (List.mem_of_getElem? (i := 95) (by decide +kernel))) rfl
theorem kv_115 : Cond.instanceMethod yX5_with ∈ gtb := gtb_mem (in_t3 (List.mem_of_getElem? (i := 97) (by decide +kernel))) rfl
theorem kv_116 : Cond.selects "NoonShade$Plan" yX5_with yX5_with ∈ gtb := gtb_mem (in_t0 (List.mem_of_getElem? (i := 13) (by decide +kernel))) rfl
theorem kv_117 : Cond.initialized "NoonShade$Plan" ∈ gtb := gtb_mem (in_t1 (List.mem_of_getElem? (i := 6) (by decide +kernel))) rfl
theorem kv_118 : Cond.code yX5_with prog_7_method_7_code 4 (some .int) ∈ gtb := gtb_mem (in_t3 (List.mem_of_getElem? (i := 98) (rfl))) rfl
theorem kv_119 : Cond.fieldLink "NoonShade$Plan" 15 "NoonShade$Plan" "end" "[I" ∈ gtb := gtb_mem (in_t1 (List.mem_of_getElem? (i := 170) (by decide +kernel))) rfl
theorem kv_120 : Cond.fieldLink "NoonShade$Plan" 27 "NoonShade$Plan" "casters" "I" ∈ gtb := gtb_mem (in_t1 (List.mem_of_getElem? (i := 173) (by decide +kernel))) rfl
theorem kv_121 : Cond.fieldLink "NoonShade$Plan" 64 "NoonShade$Plan" "best" "I" ∈ gtb := gtb_mem (in_t1 (List.mem_of_getElem? (i := 175) (by decide +kernel))) rfl
theorem kv_122 : Cond.methodLink "NoonShade$Plan" 58 yX2_givenBehind ∈ gtb := gtb_mem (in_t3 (List.mem_of_getElem? (i := 89) (by decide +kernel))) rfl
theorem kv_123 : Cond.methodLink "NoonShade$Plan" 54 yX2_isMilked ∈ gtb := gtb_mem (in_t3 (List.mem_of_getElem? (i := 88) (by decide +kernel))) rfl
theorem kv_124 : Cond.fieldLink "NoonShade$Plan" 61 "NoonShade$Isle" "cool" "[I" ∈ gtb := gtb_mem (in_t1 (List.mem_of_getElem? (i := 89) (by decide +kernel))) rfl
theorem kv_125 : Cond.fieldLink "NoonShade$Plan" 28 "NoonShade$Plan" "steps" "I" ∈ gtb := gtb_mem (in_t1 (List.mem_of_getElem? (i := 174) (by decide +kernel))) rfl
theorem kv_126 : Cond.methodLink "NoonShade$Plan" 47 yX5_mostFrom ∈ gtb := gtb_mem (in_t3 (List.mem_of_getElem? (i := 91) (by decide +kernel))) rfl
theorem kv_127 : Cond.instanceMethod yX5_mostFrom ∈ gtb := gtb_mem (in_t3 (List.mem_of_getElem? (i := 93) (by decide +kernel))) rfl
theorem kv_128 : Cond.selects "NoonShade$Plan" yX5_mostFrom yX5_mostFrom ∈ gtb := gtb_mem (in_t0 (List.mem_of_getElem? (i := 12) (by decide +kernel))) rfl
theorem kv_129 : Cond.code yX5_mostFrom prog_7_method_5_code 5 (some .int) ∈ gtb := gtb_mem (in_t3 (List.mem_of_getElem? (i := 94) (rfl))) rfl
theorem kv_130 : Cond.methodLink "NoonShade$Plan" 67 yX5_firstThatReaches ∈ gtb := gtb_mem (in_t3 (List.mem_of_getElem? (i := 105) (by decide +kernel))) rfl
theorem kv_131 : Cond.instanceMethod yX5_firstThatReaches ∈ gtb := gtb_mem (in_t3 (List.mem_of_getElem? (i := 107) (by decide +kernel))) rfl
theorem kv_132 : Cond.selects "NoonShade$Plan" yX5_firstThatReaches yX5_firstThatReaches ∈ gtb := gtb_mem (in_t0 (List.mem_of_getElem? (i := 15) (by decide +kernel))) rfl
theorem kv_133 : Cond.code yX5_firstThatReaches prog_7_method_6_code 4 (some .int) ∈ gtb := gtb_mem (in_t3 (List.mem_of_getElem? (i := 108) (rfl))) rfl
theorem kv_134 : Cond.fieldLink "NoonShade$Plan" 35 "NoonShade$Isle" "jarKind" "[I" ∈ gtb := gtb_mem (in_t1 (List.mem_of_getElem? (i := 86) (by decide +kernel))) rfl
theorem kv_135 : Cond.methodLink "NoonShade$Plan" 70 yX5_filled ∈ gtb := gtb_mem (in_t3 (List.mem_of_getElem? (i := 109) (by decide +kernel))) rfl
theorem kv_136 : Cond.instanceMethod yX5_filled ∈ gtb := gtb_mem (in_t3 (List.mem_of_getElem? (i := 111) (by decide +kernel))) rfl
theorem kv_137 : Cond.selects "NoonShade$Plan" yX5_filled yX5_filled ∈ gtb := gtb_mem (in_t0 (List.mem_of_getElem? (i := 16) (by decide +kernel))) rfl
theorem kv_138 : Cond.code yX5_filled prog_7_method_8_code 3 (some .int) ∈ gtb := gtb_mem (in_t3 (List.mem_of_getElem? (i := 112) (rfl))) rfl
theorem kv_139 : Cond.fieldLink "NoonShade$Plan" 38 "NoonShade$Isle" "hour" "I" ∈ gtb := gtb_mem (in_t1 (List.mem_of_getElem? (i := 62) (by decide +kernel))) rfl
theorem kv_140 : Cond.methodLink "NoonShade$Plan" 41 yX3_kept ∈ gtb := gtb_mem (in_t3 (List.mem_of_getElem? (i := 90) (by decide +kernel))) rfl
theorem kv_141 : Cond.fieldLink "NoonShade$Plan" 21 "NoonShade$Isle" "casters" "I" ∈ gtb := gtb_mem (in_t1 (List.mem_of_getElem? (i := 72) (by decide +kernel))) rfl
theorem kv_142 : Cond.methodLink "NoonShade$Plan" 51 yX5_chooseRow ∈ gtb := gtb_mem (in_t3 (List.mem_of_getElem? (i := 101) (by decide +kernel))) rfl
theorem kv_143 : Cond.instanceMethod yX5_chooseRow ∈ gtb := gtb_mem (in_t3 (List.mem_of_getElem? (i := 103) (by decide +kernel))) rfl
theorem kv_144 : Cond.selects "NoonShade$Plan" yX5_chooseRow yX5_chooseRow ∈ gtb := gtb_mem (in_t0 (List.mem_of_getElem? (i := 14) (by decide +kernel))) rfl
theorem kv_145 : Cond.code yX5_chooseRow prog_7_method_4_code 5 none ∈ gtb := gtb_mem (in_t3 (List.mem_of_getElem? (i := 104) (rfl))) rfl
theorem kv_146 : Cond.methodLink "NoonShade$Plan" 31 yX5_askCasters ∈ gtb := gtb_mem (in_t3 (List.mem_of_getElem? (i := 84) (by decide +kernel))) rfl
theorem kv_147 : Cond.instanceMethod yX5_askCasters ∈ gtb := gtb_mem (in_t3 (List.mem_of_getElem? (i := 86) (by decide +kernel))) rfl
theorem kv_148 : Cond.selects "NoonShade$Plan" yX5_askCasters yX5_askCasters ∈ gtb := gtb_mem (in_t0 (List.mem_of_getElem? (i := 11) (by decide +kernel))) rfl
theorem kv_149 : Cond.code yX5_askCasters prog_7_method_3_code 4 none ∈ gtb := gtb_mem (in_t3 (List.mem_of_getElem? (i := 87) (rfl))) rfl
theorem kv_150 : Cond.constantLong "NoonShade$Plan" 84 10 ∈ gtb := gtb_mem (in_t3 (List.mem_of_getElem? (i := 235) (by decide +kernel))) rfl
