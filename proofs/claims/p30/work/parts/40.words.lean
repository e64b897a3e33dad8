theorem kv_0 : Cond.methodLink "NoonShade$CasterKinds" 7 Lib.Math.abs.name ∈ gtb := gtb_mem (in_t2 (List.mem_of_getElem? (i := 191) (by decide +kernel))) rfl
theorem kv_1 : Cond.static Lib.Math.abs.name ∈ gtb := gtb_mem (in_t2 (List.mem_of_getElem? (i := 192) (by decide +kernel))) rfl
theorem kv_2 : Cond.initialized "java/lang/Math" ∈ gtb := gtb_mem (in_t1 (List.mem_of_getElem? (i := 14) (by decide +kernel))) rfl
theorem kv_3 : Cond.code Lib.Math.abs.name Lib.Math.abs.code 1 (some .int) ∈ gtb := gtb_mem (in_t2 (List.mem_of_getElem? (i := 193) (rfl))) rfl
theorem kv_4 : Cond.methodLink "NoonShade$CasterKinds" 13 Lib.Math.min.name ∈ gtb := gtb_mem (in_t2 (List.mem_of_getElem? (i := 194) (by decide +kernel))) rfl
theorem kv_5 : Cond.static Lib.Math.min.name ∈ gtb := gtb_mem (in_t2 (List.mem_of_getElem? (i := 195) (by decide +kernel))) rfl
theorem kv_6 : Cond.code Lib.Math.min.name Lib.Math.min.code 2 (some .int) ∈ gtb := gtb_mem (in_t2 (List.mem_of_getElem? (i := 196) (rfl))) rfl
theorem kv_7 : Cond.methodLink "NoonShade$JarKinds" 9 yX3_lost ∈ gtb := gtb_mem (in_t2 (List.mem_of_getElem? (i := 221) (by decide +kernel))) rfl
theorem kv_8 : Cond.static yX3_lost ∈ gtb := gtb_mem (in_t2 (List.mem_of_getElem? (i := 222) (by decide +kernel))) rfl
theorem kv_9 : Cond.initialized "NoonShade$JarKinds" ∈ gtb := gtb_mem (in_t1 (List.mem_of_getElem? (i := 15) (by decide +kernel))) rfl
theorem kv_10 : Cond.code yX3_lost prog_5_method_2_code 6 (some .int) ∈ gtb := gtb_mem (in_t2 (List.mem_of_getElem? (i := 223) (rfl))) rfl
theorem kv_11 : Cond.methodLink "NoonShade$JarKinds" 15 Lib.Math.max.name ∈ gtb := gtb_mem (in_t2 (List.mem_of_getElem? (i := 224) (by decide +kernel))) rfl
theorem kv_12 : Cond.static Lib.Math.max.name ∈ gtb := gtb_mem (in_t2 (List.mem_of_getElem? (i := 225) (by decide +kernel))) rfl
theorem kv_13 : Cond.code Lib.Math.max.name Lib.Math.max.code 2 (some .int) ∈ gtb := gtb_mem (in_t2 (List.mem_of_getElem? (i := 226) (rfl))) rfl
theorem kv_14 : Cond.methodLink "NoonShade$JarKinds" 21 yX3_kept ∈ gtb := gtb_mem (in_t3 (List.mem_of_getElem? (i := 58) (by decide +kernel))) rfl
theorem kv_15 : Cond.static yX3_kept ∈ gtb := gtb_mem (in_t2 (List.mem_of_getElem? (i := 219) (by decide +kernel))) rfl
theorem kv_16 : Cond.code yX3_kept prog_5_method_3_code 3 (some .int) ∈ gtb := gtb_mem (in_t2 (List.mem_of_getElem? (i := 220) (rfl))) rfl
theorem kv_17 : Cond.fieldLink "NoonShade$Isle" 57 "NoonShade$Isle" "casters" "I" ∈ gtb := gtb_mem (in_t1 (List.mem_of_getElem? (i := 73) (by decide +kernel))) rfl
theorem kv_18 : Cond.fieldLink "NoonShade$Isle" 60 "NoonShade$Isle" "jars" "I" ∈ gtb := gtb_mem (in_t1 (List.mem_of_getElem? (i := 76) (by decide +kernel))) rfl
theorem kv_19 : Cond.fieldLink "NoonShade$Isle" 54 "NoonShade$Isle" "milked" "I" ∈ gtb := gtb_mem (in_t1 (List.mem_of_getElem? (i := 69) (by decide +kernel))) rfl
theorem kv_20 : Cond.fieldLink "NoonShade$Isle" 9 "NoonShade$Isle" "casterKind" "[I" ∈ gtb := gtb_mem (in_t1 (List.mem_of_getElem? (i := 79) (by decide +kernel))) rfl
theorem kv_21 : Cond.fieldLink "NoonShade$Isle" 15 "NoonShade$Isle" "height" "[I" ∈ gtb := gtb_mem (in_t1 (List.mem_of_getElem? (i := 81) (by decide +kernel))) rfl
theorem kv_22 : Cond.fieldLink "NoonShade$Isle" 18 "NoonShade$Isle" "casterTaste" "[I" ∈ gtb := gtb_mem (in_t1 (List.mem_of_getElem? (i := 83) (by decide +kernel))) rfl
theorem kv_23 : Cond.fieldLink "NoonShade$Isle" 21 "NoonShade$Isle" "jarKind" "[I" ∈ gtb := gtb_mem (in_t1 (List.mem_of_getElem? (i := 85) (by decide +kernel))) rfl
theorem kv_24 : Cond.fieldLink "NoonShade$Isle" 24 "NoonShade$Isle" "cool" "[I" ∈ gtb := gtb_mem (in_t1 (List.mem_of_getElem? (i := 88) (by decide +kernel))) rfl
theorem kv_25 : Cond.fieldLink "NoonShade$Isle" 27 "NoonShade$Isle" "jarTaste" "[I" ∈ gtb := gtb_mem (in_t1 (List.mem_of_getElem? (i := 93) (by decide +kernel))) rfl
theorem kv_26 : Cond.fieldLink "NoonShade$Isle" 47 "NoonShade$Isle" "hour" "I" ∈ gtb := gtb_mem (in_t1 (List.mem_of_getElem? (i := 61) (by decide +kernel))) rfl
theorem kv_27 : Cond.methodLink "NoonShade$Isle" 82 yX0_given ∈ gtb := gtb_mem (in_t2 (List.mem_of_getElem? (i := 188) (by decide +kernel))) rfl
theorem kv_28 : Cond.static yX0_given ∈ gtb := gtb_mem (in_t2 (List.mem_of_getElem? (i := 189) (by decide +kernel))) rfl
theorem kv_29 : Cond.initialized "NoonShade$CasterKinds" ∈ gtb := gtb_mem (in_t1 (List.mem_of_getElem? (i := 13) (by decide +kernel))) rfl
theorem kv_30 : Cond.code yX0_given prog_2_method_2_code 5 (some .int) ∈ gtb := gtb_mem (in_t2 (List.mem_of_getElem? (i := 190) (rfl))) rfl
theorem kv_31 : Cond.methodLink "NoonShade$Isle" 88 yX3_keptBehind ∈ gtb := gtb_mem (in_t3 (List.mem_of_getElem? (i := 55) (by decide +kernel))) rfl
theorem kv_32 : Cond.static yX3_keptBehind ∈ gtb := gtb_mem (in_t3 (List.mem_of_getElem? (i := 56) (by decide +kernel))) rfl
theorem kv_33 : Cond.code yX3_keptBehind prog_5_method_4_code 6 (some .int) ∈ gtb := gtb_mem (in_t3 (List.mem_of_getElem? (i := 57) (rfl))) rfl
theorem kv_34 : Cond.methodLink "NoonShade$Isle" 94 yX2_isMilked ∈ gtb := gtb_mem (in_t3 (List.mem_of_getElem? (i := 131) (by decide +kernel))) rfl
theorem kv_35 : Cond.instanceMethod yX2_isMilked ∈ gtb := gtb_mem (in_t2 (List.mem_of_getElem? (i := 167) (by decide +kernel))) rfl
theorem kv_36 : Cond.selects "NoonShade$Isle" yX2_isMilked yX2_isMilked ∈ gtb := gtb_mem (in_t2 (List.mem_of_getElem? (i := 168) (by decide +kernel))) rfl
theorem kv_37 : Cond.initialized "NoonShade$Isle" ∈ gtb := gtb_mem (in_t1 (List.mem_of_getElem? (i := 2) (by decide +kernel))) rfl
theorem kv_38 : Cond.code yX2_isMilked prog_4_method_6_code 2 (some .boolean) ∈ gtb := gtb_mem (in_t2 (List.mem_of_getElem? (i := 169) (rfl))) rfl
theorem kv_39 : Cond.methodLink "NoonShade$Isle" 98 yX2_givenBehind ∈ gtb := gtb_mem (in_t2 (List.mem_of_getElem? (i := 184) (by decide +kernel))) rfl
theorem kv_40 : Cond.instanceMethod yX2_givenBehind ∈ gtb := gtb_mem (in_t2 (List.mem_of_getElem? (i := 185) (by decide +kernel))) rfl
theorem kv_41 : Cond.selects "NoonShade$Isle" yX2_givenBehind yX2_givenBehind ∈ gtb := gtb_mem (in_t2 (List.mem_of_getElem? (i := 186) (by decide +kernel))) rfl
theorem kv_42 : Cond.code yX2_givenBehind prog_4_method_9_code 3 (some .int) ∈ gtb := gtb_mem (in_t2 (List.mem_of_getElem? (i := 187) (rfl))) rfl
theorem kv_43 : Cond.methodLink "NoonShade$Isle" 109 Lib.Math.min.name ∈ gtb := gtb_mem (in_t2 (List.mem_of_getElem? (i := 201) (by decide +kernel))) rfl
theorem kv_44 : Cond.methodLink "NoonShade$Isle" 102 yX2_fill ∈ gtb := gtb_mem (in_t2 (List.mem_of_getElem? (i := 197) (by decide +kernel))) rfl
theorem kv_45 : Cond.instanceMethod yX2_fill ∈ gtb := gtb_mem (in_t2 (List.mem_of_getElem? (i := 199) (by decide +kernel))) rfl
theorem kv_46 : Cond.selects "NoonShade$Isle" yX2_fill yX2_fill ∈ gtb := gtb_mem (in_t0 (List.mem_of_getElem? (i := 9) (by decide +kernel))) rfl
theorem kv_47 : Cond.code yX2_fill prog_4_method_16_code 5 (some .int) ∈ gtb := gtb_mem (in_t2 (List.mem_of_getElem? (i := 200) (rfl))) rfl
theorem kv_48 : Cond.methodLink "NoonShade$Isle" 105 yX2_drain ∈ gtb := gtb_mem (in_t2 (List.mem_of_getElem? (i := 206) (by decide +kernel))) rfl
theorem kv_49 : Cond.instanceMethod yX2_drain ∈ gtb := gtb_mem (in_t2 (List.mem_of_getElem? (i := 208) (by decide +kernel))) rfl
theorem kv_50 : Cond.selects "NoonShade$Isle" yX2_drain yX2_drain ∈ gtb := gtb_mem (in_t0 (List.mem_of_getElem? (i := 10) (by decide +kernel))) rfl
theorem kv_51 : Cond.code yX2_drain prog_4_method_17_code 3 none ∈ gtb := gtb_mem (in_t2 (List.mem_of_getElem? (i := 209) (rfl))) rfl
theorem kv_52 : Cond.fieldLink "NoonShade$Isle" 51 "NoonShade$Isle" "sold" "I" ∈ gtb := gtb_mem (in_t1 (List.mem_of_getElem? (i := 66) (by decide +kernel))) rfl
theorem kv_53 : Cond.methodLink "NoonShade$Isle" 117 yX3_kept ∈ gtb := gtb_mem (in_t2 (List.mem_of_getElem? (i := 218) (by decide +kernel))) rfl
theorem kv_54 : Cond.methodLink "NoonShade$Isle" 114 yX2_passHour ∈ gtb := gtb_mem (in_t2 (List.mem_of_getElem? (i := 214) (by decide +kernel))) rfl
theorem kv_55 : Cond.instanceMethod yX2_passHour ∈ gtb := gtb_mem (in_t2 (List.mem_of_getElem? (i := 215) (by decide +kernel))) rfl
theorem kv_56 : Cond.selects "NoonShade$Isle" yX2_passHour yX2_passHour ∈ gtb := gtb_mem (in_t2 (List.mem_of_getElem? (i := 216) (by decide +kernel))) rfl
theorem kv_57 : Cond.code yX2_passHour prog_4_method_19_code 2 none ∈ gtb := gtb_mem (in_t2 (List.mem_of_getElem? (i := 217) (rfl))) rfl
theorem kv_58 : Cond.fieldLink "NoonShade$Rows" 15 "NoonShade$Rows" "size" "I" ∈ gtb := gtb_mem (in_t1 (List.mem_of_getElem? (i := 39) (by decide +kernel))) rfl
theorem kv_59 : Cond.fieldLink "NoonShade$Past" 15 "NoonShade$Past" "steps" "I" ∈ gtb := gtb_mem (in_t1 (List.mem_of_getElem? (i := 54) (by decide +kernel))) rfl
theorem kv_60 : Cond.fieldLink "NoonShade$Isle" 33 "NoonShade$Isle" "notes" "LNoonShade$Rows;" ∈ gtb := gtb_mem (in_t1 (List.mem_of_getElem? (i := 96) (by decide +kernel))) rfl
theorem kv_61 : Cond.methodLink "NoonShade$Isle" 63 yX6_empty ∈ gtb := gtb_mem (in_t2 (List.mem_of_getElem? (i := 12) (by decide +kernel))) rfl
theorem kv_62 : Cond.instanceMethod yX6_empty ∈ gtb := gtb_mem (in_t2 (List.mem_of_getElem? (i := 13) (by decide +kernel))) rfl
theorem kv_63 : Cond.selects "NoonShade$Rows" yX6_empty yX6_empty ∈ gtb := gtb_mem (in_t2 (List.mem_of_getElem? (i := 14) (by decide +kernel))) rfl
theorem kv_64 : Cond.initialized "NoonShade$Rows" ∈ gtb := gtb_mem (in_t1 (List.mem_of_getElem? (i := 3) (by decide +kernel))) rfl
theorem kv_65 : Cond.code yX6_empty prog_8_method_4_code 2 (some .int) ∈ gtb := gtb_mem (in_t2 (List.mem_of_getElem? (i := 15) (rfl))) rfl
theorem kv_66 : Cond.fieldLink "NoonShade$Isle" 37 "NoonShade$Isle" "marks" "LNoonShade$Rows;" ∈ gtb := gtb_mem (in_t1 (List.mem_of_getElem? (i := 98) (by decide +kernel))) rfl
theorem kv_67 : Cond.fieldLink "NoonShade$Isle" 43 "NoonShade$Isle" "past" "LNoonShade$Past;" ∈ gtb := gtb_mem (in_t1 (List.mem_of_getElem? (i := 100) (by decide +kernel))) rfl
theorem kv_68 : Cond.methodLink "NoonShade$Isle" 67 yX4_empty ∈ gtb := gtb_mem (in_t2 (List.mem_of_getElem? (i := 16) (by decide +kernel))) rfl
theorem kv_69 : Cond.instanceMethod yX4_empty ∈ gtb := gtb_mem (in_t2 (List.mem_of_getElem? (i := 17) (by decide +kernel))) rfl
theorem kv_70 : Cond.selects "NoonShade$Past" yX4_empty yX4_empty ∈ gtb := gtb_mem (in_t2 (List.mem_of_getElem? (i := 18) (by decide +kernel))) rfl
theorem kv_71 : Cond.initialized "NoonShade$Past" ∈ gtb := gtb_mem (in_t1 (List.mem_of_getElem? (i := 4) (by decide +kernel))) rfl
theorem kv_72 : Cond.code yX4_empty prog_6_method_2_code 1 none ∈ gtb := gtb_mem (in_t2 (List.mem_of_getElem? (i := 19) (rfl))) rfl
theorem kv_73 : Cond.methodLink "NoonShade$Rows" 19 yX6_isFull ∈ gtb := gtb_mem (in_t3 (List.mem_of_getElem? (i := 158) (by decide +kernel))) rfl
theorem kv_74 : Cond.instanceMethod yX6_isFull ∈ gtb := gtb_mem (in_t3 (List.mem_of_getElem? (i := 151) (by decide +kernel))) rfl
theorem kv_75 : Cond.selects "NoonShade$Rows" yX6_isFull yX6_isFull ∈ gtb := gtb_mem (in_t3 (List.mem_of_getElem? (i := 152) (by decide +kernel))) rfl
theorem kv_76 : Cond.code yX6_isFull prog_8_method_2_code 1 (some .boolean) ∈ gtb := gtb_mem (in_t3 (List.mem_of_getElem? (i := 153) (rfl))) rfl
theorem kv_77 : Cond.fieldLink "NoonShade$Rows" 11 "NoonShade$Rows" "cells" "[I" ∈ gtb := gtb_mem (in_t1 (List.mem_of_getElem? (i := 38) (by decide +kernel))) rfl
theorem kv_78 : Cond.methodLink "NoonShade$Guess" 21 yX3_lost ∈ gtb := gtb_mem (in_t3 (List.mem_of_getElem? (i := 184) (by decide +kernel))) rfl
theorem kv_79 : Cond.methodLink "NoonShade$Guess" 15 yX0_given ∈ gtb := gtb_mem (in_t3 (List.mem_of_getElem? (i := 183) (by decide +kernel))) rfl
theorem kv_80 : Cond.methodLink "NoonShade$Rows" 29 yX1_says ∈ gtb := gtb_mem (in_t3 (List.mem_of_getElem? (i := 180) (by decide +kernel))) rfl
theorem kv_81 : Cond.static yX1_says ∈ gtb := gtb_mem (in_t3 (List.mem_of_getElem? (i := 181) (by decide +kernel))) rfl
theorem kv_82 : Cond.initialized "NoonShade$Guess" ∈ gtb := gtb_mem (in_t1 (List.mem_of_getElem? (i := 7) (by decide +kernel))) rfl
theorem kv_83 : Cond.code yX1_says prog_3_method_2_code 4 (some .int) ∈ gtb := gtb_mem (in_t3 (List.mem_of_getElem? (i := 182) (rfl))) rfl
theorem kv_84 : Cond.constantLong "NoonShade$Rows" 35 31 ∈ gtb := gtb_mem (in_t4 (List.mem_of_getElem? (i := 61) (by decide +kernel))) rfl
theorem kv_85 : Cond.fieldLink "NoonShade$Past" 25 "NoonShade$Isle" "cool" "[I" ∈ gtb := gtb_mem (in_t1 (List.mem_of_getElem? (i := 90) (by decide +kernel))) rfl
theorem kv_86 : Cond.fieldLink "NoonShade$Past" 11 "NoonShade$Past" "cells" "[I" ∈ gtb := gtb_mem (in_t1 (List.mem_of_getElem? (i := 53) (by decide +kernel))) rfl
theorem kv_87 : Cond.methodLink "NoonShade$Past" 19 ⟨"java/lang/System", "arraycopy", "(Ljava/lang/Object;ILjava/lang/Object;II)V"⟩ ∈ gtb := gtb_mem (in_t3 (List.mem_of_getElem? (i := 3) (by decide +kernel))) rfl
theorem kv_88 : Cond.native ⟨"java/lang/System", "arraycopy", "(Ljava/lang/Object;ILjava/lang/Object;II)V"⟩ ∈ gtb := gtb_mem (in_t2 (List.mem_of_getElem? (i := 233) (by decide +kernel))) rfl
theorem kv_89 : Cond.static ⟨"java/lang/System", "arraycopy", "(Ljava/lang/Object;ILjava/lang/Object;II)V"⟩ ∈ gtb := gtb_mem (in_t2 (List.mem_of_getElem? (i := 232) (by decide +kernel))) rfl
theorem kv_90 : Cond.initialized "java/lang/System" ∈ gtb := gtb_mem (in_t1 (List.mem_of_getElem? (i := 16) (by decide +kernel))) rfl
theorem kv_91 : Cond.fieldLink "NoonShade$Past" 30 "NoonShade$Isle" "jarTaste" "[I" ∈ gtb := gtb_mem (in_t1 (List.mem_of_getElem? (i := 94) (by decide +kernel))) rfl
theorem kv_92 : Cond.fieldLink "NoonShade$Past" 33 "NoonShade$Isle" "milked" "I" ∈ gtb := gtb_mem (in_t1 (List.mem_of_getElem? (i := 70) (by decide +kernel))) rfl
theorem kv_93 : Cond.fieldLink "NoonShade$Past" 36 "NoonShade$Isle" "sold" "I" ∈ gtb := gtb_mem (in_t1 (List.mem_of_getElem? (i := 67) (by decide +kernel))) rfl
theorem kv_94 : Cond.fieldLink "NoonShade$Past" 39 "NoonShade$Isle" "hour" "I" ∈ gtb := gtb_mem (in_t1 (List.mem_of_getElem? (i := 63) (by decide +kernel))) rfl
theorem kv_95 : Cond.fieldLink "NoonShade$Guess" 9 "NoonShade$Guess" "answers" "[I" ∈ gtb := gtb_mem (in_t1 (List.mem_of_getElem? (i := 196) (by decide +kernel))) rfl
theorem kv_96 : Cond.methodLink "NoonShade$Guess" 36 yX1_says ∈ gtb := gtb_mem (in_t3 (List.mem_of_getElem? (i := 197) (by decide +kernel))) rfl
theorem kv_97 : Cond.methodLink "NoonShade$Guess" 39 yX1_answeredSo ∈ gtb := gtb_mem (in_t3 (List.mem_of_getElem? (i := 198) (by decide +kernel))) rfl
theorem kv_98 : Cond.instanceMethod yX1_answeredSo ∈ gtb := gtb_mem (in_t3 (List.mem_of_getElem? (i := 200) (by decide +kernel))) rfl
theorem kv_99 : Cond.selects "NoonShade$Guess" yX1_answeredSo yX1_answeredSo ∈ gtb := gtb_mem (in_t0 (List.mem_of_getElem? (i := 20) (by decide +kernel))) rfl
theorem kv_100 : Cond.code yX1_answeredSo prog_3_method_6_code 5 (some .int) ∈ gtb := gtb_mem (in_t3 (List.mem_of_getElem? (i := 201) (rfl))) rfl
theorem kv_101 : Cond.methodLink "NoonShade$Guess" 43 Lib.Math.max.name ∈ gtb := gtb_mem (in_t3 (List.mem_of_getElem? (i := 202) (by decide +kernel))) rfl
theorem kv_102 : Cond.methodLink "NoonShade$Guess" 32 yX1_mostAlike ∈ gtb := gtb_mem (in_t3 (List.mem_of_getElem? (i := 193) (by decide +kernel))) rfl
theorem kv_103 : Cond.instanceMethod yX1_mostAlike ∈ gtb := gtb_mem (in_t3 (List.mem_of_getElem? (i := 195) (by decide +kernel))) rfl
theorem kv_104 : Cond.selects "NoonShade$Guess" yX1_mostAlike yX1_mostAlike ∈ gtb := gtb_mem (in_t0 (List.mem_of_getElem? (i := 19) (by decide +kernel))) rfl
theorem kv_105 : Cond.code yX1_mostAlike prog_3_method_5_code 9 (some .int) ∈ gtb := gtb_mem (in_t3 (List.mem_of_getElem? (i := 196) (rfl))) rfl
theorem kv_106 : Cond.methodLink "NoonShade$Guess" 26 yX6_agree ∈ gtb := gtb_mem (in_t3 (List.mem_of_getElem? (i := 176) (by decide +kernel))) rfl
theorem kv_107 : Cond.instanceMethod yX6_agree ∈ gtb := gtb_mem (in_t3 (List.mem_of_getElem? (i := 177) (by decide +kernel))) rfl
theorem kv_108 : Cond.selects "NoonShade$Rows" yX6_agree yX6_agree ∈ gtb := gtb_mem (in_t3 (List.mem_of_getElem? (i := 178) (by decide +kernel))) rfl
theorem kv_109 : Cond.code yX6_agree prog_8_method_6_code 5 (some .boolean) ∈ gtb := gtb_mem (in_t3 (List.mem_of_getElem? (i := 179) (rfl))) rfl
theorem kv_110 : Cond.fieldLink "NoonShade$Plan" 11 "NoonShade$Plan" "given" "[I" ∈ gtb := gtb_mem (in_t1 (List.mem_of_getElem? (i := 169) (by decide +kernel))) rfl
theorem kv_111 : Cond.methodLink "NoonShade$Plan" 76 Lib.Math.max.name ∈ gtb := gtb_mem (in_t3 (List.mem_of_getElem? (i := 99) (by decide +kernel))) rfl
theorem kv_112 : Cond.methodLink "NoonShade$Plan" 81 Lib.Math.min.name ∈ gtb := gtb_mem (in_t3 (List.mem_of_getElem? (i := 100) (by decide +kernel))) rfl
theorem kv_113 : Cond.fieldLink "NoonShade$Plan" 18 "NoonShade$Plan" "row" "[I" ∈ gtb := gtb_mem (in_t1 (List.mem_of_getElem? (i := 171) (by decide +kernel))) rfl
theorem kv_114 : Cond.methodLink "NoonShade$Plan" 73 yX5_with ∈ gtb := gtb_mem (in_t3 (List.mem_of_getElem? (i := 95) (by decide +kernel))) rfl
theorem kv_115 : Cond.instanceMethod yX5_with ∈ gtb := gtb_mem (in_t3 (List.mem_of_getElem? (i := 97) (by decide +kernel))) rfl
theorem kv_116 : Cond.selects "NoonShade$Plan" yX5_with yX5_with ∈ gtb := gtb_mem (in_t0 (List.mem_of_getElem? (i := 13) (by decide +kernel))) rfl
theorem kv_117 : Cond.initialized "NoonShade$Plan" ∈ gtb := gtb_mem (in_t1 (List.mem_of_getElem? (i := 6) (by decide +kernel))) rfl
theorem kv_118 : Cond.code yX5_with prog_7_method_7_code 4 (some .int) ∈ gtb := gtb_mem (in_t3 (List.mem_of_getElem? (i := 98) (rfl))) rfl
theorem kv_119 : Cond.fieldLink "NoonShade$Plan" 15 "NoonShade$Plan" "end" "[I" ∈ gtb := gtb_mem (in_t1 (List.mem_of_getElem? (i := 170) (by decide +kernel))) rfl
theorem kv_120 : Cond.fieldLink "NoonShade$Plan" 27 "NoonShade$Plan" "casters" "I" ∈ gtb := gtb_mem (in_t1 (List.mem_of_getElem? (i := 173) (by decide +kernel))) rfl
theorem kv_121 : Cond.fieldLink "NoonShade$Plan" 64 "NoonShade$Plan" "best" "I" ∈ gtb := gtb_mem (in_t1 (List.mem_of_getElem? (i := 175) (by decide +kernel))) rfl
theorem kv_122 : Cond.methodLink "NoonShade$Plan" 58 yX2_givenBehind ∈ gtb := gtb_mem (in_t3 (List.mem_of_getElem? (i := 89) (by decide +kernel))) rfl
theorem kv_123 : Cond.methodLink "NoonShade$Plan" 54 yX2_isMilked ∈ gtb := gtb_mem (in_t3 (List.mem_of_getElem? (i := 88) (by decide +kernel))) rfl
theorem kv_124 : Cond.fieldLink "NoonShade$Plan" 61 "NoonShade$Isle" "cool" "[I" ∈ gtb := gtb_mem (in_t1 (List.mem_of_getElem? (i := 89) (by decide +kernel))) rfl
theorem kv_125 : Cond.fieldLink "NoonShade$Plan" 28 "NoonShade$Plan" "steps" "I" ∈ gtb := gtb_mem (in_t1 (List.mem_of_getElem? (i := 174) (by decide +kernel))) rfl
theorem kv_126 : Cond.methodLink "NoonShade$Plan" 47 yX5_mostFrom ∈ gtb := gtb_mem (in_t3 (List.mem_of_getElem? (i := 91) (by decide +kernel))) rfl
theorem kv_127 : Cond.instanceMethod yX5_mostFrom ∈ gtb := gtb_mem (in_t3 (List.mem_of_getElem? (i := 93) (by decide +kernel))) rfl
theorem kv_128 : Cond.selects "NoonShade$Plan" yX5_mostFrom yX5_mostFrom ∈ gtb := gtb_mem (in_t0 (List.mem_of_getElem? (i := 12) (by decide +kernel))) rfl
theorem kv_129 : Cond.code yX5_mostFrom prog_7_method_5_code 5 (some .int) ∈ gtb := gtb_mem (in_t3 (List.mem_of_getElem? (i := 94) (rfl))) rfl
theorem kv_130 : Cond.methodLink "NoonShade$Plan" 67 yX5_firstThatReaches ∈ gtb := gtb_mem (in_t3 (List.mem_of_getElem? (i := 105) (by decide +kernel))) rfl
theorem kv_131 : Cond.instanceMethod yX5_firstThatReaches ∈ gtb := gtb_mem (in_t3 (List.mem_of_getElem? (i := 107) (by decide +kernel))) rfl
theorem kv_132 : Cond.selects "NoonShade$Plan" yX5_firstThatReaches yX5_firstThatReaches ∈ gtb := gtb_mem (in_t0 (List.mem_of_getElem? (i := 15) (by decide +kernel))) rfl
theorem kv_133 : Cond.code yX5_firstThatReaches prog_7_method_6_code 4 (some .int) ∈ gtb := gtb_mem (in_t3 (List.mem_of_getElem? (i := 108) (rfl))) rfl
theorem kv_134 : Cond.fieldLink "NoonShade$Plan" 35 "NoonShade$Isle" "jarKind" "[I" ∈ gtb := gtb_mem (in_t1 (List.mem_of_getElem? (i := 86) (by decide +kernel))) rfl
theorem kv_135 : Cond.methodLink "NoonShade$Plan" 70 yX5_filled ∈ gtb := gtb_mem (in_t3 (List.mem_of_getElem? (i := 109) (by decide +kernel))) rfl
theorem kv_136 : Cond.instanceMethod yX5_filled ∈ gtb := gtb_mem (in_t3 (List.mem_of_getElem? (i := 111) (by decide +kernel))) rfl
theorem kv_137 : Cond.selects "NoonShade$Plan" yX5_filled yX5_filled ∈ gtb := gtb_mem (in_t0 (List.mem_of_getElem? (i := 16) (by decide +kernel))) rfl
theorem kv_138 : Cond.code yX5_filled prog_7_method_8_code 3 (some .int) ∈ gtb := gtb_mem (in_t3 (List.mem_of_getElem? (i := 112) (rfl))) rfl
theorem kv_139 : Cond.fieldLink "NoonShade$Plan" 38 "NoonShade$Isle" "hour" "I" ∈ gtb := gtb_mem (in_t1 (List.mem_of_getElem? (i := 62) (by decide +kernel))) rfl
theorem kv_140 : Cond.methodLink "NoonShade$Plan" 41 yX3_kept ∈ gtb := gtb_mem (in_t3 (List.mem_of_getElem? (i := 90) (by decide +kernel))) rfl
theorem kv_141 : Cond.fieldLink "NoonShade$Plan" 21 "NoonShade$Isle" "casters" "I" ∈ gtb := gtb_mem (in_t1 (List.mem_of_getElem? (i := 72) (by decide +kernel))) rfl
theorem kv_142 : Cond.methodLink "NoonShade$Plan" 51 yX5_chooseRow ∈ gtb := gtb_mem (in_t3 (List.mem_of_getElem? (i := 101) (by decide +kernel))) rfl
theorem kv_143 : Cond.instanceMethod yX5_chooseRow ∈ gtb := gtb_mem (in_t3 (List.mem_of_getElem? (i := 103) (by decide +kernel))) rfl
theorem kv_144 : Cond.selects "NoonShade$Plan" yX5_chooseRow yX5_chooseRow ∈ gtb := gtb_mem (in_t0 (List.mem_of_getElem? (i := 14) (by decide +kernel))) rfl
theorem kv_145 : Cond.code yX5_chooseRow prog_7_method_4_code 5 none ∈ gtb := gtb_mem (in_t3 (List.mem_of_getElem? (i := 104) (rfl))) rfl
theorem kv_146 : Cond.methodLink "NoonShade$Plan" 31 yX5_askCasters ∈ gtb := gtb_mem (in_t3 (List.mem_of_getElem? (i := 84) (by decide +kernel))) rfl
theorem kv_147 : Cond.instanceMethod yX5_askCasters ∈ gtb := gtb_mem (in_t3 (List.mem_of_getElem? (i := 86) (by decide +kernel))) rfl
theorem kv_148 : Cond.selects "NoonShade$Plan" yX5_askCasters yX5_askCasters ∈ gtb := gtb_mem (in_t0 (List.mem_of_getElem? (i := 11) (by decide +kernel))) rfl
theorem kv_149 : Cond.code yX5_askCasters prog_7_method_3_code 4 none ∈ gtb := gtb_mem (in_t3 (List.mem_of_getElem? (i := 87) (rfl))) rfl
theorem kv_150 : Cond.constantLong "NoonShade$Plan" 84 10 ∈ gtb := gtb_mem (in_t3 (List.mem_of_getElem? (i := 235) (by decide +kernel))) rfl
theorem kv_151 : Cond.methodLink "NoonShade$Rows" 23 ⟨"java/lang/System", "arraycopy", "(Ljava/lang/Object;ILjava/lang/Object;II)V"⟩ ∈ gtb := gtb_mem (in_t2 (List.mem_of_getElem? (i := 238) (by decide +kernel))) rfl
theorem kv_152 : Cond.methodLink "NoonShade$Isle" 69 ⟨"java/lang/System", "arraycopy", "(Ljava/lang/Object;ILjava/lang/Object;II)V"⟩ ∈ gtb := gtb_mem (in_t2 (List.mem_of_getElem? (i := 231) (by decide +kernel))) rfl
theorem kv_153 : Cond.methodLink "NoonShade$Isle" 75 yX6_become ∈ gtb := gtb_mem (in_t2 (List.mem_of_getElem? (i := 234) (by decide +kernel))) rfl
theorem kv_154 : Cond.instanceMethod yX6_become ∈ gtb := gtb_mem (in_t2 (List.mem_of_getElem? (i := 235) (by decide +kernel))) rfl
theorem kv_155 : Cond.selects "NoonShade$Rows" yX6_become yX6_become ∈ gtb := gtb_mem (in_t2 (List.mem_of_getElem? (i := 236) (by decide +kernel))) rfl
theorem kv_156 : Cond.code yX6_become prog_8_method_5_code 2 none ∈ gtb := gtb_mem (in_t2 (List.mem_of_getElem? (i := 237) (rfl))) rfl
theorem kv_157 : Cond.methodLink "NoonShade$Isle" 79 yX4_become ∈ gtb := gtb_mem (in_t2 (List.mem_of_getElem? (i := 239) (by decide +kernel))) rfl
theorem kv_158 : Cond.instanceMethod yX4_become ∈ gtb := gtb_mem (in_t3 (List.mem_of_getElem? (i := 0) (by decide +kernel))) rfl
theorem kv_159 : Cond.selects "NoonShade$Past" yX4_become yX4_become ∈ gtb := gtb_mem (in_t3 (List.mem_of_getElem? (i := 1) (by decide +kernel))) rfl
theorem kv_160 : Cond.code yX4_become prog_6_method_3_code 2 none ∈ gtb := gtb_mem (in_t3 (List.mem_of_getElem? (i := 2) (rfl))) rfl
theorem kv_161 : Cond.constant "java/lang/Integer" 265 1431655765 ∈ gtb := gtb_mem (in_t3 (List.mem_of_getElem? (i := 124) (by decide +kernel))) rfl
theorem kv_162 : Cond.constant "java/lang/Integer" 266 858993459 ∈ gtb := gtb_mem (in_t3 (List.mem_of_getElem? (i := 125) (by decide +kernel))) rfl
theorem kv_163 : Cond.constant "java/lang/Integer" 267 252645135 ∈ gtb := gtb_mem (in_t3 (List.mem_of_getElem? (i := 126) (by decide +kernel))) rfl
theorem kv_164 : Cond.methodLink "NoonShade$Isle" 122 yX6_mixed ∈ gtb := gtb_mem (in_t4 (List.mem_of_getElem? (i := 57) (by decide +kernel))) rfl
theorem kv_165 : Cond.instanceMethod yX6_mixed ∈ gtb := gtb_mem (in_t4 (List.mem_of_getElem? (i := 58) (by decide +kernel))) rfl
theorem kv_166 : Cond.selects "NoonShade$Rows" yX6_mixed yX6_mixed ∈ gtb := gtb_mem (in_t4 (List.mem_of_getElem? (i := 59) (by decide +kernel))) rfl
theorem kv_167 : Cond.code yX6_mixed prog_8_method_7_code 6 (some .long) ∈ gtb := gtb_mem (in_t4 (List.mem_of_getElem? (i := 60) (rfl))) rfl
theorem kv_168 : Cond.constantLong "NoonShade$Isle" 120 31 ∈ gtb := gtb_mem (in_t4 (List.mem_of_getElem? (i := 56) (by decide +kernel))) rfl
theorem kv_169 : Cond.fieldLink "NoonShade" 260 "NoonShade" "fulls" "I" ∈ gtb := gtb_mem (in_t1 (List.mem_of_getElem? (i := 211) (by decide +kernel))) rfl
theorem kv_170 : Cond.fieldLink "NoonShade" 257 "NoonShade" "noes" "I" ∈ gtb := gtb_mem (in_t1 (List.mem_of_getElem? (i := 210) (by decide +kernel))) rfl
theorem kv_171 : Cond.fieldLink "NoonShade" 254 "NoonShade" "bads" "I" ∈ gtb := gtb_mem (in_t1 (List.mem_of_getElem? (i := 209) (by decide +kernel))) rfl
theorem kv_172 : Cond.fieldLink "NoonShade" 10 "NoonShade" "now" "LNoonShade$Isle;" ∈ gtb := gtb_mem (in_t1 (List.mem_of_getElem? (i := 200) (by decide +kernel))) rfl
theorem kv_173 : Cond.fieldLink "NoonShade" 63 "NoonShade$Isle" "casters" "I" ∈ gtb := gtb_mem (in_t1 (List.mem_of_getElem? (i := 74) (by decide +kernel))) rfl
theorem kv_174 : Cond.fieldLink "NoonShade" 84 "NoonShade$Isle" "jars" "I" ∈ gtb := gtb_mem (in_t1 (List.mem_of_getElem? (i := 77) (by decide +kernel))) rfl
theorem kv_175 : Cond.methodLink "NoonShade" 251 yX2_coolInAll ∈ gtb := gtb_mem (in_t4 (List.mem_of_getElem? (i := 18) (by decide +kernel))) rfl
theorem kv_176 : Cond.instanceMethod yX2_coolInAll ∈ gtb := gtb_mem (in_t4 (List.mem_of_getElem? (i := 19) (by decide +kernel))) rfl
theorem kv_177 : Cond.selects "NoonShade$Isle" yX2_coolInAll yX2_coolInAll ∈ gtb := gtb_mem (in_t4 (List.mem_of_getElem? (i := 20) (by decide +kernel))) rfl
theorem kv_178 : Cond.code yX2_coolInAll prog_4_method_20_code 3 (some .int) ∈ gtb := gtb_mem (in_t4 (List.mem_of_getElem? (i := 21) (rfl))) rfl
theorem kv_179 : Cond.fieldLink "NoonShade" 135 "NoonShade$Isle" "hour" "I" ∈ gtb := gtb_mem (in_t1 (List.mem_of_getElem? (i := 64) (by decide +kernel))) rfl
theorem kv_180 : Cond.fieldLink "NoonShade" 274 "NoonShade$Isle" "milked" "I" ∈ gtb := gtb_mem (in_t1 (List.mem_of_getElem? (i := 71) (by decide +kernel))) rfl
theorem kv_181 : Cond.methodLink "NoonShade" 184 yJ6_bitCount_0f7a4 ∈ gtb := gtb_mem (in_t3 (List.mem_of_getElem? (i := 121) (by decide +kernel))) rfl
theorem kv_182 : Cond.static yJ6_bitCount_0f7a4 ∈ gtb := gtb_mem (in_t3 (List.mem_of_getElem? (i := 122) (by decide +kernel))) rfl
theorem kv_183 : Cond.initialized "java/lang/Integer" ∈ gtb := gtb_mem (in_t1 (List.mem_of_getElem? (i := 17) (by decide +kernel))) rfl
theorem kv_184 : Cond.code yJ6_bitCount_0f7a4 prog_12_method_49_code 1 (some .int) ∈ gtb := gtb_mem (in_t3 (List.mem_of_getElem? (i := 123) (rfl))) rfl
theorem kv_185 : Cond.fieldLink "NoonShade" 277 "NoonShade$Isle" "sold" "I" ∈ gtb := gtb_mem (in_t1 (List.mem_of_getElem? (i := 68) (by decide +kernel))) rfl
theorem kv_186 : Cond.fieldLink "NoonShade" 192 "NoonShade$Isle" "notes" "LNoonShade$Rows;" ∈ gtb := gtb_mem (in_t1 (List.mem_of_getElem? (i := 97) (by decide +kernel))) rfl
theorem kv_187 : Cond.fieldLink "NoonShade" 280 "NoonShade$Rows" "size" "I" ∈ gtb := gtb_mem (in_t1 (List.mem_of_getElem? (i := 40) (by decide +kernel))) rfl
theorem kv_188 : Cond.fieldLink "NoonShade" 202 "NoonShade$Isle" "marks" "LNoonShade$Rows;" ∈ gtb := gtb_mem (in_t1 (List.mem_of_getElem? (i := 99) (by decide +kernel))) rfl
theorem kv_189 : Cond.fieldLink "NoonShade" 71 "NoonShade$Isle" "past" "LNoonShade$Past;" ∈ gtb := gtb_mem (in_t1 (List.mem_of_getElem? (i := 101) (by decide +kernel))) rfl
theorem kv_190 : Cond.fieldLink "NoonShade" 283 "NoonShade$Past" "steps" "I" ∈ gtb := gtb_mem (in_t1 (List.mem_of_getElem? (i := 55) (by decide +kernel))) rfl
theorem kv_191 : Cond.fieldLink "NoonShade" 30 "NoonShade" "text" "LNoonShade$Text;" ∈ gtb := gtb_mem (in_t1 (List.mem_of_getElem? (i := 204) (by decide +kernel))) rfl
theorem kv_192 : Cond.fieldLink "NoonShade" 286 "NoonShade$Text" "length" "I" ∈ gtb := gtb_mem (in_t1 (List.mem_of_getElem? (i := 141) (by decide +kernel))) rfl
theorem kv_193 : Cond.fieldLink "NoonShade" 125 "NoonShade$Isle" "cool" "[I" ∈ gtb := gtb_mem (in_t1 (List.mem_of_getElem? (i := 91) (by decide +kernel))) rfl
theorem kv_194 : Cond.methodLink "NoonShade" 289 yX2_mayDraw ∈ gtb := gtb_mem (in_t3 (List.mem_of_getElem? (i := 127) (by decide +kernel))) rfl
theorem kv_195 : Cond.instanceMethod yX2_mayDraw ∈ gtb := gtb_mem (in_t3 (List.mem_of_getElem? (i := 128) (by decide +kernel))) rfl
theorem kv_196 : Cond.selects "NoonShade$Isle" yX2_mayDraw yX2_mayDraw ∈ gtb := gtb_mem (in_t3 (List.mem_of_getElem? (i := 129) (by decide +kernel))) rfl
theorem kv_197 : Cond.code yX2_mayDraw prog_4_method_11_code 4 (some .boolean) ∈ gtb := gtb_mem (in_t3 (List.mem_of_getElem? (i := 130) (rfl))) rfl
theorem kv_198 : Cond.methodLink "NoonShade" 292 yX2_givenBy ∈ gtb := gtb_mem (in_t3 (List.mem_of_getElem? (i := 132) (by decide +kernel))) rfl
theorem kv_199 : Cond.instanceMethod yX2_givenBy ∈ gtb := gtb_mem (in_t3 (List.mem_of_getElem? (i := 133) (by decide +kernel))) rfl
theorem kv_200 : Cond.selects "NoonShade$Isle" yX2_givenBy yX2_givenBy ∈ gtb := gtb_mem (in_t3 (List.mem_of_getElem? (i := 134) (by decide +kernel))) rfl
theorem kv_201 : Cond.code yX2_givenBy prog_4_method_12_code 4 (some .int) ∈ gtb := gtb_mem (in_t3 (List.mem_of_getElem? (i := 135) (rfl))) rfl
theorem kv_202 : Cond.fieldLink "NoonShade" 160 "NoonShade$Isle" "jarTaste" "[I" ∈ gtb := gtb_mem (in_t1 (List.mem_of_getElem? (i := 95) (by decide +kernel))) rfl
theorem kv_203 : Cond.methodLink "NoonShade" 295 Lib.Math.min.name ∈ gtb := gtb_mem (in_t3 (List.mem_of_getElem? (i := 144) (by decide +kernel))) rfl
theorem kv_204 : Cond.fieldLink "NoonShade" 157 "NoonShade$Isle" "jarKind" "[I" ∈ gtb := gtb_mem (in_t1 (List.mem_of_getElem? (i := 87) (by decide +kernel))) rfl
theorem kv_205 : Cond.methodLink "NoonShade" 300 yX3_keptBehind ∈ gtb := gtb_mem (in_t3 (List.mem_of_getElem? (i := 145) (by decide +kernel))) rfl
theorem kv_206 : Cond.methodLink "NoonShade" 154 yX2_givenBehind ∈ gtb := gtb_mem (in_t3 (List.mem_of_getElem? (i := 46) (by decide +kernel))) rfl
theorem kv_207 : Cond.fieldLink "NoonShade" 151 "NoonShade$Isle" "casterTaste" "[I" ∈ gtb := gtb_mem (in_t1 (List.mem_of_getElem? (i := 84) (by decide +kernel))) rfl
theorem kv_208 : Cond.methodLink "NoonShade" 115 yX2_isMilked ∈ gtb := gtb_mem (in_t3 (List.mem_of_getElem? (i := 10) (by decide +kernel))) rfl
theorem kv_209 : Cond.methodLink "NoonShade" 303 yX8_share ∈ gtb := gtb_mem (in_t3 (List.mem_of_getElem? (i := 219) (by decide +kernel))) rfl
theorem kv_210 : Cond.instanceMethod yX8_share ∈ gtb := gtb_mem (in_t3 (List.mem_of_getElem? (i := 221) (by decide +kernel))) rfl
theorem kv_211 : Cond.selects "NoonShade" yX8_share yX8_share ∈ gtb := gtb_mem (in_t0 (List.mem_of_getElem? (i := 22) (by decide +kernel))) rfl
theorem kv_212 : Cond.initialized "NoonShade" ∈ gtb := gtb_mem (in_t1 (List.mem_of_getElem? (i := 1) (by decide +kernel))) rfl
theorem kv_213 : Cond.code yX8_share prog_1_method_44_code 4 (some .int) ∈ gtb := gtb_mem (in_t3 (List.mem_of_getElem? (i := 222) (rfl))) rfl
theorem kv_214 : Cond.methodLink "NoonShade" 306 yX8_greatestDivisor ∈ gtb := gtb_mem (in_t4 (List.mem_of_getElem? (i := 0) (by decide +kernel))) rfl
theorem kv_215 : Cond.static yX8_greatestDivisor ∈ gtb := gtb_mem (in_t4 (List.mem_of_getElem? (i := 1) (by decide +kernel))) rfl
theorem kv_216 : Cond.code yX8_greatestDivisor prog_1_method_46_code 7 (some .long) ∈ gtb := gtb_mem (in_t4 (List.mem_of_getElem? (i := 2) (rfl))) rfl
theorem kv_217 : Cond.fieldLink "NoonShade" 48 "NoonShade" "above" "J" ∈ gtb := gtb_mem (in_t1 (List.mem_of_getElem? (i := 207) (by decide +kernel))) rfl
theorem kv_218 : Cond.fieldLink "NoonShade" 52 "NoonShade" "below" "J" ∈ gtb := gtb_mem (in_t1 (List.mem_of_getElem? (i := 208) (by decide +kernel))) rfl
theorem kv_219 : Cond.methodLink "NoonShade" 108 yX2_hasCaster ∈ gtb := gtb_mem (in_t3 (List.mem_of_getElem? (i := 8) (by decide +kernel))) rfl
theorem kv_220 : Cond.instanceMethod yX2_hasCaster ∈ gtb := gtb_mem (in_t2 (List.mem_of_getElem? (i := 163) (by decide +kernel))) rfl
theorem kv_221 : Cond.selects "NoonShade$Isle" yX2_hasCaster yX2_hasCaster ∈ gtb := gtb_mem (in_t2 (List.mem_of_getElem? (i := 164) (by decide +kernel))) rfl
theorem kv_222 : Cond.code yX2_hasCaster prog_4_method_4_code 2 (some .boolean) ∈ gtb := gtb_mem (in_t2 (List.mem_of_getElem? (i := 165) (rfl))) rfl
theorem kv_223 : Cond.methodLink "NoonShade" 112 yX2_hasJar ∈ gtb := gtb_mem (in_t3 (List.mem_of_getElem? (i := 9) (by decide +kernel))) rfl
theorem kv_224 : Cond.instanceMethod yX2_hasJar ∈ gtb := gtb_mem (in_t2 (List.mem_of_getElem? (i := 171) (by decide +kernel))) rfl
theorem kv_225 : Cond.selects "NoonShade$Isle" yX2_hasJar yX2_hasJar ∈ gtb := gtb_mem (in_t2 (List.mem_of_getElem? (i := 172) (by decide +kernel))) rfl
theorem kv_226 : Cond.code yX2_hasJar prog_4_method_5_code 2 (some .boolean) ∈ gtb := gtb_mem (in_t2 (List.mem_of_getElem? (i := 173) (rfl))) rfl
theorem kv_227 : Cond.methodLink "NoonShade" 59 yX8_refused ∈ gtb := gtb_mem (in_t2 (List.mem_of_getElem? (i := 4) (by decide +kernel))) rfl
theorem kv_228 : Cond.instanceMethod yX8_refused ∈ gtb := gtb_mem (in_t2 (List.mem_of_getElem? (i := 6) (by decide +kernel))) rfl
theorem kv_229 : Cond.selects "NoonShade" yX8_refused yX8_refused ∈ gtb := gtb_mem (in_t0 (List.mem_of_getElem? (i := 0) (by decide +kernel))) rfl
theorem kv_230 : Cond.code yX8_refused prog_1_method_39_code 2 (some .int) ∈ gtb := gtb_mem (in_t2 (List.mem_of_getElem? (i := 7) (rfl))) rfl
theorem kv_231 : Cond.methodLink "NoonShade" 118 yX4_remember ∈ gtb := gtb_mem (in_t3 (List.mem_of_getElem? (i := 11) (by decide +kernel))) rfl
theorem kv_232 : Cond.instanceMethod yX4_remember ∈ gtb := gtb_mem (in_t3 (List.mem_of_getElem? (i := 12) (by decide +kernel))) rfl
theorem kv_233 : Cond.selects "NoonShade$Past" yX4_remember yX4_remember ∈ gtb := gtb_mem (in_t3 (List.mem_of_getElem? (i := 13) (by decide +kernel))) rfl
theorem kv_234 : Cond.code yX4_remember prog_6_method_4_code 3 none ∈ gtb := gtb_mem (in_t3 (List.mem_of_getElem? (i := 14) (rfl))) rfl
theorem kv_235 : Cond.methodLink "NoonShade" 121 yX2_draw ∈ gtb := gtb_mem (in_t3 (List.mem_of_getElem? (i := 15) (by decide +kernel))) rfl
theorem kv_236 : Cond.instanceMethod yX2_draw ∈ gtb := gtb_mem (in_t2 (List.mem_of_getElem? (i := 181) (by decide +kernel))) rfl
theorem kv_237 : Cond.selects "NoonShade$Isle" yX2_draw yX2_draw ∈ gtb := gtb_mem (in_t2 (List.mem_of_getElem? (i := 182) (by decide +kernel))) rfl
theorem kv_238 : Cond.code yX2_draw prog_4_method_13_code 3 (some .int) ∈ gtb := gtb_mem (in_t2 (List.mem_of_getElem? (i := 183) (rfl))) rfl
theorem kv_239 : Cond.methodLink "NoonShade" 129 yX2_pour ∈ gtb := gtb_mem (in_t3 (List.mem_of_getElem? (i := 20) (by decide +kernel))) rfl
theorem kv_240 : Cond.instanceMethod yX2_pour ∈ gtb := gtb_mem (in_t2 (List.mem_of_getElem? (i := 203) (by decide +kernel))) rfl
theorem kv_241 : Cond.selects "NoonShade$Isle" yX2_pour yX2_pour ∈ gtb := gtb_mem (in_t2 (List.mem_of_getElem? (i := 204) (by decide +kernel))) rfl
theorem kv_242 : Cond.code yX2_pour prog_4_method_14_code 4 (some .int) ∈ gtb := gtb_mem (in_t2 (List.mem_of_getElem? (i := 205) (rfl))) rfl
theorem kv_243 : Cond.methodLink "NoonShade" 132 yX2_sell ∈ gtb := gtb_mem (in_t3 (List.mem_of_getElem? (i := 25) (by decide +kernel))) rfl
theorem kv_244 : Cond.instanceMethod yX2_sell ∈ gtb := gtb_mem (in_t3 (List.mem_of_getElem? (i := 26) (by decide +kernel))) rfl
theorem kv_245 : Cond.selects "NoonShade$Isle" yX2_sell yX2_sell ∈ gtb := gtb_mem (in_t3 (List.mem_of_getElem? (i := 27) (by decide +kernel))) rfl
theorem kv_246 : Cond.code yX2_sell prog_4_method_15_code 4 (some .int) ∈ gtb := gtb_mem (in_t3 (List.mem_of_getElem? (i := 28) (rfl))) rfl
theorem kv_247 : Cond.methodLink "NoonShade" 55 yX8_within ∈ gtb := gtb_mem (in_t2 (List.mem_of_getElem? (i := 1) (by decide +kernel))) rfl
theorem kv_248 : Cond.static yX8_within ∈ gtb := gtb_mem (in_t2 (List.mem_of_getElem? (i := 2) (by decide +kernel))) rfl
theorem kv_249 : Cond.code yX8_within prog_1_method_38_code 3 (some .boolean) ∈ gtb := gtb_mem (in_t2 (List.mem_of_getElem? (i := 3) (rfl))) rfl
theorem kv_250 : Cond.methodLink "NoonShade" 138 yX2_passHours ∈ gtb := gtb_mem (in_t3 (List.mem_of_getElem? (i := 33) (by decide +kernel))) rfl
theorem kv_251 : Cond.instanceMethod yX2_passHours ∈ gtb := gtb_mem (in_t2 (List.mem_of_getElem? (i := 211) (by decide +kernel))) rfl
theorem kv_252 : Cond.selects "NoonShade$Isle" yX2_passHours yX2_passHours ∈ gtb := gtb_mem (in_t2 (List.mem_of_getElem? (i := 212) (by decide +kernel))) rfl
theorem kv_253 : Cond.code yX2_passHours prog_4_method_18_code 3 none ∈ gtb := gtb_mem (in_t2 (List.mem_of_getElem? (i := 213) (rfl))) rfl
theorem kv_254 : Cond.methodLink "NoonShade" 141 yX4_bringBack ∈ gtb := gtb_mem (in_t3 (List.mem_of_getElem? (i := 38) (by decide +kernel))) rfl
theorem kv_255 : Cond.instanceMethod yX4_bringBack ∈ gtb := gtb_mem (in_t3 (List.mem_of_getElem? (i := 39) (by decide +kernel))) rfl
theorem kv_256 : Cond.selects "NoonShade$Past" yX4_bringBack yX4_bringBack ∈ gtb := gtb_mem (in_t3 (List.mem_of_getElem? (i := 40) (by decide +kernel))) rfl
theorem kv_257 : Cond.code yX4_bringBack prog_6_method_5_code 3 (some .boolean) ∈ gtb := gtb_mem (in_t3 (List.mem_of_getElem? (i := 41) (rfl))) rfl
theorem kv_258 : Cond.fieldLink "NoonShade" 145 "NoonShade$Isle" "casterKind" "[I" ∈ gtb := gtb_mem (in_t1 (List.mem_of_getElem? (i := 80) (by decide +kernel))) rfl
theorem kv_259 : Cond.fieldLink "NoonShade" 148 "NoonShade$Isle" "height" "[I" ∈ gtb := gtb_mem (in_t1 (List.mem_of_getElem? (i := 82) (by decide +kernel))) rfl
theorem kv_260 : Cond.methodLink "NoonShade" 163 yX2_coolBehind ∈ gtb := gtb_mem (in_t3 (List.mem_of_getElem? (i := 51) (by decide +kernel))) rfl
theorem kv_261 : Cond.instanceMethod yX2_coolBehind ∈ gtb := gtb_mem (in_t3 (List.mem_of_getElem? (i := 52) (by decide +kernel))) rfl
theorem kv_262 : Cond.selects "NoonShade$Isle" yX2_coolBehind yX2_coolBehind ∈ gtb := gtb_mem (in_t3 (List.mem_of_getElem? (i := 53) (by decide +kernel))) rfl
theorem kv_263 : Cond.code yX2_coolBehind prog_4_method_10_code 3 (some .int) ∈ gtb := gtb_mem (in_t3 (List.mem_of_getElem? (i := 54) (rfl))) rfl
theorem kv_264 : Cond.methodLink "NoonShade" 166 yX3_kept ∈ gtb := gtb_mem (in_t3 (List.mem_of_getElem? (i := 75) (by decide +kernel))) rfl
theorem kv_265 : Cond.fieldLink "NoonShade" 37 "NoonShade" "plan" "LNoonShade$Plan;" ∈ gtb := gtb_mem (in_t1 (List.mem_of_getElem? (i := 205) (by decide +kernel))) rfl
theorem kv_266 : Cond.methodLink "NoonShade" 171 yX5_make ∈ gtb := gtb_mem (in_t3 (List.mem_of_getElem? (i := 80) (by decide +kernel))) rfl
theorem kv_267 : Cond.instanceMethod yX5_make ∈ gtb := gtb_mem (in_t3 (List.mem_of_getElem? (i := 81) (by decide +kernel))) rfl
theorem kv_268 : Cond.selects "NoonShade$Plan" yX5_make yX5_make ∈ gtb := gtb_mem (in_t3 (List.mem_of_getElem? (i := 82) (by decide +kernel))) rfl
theorem kv_269 : Cond.code yX5_make prog_7_method_2_code 7 none ∈ gtb := gtb_mem (in_t3 (List.mem_of_getElem? (i := 83) (rfl))) rfl
theorem kv_270 : Cond.fieldLink "NoonShade" 178 "NoonShade$Plan" "row" "[I" ∈ gtb := gtb_mem (in_t1 (List.mem_of_getElem? (i := 172) (by decide +kernel))) rfl
theorem kv_271 : Cond.fieldLink "NoonShade" 175 "NoonShade$Plan" "best" "I" ∈ gtb := gtb_mem (in_t1 (List.mem_of_getElem? (i := 176) (by decide +kernel))) rfl
theorem kv_272 : Cond.methodLink "NoonShade" 181 yX8_fewestLadles ∈ gtb := gtb_mem (in_t3 (List.mem_of_getElem? (i := 117) (by decide +kernel))) rfl
theorem kv_273 : Cond.instanceMethod yX8_fewestLadles ∈ gtb := gtb_mem (in_t3 (List.mem_of_getElem? (i := 119) (by decide +kernel))) rfl
theorem kv_274 : Cond.selects "NoonShade" yX8_fewestLadles yX8_fewestLadles ∈ gtb := gtb_mem (in_t0 (List.mem_of_getElem? (i := 17) (by decide +kernel))) rfl
theorem kv_275 : Cond.code yX8_fewestLadles prog_1_method_41_code 7 (some .int) ∈ gtb := gtb_mem (in_t3 (List.mem_of_getElem? (i := 120) (rfl))) rfl
theorem kv_276 : Cond.methodLink "NoonShade" 189 yX8_pouredBehind ∈ gtb := gtb_mem (in_t3 (List.mem_of_getElem? (i := 140) (by decide +kernel))) rfl
theorem kv_277 : Cond.instanceMethod yX8_pouredBehind ∈ gtb := gtb_mem (in_t3 (List.mem_of_getElem? (i := 142) (by decide +kernel))) rfl
theorem kv_278 : Cond.selects "NoonShade" yX8_pouredBehind yX8_pouredBehind ∈ gtb := gtb_mem (in_t0 (List.mem_of_getElem? (i := 18) (by decide +kernel))) rfl
theorem kv_279 : Cond.code yX8_pouredBehind prog_1_method_42_code 5 (some .int) ∈ gtb := gtb_mem (in_t3 (List.mem_of_getElem? (i := 143) (rfl))) rfl
theorem kv_280 : Cond.fieldLink "NoonShade" 44 "NoonShade" "guess" "LNoonShade$Guess;" ∈ gtb := gtb_mem (in_t1 (List.mem_of_getElem? (i := 206) (by decide +kernel))) rfl
theorem kv_281 : Cond.methodLink "NoonShade" 206 yX1_fitting ∈ gtb := gtb_mem (in_t3 (List.mem_of_getElem? (i := 172) (by decide +kernel))) rfl
theorem kv_282 : Cond.instanceMethod yX1_fitting ∈ gtb := gtb_mem (in_t3 (List.mem_of_getElem? (i := 173) (by decide +kernel))) rfl
theorem kv_283 : Cond.selects "NoonShade$Guess" yX1_fitting yX1_fitting ∈ gtb := gtb_mem (in_t3 (List.mem_of_getElem? (i := 174) (by decide +kernel))) rfl
theorem kv_284 : Cond.code yX1_fitting prog_3_method_3_code 6 (some .int) ∈ gtb := gtb_mem (in_t3 (List.mem_of_getElem? (i := 175) (rfl))) rfl
theorem kv_285 : Cond.methodLink "NoonShade" 210 yX1_tellingMost ∈ gtb := gtb_mem (in_t3 (List.mem_of_getElem? (i := 189) (by decide +kernel))) rfl
theorem kv_286 : Cond.instanceMethod yX1_tellingMost ∈ gtb := gtb_mem (in_t3 (List.mem_of_getElem? (i := 190) (by decide +kernel))) rfl
theorem kv_287 : Cond.selects "NoonShade$Guess" yX1_tellingMost yX1_tellingMost ∈ gtb := gtb_mem (in_t3 (List.mem_of_getElem? (i := 191) (by decide +kernel))) rfl
theorem kv_288 : Cond.code yX1_tellingMost prog_3_method_4_code 10 (some .int) ∈ gtb := gtb_mem (in_t3 (List.mem_of_getElem? (i := 192) (rfl))) rfl
theorem kv_289 : Cond.methodLink "NoonShade" 213 yX8_rests ∈ gtb := gtb_mem (in_t3 (List.mem_of_getElem? (i := 215) (by decide +kernel))) rfl
theorem kv_290 : Cond.instanceMethod yX8_rests ∈ gtb := gtb_mem (in_t3 (List.mem_of_getElem? (i := 217) (by decide +kernel))) rfl
theorem kv_291 : Cond.selects "NoonShade" yX8_rests yX8_rests ∈ gtb := gtb_mem (in_t0 (List.mem_of_getElem? (i := 21) (by decide +kernel))) rfl
theorem kv_292 : Cond.code yX8_rests prog_1_method_43_code 6 (some .boolean) ∈ gtb := gtb_mem (in_t3 (List.mem_of_getElem? (i := 218) (rfl))) rfl
theorem kv_293 : Cond.methodLink "NoonShade" 217 yX5_waysToKeep ∈ gtb := gtb_mem (in_t3 (List.mem_of_getElem? (i := 227) (by decide +kernel))) rfl
theorem kv_294 : Cond.instanceMethod yX5_waysToKeep ∈ gtb := gtb_mem (in_t3 (List.mem_of_getElem? (i := 228) (by decide +kernel))) rfl
theorem kv_295 : Cond.selects "NoonShade$Plan" yX5_waysToKeep yX5_waysToKeep ∈ gtb := gtb_mem (in_t3 (List.mem_of_getElem? (i := 229) (by decide +kernel))) rfl
theorem kv_296 : Cond.code yX5_waysToKeep prog_7_method_9_code 13 (some .long) ∈ gtb := gtb_mem (in_t3 (List.mem_of_getElem? (i := 230) (rfl))) rfl
theorem kv_297 : Cond.methodLink "NoonShade" 221 yX5_waysInAll ∈ gtb := gtb_mem (in_t3 (List.mem_of_getElem? (i := 231) (by decide +kernel))) rfl
theorem kv_298 : Cond.instanceMethod yX5_waysInAll ∈ gtb := gtb_mem (in_t3 (List.mem_of_getElem? (i := 232) (by decide +kernel))) rfl
theorem kv_299 : Cond.selects "NoonShade$Plan" yX5_waysInAll yX5_waysInAll ∈ gtb := gtb_mem (in_t3 (List.mem_of_getElem? (i := 233) (by decide +kernel))) rfl
theorem kv_300 : Cond.code yX5_waysInAll prog_7_method_10_code 4 (some .long) ∈ gtb := gtb_mem (in_t3 (List.mem_of_getElem? (i := 234) (rfl))) rfl
theorem kv_301 : Cond.methodLink "NoonShade" 225 yX8_setFraction ∈ gtb := gtb_mem (in_t3 (List.mem_of_getElem? (i := 236) (by decide +kernel))) rfl
theorem kv_302 : Cond.instanceMethod yX8_setFraction ∈ gtb := gtb_mem (in_t3 (List.mem_of_getElem? (i := 238) (by decide +kernel))) rfl
theorem kv_303 : Cond.selects "NoonShade" yX8_setFraction yX8_setFraction ∈ gtb := gtb_mem (in_t0 (List.mem_of_getElem? (i := 23) (by decide +kernel))) rfl
theorem kv_304 : Cond.code yX8_setFraction prog_1_method_45_code 7 none ∈ gtb := gtb_mem (in_t3 (List.mem_of_getElem? (i := 239) (rfl))) rfl
theorem kv_305 : Cond.constant "NoonShade" 229 999999 ∈ gtb := gtb_mem (in_t4 (List.mem_of_getElem? (i := 7) (by decide +kernel))) rfl
theorem kv_306 : Cond.fieldLink "NoonShade" 16 "NoonShade" "draft" "LNoonShade$Isle;" ∈ gtb := gtb_mem (in_t1 (List.mem_of_getElem? (i := 201) (by decide +kernel))) rfl
theorem kv_307 : Cond.methodLink "NoonShade" 104 yX2_become ∈ gtb := gtb_mem (in_t2 (List.mem_of_getElem? (i := 227) (by decide +kernel))) rfl
theorem kv_308 : Cond.instanceMethod yX2_become ∈ gtb := gtb_mem (in_t2 (List.mem_of_getElem? (i := 228) (by decide +kernel))) rfl
theorem kv_309 : Cond.selects "NoonShade$Isle" yX2_become yX2_become ∈ gtb := gtb_mem (in_t2 (List.mem_of_getElem? (i := 229) (by decide +kernel))) rfl
theorem kv_310 : Cond.code yX2_become prog_4_method_3_code 2 none ∈ gtb := gtb_mem (in_t2 (List.mem_of_getElem? (i := 230) (rfl))) rfl
theorem kv_311 : Cond.constantLong "NoonShade" 230 1103515245 ∈ gtb := gtb_mem (in_t4 (List.mem_of_getElem? (i := 8) (by decide +kernel))) rfl
theorem kv_312 : Cond.constantLong "NoonShade" 232 12345 ∈ gtb := gtb_mem (in_t4 (List.mem_of_getElem? (i := 9) (by decide +kernel))) rfl
theorem kv_313 : Cond.constantLong "NoonShade" 234 2147483648 ∈ gtb := gtb_mem (in_t4 (List.mem_of_getElem? (i := 10) (by decide +kernel))) rfl
theorem kv_314 : Cond.constantLong "NoonShade" 236 65536 ∈ gtb := gtb_mem (in_t4 (List.mem_of_getElem? (i := 11) (by decide +kernel))) rfl
theorem kv_315 : Cond.constantLong "NoonShade" 238 7 ∈ gtb := gtb_mem (in_t4 (List.mem_of_getElem? (i := 12) (by decide +kernel))) rfl
theorem kv_316 : Cond.constantLong "NoonShade" 240 1048576 ∈ gtb := gtb_mem (in_t4 (List.mem_of_getElem? (i := 13) (by decide +kernel))) rfl
theorem kv_317 : Cond.constantLong "NoonShade" 242 4 ∈ gtb := gtb_mem (in_t4 (List.mem_of_getElem? (i := 14) (by decide +kernel))) rfl
theorem kv_318 : Cond.constantLong "NoonShade" 244 16384 ∈ gtb := gtb_mem (in_t4 (List.mem_of_getElem? (i := 15) (by decide +kernel))) rfl
theorem kv_319 : Cond.constantLong "NoonShade" 246 2 ∈ gtb := gtb_mem (in_t4 (List.mem_of_getElem? (i := 16) (by decide +kernel))) rfl
theorem kv_320 : Cond.methodLink "NoonShade" 248 yX2_passHour ∈ gtb := gtb_mem (in_t4 (List.mem_of_getElem? (i := 17) (by decide +kernel))) rfl
theorem kv_321 : Cond.methodLink "NoonShade" 263 yX8_counted ∈ gtb := gtb_mem (in_t4 (List.mem_of_getElem? (i := 42) (by decide +kernel))) rfl
theorem kv_322 : Cond.instanceMethod yX8_counted ∈ gtb := gtb_mem (in_t4 (List.mem_of_getElem? (i := 44) (by decide +kernel))) rfl
theorem kv_323 : Cond.selects "NoonShade" yX8_counted yX8_counted ∈ gtb := gtb_mem (in_t0 (List.mem_of_getElem? (i := 24) (by decide +kernel))) rfl
theorem kv_324 : Cond.code yX8_counted prog_1_method_40_code 2 (some .int) ∈ gtb := gtb_mem (in_t4 (List.mem_of_getElem? (i := 45) (rfl))) rfl
theorem kv_325 : Cond.constantLong "NoonShade" 266 1879 ∈ gtb := gtb_mem (in_t4 (List.mem_of_getElem? (i := 50) (by decide +kernel))) rfl
theorem kv_326 : Cond.methodLink "NoonShade" 270 yX2_mixed ∈ gtb := gtb_mem (in_t4 (List.mem_of_getElem? (i := 52) (by decide +kernel))) rfl
theorem kv_327 : Cond.instanceMethod yX2_mixed ∈ gtb := gtb_mem (in_t4 (List.mem_of_getElem? (i := 53) (by decide +kernel))) rfl
theorem kv_328 : Cond.selects "NoonShade$Isle" yX2_mixed yX2_mixed ∈ gtb := gtb_mem (in_t4 (List.mem_of_getElem? (i := 54) (by decide +kernel))) rfl
theorem kv_329 : Cond.code yX2_mixed prog_4_method_21_code 6 (some .long) ∈ gtb := gtb_mem (in_t4 (List.mem_of_getElem? (i := 55) (rfl))) rfl
theorem kv_330 : Cond.constantLong "NoonShade" 268 31 ∈ gtb := gtb_mem (in_t4 (List.mem_of_getElem? (i := 51) (by decide +kernel))) rfl
theorem kv_331 : Cond.methodLink "NoonShade" 67 yX2_begin ∈ gtb := gtb_mem (in_t2 (List.mem_of_getElem? (i := 8) (by decide +kernel))) rfl
theorem kv_332 : Cond.instanceMethod yX2_begin ∈ gtb := gtb_mem (in_t2 (List.mem_of_getElem? (i := 9) (by decide +kernel))) rfl
theorem kv_333 : Cond.selects "NoonShade$Isle" yX2_begin yX2_begin ∈ gtb := gtb_mem (in_t2 (List.mem_of_getElem? (i := 10) (by decide +kernel))) rfl
theorem kv_334 : Cond.code yX2_begin prog_4_method_2_code 2 none ∈ gtb := gtb_mem (in_t2 (List.mem_of_getElem? (i := 11) (rfl))) rfl
theorem kv_335 : Cond.methodLink "NoonShade" 75 yX4_empty ∈ gtb := gtb_mem (in_t2 (List.mem_of_getElem? (i := 24) (by decide +kernel))) rfl
theorem kv_336 : Cond.methodLink "NoonShade" 80 yX2_addCaster ∈ gtb := gtb_mem (in_t2 (List.mem_of_getElem? (i := 25) (by decide +kernel))) rfl
theorem kv_337 : Cond.instanceMethod yX2_addCaster ∈ gtb := gtb_mem (in_t2 (List.mem_of_getElem? (i := 26) (by decide +kernel))) rfl
theorem kv_338 : Cond.selects "NoonShade$Isle" yX2_addCaster yX2_addCaster ∈ gtb := gtb_mem (in_t2 (List.mem_of_getElem? (i := 27) (by decide +kernel))) rfl
theorem kv_339 : Cond.code yX2_addCaster prog_4_method_7_code 4 (some .int) ∈ gtb := gtb_mem (in_t2 (List.mem_of_getElem? (i := 28) (rfl))) rfl
theorem kv_340 : Cond.methodLink "NoonShade" 87 yX2_addJar ∈ gtb := gtb_mem (in_t2 (List.mem_of_getElem? (i := 33) (by decide +kernel))) rfl
theorem kv_341 : Cond.instanceMethod yX2_addJar ∈ gtb := gtb_mem (in_t2 (List.mem_of_getElem? (i := 34) (by decide +kernel))) rfl
theorem kv_342 : Cond.selects "NoonShade$Isle" yX2_addJar yX2_addJar ∈ gtb := gtb_mem (in_t2 (List.mem_of_getElem? (i := 35) (by decide +kernel))) rfl
theorem kv_343 : Cond.code yX2_addJar prog_4_method_8_code 2 (some .int) ∈ gtb := gtb_mem (in_t2 (List.mem_of_getElem? (i := 36) (rfl))) rfl
theorem kv_344 : Cond.methodLink "NoonShade" 196 yX6_isFull ∈ gtb := gtb_mem (in_t3 (List.mem_of_getElem? (i := 150) (by decide +kernel))) rfl
theorem kv_345 : Cond.methodLink "NoonShade" 199 yX6_add ∈ gtb := gtb_mem (in_t3 (List.mem_of_getElem? (i := 154) (by decide +kernel))) rfl
theorem kv_346 : Cond.instanceMethod yX6_add ∈ gtb := gtb_mem (in_t3 (List.mem_of_getElem? (i := 155) (by decide +kernel))) rfl
theorem kv_347 : Cond.selects "NoonShade$Rows" yX6_add yX6_add ∈ gtb := gtb_mem (in_t3 (List.mem_of_getElem? (i := 156) (by decide +kernel))) rfl
theorem kv_348 : Cond.code yX6_add prog_8_method_3_code 6 (some .int) ∈ gtb := gtb_mem (in_t3 (List.mem_of_getElem? (i := 157) (rfl))) rfl
theorem kv_349 : Cond.methodLink "NoonShade" 205 yX6_empty ∈ gtb := gtb_mem (in_t3 (List.mem_of_getElem? (i := 167) (by decide +kernel))) rfl
