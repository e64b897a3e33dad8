section
-- ===== PART A: goes FIRST, ahead of the names: the tables' words, and 'selects' of the private methods out of them =====
/-- a private method of a class that the tables say can be made, by its rows of tables_1 -/
def lw_okq (q : MethodName × Nat) : Prop := (q.1.cls ≠ "java/lang/invoke/MethodHandle" ∧ q.1.cls ≠ "java/lang/invoke/VarHandle") ∧ Cond.instantiable q.1.cls q.2 ∈ tables_1 ∧ Cond.privateMethod q.1 ∈ tables_1 ∧ Cond.instanceMethod q.1 ∈ tables_1
theorem lw_p0 : lw_okq (⟨"NoonShade", "refused", "(I)I"⟩, 12) := ⟨⟨by decide +kernel, by decide +kernel⟩, List.mem_of_getElem? (i := 19) (by decide +kernel), List.mem_of_getElem? (i := 245) (by decide +kernel), List.mem_of_getElem? (i := 246) (by decide +kernel)⟩
theorem lw_p1 : lw_okq (⟨"NoonShade$Text", "step", "()V"⟩, 7) := ⟨⟨by decide +kernel, by decide +kernel⟩, List.mem_of_getElem? (i := 133) (by decide +kernel), List.mem_of_getElem? (i := 308) (by decide +kernel), List.mem_of_getElem? (i := 309) (by decide +kernel)⟩
theorem lw_p2 : lw_okq (⟨"NoonShade$Text", "takeNumber", "()V"⟩, 7) := ⟨⟨by decide +kernel, by decide +kernel⟩, List.mem_of_getElem? (i := 133) (by decide +kernel), List.mem_of_getElem? (i := 318) (by decide +kernel), List.mem_of_getElem? (i := 319) (by decide +kernel)⟩
theorem lw_p3 : lw_okq (⟨"NoonShade$Text", "wordNumber", "()I"⟩, 7) := ⟨⟨by decide +kernel, by decide +kernel⟩, List.mem_of_getElem? (i := 133) (by decide +kernel), List.mem_of_getElem? (i := 322) (by decide +kernel), List.mem_of_getElem? (i := 323) (by decide +kernel)⟩
theorem lw_p4 : lw_okq (⟨"NoonShade$Text", "isWord", "(Ljava/lang/String;)Z"⟩, 7) := ⟨⟨by decide +kernel, by decide +kernel⟩, List.mem_of_getElem? (i := 133) (by decide +kernel), List.mem_of_getElem? (i := 327) (by decide +kernel), List.mem_of_getElem? (i := 328) (by decide +kernel)⟩
theorem lw_p5 : lw_okq (⟨"NoonShade$Text", "takeNumbers", "(LNoonShade$Isle;I)Z"⟩, 7) := ⟨⟨by decide +kernel, by decide +kernel⟩, List.mem_of_getElem? (i := 133) (by decide +kernel), List.mem_of_getElem? (i := 387) (by decide +kernel), List.mem_of_getElem? (i := 388) (by decide +kernel)⟩
theorem lw_p6 : lw_okq (⟨"NoonShade$Text", "fits", "(LNoonShade$Isle;II)Z"⟩, 7) := ⟨⟨by decide +kernel, by decide +kernel⟩, List.mem_of_getElem? (i := 133) (by decide +kernel), List.mem_of_getElem? (i := 394) (by decide +kernel), List.mem_of_getElem? (i := 395) (by decide +kernel)⟩
theorem lw_p7 : lw_okq (⟨"NoonShade$Text", "fitsCaster", "(I)Z"⟩, 7) := ⟨⟨by decide +kernel, by decide +kernel⟩, List.mem_of_getElem? (i := 133) (by decide +kernel), List.mem_of_getElem? (i := 398) (by decide +kernel), List.mem_of_getElem? (i := 399) (by decide +kernel)⟩
theorem lw_p8 : lw_okq (⟨"NoonShade$Text", "carryOut", "(LNoonShade$Isle;I)V"⟩, 7) := ⟨⟨by decide +kernel, by decide +kernel⟩, List.mem_of_getElem? (i := 133) (by decide +kernel), List.mem_of_getElem? (i := 415) (by decide +kernel), List.mem_of_getElem? (i := 416) (by decide +kernel)⟩
theorem lw_p9 : lw_okq (⟨"NoonShade$Isle", "fill", "(III)I"⟩, 14) := ⟨⟨by decide +kernel, by decide +kernel⟩, List.mem_of_getElem? (i := 27) (by decide +kernel), List.mem_of_getElem? (i := 438) (by decide +kernel), List.mem_of_getElem? (i := 439) (by decide +kernel)⟩
theorem lw_p10 : lw_okq (⟨"NoonShade$Isle", "drain", "(II)V"⟩, 14) := ⟨⟨by decide +kernel, by decide +kernel⟩, List.mem_of_getElem? (i := 27) (by decide +kernel), List.mem_of_getElem? (i := 447) (by decide +kernel), List.mem_of_getElem? (i := 448) (by decide +kernel)⟩
theorem lw_p11 : lw_okq (⟨"NoonShade$Plan", "askCasters", "(LNoonShade$Isle;I)V"⟩, 6) := ⟨⟨by decide +kernel, by decide +kernel⟩, List.mem_of_getElem? (i := 164) (by decide +kernel), List.mem_of_getElem? (i := 565) (by decide +kernel), List.mem_of_getElem? (i := 566) (by decide +kernel)⟩
theorem lw_p12 : lw_okq (⟨"NoonShade$Plan", "mostFrom", "(II)I"⟩, 6) := ⟨⟨by decide +kernel, by decide +kernel⟩, List.mem_of_getElem? (i := 164) (by decide +kernel), List.mem_of_getElem? (i := 572) (by decide +kernel), List.mem_of_getElem? (i := 573) (by decide +kernel)⟩
theorem lw_p13 : lw_okq (⟨"NoonShade$Plan", "with", "(III)I"⟩, 6) := ⟨⟨by decide +kernel, by decide +kernel⟩, List.mem_of_getElem? (i := 164) (by decide +kernel), List.mem_of_getElem? (i := 576) (by decide +kernel), List.mem_of_getElem? (i := 577) (by decide +kernel)⟩
theorem lw_p14 : lw_okq (⟨"NoonShade$Plan", "chooseRow", "(LNoonShade$Isle;I)V"⟩, 6) := ⟨⟨by decide +kernel, by decide +kernel⟩, List.mem_of_getElem? (i := 164) (by decide +kernel), List.mem_of_getElem? (i := 582) (by decide +kernel), List.mem_of_getElem? (i := 583) (by decide +kernel)⟩
theorem lw_p15 : lw_okq (⟨"NoonShade$Plan", "firstThatReaches", "(II)I"⟩, 6) := ⟨⟨by decide +kernel, by decide +kernel⟩, List.mem_of_getElem? (i := 164) (by decide +kernel), List.mem_of_getElem? (i := 586) (by decide +kernel), List.mem_of_getElem? (i := 587) (by decide +kernel)⟩
def lw_privs_1 : List (MethodName × Nat) := [(⟨"NoonShade", "refused", "(I)I"⟩, 12), (⟨"NoonShade$Text", "step", "()V"⟩, 7), (⟨"NoonShade$Text", "takeNumber", "()V"⟩, 7), (⟨"NoonShade$Text", "wordNumber", "()I"⟩, 7), (⟨"NoonShade$Text", "isWord", "(Ljava/lang/String;)Z"⟩, 7), (⟨"NoonShade$Text", "takeNumbers", "(LNoonShade$Isle;I)Z"⟩, 7), (⟨"NoonShade$Text", "fits", "(LNoonShade$Isle;II)Z"⟩, 7), (⟨"NoonShade$Text", "fitsCaster", "(I)Z"⟩, 7), (⟨"NoonShade$Text", "carryOut", "(LNoonShade$Isle;I)V"⟩, 7), (⟨"NoonShade$Isle", "fill", "(III)I"⟩, 14), (⟨"NoonShade$Isle", "drain", "(II)V"⟩, 14), (⟨"NoonShade$Plan", "askCasters", "(LNoonShade$Isle;I)V"⟩, 6), (⟨"NoonShade$Plan", "mostFrom", "(II)I"⟩, 6), (⟨"NoonShade$Plan", "with", "(III)I"⟩, 6), (⟨"NoonShade$Plan", "chooseRow", "(LNoonShade$Isle;I)V"⟩, 6), (⟨"NoonShade$Plan", "firstThatReaches", "(II)I"⟩, 6)]
theorem lw_r1 : ∀ q ∈ lw_privs_1, lw_okq q := List.forall_mem_cons.mpr ⟨lw_p0, List.forall_mem_cons.mpr ⟨lw_p1, List.forall_mem_cons.mpr ⟨lw_p2, List.forall_mem_cons.mpr ⟨lw_p3, List.forall_mem_cons.mpr ⟨lw_p4, List.forall_mem_cons.mpr ⟨lw_p5, List.forall_mem_cons.mpr ⟨lw_p6, List.forall_mem_cons.mpr ⟨lw_p7, List.forall_mem_cons.mpr ⟨lw_p8, List.forall_mem_cons.mpr ⟨lw_p9, List.forall_mem_cons.mpr ⟨lw_p10, List.forall_mem_cons.mpr ⟨lw_p11, List.forall_mem_cons.mpr ⟨lw_p12, List.forall_mem_cons.mpr ⟨lw_p13, List.forall_mem_cons.mpr ⟨lw_p14, List.forall_mem_cons.mpr ⟨lw_p15, fun _ h => absurd h List.not_mem_nil⟩⟩⟩⟩⟩⟩⟩⟩⟩⟩⟩⟩⟩⟩⟩⟩
theorem lw_p16 : lw_okq (⟨"NoonShade$Plan", "filled", "(II)I"⟩, 6) := ⟨⟨by decide +kernel, by decide +kernel⟩, List.mem_of_getElem? (i := 164) (by decide +kernel), List.mem_of_getElem? (i := 590) (by decide +kernel), List.mem_of_getElem? (i := 591) (by decide +kernel)⟩
theorem lw_p17 : lw_okq (⟨"NoonShade", "fewestLadles", "(III)I"⟩, 12) := ⟨⟨by decide +kernel, by decide +kernel⟩, List.mem_of_getElem? (i := 19) (by decide +kernel), List.mem_of_getElem? (i := 598) (by decide +kernel), List.mem_of_getElem? (i := 599) (by decide +kernel)⟩
theorem lw_p18 : lw_okq (⟨"NoonShade", "pouredBehind", "(III)I"⟩, 12) := ⟨⟨by decide +kernel, by decide +kernel⟩, List.mem_of_getElem? (i := 19) (by decide +kernel), List.mem_of_getElem? (i := 621) (by decide +kernel), List.mem_of_getElem? (i := 622) (by decide +kernel)⟩
theorem lw_p19 : lw_okq (⟨"NoonShade$Guess", "mostAlike", "(IIII)I"⟩, 1) := ⟨⟨by decide +kernel, by decide +kernel⟩, List.mem_of_getElem? (i := 191) (by decide +kernel), List.mem_of_getElem? (i := 674) (by decide +kernel), List.mem_of_getElem? (i := 675) (by decide +kernel)⟩
theorem lw_p20 : lw_okq (⟨"NoonShade$Guess", "answeredSo", "(II)I"⟩, 1) := ⟨⟨by decide +kernel, by decide +kernel⟩, List.mem_of_getElem? (i := 191) (by decide +kernel), List.mem_of_getElem? (i := 679) (by decide +kernel), List.mem_of_getElem? (i := 680) (by decide +kernel)⟩
theorem lw_p21 : lw_okq (⟨"NoonShade", "rests", "(II)Z"⟩, 12) := ⟨⟨by decide +kernel, by decide +kernel⟩, List.mem_of_getElem? (i := 19) (by decide +kernel), List.mem_of_getElem? (i := 696) (by decide +kernel), List.mem_of_getElem? (i := 697) (by decide +kernel)⟩
theorem lw_p22 : lw_okq (⟨"NoonShade", "share", "(II)I"⟩, 12) := ⟨⟨by decide +kernel, by decide +kernel⟩, List.mem_of_getElem? (i := 19) (by decide +kernel), List.mem_of_getElem? (i := 700) (by decide +kernel), List.mem_of_getElem? (i := 701) (by decide +kernel)⟩
theorem lw_p23 : lw_okq (⟨"NoonShade", "setFraction", "(JJ)V"⟩, 12) := ⟨⟨by decide +kernel, by decide +kernel⟩, List.mem_of_getElem? (i := 19) (by decide +kernel), List.mem_of_getElem? (i := 717) (by decide +kernel), List.mem_of_getElem? (i := 718) (by decide +kernel)⟩
theorem lw_p24 : lw_okq (⟨"NoonShade", "counted", "(I)I"⟩, 12) := ⟨⟨by decide +kernel, by decide +kernel⟩, List.mem_of_getElem? (i := 19) (by decide +kernel), List.mem_of_getElem? (i := 763) (by decide +kernel), List.mem_of_getElem? (i := 764) (by decide +kernel)⟩
theorem lw_p25 : lw_okq (⟨"NoonShadeModel", "bad", "(I)I"⟩, 17) := ⟨⟨by decide +kernel, by decide +kernel⟩, List.mem_of_getElem? (i := 783) (by decide +kernel), List.mem_of_getElem? (i := 852) (by decide +kernel), List.mem_of_getElem? (i := 853) (by decide +kernel)⟩
theorem lw_p26 : lw_okq (⟨"NoonShadeModel", "full", "()I"⟩, 17) := ⟨⟨by decide +kernel, by decide +kernel⟩, List.mem_of_getElem? (i := 783) (by decide +kernel), List.mem_of_getElem? (i := 872) (by decide +kernel), List.mem_of_getElem? (i := 873) (by decide +kernel)⟩
theorem lw_p27 : lw_okq (⟨"NoonShadeModel", "isCaster", "(I)Z"⟩, 17) := ⟨⟨by decide +kernel, by decide +kernel⟩, List.mem_of_getElem? (i := 783) (by decide +kernel), List.mem_of_getElem? (i := 890) (by decide +kernel), List.mem_of_getElem? (i := 891) (by decide +kernel)⟩
theorem lw_p28 : lw_okq (⟨"NoonShadeModel", "isJar", "(I)Z"⟩, 17) := ⟨⟨by decide +kernel, by decide +kernel⟩, List.mem_of_getElem? (i := 783) (by decide +kernel), List.mem_of_getElem? (i := 894) (by decide +kernel), List.mem_of_getElem? (i := 895) (by decide +kernel)⟩
theorem lw_p29 : lw_okq (⟨"NoonShadeModel", "no", "()I"⟩, 17) := ⟨⟨by decide +kernel, by decide +kernel⟩, List.mem_of_getElem? (i := 783) (by decide +kernel), List.mem_of_getElem? (i := 901) (by decide +kernel), List.mem_of_getElem? (i := 902) (by decide +kernel)⟩
theorem lw_p30 : lw_okq (⟨"NoonShadeModel", "save", "()V"⟩, 17) := ⟨⟨by decide +kernel, by decide +kernel⟩, List.mem_of_getElem? (i := 783) (by decide +kernel), List.mem_of_getElem? (i := 905) (by decide +kernel), List.mem_of_getElem? (i := 906) (by decide +kernel)⟩
theorem lw_p31 : lw_okq (⟨"NoonShadeModel", "toldCaster", "(II)I"⟩, 17) := ⟨⟨by decide +kernel, by decide +kernel⟩, List.mem_of_getElem? (i := 783) (by decide +kernel), List.mem_of_getElem? (i := 958) (by decide +kernel), List.mem_of_getElem? (i := 959) (by decide +kernel)⟩
def lw_privs_2 : List (MethodName × Nat) := [(⟨"NoonShade$Plan", "filled", "(II)I"⟩, 6), (⟨"NoonShade", "fewestLadles", "(III)I"⟩, 12), (⟨"NoonShade", "pouredBehind", "(III)I"⟩, 12), (⟨"NoonShade$Guess", "mostAlike", "(IIII)I"⟩, 1), (⟨"NoonShade$Guess", "answeredSo", "(II)I"⟩, 1), (⟨"NoonShade", "rests", "(II)Z"⟩, 12), (⟨"NoonShade", "share", "(II)I"⟩, 12), (⟨"NoonShade", "setFraction", "(JJ)V"⟩, 12), (⟨"NoonShade", "counted", "(I)I"⟩, 12), (⟨"NoonShadeModel", "bad", "(I)I"⟩, 17), (⟨"NoonShadeModel", "full", "()I"⟩, 17), (⟨"NoonShadeModel", "isCaster", "(I)Z"⟩, 17), (⟨"NoonShadeModel", "isJar", "(I)Z"⟩, 17), (⟨"NoonShadeModel", "no", "()I"⟩, 17), (⟨"NoonShadeModel", "save", "()V"⟩, 17), (⟨"NoonShadeModel", "toldCaster", "(II)I"⟩, 17)]
theorem lw_r2 : ∀ q ∈ lw_privs_2, lw_okq q := List.forall_mem_cons.mpr ⟨lw_p16, List.forall_mem_cons.mpr ⟨lw_p17, List.forall_mem_cons.mpr ⟨lw_p18, List.forall_mem_cons.mpr ⟨lw_p19, List.forall_mem_cons.mpr ⟨lw_p20, List.forall_mem_cons.mpr ⟨lw_p21, List.forall_mem_cons.mpr ⟨lw_p22, List.forall_mem_cons.mpr ⟨lw_p23, List.forall_mem_cons.mpr ⟨lw_p24, List.forall_mem_cons.mpr ⟨lw_p25, List.forall_mem_cons.mpr ⟨lw_p26, List.forall_mem_cons.mpr ⟨lw_p27, List.forall_mem_cons.mpr ⟨lw_p28, List.forall_mem_cons.mpr ⟨lw_p29, List.forall_mem_cons.mpr ⟨lw_p30, List.forall_mem_cons.mpr ⟨lw_p31, fun _ h => absurd h List.not_mem_nil⟩⟩⟩⟩⟩⟩⟩⟩⟩⟩⟩⟩⟩⟩⟩⟩
theorem lw_p32 : lw_okq (⟨"NoonShadeModel", "toldJar", "(II)I"⟩, 17) := ⟨⟨by decide +kernel, by decide +kernel⟩, List.mem_of_getElem? (i := 783) (by decide +kernel), List.mem_of_getElem? (i := 966) (by decide +kernel), List.mem_of_getElem? (i := 967) (by decide +kernel)⟩
theorem lw_p33 : lw_okq (⟨"NoonShadeModel", "layHand", "()V"⟩, 17) := ⟨⟨by decide +kernel, by decide +kernel⟩, List.mem_of_getElem? (i := 783) (by decide +kernel), List.mem_of_getElem? (i := 978) (by decide +kernel), List.mem_of_getElem? (i := 979) (by decide +kernel)⟩
theorem lw_p34 : lw_okq (⟨"NoonShadeModel", "bestRow", "(II)I"⟩, 17) := ⟨⟨by decide +kernel, by decide +kernel⟩, List.mem_of_getElem? (i := 783) (by decide +kernel), List.mem_of_getElem? (i := 994) (by decide +kernel), List.mem_of_getElem? (i := 995) (by decide +kernel)⟩
theorem lw_p35 : lw_okq (⟨"NoonShadeModel", "casterBy", "(III)I"⟩, 17) := ⟨⟨by decide +kernel, by decide +kernel⟩, List.mem_of_getElem? (i := 783) (by decide +kernel), List.mem_of_getElem? (i := 1001) (by decide +kernel), List.mem_of_getElem? (i := 1002) (by decide +kernel)⟩
theorem lw_p36 : lw_okq (⟨"NoonShadeModel", "isOfTaste", "(II)Z"⟩, 17) := ⟨⟨by decide +kernel, by decide +kernel⟩, List.mem_of_getElem? (i := 783) (by decide +kernel), List.mem_of_getElem? (i := 1009) (by decide +kernel), List.mem_of_getElem? (i := 1010) (by decide +kernel)⟩
theorem lw_p37 : lw_okq (⟨"NoonShadeModel", "givenBy", "(I)I"⟩, 17) := ⟨⟨by decide +kernel, by decide +kernel⟩, List.mem_of_getElem? (i := 783) (by decide +kernel), List.mem_of_getElem? (i := 1013) (by decide +kernel), List.mem_of_getElem? (i := 1014) (by decide +kernel)⟩
theorem lw_p38 : lw_okq (⟨"NoonShadeModel", "layFour", "(IIIII)V"⟩, 17) := ⟨⟨by decide +kernel, by decide +kernel⟩, List.mem_of_getElem? (i := 783) (by decide +kernel), List.mem_of_getElem? (i := 1034) (by decide +kernel), List.mem_of_getElem? (i := 1035) (by decide +kernel)⟩
theorem lw_p39 : lw_okq (⟨"NoonShadeModel", "kindsOfCaster", "(I)I"⟩, 17) := ⟨⟨by decide +kernel, by decide +kernel⟩, List.mem_of_getElem? (i := 783) (by decide +kernel), List.mem_of_getElem? (i := 1053) (by decide +kernel), List.mem_of_getElem? (i := 1054) (by decide +kernel)⟩
theorem lw_p40 : lw_okq (⟨"NoonShadeModel", "kindsBy", "(IIIZ)I"⟩, 17) := ⟨⟨by decide +kernel, by decide +kernel⟩, List.mem_of_getElem? (i := 783) (by decide +kernel), List.mem_of_getElem? (i := 1057) (by decide +kernel), List.mem_of_getElem? (i := 1058) (by decide +kernel)⟩
theorem lw_p41 : lw_okq (⟨"NoonShadeModel", "mostAlike", "(I)I"⟩, 17) := ⟨⟨by decide +kernel, by decide +kernel⟩, List.mem_of_getElem? (i := 783) (by decide +kernel), List.mem_of_getElem? (i := 1066) (by decide +kernel), List.mem_of_getElem? (i := 1067) (by decide +kernel)⟩
theorem lw_p42 : lw_okq (⟨"NoonShadeModel", "kindsOfJar", "(I)I"⟩, 17) := ⟨⟨by decide +kernel, by decide +kernel⟩, List.mem_of_getElem? (i := 783) (by decide +kernel), List.mem_of_getElem? (i := 1074) (by decide +kernel), List.mem_of_getElem? (i := 1075) (by decide +kernel)⟩
theorem lw_p43 : lw_okq (⟨"NoonShadeModel", "mayName", "(I)Z"⟩, 17) := ⟨⟨by decide +kernel, by decide +kernel⟩, List.mem_of_getElem? (i := 783) (by decide +kernel), List.mem_of_getElem? (i := 1086) (by decide +kernel), List.mem_of_getElem? (i := 1087) (by decide +kernel)⟩
theorem lw_p44 : lw_okq (⟨"NoonShadeModel", "rests", "(II)Z"⟩, 17) := ⟨⟨by decide +kernel, by decide +kernel⟩, List.mem_of_getElem? (i := 783) (by decide +kernel), List.mem_of_getElem? (i := 1090) (by decide +kernel), List.mem_of_getElem? (i := 1091) (by decide +kernel)⟩
theorem lw_p45 : lw_okq (⟨"NoonShadeModel", "gets", "(II)I"⟩, 17) := ⟨⟨by decide +kernel, by decide +kernel⟩, List.mem_of_getElem? (i := 783) (by decide +kernel), List.mem_of_getElem? (i := 1094) (by decide +kernel), List.mem_of_getElem? (i := 1095) (by decide +kernel)⟩
theorem lw_p46 : lw_okq (⟨"NoonShadeModel", "fraction", "(JJ)V"⟩, 17) := ⟨⟨by decide +kernel, by decide +kernel⟩, List.mem_of_getElem? (i := 783) (by decide +kernel), List.mem_of_getElem? (i := 1103) (by decide +kernel), List.mem_of_getElem? (i := 1104) (by decide +kernel)⟩
theorem lw_p47 : lw_okq (⟨"NoonShadeModel", "lookAt", "(I)V"⟩, 17) := ⟨⟨by decide +kernel, by decide +kernel⟩, List.mem_of_getElem? (i := 783) (by decide +kernel), List.mem_of_getElem? (i := 1136) (by decide +kernel), List.mem_of_getElem? (i := 1137) (by decide +kernel)⟩
def lw_privs_3 : List (MethodName × Nat) := [(⟨"NoonShadeModel", "toldJar", "(II)I"⟩, 17), (⟨"NoonShadeModel", "layHand", "()V"⟩, 17), (⟨"NoonShadeModel", "bestRow", "(II)I"⟩, 17), (⟨"NoonShadeModel", "casterBy", "(III)I"⟩, 17), (⟨"NoonShadeModel", "isOfTaste", "(II)Z"⟩, 17), (⟨"NoonShadeModel", "givenBy", "(I)I"⟩, 17), (⟨"NoonShadeModel", "layFour", "(IIIII)V"⟩, 17), (⟨"NoonShadeModel", "kindsOfCaster", "(I)I"⟩, 17), (⟨"NoonShadeModel", "kindsBy", "(IIIZ)I"⟩, 17), (⟨"NoonShadeModel", "mostAlike", "(I)I"⟩, 17), (⟨"NoonShadeModel", "kindsOfJar", "(I)I"⟩, 17), (⟨"NoonShadeModel", "mayName", "(I)Z"⟩, 17), (⟨"NoonShadeModel", "rests", "(II)Z"⟩, 17), (⟨"NoonShadeModel", "gets", "(II)I"⟩, 17), (⟨"NoonShadeModel", "fraction", "(JJ)V"⟩, 17), (⟨"NoonShadeModel", "lookAt", "(I)V"⟩, 17)]
theorem lw_r3 : ∀ q ∈ lw_privs_3, lw_okq q := List.forall_mem_cons.mpr ⟨lw_p32, List.forall_mem_cons.mpr ⟨lw_p33, List.forall_mem_cons.mpr ⟨lw_p34, List.forall_mem_cons.mpr ⟨lw_p35, List.forall_mem_cons.mpr ⟨lw_p36, List.forall_mem_cons.mpr ⟨lw_p37, List.forall_mem_cons.mpr ⟨lw_p38, List.forall_mem_cons.mpr ⟨lw_p39, List.forall_mem_cons.mpr ⟨lw_p40, List.forall_mem_cons.mpr ⟨lw_p41, List.forall_mem_cons.mpr ⟨lw_p42, List.forall_mem_cons.mpr ⟨lw_p43, List.forall_mem_cons.mpr ⟨lw_p44, List.forall_mem_cons.mpr ⟨lw_p45, List.forall_mem_cons.mpr ⟨lw_p46, List.forall_mem_cons.mpr ⟨lw_p47, fun _ h => absurd h List.not_mem_nil⟩⟩⟩⟩⟩⟩⟩⟩⟩⟩⟩⟩⟩⟩⟩⟩
theorem lw_p48 : lw_okq (⟨"NoonShadeModel", "spells", "(IIIIIII)Z"⟩, 17) := ⟨⟨by decide +kernel, by decide +kernel⟩, List.mem_of_getElem? (i := 783) (by decide +kernel), List.mem_of_getElem? (i := 1150) (by decide +kernel), List.mem_of_getElem? (i := 1151) (by decide +kernel)⟩
theorem lw_p49 : lw_okq (⟨"NoonShadeModel", "goBehind", "()V"⟩, 17) := ⟨⟨by decide +kernel, by decide +kernel⟩, List.mem_of_getElem? (i := 783) (by decide +kernel), List.mem_of_getElem? (i := 1154) (by decide +kernel), List.mem_of_getElem? (i := 1155) (by decide +kernel)⟩
theorem lw_p50 : lw_okq (⟨"NoonShadeModel", "takes", "(III)Z"⟩, 17) := ⟨⟨by decide +kernel, by decide +kernel⟩, List.mem_of_getElem? (i := 783) (by decide +kernel), List.mem_of_getElem? (i := 1158) (by decide +kernel), List.mem_of_getElem? (i := 1159) (by decide +kernel)⟩
theorem lw_p51 : lw_okq (⟨"NoonShadeModel", "takesItem", "()Z"⟩, 17) := ⟨⟨by decide +kernel, by decide +kernel⟩, List.mem_of_getElem? (i := 783) (by decide +kernel), List.mem_of_getElem? (i := 1162) (by decide +kernel), List.mem_of_getElem? (i := 1163) (by decide +kernel)⟩
theorem lw_p52 : lw_okq (⟨"NoonShadeModel", "takesCaster", "()Z"⟩, 17) := ⟨⟨by decide +kernel, by decide +kernel⟩, List.mem_of_getElem? (i := 783) (by decide +kernel), List.mem_of_getElem? (i := 1166) (by decide +kernel), List.mem_of_getElem? (i := 1167) (by decide +kernel)⟩
theorem lw_p53 : lw_okq (⟨"NoonShadeModel", "takesJar", "()Z"⟩, 17) := ⟨⟨by decide +kernel, by decide +kernel⟩, List.mem_of_getElem? (i := 783) (by decide +kernel), List.mem_of_getElem? (i := 1170) (by decide +kernel), List.mem_of_getElem? (i := 1171) (by decide +kernel)⟩
theorem lw_p54 : lw_okq (⟨"NoonShadeModel", "takesLadle", "()Z"⟩, 17) := ⟨⟨by decide +kernel, by decide +kernel⟩, List.mem_of_getElem? (i := 783) (by decide +kernel), List.mem_of_getElem? (i := 1174) (by decide +kernel), List.mem_of_getElem? (i := 1175) (by decide +kernel)⟩
theorem lw_p55 : lw_okq (⟨"NoonShadeModel", "takesPour", "()Z"⟩, 17) := ⟨⟨by decide +kernel, by decide +kernel⟩, List.mem_of_getElem? (i := 783) (by decide +kernel), List.mem_of_getElem? (i := 1178) (by decide +kernel), List.mem_of_getElem? (i := 1179) (by decide +kernel)⟩
theorem lw_p56 : lw_okq (⟨"NoonShadeModel", "takesHours", "()Z"⟩, 17) := ⟨⟨by decide +kernel, by decide +kernel⟩, List.mem_of_getElem? (i := 783) (by decide +kernel), List.mem_of_getElem? (i := 1182) (by decide +kernel), List.mem_of_getElem? (i := 1183) (by decide +kernel)⟩
theorem lw_p57 : lw_okq (⟨"NoonShadeModel", "counted", "(I)I"⟩, 17) := ⟨⟨by decide +kernel, by decide +kernel⟩, List.mem_of_getElem? (i := 783) (by decide +kernel), List.mem_of_getElem? (i := 1206) (by decide +kernel), List.mem_of_getElem? (i := 1207) (by decide +kernel)⟩
theorem lw_p58 : lw_okq (⟨"NoonShadeModel", "sums", "(JII)J"⟩, 17) := ⟨⟨by decide +kernel, by decide +kernel⟩, List.mem_of_getElem? (i := 783) (by decide +kernel), List.mem_of_getElem? (i := 1216) (by decide +kernel), List.mem_of_getElem? (i := 1217) (by decide +kernel)⟩
def lw_privs_4 : List (MethodName × Nat) := [(⟨"NoonShadeModel", "spells", "(IIIIIII)Z"⟩, 17), (⟨"NoonShadeModel", "goBehind", "()V"⟩, 17), (⟨"NoonShadeModel", "takes", "(III)Z"⟩, 17), (⟨"NoonShadeModel", "takesItem", "()Z"⟩, 17), (⟨"NoonShadeModel", "takesCaster", "()Z"⟩, 17), (⟨"NoonShadeModel", "takesJar", "()Z"⟩, 17), (⟨"NoonShadeModel", "takesLadle", "()Z"⟩, 17), (⟨"NoonShadeModel", "takesPour", "()Z"⟩, 17), (⟨"NoonShadeModel", "takesHours", "()Z"⟩, 17), (⟨"NoonShadeModel", "counted", "(I)I"⟩, 17), (⟨"NoonShadeModel", "sums", "(JII)J"⟩, 17)]
theorem lw_r4 : ∀ q ∈ lw_privs_4, lw_okq q := List.forall_mem_cons.mpr ⟨lw_p48, List.forall_mem_cons.mpr ⟨lw_p49, List.forall_mem_cons.mpr ⟨lw_p50, List.forall_mem_cons.mpr ⟨lw_p51, List.forall_mem_cons.mpr ⟨lw_p52, List.forall_mem_cons.mpr ⟨lw_p53, List.forall_mem_cons.mpr ⟨lw_p54, List.forall_mem_cons.mpr ⟨lw_p55, List.forall_mem_cons.mpr ⟨lw_p56, List.forall_mem_cons.mpr ⟨lw_p57, List.forall_mem_cons.mpr ⟨lw_p58, fun _ h => absurd h List.not_mem_nil⟩⟩⟩⟩⟩⟩⟩⟩⟩⟩⟩
def lw_privs : List (MethodName × Nat) := lw_privs_1 ++ (lw_privs_2 ++ (lw_privs_3 ++ (lw_privs_4)))
def lw_tbl : List Cond := k2_sels lw_privs ++ tables_1
theorem lw_privs_ok : ∀ q ∈ lw_privs, lw_okq q := by
  show ∀ q ∈ lw_privs_1 ++ (lw_privs_2 ++ (lw_privs_3 ++ (lw_privs_4))), lw_okq q
  exact List.forall_mem_append.mpr ⟨lw_r1, List.forall_mem_append.mpr ⟨lw_r2, List.forall_mem_append.mpr ⟨lw_r3, lw_r4⟩⟩⟩

theorem in_t0 {w : Cond} (h : w ∈ k2_sels lw_privs) : w ∈ lw_tbl := List.mem_append_left _ h
theorem in_t1 {w : Cond} (h : w ∈ tables_1_1) : w ∈ lw_tbl := List.mem_append_right _ (List.mem_append_left _ h)
theorem in_t2 {w : Cond} (h : w ∈ tables_1_2) : w ∈ lw_tbl := List.mem_append_right _ (List.mem_append_right _ (List.mem_append_left _ h))
theorem in_t3 {w : Cond} (h : w ∈ tables_1_3) : w ∈ lw_tbl := List.mem_append_right _ (List.mem_append_right _ (List.mem_append_right _ (List.mem_append_left _ h)))
theorem in_t4 {w : Cond} (h : w ∈ tables_1_4) : w ∈ lw_tbl := List.mem_append_right _ (List.mem_append_right _ (List.mem_append_right _ (List.mem_append_right _ (List.mem_append_left _ h))))
theorem in_t5 {w : Cond} (h : w ∈ tables_1_5) : w ∈ lw_tbl := List.mem_append_right _ (List.mem_append_right _ (List.mem_append_right _ (List.mem_append_right _ (List.mem_append_right _ (List.mem_append_left _ h)))))
theorem in_t6 {w : Cond} (h : w ∈ tables_1_6) : w ∈ lw_tbl := List.mem_append_right _ (List.mem_append_right _ (List.mem_append_right _ (List.mem_append_right _ (List.mem_append_right _ (List.mem_append_right _ h)))))
end
section
/-! ===== BEGIN printed: names, fields, word lists, decode rows ===== -/
def RX0 : String := "NoonShade$CasterKinds"
def TX0 : u_T := fun k => match k with
  | _ => ("", "", "", false)
def tyX0 : Nat → FieldType := fun k => match k with
  | _ => .int
theorem nmX0 : ∀ a, a < 0 → ∀ b, b < 0 → a ≠ b → (TX0 a).2.1 ≠ (TX0 b).2.1 := by decide +kernel
theorem tyX0_ok : ∀ k, k < 0 → parseFieldDescriptor (TX0 k).2.2.1 = some (tyX0 k) := by decide +kernel
abbrev cX0_given : ByteArray := prog_2_method_2_code
def yX0_given : MethodName := ⟨RX0, "given", "(III)I"⟩
def RX1 : String := "NoonShade$Guess"
def TX1 : u_T := fun k => match k with
  | _ => ("NoonShade$Guess", "answers", "[I", true)
def tyX1 : Nat → FieldType := fun k => match k with
  | _ => .array .int
theorem nmX1 : ∀ a, a < 1 → ∀ b, b < 1 → a ≠ b → (TX1 a).2.1 ≠ (TX1 b).2.1 := by decide +kernel
theorem tyX1_ok : ∀ k, k < 1 → parseFieldDescriptor (TX1 k).2.2.1 = some (tyX1 k) := by decide +kernel
abbrev cX1_init : ByteArray := prog_3_method_1_code
def yX1_init : MethodName := ⟨RX1, "<init>", "()V"⟩
abbrev cX1_says : ByteArray := prog_3_method_2_code
def yX1_says : MethodName := ⟨RX1, "says", "(IIII)I"⟩
abbrev cX1_fitting : ByteArray := prog_3_method_3_code
def yX1_fitting : MethodName := ⟨RX1, "fitting", "(ILNoonShade$Rows;I)I"⟩
abbrev cX1_tellingMost : ByteArray := prog_3_method_4_code
def yX1_tellingMost : MethodName := ⟨RX1, "tellingMost", "(IIII)I"⟩
abbrev cX1_mostAlike : ByteArray := prog_3_method_5_code
def yX1_mostAlike : MethodName := ⟨RX1, "mostAlike", "(IIII)I"⟩
abbrev cX1_answeredSo : ByteArray := prog_3_method_6_code
def yX1_answeredSo : MethodName := ⟨RX1, "answeredSo", "(II)I"⟩
def RX2 : String := "NoonShade$Isle"
def TX2 : u_T := fun k => match k with
  | 0 => ("NoonShade$Isle", "hour", "I", false)
  | 1 => ("NoonShade$Isle", "sold", "I", false)
  | 2 => ("NoonShade$Isle", "milked", "I", false)
  | 3 => ("NoonShade$Isle", "casters", "I", false)
  | 4 => ("NoonShade$Isle", "jars", "I", false)
  | 5 => ("NoonShade$Isle", "casterKind", "[I", true)
  | 6 => ("NoonShade$Isle", "height", "[I", true)
  | 7 => ("NoonShade$Isle", "casterTaste", "[I", true)
  | 8 => ("NoonShade$Isle", "jarKind", "[I", true)
  | 9 => ("NoonShade$Isle", "cool", "[I", true)
  | 10 => ("NoonShade$Isle", "jarTaste", "[I", true)
  | 11 => ("NoonShade$Isle", "notes", "LNoonShade$Rows;", true)
  | 12 => ("NoonShade$Isle", "marks", "LNoonShade$Rows;", true)
  | _ => ("NoonShade$Isle", "past", "LNoonShade$Past;", true)
def tyX2 : Nat → FieldType := fun k => match k with
  | 0 => .int
  | 1 => .int
  | 2 => .int
  | 3 => .int
  | 4 => .int
  | 5 => .array .int
  | 6 => .array .int
  | 7 => .array .int
  | 8 => .array .int
  | 9 => .array .int
  | 10 => .array .int
  | 11 => .object "NoonShade$Rows"
  | 12 => .object "NoonShade$Rows"
  | _ => .object "NoonShade$Past"
theorem nmX2 : ∀ a, a < 14 → ∀ b, b < 14 → a ≠ b → (TX2 a).2.1 ≠ (TX2 b).2.1 := by decide +kernel
theorem tyX2_ok : ∀ k, k < 14 → parseFieldDescriptor (TX2 k).2.2.1 = some (tyX2 k) := by decide +kernel
abbrev cX2_init : ByteArray := prog_4_method_1_code
def yX2_init : MethodName := ⟨RX2, "<init>", "()V"⟩
abbrev cX2_begin : ByteArray := prog_4_method_2_code
def yX2_begin : MethodName := ⟨RX2, "begin", "(I)V"⟩
abbrev cX2_become : ByteArray := prog_4_method_3_code
def yX2_become : MethodName := ⟨RX2, "become", "(LNoonShade$Isle;)V"⟩
abbrev cX2_hasCaster : ByteArray := prog_4_method_4_code
def yX2_hasCaster : MethodName := ⟨RX2, "hasCaster", "(I)Z"⟩
abbrev cX2_hasJar : ByteArray := prog_4_method_5_code
def yX2_hasJar : MethodName := ⟨RX2, "hasJar", "(I)Z"⟩
abbrev cX2_isMilked : ByteArray := prog_4_method_6_code
def yX2_isMilked : MethodName := ⟨RX2, "isMilked", "(I)Z"⟩
abbrev cX2_addCaster : ByteArray := prog_4_method_7_code
def yX2_addCaster : MethodName := ⟨RX2, "addCaster", "(III)I"⟩
abbrev cX2_addJar : ByteArray := prog_4_method_8_code
def yX2_addJar : MethodName := ⟨RX2, "addJar", "(I)I"⟩
abbrev cX2_givenBehind : ByteArray := prog_4_method_9_code
def yX2_givenBehind : MethodName := ⟨RX2, "givenBehind", "(II)I"⟩
abbrev cX2_coolBehind : ByteArray := prog_4_method_10_code
def yX2_coolBehind : MethodName := ⟨RX2, "coolBehind", "(II)I"⟩
abbrev cX2_mayDraw : ByteArray := prog_4_method_11_code
def yX2_mayDraw : MethodName := ⟨RX2, "mayDraw", "(II)Z"⟩
abbrev cX2_givenBy : ByteArray := prog_4_method_12_code
def yX2_givenBy : MethodName := ⟨RX2, "givenBy", "(I)I"⟩
abbrev cX2_draw : ByteArray := prog_4_method_13_code
def yX2_draw : MethodName := ⟨RX2, "draw", "(II)I"⟩
abbrev cX2_pour : ByteArray := prog_4_method_14_code
def yX2_pour : MethodName := ⟨RX2, "pour", "(II)I"⟩
abbrev cX2_sell : ByteArray := prog_4_method_15_code
def yX2_sell : MethodName := ⟨RX2, "sell", "(I)I"⟩
abbrev cX2_fill : ByteArray := prog_4_method_16_code
def yX2_fill : MethodName := ⟨RX2, "fill", "(III)I"⟩
abbrev cX2_drain : ByteArray := prog_4_method_17_code
def yX2_drain : MethodName := ⟨RX2, "drain", "(II)V"⟩
abbrev cX2_passHours : ByteArray := prog_4_method_18_code
def yX2_passHours : MethodName := ⟨RX2, "passHours", "(I)V"⟩
abbrev cX2_passHour : ByteArray := prog_4_method_19_code
def yX2_passHour : MethodName := ⟨RX2, "passHour", "()V"⟩
abbrev cX2_coolInAll : ByteArray := prog_4_method_20_code
def yX2_coolInAll : MethodName := ⟨RX2, "coolInAll", "()I"⟩
abbrev cX2_mixed : ByteArray := prog_4_method_21_code
def yX2_mixed : MethodName := ⟨RX2, "mixed", "(J)J"⟩
def RX3 : String := "NoonShade$JarKinds"
def TX3 : u_T := fun k => match k with
  | _ => ("", "", "", false)
def tyX3 : Nat → FieldType := fun k => match k with
  | _ => .int
theorem nmX3 : ∀ a, a < 0 → ∀ b, b < 0 → a ≠ b → (TX3 a).2.1 ≠ (TX3 b).2.1 := by decide +kernel
theorem tyX3_ok : ∀ k, k < 0 → parseFieldDescriptor (TX3 k).2.2.1 = some (tyX3 k) := by decide +kernel
abbrev cX3_lost : ByteArray := prog_5_method_2_code
def yX3_lost : MethodName := ⟨RX3, "lost", "(III)I"⟩
abbrev cX3_kept : ByteArray := prog_5_method_3_code
def yX3_kept : MethodName := ⟨RX3, "kept", "(III)I"⟩
abbrev cX3_keptBehind : ByteArray := prog_5_method_4_code
def yX3_keptBehind : MethodName := ⟨RX3, "keptBehind", "(IIII)I"⟩
def RX4 : String := "NoonShade$Past"
def TX4 : u_T := fun k => match k with
  | 0 => ("NoonShade$Past", "cells", "[I", true)
  | _ => ("NoonShade$Past", "steps", "I", false)
def tyX4 : Nat → FieldType := fun k => match k with
  | 0 => .array .int
  | _ => .int
theorem nmX4 : ∀ a, a < 2 → ∀ b, b < 2 → a ≠ b → (TX4 a).2.1 ≠ (TX4 b).2.1 := by decide +kernel
theorem tyX4_ok : ∀ k, k < 2 → parseFieldDescriptor (TX4 k).2.2.1 = some (tyX4 k) := by decide +kernel
abbrev cX4_init : ByteArray := prog_6_method_1_code
def yX4_init : MethodName := ⟨RX4, "<init>", "()V"⟩
abbrev cX4_empty : ByteArray := prog_6_method_2_code
def yX4_empty : MethodName := ⟨RX4, "empty", "()V"⟩
abbrev cX4_become : ByteArray := prog_6_method_3_code
def yX4_become : MethodName := ⟨RX4, "become", "(LNoonShade$Past;)V"⟩
abbrev cX4_remember : ByteArray := prog_6_method_4_code
def yX4_remember : MethodName := ⟨RX4, "remember", "(LNoonShade$Isle;)V"⟩
abbrev cX4_bringBack : ByteArray := prog_6_method_5_code
def yX4_bringBack : MethodName := ⟨RX4, "bringBack", "(LNoonShade$Isle;)Z"⟩
def RX5 : String := "NoonShade$Plan"
def TX5 : u_T := fun k => match k with
  | 0 => ("NoonShade$Plan", "given", "[I", true)
  | 1 => ("NoonShade$Plan", "end", "[I", true)
  | 2 => ("NoonShade$Plan", "row", "[I", true)
  | 3 => ("NoonShade$Plan", "casters", "I", false)
  | 4 => ("NoonShade$Plan", "steps", "I", false)
  | _ => ("NoonShade$Plan", "best", "I", false)
def tyX5 : Nat → FieldType := fun k => match k with
  | 0 => .array .int
  | 1 => .array .int
  | 2 => .array .int
  | 3 => .int
  | 4 => .int
  | _ => .int
theorem nmX5 : ∀ a, a < 6 → ∀ b, b < 6 → a ≠ b → (TX5 a).2.1 ≠ (TX5 b).2.1 := by decide +kernel
theorem tyX5_ok : ∀ k, k < 6 → parseFieldDescriptor (TX5 k).2.2.1 = some (tyX5 k) := by decide +kernel
abbrev cX5_init : ByteArray := prog_7_method_1_code
def yX5_init : MethodName := ⟨RX5, "<init>", "()V"⟩
abbrev cX5_make : ByteArray := prog_7_method_2_code
def yX5_make : MethodName := ⟨RX5, "make", "(LNoonShade$Isle;II)V"⟩
abbrev cX5_askCasters : ByteArray := prog_7_method_3_code
def yX5_askCasters : MethodName := ⟨RX5, "askCasters", "(LNoonShade$Isle;I)V"⟩
abbrev cX5_chooseRow : ByteArray := prog_7_method_4_code
def yX5_chooseRow : MethodName := ⟨RX5, "chooseRow", "(LNoonShade$Isle;I)V"⟩
abbrev cX5_mostFrom : ByteArray := prog_7_method_5_code
def yX5_mostFrom : MethodName := ⟨RX5, "mostFrom", "(II)I"⟩
abbrev cX5_firstThatReaches : ByteArray := prog_7_method_6_code
def yX5_firstThatReaches : MethodName := ⟨RX5, "firstThatReaches", "(II)I"⟩
abbrev cX5_with : ByteArray := prog_7_method_7_code
def yX5_with : MethodName := ⟨RX5, "with", "(III)I"⟩
abbrev cX5_filled : ByteArray := prog_7_method_8_code
def yX5_filled : MethodName := ⟨RX5, "filled", "(II)I"⟩
abbrev cX5_waysToKeep : ByteArray := prog_7_method_9_code
def yX5_waysToKeep : MethodName := ⟨RX5, "waysToKeep", "(LNoonShade$Isle;III)J"⟩
abbrev cX5_waysInAll : ByteArray := prog_7_method_10_code
def yX5_waysInAll : MethodName := ⟨RX5, "waysInAll", "()J"⟩
def RX6 : String := "NoonShade$Rows"
def TX6 : u_T := fun k => match k with
  | 0 => ("NoonShade$Rows", "cells", "[I", true)
  | _ => ("NoonShade$Rows", "size", "I", false)
def tyX6 : Nat → FieldType := fun k => match k with
  | 0 => .array .int
  | _ => .int
theorem nmX6 : ∀ a, a < 2 → ∀ b, b < 2 → a ≠ b → (TX6 a).2.1 ≠ (TX6 b).2.1 := by decide +kernel
theorem tyX6_ok : ∀ k, k < 2 → parseFieldDescriptor (TX6 k).2.2.1 = some (tyX6 k) := by decide +kernel
abbrev cX6_init : ByteArray := prog_8_method_1_code
def yX6_init : MethodName := ⟨RX6, "<init>", "()V"⟩
abbrev cX6_isFull : ByteArray := prog_8_method_2_code
def yX6_isFull : MethodName := ⟨RX6, "isFull", "()Z"⟩
abbrev cX6_add : ByteArray := prog_8_method_3_code
def yX6_add : MethodName := ⟨RX6, "add", "(IIII)I"⟩
abbrev cX6_empty : ByteArray := prog_8_method_4_code
def yX6_empty : MethodName := ⟨RX6, "empty", "()I"⟩
abbrev cX6_become : ByteArray := prog_8_method_5_code
def yX6_become : MethodName := ⟨RX6, "become", "(LNoonShade$Rows;)V"⟩
abbrev cX6_agree : ByteArray := prog_8_method_6_code
def yX6_agree : MethodName := ⟨RX6, "agree", "(III)Z"⟩
abbrev cX6_mixed : ByteArray := prog_8_method_7_code
def yX6_mixed : MethodName := ⟨RX6, "mixed", "(J)J"⟩
def RX7 : String := "NoonShade$Text"
def TX7 : u_T := fun k => match k with
  | 0 => ("NoonShade$Text", "bytes", "[B", true)
  | 1 => ("NoonShade$Text", "numbers", "[I", true)
  | 2 => ("NoonShade$Text", "length", "I", false)
  | 3 => ("NoonShade$Text", "start", "I", false)
  | 4 => ("NoonShade$Text", "at", "I", false)
  | 5 => ("NoonShade$Text", "token", "I", false)
  | _ => ("NoonShade$Text", "number", "I", false)
def tyX7 : Nat → FieldType := fun k => match k with
  | 0 => .array .byte
  | 1 => .array .int
  | 2 => .int
  | 3 => .int
  | 4 => .int
  | 5 => .int
  | _ => .int
theorem nmX7 : ∀ a, a < 7 → ∀ b, b < 7 → a ≠ b → (TX7 a).2.1 ≠ (TX7 b).2.1 := by decide +kernel
theorem tyX7_ok : ∀ k, k < 7 → parseFieldDescriptor (TX7 k).2.2.1 = some (tyX7 k) := by decide +kernel
abbrev cX7_init : ByteArray := prog_9_method_1_code
def yX7_init : MethodName := ⟨RX7, "<init>", "()V"⟩
abbrev cX7_isFull : ByteArray := prog_9_method_2_code
def yX7_isFull : MethodName := ⟨RX7, "isFull", "()Z"⟩
abbrev cX7_add : ByteArray := prog_9_method_3_code
def yX7_add : MethodName := ⟨RX7, "add", "(I)I"⟩
abbrev cX7_empty : ByteArray := prog_9_method_4_code
def yX7_empty : MethodName := ⟨RX7, "empty", "()I"⟩
abbrev cX7_tell : ByteArray := prog_9_method_5_code
def yX7_tell : MethodName := ⟨RX7, "tell", "(LNoonShade$Isle;)I"⟩
abbrev cX7_mayBegin : ByteArray := prog_9_method_6_code
def yX7_mayBegin : MethodName := ⟨RX7, "mayBegin", "(LNoonShade$Isle;IZ)Z"⟩
abbrev cX7_takeNumbers : ByteArray := prog_9_method_7_code
def yX7_takeNumbers : MethodName := ⟨RX7, "takeNumbers", "(LNoonShade$Isle;I)Z"⟩
abbrev cX7_numbersOf : ByteArray := prog_9_method_8_code
def yX7_numbersOf : MethodName := ⟨RX7, "numbersOf", "(I)I"⟩
abbrev cX7_fits : ByteArray := prog_9_method_9_code
def yX7_fits : MethodName := ⟨RX7, "fits", "(LNoonShade$Isle;II)Z"⟩
abbrev cX7_fitsCaster : ByteArray := prog_9_method_10_code
def yX7_fitsCaster : MethodName := ⟨RX7, "fitsCaster", "(I)Z"⟩
abbrev cX7_carryOut : ByteArray := prog_9_method_11_code
def yX7_carryOut : MethodName := ⟨RX7, "carryOut", "(LNoonShade$Isle;I)V"⟩
abbrev cX7_step : ByteArray := prog_9_method_12_code
def yX7_step : MethodName := ⟨RX7, "step", "()V"⟩
abbrev cX7_takeNumber : ByteArray := prog_9_method_13_code
def yX7_takeNumber : MethodName := ⟨RX7, "takeNumber", "()V"⟩
abbrev cX7_isLetter : ByteArray := prog_9_method_14_code
def yX7_isLetter : MethodName := ⟨RX7, "isLetter", "(B)Z"⟩
abbrev cX7_isFigure : ByteArray := prog_9_method_15_code
def yX7_isFigure : MethodName := ⟨RX7, "isFigure", "(B)Z"⟩
abbrev cX7_wordNumber : ByteArray := prog_9_method_16_code
def yX7_wordNumber : MethodName := ⟨RX7, "wordNumber", "()I"⟩
abbrev cX7_isWord : ByteArray := prog_9_method_17_code
def yX7_isWord : MethodName := ⟨RX7, "isWord", "(Ljava/lang/String;)Z"⟩
def RX8 : String := "NoonShade"
def TX8 : u_T := fun k => match k with
  | 0 => ("NoonShade", "now", "LNoonShade$Isle;", true)
  | 1 => ("NoonShade", "draft", "LNoonShade$Isle;", true)
  | 2 => ("NoonShade", "images", "[LNoonShade$Isle;", true)
  | 3 => ("NoonShade", "imageKept", "[Z", true)
  | 4 => ("NoonShade", "text", "LNoonShade$Text;", true)
  | 5 => ("NoonShade", "plan", "LNoonShade$Plan;", true)
  | 6 => ("NoonShade", "guess", "LNoonShade$Guess;", true)
  | 7 => ("NoonShade", "above", "J", false)
  | 8 => ("NoonShade", "below", "J", false)
  | 9 => ("NoonShade", "bads", "I", false)
  | 10 => ("NoonShade", "noes", "I", false)
  | _ => ("NoonShade", "fulls", "I", false)
def tyX8 : Nat → FieldType := fun k => match k with
  | 0 => .object "NoonShade$Isle"
  | 1 => .object "NoonShade$Isle"
  | 2 => .array (.object "NoonShade$Isle")
  | 3 => .array .boolean
  | 4 => .object "NoonShade$Text"
  | 5 => .object "NoonShade$Plan"
  | 6 => .object "NoonShade$Guess"
  | 7 => .long
  | 8 => .long
  | 9 => .int
  | 10 => .int
  | _ => .int
theorem nmX8 : ∀ a, a < 12 → ∀ b, b < 12 → a ≠ b → (TX8 a).2.1 ≠ (TX8 b).2.1 := by decide +kernel
theorem tyX8_ok : ∀ k, k < 12 → parseFieldDescriptor (TX8 k).2.2.1 = some (tyX8 k) := by decide +kernel
abbrev cX8_init : ByteArray := prog_1_method_1_code
def yX8_init : MethodName := ⟨RX8, "<init>", "()V"⟩
abbrev cX8_island : ByteArray := prog_1_method_2_code
def yX8_island : MethodName := ⟨RX8, "island", "(I)I"⟩
abbrev cX8_caster : ByteArray := prog_1_method_3_code
def yX8_caster : MethodName := ⟨RX8, "caster", "(III)I"⟩
abbrev cX8_jar : ByteArray := prog_1_method_4_code
def yX8_jar : MethodName := ⟨RX8, "jar", "(I)I"⟩
abbrev cX8_type : ByteArray := prog_1_method_5_code
def yX8_type : MethodName := ⟨RX8, "type", "(I)I"⟩
abbrev cX8_clear : ByteArray := prog_1_method_6_code
def yX8_clear : MethodName := ⟨RX8, "clear", "()I"⟩
abbrev cX8_read : ByteArray := prog_1_method_7_code
def yX8_read : MethodName := ⟨RX8, "read", "()I"⟩
abbrev cX8_ladle : ByteArray := prog_1_method_8_code
def yX8_ladle : MethodName := ⟨RX8, "ladle", "(II)I"⟩
abbrev cX8_pours : ByteArray := prog_1_method_9_code
def yX8_pours : MethodName := ⟨RX8, "pours", "(II)I"⟩
abbrev cX8_sells : ByteArray := prog_1_method_10_code
def yX8_sells : MethodName := ⟨RX8, "sells", "(I)I"⟩
abbrev cX8_hours : ByteArray := prog_1_method_11_code
def yX8_hours : MethodName := ⟨RX8, "hours", "(I)I"⟩
abbrev cX8_undo : ByteArray := prog_1_method_12_code
def yX8_undo : MethodName := ⟨RX8, "undo", "()I"⟩
abbrev cX8_of : ByteArray := prog_1_method_13_code
def yX8_of : MethodName := ⟨RX8, "of", "(II)I"⟩
abbrev cX8_about : ByteArray := prog_1_method_14_code
def yX8_about : MethodName := ⟨RX8, "about", "(II)I"⟩
abbrev cX8_gives : ByteArray := prog_1_method_15_code
def yX8_gives : MethodName := ⟨RX8, "gives", "(II)I"⟩
abbrev cX8_keeps : ByteArray := prog_1_method_16_code
def yX8_keeps : MethodName := ⟨RX8, "keeps", "(II)I"⟩
abbrev cX8_when : ByteArray := prog_1_method_17_code
def yX8_when : MethodName := ⟨RX8, "when", "(I)I"⟩
abbrev cX8_gone : ByteArray := prog_1_method_18_code
def yX8_gone : MethodName := ⟨RX8, "gone", "(I)I"⟩
abbrev cX8_round : ByteArray := prog_1_method_19_code
def yX8_round : MethodName := ⟨RX8, "round", "(III)I"⟩
abbrev cX8_few : ByteArray := prog_1_method_20_code
def yX8_few : MethodName := ⟨RX8, "few", "(IIII)I"⟩
abbrev cX8_into : ByteArray := prog_1_method_21_code
def yX8_into : MethodName := ⟨RX8, "into", "(III)I"⟩
abbrev cX8_note : ByteArray := prog_1_method_22_code
def yX8_note : MethodName := ⟨RX8, "note", "(IIII)I"⟩
abbrev cX8_mark : ByteArray := prog_1_method_23_code
def yX8_mark : MethodName := ⟨RX8, "mark", "(IIII)I"⟩
abbrev cX8_forget : ByteArray := prog_1_method_24_code
def yX8_forget : MethodName := ⟨RX8, "forget", "(I)I"⟩
abbrev cX8_is : ByteArray := prog_1_method_25_code
def yX8_is : MethodName := ⟨RX8, "is", "(I)I"⟩
abbrev cX8_look : ByteArray := prog_1_method_26_code
def yX8_look : MethodName := ⟨RX8, "look", "(I)I"⟩
abbrev cX8_kinds : ByteArray := prog_1_method_27_code
def yX8_kinds : MethodName := ⟨RX8, "kinds", "(I)I"⟩
abbrev cX8_ask : ByteArray := prog_1_method_28_code
def yX8_ask : MethodName := ⟨RX8, "ask", "(I)I"⟩
abbrev cX8_two : ByteArray := prog_1_method_29_code
def yX8_two : MethodName := ⟨RX8, "two", "(I)I"⟩
abbrev cX8_spilt : ByteArray := prog_1_method_30_code
def yX8_spilt : MethodName := ⟨RX8, "spilt", "(IIII)I"⟩
abbrev cX8_noons : ByteArray := prog_1_method_31_code
def yX8_noons : MethodName := ⟨RX8, "noons", "(II)I"⟩
abbrev cX8_part : ByteArray := prog_1_method_32_code
def yX8_part : MethodName := ⟨RX8, "part", "(I)J"⟩
abbrev cX8_image : ByteArray := prog_1_method_33_code
def yX8_image : MethodName := ⟨RX8, "image", "(I)I"⟩
abbrev cX8_from : ByteArray := prog_1_method_34_code
def yX8_from : MethodName := ⟨RX8, "from", "(I)I"⟩
abbrev cX8_status : ByteArray := prog_1_method_35_code
def yX8_status : MethodName := ⟨RX8, "status", "(I)I"⟩
abbrev cX8_count : ByteArray := prog_1_method_36_code
def yX8_count : MethodName := ⟨RX8, "count", "(I)I"⟩
abbrev cX8_digest : ByteArray := prog_1_method_37_code
def yX8_digest : MethodName := ⟨RX8, "digest", "()J"⟩
abbrev cX8_within : ByteArray := prog_1_method_38_code
def yX8_within : MethodName := ⟨RX8, "within", "(III)Z"⟩
abbrev cX8_refused : ByteArray := prog_1_method_39_code
def yX8_refused : MethodName := ⟨RX8, "refused", "(I)I"⟩
abbrev cX8_counted : ByteArray := prog_1_method_40_code
def yX8_counted : MethodName := ⟨RX8, "counted", "(I)I"⟩
abbrev cX8_fewestLadles : ByteArray := prog_1_method_41_code
def yX8_fewestLadles : MethodName := ⟨RX8, "fewestLadles", "(III)I"⟩
abbrev cX8_pouredBehind : ByteArray := prog_1_method_42_code
def yX8_pouredBehind : MethodName := ⟨RX8, "pouredBehind", "(III)I"⟩
abbrev cX8_rests : ByteArray := prog_1_method_43_code
def yX8_rests : MethodName := ⟨RX8, "rests", "(II)Z"⟩
abbrev cX8_share : ByteArray := prog_1_method_44_code
def yX8_share : MethodName := ⟨RX8, "share", "(II)I"⟩
abbrev cX8_setFraction : ByteArray := prog_1_method_45_code
def yX8_setFraction : MethodName := ⟨RX8, "setFraction", "(JJ)V"⟩
abbrev cX8_greatestDivisor : ByteArray := prog_1_method_46_code
def yX8_greatestDivisor : MethodName := ⟨RX8, "greatestDivisor", "(JJ)J"⟩
def RX9 : String := "NoonShadeModel"
def TX9 : u_T := fun k => match k with
  | 0 => ("NoonShadeModel", "all", "[I", true)
  | 1 => ("NoonShadeModel", "kept", "[I", true)
  | 2 => ("NoonShadeModel", "isKept", "[Z", true)
  | 3 => ("NoonShadeModel", "refused", "[I", true)
  | 4 => ("NoonShadeModel", "above", "J", false)
  | 5 => ("NoonShadeModel", "below", "J", false)
  | 6 => ("NoonShadeModel", "hand", "[I", true)
  | 7 => ("NoonShadeModel", "mostBy", "I", false)
  | 8 => ("NoonShadeModel", "tells", "[I", true)
  | 9 => ("NoonShadeModel", "bytes", "[I", true)
  | 10 => ("NoonShadeModel", "bytesLong", "I", false)
  | 11 => ("NoonShadeModel", "tokenAt", "I", false)
  | 12 => ("NoonShadeModel", "tokenLong", "I", false)
  | 13 => ("NoonShadeModel", "token", "I", false)
  | 14 => ("NoonShadeModel", "value", "I", false)
  | 15 => ("NoonShadeModel", "anew", "[I", true)
  | _ => ("NoonShadeModel", "values", "[I", true)
def tyX9 : Nat → FieldType := fun k => match k with
  | 0 => .array .int
  | 1 => .array .int
  | 2 => .array .boolean
  | 3 => .array .int
  | 4 => .long
  | 5 => .long
  | 6 => .array .int
  | 7 => .int
  | 8 => .array .int
  | 9 => .array .int
  | 10 => .int
  | 11 => .int
  | 12 => .int
  | 13 => .int
  | 14 => .int
  | 15 => .array .int
  | _ => .array .int
theorem nmX9 : ∀ a, a < 17 → ∀ b, b < 17 → a ≠ b → (TX9 a).2.1 ≠ (TX9 b).2.1 := by decide +kernel
theorem tyX9_ok : ∀ k, k < 17 → parseFieldDescriptor (TX9 k).2.2.1 = some (tyX9 k) := by decide +kernel
abbrev cX9_init : ByteArray := prog_11_method_1_code
def yX9_init : MethodName := ⟨RX9, "<init>", "()V"⟩
abbrev cX9_in : ByteArray := prog_11_method_3_code
def yX9_in : MethodName := ⟨RX9, "in", "(JJJ)Z"⟩
abbrev cX9_bad : ByteArray := prog_11_method_4_code
def yX9_bad : MethodName := ⟨RX9, "bad", "(I)I"⟩
abbrev cX9_no : ByteArray := prog_11_method_5_code
def yX9_no : MethodName := ⟨RX9, "no", "()I"⟩
abbrev cX9_full : ByteArray := prog_11_method_6_code
def yX9_full : MethodName := ⟨RX9, "full", "()I"⟩
abbrev cX9_has : ByteArray := prog_11_method_7_code
def yX9_has : MethodName := ⟨RX9, "has", "(II)Z"⟩
abbrev cX9_bits : ByteArray := prog_11_method_8_code
def yX9_bits : MethodName := ⟨RX9, "bits", "(I)I"⟩
abbrev cX9_begin : ByteArray := prog_11_method_9_code
def yX9_begin : MethodName := ⟨RX9, "begin", "([II)V"⟩
abbrev cX9_isCaster : ByteArray := prog_11_method_10_code
def yX9_isCaster : MethodName := ⟨RX9, "isCaster", "(I)Z"⟩
abbrev cX9_isJar : ByteArray := prog_11_method_11_code
def yX9_isJar : MethodName := ⟨RX9, "isJar", "(I)Z"⟩
abbrev cX9_isKind : ByteArray := prog_11_method_12_code
def yX9_isKind : MethodName := ⟨RX9, "isKind", "(I)Z"⟩
abbrev cX9_isHeight : ByteArray := prog_11_method_13_code
def yX9_isHeight : MethodName := ⟨RX9, "isHeight", "(I)Z"⟩
abbrev cX9_isTaste : ByteArray := prog_11_method_14_code
def yX9_isTaste : MethodName := ⟨RX9, "isTaste", "(I)Z"⟩
abbrev cX9_isHour : ByteArray := prog_11_method_15_code
def yX9_isHour : MethodName := ⟨RX9, "isHour", "(I)Z"⟩
abbrev cX9_isCool : ByteArray := prog_11_method_16_code
def yX9_isCool : MethodName := ⟨RX9, "isCool", "(I)Z"⟩
abbrev cX9_island : ByteArray := prog_11_method_17_code
def yX9_island : MethodName := ⟨RX9, "island", "(I)I"⟩
abbrev cX9_layCaster : ByteArray := prog_11_method_18_code
def yX9_layCaster : MethodName := ⟨RX9, "layCaster", "([IIII)V"⟩
abbrev cX9_caster : ByteArray := prog_11_method_19_code
def yX9_caster : MethodName := ⟨RX9, "caster", "(III)I"⟩
abbrev cX9_layJar : ByteArray := prog_11_method_20_code
def yX9_layJar : MethodName := ⟨RX9, "layJar", "([II)V"⟩
abbrev cX9_jar : ByteArray := prog_11_method_21_code
def yX9_jar : MethodName := ⟨RX9, "jar", "(I)I"⟩
abbrev cX9_givesAs : ByteArray := prog_11_method_22_code
def yX9_givesAs : MethodName := ⟨RX9, "givesAs", "(III)I"⟩
abbrev cX9_losesAs : ByteArray := prog_11_method_23_code
def yX9_losesAs : MethodName := ⟨RX9, "losesAs", "(III)I"⟩
abbrev cX9_givesOf : ByteArray := prog_11_method_24_code
def yX9_givesOf : MethodName := ⟨RX9, "givesOf", "([III)I"⟩
abbrev cX9_losesOf : ByteArray := prog_11_method_25_code
def yX9_losesOf : MethodName := ⟨RX9, "losesOf", "([II)I"⟩
abbrev cX9_goIn : ByteArray := prog_11_method_26_code
def yX9_goIn : MethodName := ⟨RX9, "goIn", "([IIII)I"⟩
abbrev cX9_goLadle : ByteArray := prog_11_method_27_code
def yX9_goLadle : MethodName := ⟨RX9, "goLadle", "([III)I"⟩
abbrev cX9_goPour : ByteArray := prog_11_method_28_code
def yX9_goPour : MethodName := ⟨RX9, "goPour", "([III)I"⟩
abbrev cX9_goHour : ByteArray := prog_11_method_29_code
def yX9_goHour : MethodName := ⟨RX9, "goHour", "([I)V"⟩
abbrev cX9_goHours : ByteArray := prog_11_method_30_code
def yX9_goHours : MethodName := ⟨RX9, "goHours", "([II)V"⟩
abbrev cX9_save : ByteArray := prog_11_method_31_code
def yX9_save : MethodName := ⟨RX9, "save", "()V"⟩
abbrev cX9_ladle : ByteArray := prog_11_method_32_code
def yX9_ladle : MethodName := ⟨RX9, "ladle", "(II)I"⟩
abbrev cX9_pours : ByteArray := prog_11_method_33_code
def yX9_pours : MethodName := ⟨RX9, "pours", "(II)I"⟩
abbrev cX9_sells : ByteArray := prog_11_method_34_code
def yX9_sells : MethodName := ⟨RX9, "sells", "(I)I"⟩
abbrev cX9_hours : ByteArray := prog_11_method_35_code
def yX9_hours : MethodName := ⟨RX9, "hours", "(I)I"⟩
abbrev cX9_undo : ByteArray := prog_11_method_36_code
def yX9_undo : MethodName := ⟨RX9, "undo", "()I"⟩
abbrev cX9_toldCaster : ByteArray := prog_11_method_37_code
def yX9_toldCaster : MethodName := ⟨RX9, "toldCaster", "(II)I"⟩
abbrev cX9_of : ByteArray := prog_11_method_38_code
def yX9_of : MethodName := ⟨RX9, "of", "(II)I"⟩
abbrev cX9_toldJar : ByteArray := prog_11_method_39_code
def yX9_toldJar : MethodName := ⟨RX9, "toldJar", "(II)I"⟩
abbrev cX9_about : ByteArray := prog_11_method_40_code
def yX9_about : MethodName := ⟨RX9, "about", "(II)I"⟩
abbrev cX9_layHand : ByteArray := prog_11_method_41_code
def yX9_layHand : MethodName := ⟨RX9, "layHand", "()V"⟩
abbrev cX9_gives : ByteArray := prog_11_method_42_code
def yX9_gives : MethodName := ⟨RX9, "gives", "(II)I"⟩
abbrev cX9_keeps : ByteArray := prog_11_method_43_code
def yX9_keeps : MethodName := ⟨RX9, "keeps", "(II)I"⟩
abbrev cX9_when : ByteArray := prog_11_method_44_code
def yX9_when : MethodName := ⟨RX9, "when", "(I)I"⟩
abbrev cX9_gone : ByteArray := prog_11_method_45_code
def yX9_gone : MethodName := ⟨RX9, "gone", "(I)I"⟩
abbrev cX9_power : ByteArray := prog_11_method_46_code
def yX9_power : MethodName := ⟨RX9, "power", "(II)I"⟩
abbrev cX9_casterBy : ByteArray := prog_11_method_47_code
def yX9_casterBy : MethodName := ⟨RX9, "casterBy", "(III)I"⟩
abbrev cX9_bestRow : ByteArray := prog_11_method_48_code
def yX9_bestRow : MethodName := ⟨RX9, "bestRow", "(II)I"⟩
abbrev cX9_round : ByteArray := prog_11_method_49_code
def yX9_round : MethodName := ⟨RX9, "round", "(III)I"⟩
abbrev cX9_isOfTaste : ByteArray := prog_11_method_50_code
def yX9_isOfTaste : MethodName := ⟨RX9, "isOfTaste", "(II)Z"⟩
abbrev cX9_givenBy : ByteArray := prog_11_method_51_code
def yX9_givenBy : MethodName := ⟨RX9, "givenBy", "(I)I"⟩
abbrev cX9_few : ByteArray := prog_11_method_52_code
def yX9_few : MethodName := ⟨RX9, "few", "(IIII)I"⟩
abbrev cX9_into : ByteArray := prog_11_method_53_code
def yX9_into : MethodName := ⟨RX9, "into", "(III)I"⟩
abbrev cX9_layFour : ByteArray := prog_11_method_54_code
def yX9_layFour : MethodName := ⟨RX9, "layFour", "(IIIII)V"⟩
abbrev cX9_note : ByteArray := prog_11_method_55_code
def yX9_note : MethodName := ⟨RX9, "note", "(IIII)I"⟩
abbrev cX9_mark : ByteArray := prog_11_method_56_code
def yX9_mark : MethodName := ⟨RX9, "mark", "(IIII)I"⟩
abbrev cX9_forget : ByteArray := prog_11_method_57_code
def yX9_forget : MethodName := ⟨RX9, "forget", "(I)I"⟩
abbrev cX9_kindsBy : ByteArray := prog_11_method_58_code
def yX9_kindsBy : MethodName := ⟨RX9, "kindsBy", "(IIIZ)I"⟩
abbrev cX9_kindsOfCaster : ByteArray := prog_11_method_59_code
def yX9_kindsOfCaster : MethodName := ⟨RX9, "kindsOfCaster", "(I)I"⟩
abbrev cX9_kindsOfJar : ByteArray := prog_11_method_60_code
def yX9_kindsOfJar : MethodName := ⟨RX9, "kindsOfJar", "(I)I"⟩
abbrev cX9_is : ByteArray := prog_11_method_61_code
def yX9_is : MethodName := ⟨RX9, "is", "(I)I"⟩
abbrev cX9_mostAlike : ByteArray := prog_11_method_62_code
def yX9_mostAlike : MethodName := ⟨RX9, "mostAlike", "(I)I"⟩
abbrev cX9_look : ByteArray := prog_11_method_63_code
def yX9_look : MethodName := ⟨RX9, "look", "(I)I"⟩
abbrev cX9_kinds : ByteArray := prog_11_method_64_code
def yX9_kinds : MethodName := ⟨RX9, "kinds", "(I)I"⟩
abbrev cX9_ask : ByteArray := prog_11_method_65_code
def yX9_ask : MethodName := ⟨RX9, "ask", "(I)I"⟩
abbrev cX9_gets : ByteArray := prog_11_method_66_code
def yX9_gets : MethodName := ⟨RX9, "gets", "(II)I"⟩
abbrev cX9_mayName : ByteArray := prog_11_method_67_code
def yX9_mayName : MethodName := ⟨RX9, "mayName", "(I)Z"⟩
abbrev cX9_rests : ByteArray := prog_11_method_68_code
def yX9_rests : MethodName := ⟨RX9, "rests", "(II)Z"⟩
abbrev cX9_two : ByteArray := prog_11_method_69_code
def yX9_two : MethodName := ⟨RX9, "two", "(I)I"⟩
abbrev cX9_fraction : ByteArray := prog_11_method_70_code
def yX9_fraction : MethodName := ⟨RX9, "fraction", "(JJ)V"⟩
abbrev cX9_spilt : ByteArray := prog_11_method_71_code
def yX9_spilt : MethodName := ⟨RX9, "spilt", "(IIII)I"⟩
abbrev cX9_noons : ByteArray := prog_11_method_72_code
def yX9_noons : MethodName := ⟨RX9, "noons", "(II)I"⟩
abbrev cX9_type : ByteArray := prog_11_method_73_code
def yX9_type : MethodName := ⟨RX9, "type", "(I)I"⟩
abbrev cX9_clear : ByteArray := prog_11_method_74_code
def yX9_clear : MethodName := ⟨RX9, "clear", "()I"⟩
abbrev cX9_isSmall : ByteArray := prog_11_method_75_code
def yX9_isSmall : MethodName := ⟨RX9, "isSmall", "(I)Z"⟩
abbrev cX9_isFigure : ByteArray := prog_11_method_76_code
def yX9_isFigure : MethodName := ⟨RX9, "isFigure", "(I)Z"⟩
abbrev cX9_lookAt : ByteArray := prog_11_method_77_code
def yX9_lookAt : MethodName := ⟨RX9, "lookAt", "(I)V"⟩
abbrev cX9_goBehind : ByteArray := prog_11_method_78_code
def yX9_goBehind : MethodName := ⟨RX9, "goBehind", "()V"⟩
abbrev cX9_spells : ByteArray := prog_11_method_79_code
def yX9_spells : MethodName := ⟨RX9, "spells", "(IIIIIII)Z"⟩
abbrev cX9_takes : ByteArray := prog_11_method_80_code
def yX9_takes : MethodName := ⟨RX9, "takes", "(III)Z"⟩
abbrev cX9_takesCaster : ByteArray := prog_11_method_81_code
def yX9_takesCaster : MethodName := ⟨RX9, "takesCaster", "()Z"⟩
abbrev cX9_takesJar : ByteArray := prog_11_method_82_code
def yX9_takesJar : MethodName := ⟨RX9, "takesJar", "()Z"⟩
abbrev cX9_takesLadle : ByteArray := prog_11_method_83_code
def yX9_takesLadle : MethodName := ⟨RX9, "takesLadle", "()Z"⟩
abbrev cX9_takesPour : ByteArray := prog_11_method_84_code
def yX9_takesPour : MethodName := ⟨RX9, "takesPour", "()Z"⟩
abbrev cX9_takesHours : ByteArray := prog_11_method_85_code
def yX9_takesHours : MethodName := ⟨RX9, "takesHours", "()Z"⟩
abbrev cX9_takesItem : ByteArray := prog_11_method_86_code
def yX9_takesItem : MethodName := ⟨RX9, "takesItem", "()Z"⟩
abbrev cX9_read : ByteArray := prog_11_method_87_code
def yX9_read : MethodName := ⟨RX9, "read", "()I"⟩
abbrev cX9_part : ByteArray := prog_11_method_88_code
def yX9_part : MethodName := ⟨RX9, "part", "(I)J"⟩
abbrev cX9_image : ByteArray := prog_11_method_89_code
def yX9_image : MethodName := ⟨RX9, "image", "(I)I"⟩
abbrev cX9_from : ByteArray := prog_11_method_90_code
def yX9_from : MethodName := ⟨RX9, "from", "(I)I"⟩
abbrev cX9_status : ByteArray := prog_11_method_91_code
def yX9_status : MethodName := ⟨RX9, "status", "(I)I"⟩
abbrev cX9_coolOf : ByteArray := prog_11_method_92_code
def yX9_coolOf : MethodName := ⟨RX9, "coolOf", "([I)I"⟩
abbrev cX9_counted : ByteArray := prog_11_method_93_code
def yX9_counted : MethodName := ⟨RX9, "counted", "(I)I"⟩
abbrev cX9_count : ByteArray := prog_11_method_94_code
def yX9_count : MethodName := ⟨RX9, "count", "(I)I"⟩
abbrev cX9_sums : ByteArray := prog_11_method_95_code
def yX9_sums : MethodName := ⟨RX9, "sums", "(JII)J"⟩
abbrev cX9_digest : ByteArray := prog_11_method_96_code
def yX9_digest : MethodName := ⟨RX9, "digest", "()J"⟩
def RJ6 : String := "java/lang/Integer"
def TJ6 : u_T := fun k => match k with
  | _ => ("", "", "", false)
def tyJ6 : Nat → FieldType := fun k => match k with
  | _ => .int
theorem nmJ6 : ∀ a, a < 0 → ∀ b, b < 0 → a ≠ b → (TJ6 a).2.1 ≠ (TJ6 b).2.1 := by decide +kernel
theorem tyJ6_ok : ∀ k, k < 0 → parseFieldDescriptor (TJ6 k).2.2.1 = some (tyJ6 k) := by decide +kernel
abbrev cJ6_bitCount_0f7a4 : ByteArray := prog_12_method_49_code
def yJ6_bitCount_0f7a4 : MethodName := ⟨RJ6, "bitCount", "(I)I"⟩
def RJ9 : String := "java/lang/Math"
def TJ9 : u_T := fun k => match k with
  | _ => ("", "", "", false)
def tyJ9 : Nat → FieldType := fun k => match k with
  | _ => .int
theorem nmJ9 : ∀ a, a < 0 → ∀ b, b < 0 → a ≠ b → (TJ9 a).2.1 ≠ (TJ9 b).2.1 := by decide +kernel
theorem tyJ9_ok : ∀ k, k < 0 → parseFieldDescriptor (TJ9 k).2.2.1 = some (tyJ9 k) := by decide +kernel
abbrev cJ9_abs_0f7a4 : ByteArray := prog_13_method_59_code
def yJ9_abs_0f7a4 : MethodName := ⟨RJ9, "abs", "(I)I"⟩
abbrev cJ9_max_7cf53 : ByteArray := prog_13_method_65_code
def yJ9_max_7cf53 : MethodName := ⟨RJ9, "max", "(II)I"⟩
abbrev cJ9_min_7cf53 : ByteArray := prog_13_method_69_code
def yJ9_min_7cf53 : MethodName := ⟨RJ9, "min", "(II)I"⟩
def RJ0 : String := "java/lang/String"
def TJ0 : u_T := fun k => match k with
  | _ => ("", "", "", false)
def tyJ0 : Nat → FieldType := fun k => match k with
  | _ => .int
theorem nmJ0 : ∀ a, a < 0 → ∀ b, b < 0 → a ≠ b → (TJ0 a).2.1 ≠ (TJ0 b).2.1 := by decide +kernel
theorem tyJ0_ok : ∀ k, k < 0 → parseFieldDescriptor (TJ0 k).2.2.1 = some (tyJ0 k) := by decide +kernel
abbrev cJ0_length_8abf5 : ByteArray := prog_14_method_54_code
def yJ0_length_8abf5 : MethodName := ⟨RJ0, "length", "()I"⟩
abbrev cJ0_charAt_5068e : ByteArray := prog_14_method_56_code
def yJ0_charAt_5068e : MethodName := ⟨RJ0, "charAt", "(I)C"⟩
abbrev cJ0_coder_7d493 : ByteArray := prog_14_method_152_code
def yJ0_coder_7d493 : MethodName := ⟨RJ0, "coder", "()B"⟩
abbrev cJ0_isLatin1_aae02 : ByteArray := prog_14_method_154_code
def yJ0_isLatin1_aae02 : MethodName := ⟨RJ0, "isLatin1", "()Z"⟩
abbrev cJ0_checkIndex_df160 : ByteArray := prog_14_method_155_code
def yJ0_checkIndex_df160 : MethodName := ⟨RJ0, "checkIndex", "(II)V"⟩
def RJ1 : String := "java/lang/StringLatin1"
def TJ1 : u_T := fun k => match k with
  | _ => ("", "", "", false)
def tyJ1 : Nat → FieldType := fun k => match k with
  | _ => .int
theorem nmJ1 : ∀ a, a < 0 → ∀ b, b < 0 → a ≠ b → (TJ1 a).2.1 ≠ (TJ1 b).2.1 := by decide +kernel
theorem tyJ1_ok : ∀ k, k < 0 → parseFieldDescriptor (TJ1 k).2.2.1 = some (tyJ1 k) := by decide +kernel
abbrev cJ1_charAt_3b067 : ByteArray := prog_15_method_2_code
def yJ1_charAt_3b067 : MethodName := ⟨RJ1, "charAt", "([BI)C"⟩
def RJ2 : String := "java/lang/StringUTF16"
def TJ2 : u_T := fun k => match k with
  | _ => ("", "", "", false)
def tyJ2 : Nat → FieldType := fun k => match k with
  | _ => .int
theorem nmJ2 : ∀ a, a < 0 → ∀ b, b < 0 → a ≠ b → (TJ2 a).2.1 ≠ (TJ2 b).2.1 := by decide +kernel
theorem tyJ2_ok : ∀ k, k < 0 → parseFieldDescriptor (TJ2 k).2.2.1 = some (tyJ2 k) := by decide +kernel
abbrev cJ2_getChar_3b067 : ByteArray := prog_16_method_5_code
def yJ2_getChar_3b067 : MethodName := ⟨RJ2, "getChar", "([BI)C"⟩
abbrev cJ2_length_9d52b : ByteArray := prog_16_method_6_code
def yJ2_length_9d52b : MethodName := ⟨RJ2, "length", "([B)I"⟩
abbrev cJ2_charAt_3b067 : ByteArray := prog_16_method_83_code
def yJ2_charAt_3b067 : MethodName := ⟨RJ2, "charAt", "([BI)C"⟩
abbrev cJ2_checkIndex_2214a : ByteArray := prog_16_method_91_code
def yJ2_checkIndex_2214a : MethodName := ⟨RJ2, "checkIndex", "(I[B)V"⟩
def RJ10 : String := "java/lang/System"
def TJ10 : u_T := fun k => match k with
  | _ => ("", "", "", false)
def tyJ10 : Nat → FieldType := fun k => match k with
  | _ => .int
theorem nmJ10 : ∀ a, a < 0 → ∀ b, b < 0 → a ≠ b → (TJ10 a).2.1 ≠ (TJ10 b).2.1 := by decide +kernel
theorem tyJ10_ok : ∀ k, k < 0 → parseFieldDescriptor (TJ10 k).2.2.1 = some (tyJ10 k) := by decide +kernel
def RJ3 : String := "jdk/internal/util/Preconditions"
def TJ3 : u_T := fun k => match k with
  | _ => ("", "", "", false)
def tyJ3 : Nat → FieldType := fun k => match k with
  | _ => .int
theorem nmJ3 : ∀ a, a < 0 → ∀ b, b < 0 → a ≠ b → (TJ3 a).2.1 ≠ (TJ3 b).2.1 := by decide +kernel
theorem tyJ3_ok : ∀ k, k < 0 → parseFieldDescriptor (TJ3 k).2.2.1 = some (tyJ3 k) := by decide +kernel
abbrev cJ3_checkIndex_8e157 : ByteArray := prog_18_method_11_code
def yJ3_checkIndex_8e157 : MethodName := ⟨RJ3, "checkIndex", "(IILjava/util/function/BiFunction;)I"⟩
def RL : String := "NoonShadeLaw"
abbrev cL_law : ByteArray := code
def yL_law : MethodName := ⟨RL, "law", "([I)Z"⟩
abbrev vwCl : List vw_C := [(RX1, TX1, 1), (RX2, TX2, 14), (RX4, TX4, 2), (RX5, TX5, 6), (RX6, TX6, 2), (RX7, TX7, 7), (RX8, TX8, 12), (RX9, TX9, 17)]
end
section
/-! ===== the words of all methods: the tables' good words ===== -/
def gtb : List Cond := lw_tbl.filter goodWord
theorem gtb_sub : ∀ w ∈ gtb, w ∈ lw_tbl := fun w h => (List.mem_filter.mp h).1
theorem gtb_mem {w : Cond} (h : w ∈ lw_tbl) (g : goodWord w = true) : w ∈ gtb := List.mem_filter.mpr ⟨h, g⟩
theorem gtb_good : GoodIn gtb gtb := fun w h => ⟨h, good_of_word (List.mem_filter.mp h).2⟩
theorem gtb_cons {w : Cond} (h : w ∈ gtb) : GoodIn gtb (w :: gtb) := fun v hv => (List.mem_cons.mp hv).elim (fun e => by rw [e]; exact gtb_good w h) (fun h => gtb_good v h)
theorem gtb_app {ws vs : List Cond} (h : ∀ w ∈ ws, w ∈ gtb) (g : GoodIn gtb vs) : GoodIn gtb (ws ++ vs) := fun v hv => (List.mem_append.mp hv).elim (fun q => gtb_good v (h v q)) (fun q => g v q)
/-! ===== a world of n cells, by their numbers ===== -/
def wl (n : Nat) (ad : Nat → Nat) (w : Nat → va_E) : va_W := (List.range n).map (fun k => (ad k, w k))
theorem wl_get {n k : Nat} {ad : Nat → Nat} {w : Nat → va_E} (h : k < n) : (wl n ad w)[k]? = some (ad k, w k) := by
  simp [wl, h]
theorem wl_inv {n k : Nat} {ad : Nat → Nat} {w : Nat → va_E} {q : Nat × va_E} (h : (wl n ad w)[k]? = some q) : k < n ∧ q = (ad k, w k) := by
  have hl : k < (wl n ad w).length := (List.getElem?_eq_some_iff.mp h).1
  have hn : k < n := by simpa [wl] using hl
  rw [wl_get hn] at h
  exact ⟨hn, (Option.some.inj h).symm⟩
theorem wl_len {n : Nat} {ad : Nat → Nat} {w : Nat → va_E} : (wl n ad w).length = n := by simp [wl]
theorem wl_set {n k : Nat} {ad : Nat → Nat} {w : Nat → va_E} (h : k < n) (e : va_E) : (wl n ad w).set k (ad k, e) = wl n ad (va_up w k e) := by
  apply List.ext_getElem?
  intro j
  rw [List.getElem?_set]
  by_cases hj : j < n
  · by_cases hk : k = j
    · subst hk
      rw [if_pos rfl, if_pos (by rw [wl_len]; exact h), wl_get h, va_up_self]
    · rw [if_neg hk, wl_get hj, wl_get hj, va_up_ne _ _ (Ne.symm hk)]
  · have e1 : (wl n ad (va_up w k e))[j]? = none := List.getElem?_eq_none (by rw [wl_len]; omega)
    have e2 : (wl n ad w)[j]? = none := List.getElem?_eq_none (by rw [wl_len]; omega)
    rw [if_neg (by omega), e1, e2]
theorem wl_push {n : Nat} {ad : Nat → Nat} {w : Nat → va_E} (q : Nat) (e : va_E) : wl n ad w ++ [(q, e)] = wl (n + 1) (va_up ad n q) (va_up w n e) := by
  apply List.ext_getElem?
  intro j
  by_cases hj : j < n
  · rw [List.getElem?_append_left (by rw [wl_len]; exact hj), wl_get hj, wl_get (by omega), va_up_ne _ _ (by omega), va_up_ne _ _ (by omega)]
  · rw [List.getElem?_append_right (by rw [wl_len]; omega), wl_len]
    by_cases h2 : j = n
    · subst h2
      rw [wl_get (by omega), va_up_self, va_up_self]; simp
    · have e1 : (wl (n + 1) (va_up ad n q) (va_up w n e))[j]? = none := List.getElem?_eq_none (by rw [wl_len]; omega)
      rw [e1]
      exact List.getElem?_eq_none (by simp; omega)
/-- the cells' addresses are apart, and of a kind -/
def WD (A : Nat → Prop) (n : Nat) (ad : Nat → Nat) : Prop := (∀ i j, i < n → j < n → ad i = ad j → i = j) ∧ ∀ k, k < n → A (ad k)
theorem WD.D {A : Nat → Prop} {n : Nat} {ad : Nat → Nat} (h : WD A n ad) (w : Nat → va_E) : va_D A (wl n ad w) := by
  refine ⟨fun i j p q hi hj e => ?_, fun k q hk => ?_⟩
  · obtain ⟨h1, rfl⟩ := wl_inv hi
    obtain ⟨h2, rfl⟩ := wl_inv hj
    exact h.1 i j h1 h2 e
  · obtain ⟨h1, rfl⟩ := wl_inv hk
    exact h.2 k h1
theorem WD.of {A : Nat → Prop} {n : Nat} {ad : Nat → Nat} {w : Nat → va_E} (h : va_D A (wl n ad w)) : WD A n ad :=
  ⟨fun i j hi hj e => h.1 i j _ _ (wl_get hi) (wl_get hj) e, fun k hk => h.2 k _ (wl_get hk)⟩
theorem WD.weaken {A B : Nat → Prop} {n : Nat} {ad : Nat → Nat} (h : WD A n ad) (g : ∀ q, A q → B q) : WD B n ad := ⟨h.1, fun k hk => g _ (h.2 k hk)⟩
theorem WD.sub {A : Nat → Prop} {n n' : Nat} {ad : Nat → Nat} (h : WD A n ad) (g : n' ≤ n) : WD A n' ad := ⟨fun i j hi hj e => h.1 i j (by omega) (by omega) e, fun k hk => h.2 k (by omega)⟩
def wA (n : Nat) (ad : Nat → Nat) (sz : Nat) : Nat → Prop := fun q => (∃ k, k < n ∧ q = ad k) ∨ sz ≤ q
theorem WD.self {A : Nat → Prop} {n sz : Nat} {ad : Nat → Nat} (h : WD A n ad) : WD (wA n ad sz) n ad := ⟨h.1, fun k hk => Or.inl ⟨k, hk, rfl⟩⟩
theorem WD.free {A : Nat → Prop} {n sz : Nat} {ad : Nat → Nat} (h : WD A n ad) (hA : ∀ q, sz ≤ q → A q) {z : Nat} (hz : sz ≤ z) : ∀ q, wA n ad z q → A q := fun q hq => hq.elim (fun ⟨k, hk, e⟩ => by rw [e]; exact h.2 k hk) (fun g => hA q (Nat.le_trans hz g))
/-! ===== where a method stands ===== -/
def Fx (p : Program) (m : MethodId) (c : Code) (cc : ByteArray) (nL : Nat) (s : State) (args : Array Value) (own : String) (G : va_G) (tys : List (ClassId × FieldType)) (A : Nat → Prop) : Prop := CallFix p m c cc nL s args gtb own ∧ va_K G vwCl tys s ∧ ∀ q, s.heap.size ≤ q → A q
def St (G : va_G) (n : Nat) (ad : Nat → Nat) (A : Nat → Prop) (H0 : Heap) (w : Nat → va_E) (H : Heap) (locs : List Loc) : Prop := va_P G vwCl (wl n ad w) H ∧ va_S A H0 H locs
def KC (ci : Nat) (C : String) (T : u_T) (ty : Nat → FieldType) (N : Nat) : Prop := vwCl[ci]? = some (C, T, N) ∧ (∀ w ∈ u_ws C T N, w ∈ gtb) ∧ (∀ k, k < N → parseFieldDescriptor (T k).2.2.1 = some (ty k)) ∧ (∀ a, a < N → ∀ b, b < N → a ≠ b → (T a).2.1 ≠ (T b).2.1)
section ROWS
variable {p : Program} {l : Launch} {e : Env} {R : Room} {s : State} {m : MethodId} {args : Array Value} {below : List Frame} {meth : Method} {c : Code} {H : Heap} {locs : List Loc} {cells slots : Nat} {Q : State → Prop}
variable {cc : ByteArray} {pc nL n : Nat} {ls : Array Slot} {rest : List Value} {own : String} {G : va_G} {tys : List (ClassId × FieldType)} {A : Nat → Prop} {ad : Nat → Nat} {w : Nat → va_E}
theorem r_get {ci N : Nat} {C : String} {T : u_T} {ty : Nat → FieldType} (kc : KC ci C T ty N) (X : Fx p m c cc nL s args own G tys A) (h : St G n ad A s.heap w H locs) (b k : Nat) {a index : Nat} {fs : List Value} {v : Value} (hb : b < n) (ha : ad b = a) (hw : w b = .inr (ci, fs)) (hk : k < N) (hlink : Cond.fieldLink own index (T k).1 (T k).2.1 (T k).2.2.1 ∈ gtb) (hv : fs[k]? = some v) (hdg : decode cc pc = .ok (.getfield index, 3))
    (kk : W p l e R s m args below meth c H locs cells slots Q (F0 m (pc + 3) ls (v :: rest))) : W p l e R s m args below meth c H locs cells slots Q (F0 m pc ls (.ref a :: rest)) :=
  va_get X.1.1 X.1.2.1 X.1.2.2.2.2 kc.2.1 X.1.2.2.2.1 X.2.1 h.1 b (by rw [wl_get hb, hw, ha]) kc.1 k hk (X.1.2.2.2.2 _ hlink) (fun _ h9 => h9) hv hdg kk
theorem r_put {ci N : Nat} {C : String} {T : u_T} {ty : Nat → FieldType} (kc : KC ci C T ty N) (X : Fx p m c cc nL s args own G tys A) (hD : WD A n ad) (h : St G n ad A s.heap w H locs) (b k : Nat) {a index : Nat} {fs : List Value} {v : Value} (hb : b < n) (ha : ad b = a) (hw : w b = .inr (ci, fs)) (hk : k < N) (hlink : Cond.fieldLink own index (T k).1 (T k).2.1 (T k).2.2.1 ∈ gtb) (hfin : (T k).2.2.2 = false) (hn : narrow (ty k) v = v) (hfit : fits (ty k) v = true) (hl : k < fs.length) (hdg : decode cc pc = .ok (.putfield index, 3))
    (kk : ∀ (H1 : Heap) (locs1 : List Loc) (w1 : Nat → va_E), w1 = va_up w b (.inr (ci, fs.set k v)) → St G n ad A s.heap w1 H1 locs1 → W p l e R s m args below meth c H1 locs1 cells slots Q (F0 m (pc + 3) ls rest)) : W p l e R s m args below meth c H locs cells slots Q (F0 m pc ls (v :: .ref a :: rest)) := by
  subst ha
  refine va_put X.1.1 X.1.2.1 X.1.2.2.2.2 kc.2.1 ty kc.2.2.1 kc.2.2.2 X.1.2.2.2.1 X.2.1 h.1 (hD.D w) h.2 b (by rw [wl_get hb, hw]) kc.1 k hk (X.1.2.2.2.2 _ hlink) (fun _ h9 => h9) hfin (kc.2.2.1 k hk) hn hfit hl hdg (fun H1 locs1 hP _ hS => ?_)
  rw [wl_set hb] at hP
  exact kk H1 locs1 _ rfl ⟨hP, hS⟩
theorem r_putF {ci N : Nat} {C : String} {T : u_T} {ty : Nat → FieldType} (kc : KC ci C T ty N) (X : Fx p m c cc nL s args own G tys A) (hD : WD A n ad) (h : St G n ad A s.heap w H locs) (hin : meth.name = "<init>") (b k : Nat) {a index : Nat} {fs : List Value} {v : Value} (hb : b < n) (ha : ad b = a) (hw : w b = .inr (ci, fs)) (hk : k < N) (hlink : Cond.fieldLink own index (T k).1 (T k).2.1 (T k).2.2.1 ∈ gtb) (hfin : (T k).2.2.2 = true) (hdecl : (T k).1 = own) (hn : narrow (ty k) v = v) (hfit : fits (ty k) v = true) (hl : k < fs.length) (hdg : decode cc pc = .ok (.putfield index, 3))
    (kk : ∀ (H1 : Heap) (locs1 : List Loc) (w1 : Nat → va_E), w1 = va_up w b (.inr (ci, fs.set k v)) → St G n ad A s.heap w1 H1 locs1 → W p l e R s m args below meth c H1 locs1 cells slots Q (F0 m (pc + 3) ls rest)) : W p l e R s m args below meth c H locs cells slots Q (F0 m pc ls (v :: .ref a :: rest)) := by
  subst ha
  refine va_putF X.1.1 X.1.2.1 X.1.2.2.2.2 kc.2.1 ty kc.2.2.1 kc.2.2.2 X.1.2.2.2.1 X.2.1 h.1 (hD.D w) h.2 b (by rw [wl_get hb, hw]) kc.1 k hk (X.1.2.2.2.2 _ hlink) (fun _ h9 => h9) hfin hin hdecl (kc.2.2.1 k hk) hn hfit hl hdg (fun H1 locs1 hP _ hS => ?_)
  rw [wl_set hb] at hP
  exact kk H1 locs1 _ rfl ⟨hP, hS⟩
theorem r_iald (X : Fx p m c cc nL s args own G tys A) (h : St G n ad A s.heap w H locs) (b t0 : Nat) {a N : Nat} {cA : ClassId} {f : Nat → Int32} {i : Int32} (hb : b < n) (ha : ad b = a) (hw : w b = .inl (cA, N, .inl f)) (ht : tys[t0]? = some (cA, .int)) (hin : vp_in i N) (hdg : decode cc pc = .ok (.iaload, 1))
    (kk : W p l e R s m args below meth c H locs cells slots Q (F0 m (pc + 1) ls (.int (f i.toNatClampNeg) :: rest))) : W p l e R s m args below meth c H locs cells slots Q (F0 m pc ls (.int i :: .ref a :: rest)) :=
  va_iald X.1.1 X.1.2.1 X.2.1 h.1 b t0 (by rw [wl_get hb, hw, ha]) ht hin hdg kk
theorem r_bald (X : Fx p m c cc nL s args own G tys A) (h : St G n ad A s.heap w H locs) (b t0 : Nat) {a N : Nat} {cA : ClassId} {f : Nat → Int32} {i : Int32} (hb : b < n) (ha : ad b = a) (hw : w b = .inl (cA, N, .inl f)) (ht : tys[t0]? = some (cA, .byte)) (hin : vp_in i N) (hdg : decode cc pc = .ok (.baload, 1))
    (kk : W p l e R s m args below meth c H locs cells slots Q (F0 m (pc + 1) ls (.int (f i.toNatClampNeg) :: rest))) : W p l e R s m args below meth c H locs cells slots Q (F0 m pc ls (.int i :: .ref a :: rest)) :=
  va_bald X.1.1 X.1.2.1 X.2.1 h.1 b t0 (by rw [wl_get hb, hw, ha]) ht hin hdg kk
theorem r_zald (X : Fx p m c cc nL s args own G tys A) (h : St G n ad A s.heap w H locs) (b t0 : Nat) {a N : Nat} {cA : ClassId} {f : Nat → Int32} {i : Int32} (hb : b < n) (ha : ad b = a) (hw : w b = .inl (cA, N, .inl f)) (ht : tys[t0]? = some (cA, .boolean)) (hin : vp_in i N) (hdg : decode cc pc = .ok (.baload, 1))
    (kk : W p l e R s m args below meth c H locs cells slots Q (F0 m (pc + 1) ls (.int (f i.toNatClampNeg) :: rest))) : W p l e R s m args below meth c H locs cells slots Q (F0 m pc ls (.int i :: .ref a :: rest)) :=
  va_zald X.1.1 X.1.2.1 X.2.1 h.1 b t0 (by rw [wl_get hb, hw, ha]) ht hin hdg kk
theorem r_aald (X : Fx p m c cc nL s args own G tys A) (h : St G n ad A s.heap w H locs) (b t0 : Nat) {a N : Nat} {cA : ClassId} {C : String} {f : Nat → Option Nat} {i : Int32} {v : Value} (hb : b < n) (ha : ad b = a) (hw : w b = .inl (cA, N, .inr (.inr (.inr (.inr f))))) (ht : tys[t0]? = some (cA, .object C)) (hin : vp_in i N) (hv : va_rf (f i.toNatClampNeg) = v) (hdg : decode cc pc = .ok (.aaload, 1))
    (kk : W p l e R s m args below meth c H locs cells slots Q (F0 m (pc + 1) ls (v :: rest))) : W p l e R s m args below meth c H locs cells slots Q (F0 m pc ls (.int i :: .ref a :: rest)) := by
  subst hv
  exact va_aldq X.1.1 X.1.2.1 X.2.1 h.1 b t0 (by rw [wl_get hb, hw, ha]) ht hin hdg kk
theorem r_iast (X : Fx p m c cc nL s args own G tys A) (hD : WD A n ad) (h : St G n ad A s.heap w H locs) (b t0 : Nat) {a N : Nat} {cA : ClassId} {f : Nat → Int32} {i x : Int32} (hb : b < n) (ha : ad b = a) (hw : w b = .inl (cA, N, .inl f)) (ht : tys[t0]? = some (cA, .int)) (hin : vp_in i N) (hdg : decode cc pc = .ok (.iastore, 1))
    (kk : ∀ (H1 : Heap) (locs1 : List Loc) (w1 : Nat → va_E), w1 = va_up w b (.inl (cA, N, .inl (upd f i.toNatClampNeg x))) → St G n ad A s.heap w1 H1 locs1 → W p l e R s m args below meth c H1 locs1 cells slots Q (F0 m (pc + 1) ls rest)) : W p l e R s m args below meth c H locs cells slots Q (F0 m pc ls (.int x :: .int i :: .ref a :: rest)) := by
  subst ha
  refine va_iast X.1.1 X.1.2.1 X.2.1 h.1 (hD.D w) h.2 b t0 (by rw [wl_get hb, hw]) ht hin hdg (fun H1 locs1 hP _ hS => ?_)
  rw [wl_set hb] at hP
  exact kk H1 locs1 _ rfl ⟨hP, hS⟩
theorem r_bast (X : Fx p m c cc nL s args own G tys A) (hD : WD A n ad) (h : St G n ad A s.heap w H locs) (b t0 : Nat) {a N : Nat} {cA : ClassId} {f : Nat → Int32} {i x : Int32} (hb : b < n) (ha : ad b = a) (hw : w b = .inl (cA, N, .inl f)) (ht : tys[t0]? = some (cA, .byte)) (hin : vp_in i N) (hdg : decode cc pc = .ok (.bastore, 1))
    (kk : ∀ (H1 : Heap) (locs1 : List Loc) (w1 : Nat → va_E), w1 = va_up w b (.inl (cA, N, .inl (upd f i.toNatClampNeg (vp_nar .byte x)))) → St G n ad A s.heap w1 H1 locs1 → W p l e R s m args below meth c H1 locs1 cells slots Q (F0 m (pc + 1) ls rest)) : W p l e R s m args below meth c H locs cells slots Q (F0 m pc ls (.int x :: .int i :: .ref a :: rest)) := by
  subst ha
  refine va_bast X.1.1 X.1.2.1 X.2.1 h.1 (hD.D w) h.2 b t0 (by rw [wl_get hb, hw]) ht hin hdg (fun H1 locs1 hP _ hS => ?_)
  rw [wl_set hb] at hP
  exact kk H1 locs1 _ rfl ⟨hP, hS⟩
theorem r_zast (X : Fx p m c cc nL s args own G tys A) (hD : WD A n ad) (h : St G n ad A s.heap w H locs) (b t0 : Nat) {a N : Nat} {cA : ClassId} {f : Nat → Int32} {i x : Int32} (hb : b < n) (ha : ad b = a) (hw : w b = .inl (cA, N, .inl f)) (ht : tys[t0]? = some (cA, .boolean)) (hin : vp_in i N) (hdg : decode cc pc = .ok (.bastore, 1))
    (kk : ∀ (H1 : Heap) (locs1 : List Loc) (w1 : Nat → va_E), w1 = va_up w b (.inl (cA, N, .inl (upd f i.toNatClampNeg (vp_nar .boolean x)))) → St G n ad A s.heap w1 H1 locs1 → W p l e R s m args below meth c H1 locs1 cells slots Q (F0 m (pc + 1) ls rest)) : W p l e R s m args below meth c H locs cells slots Q (F0 m pc ls (.int x :: .int i :: .ref a :: rest)) := by
  subst ha
  refine va_zast X.1.1 X.1.2.1 X.2.1 h.1 (hD.D w) h.2 b t0 (by rw [wl_get hb, hw]) ht hin hdg (fun H1 locs1 hP _ hS => ?_)
  rw [wl_set hb] at hP
  exact kk H1 locs1 _ rfl ⟨hP, hS⟩
theorem r_alen (X : Fx p m c cc nL s args own G tys A) (h : St G n ad A s.heap w H locs) (b t0 : Nat) {a : Nat} {cA : ClassId} {x : vp_A} {ty : FieldType} {v : Int32} (hb : b < n) (ha : ad b = a) (hw : w b = .inl (cA, x)) (ht : tys[t0]? = some (cA, ty)) (hv : Int32.ofNat x.1 = v) (hdg : decode cc pc = .ok (.arraylength, 1))
    (kk : W p l e R s m args below meth c H locs cells slots Q (F0 m (pc + 1) ls (.int v :: rest))) : W p l e R s m args below meth c H locs cells slots Q (F0 m pc ls (.ref a :: rest)) :=
  va_alen X.1.1 X.1.2.1 X.2.1 h.1 b t0 (by rw [wl_get hb, hw, ha]) ht hv hdg kk
end ROWS
/-! ===== contracts ===== -/
def nwq : List (String × Nat × MethodName × String) := [("NoonShade", 9, ⟨"NoonShade$Isle", "<init>", "()V"⟩, "NoonShade"), ("NoonShade$Isle", 32, ⟨"NoonShade$Rows", "<init>", "()V"⟩, "NoonShade"), ("NoonShade$Isle", 42, ⟨"NoonShade$Past", "<init>", "()V"⟩, "NoonShade"), ("NoonShade", 29, ⟨"NoonShade$Text", "<init>", "()V"⟩, "NoonShade"), ("NoonShade", 36, ⟨"NoonShade$Plan", "<init>", "()V"⟩, "NoonShade"), ("NoonShade", 43, ⟨"NoonShade$Guess", "<init>", "()V"⟩, "NoonShade"), ("NoonShade$Text", 94, ⟨"NoonShade", "within", "(III)Z"⟩, "NoonShade")]
def NW (U : State) : Prop := (∀ q ∈ nwq, va_Nw (.methodLinkNest q.1 q.2.1 q.2.2.1 q.2.2.2) U) ∧ va_AO "NoonShade$Isle" U
theorem NW.warm {s U : State} (hW : s.WarmedH U.vm) (h : NW s) : NW U := ⟨fun q hq => va_Nw.warmM hW (h.1 q hq), h.2.moved hW.alike⟩
theorem NW.same {s U : State} (e : s.vm = U.vm) (h : NW s) : NW U := ⟨fun q hq => va_Nw.same rfl e (h.1 q hq), h.2.moved (by rw [e]; exact Vm.Alike.refl U.vm)⟩
def Pre (G : va_G) (tys : List (ClassId × FieldType)) (n : Nat) (ad : Nat → Nat) (w : Nat → va_E) (sz : Nat) (U : State) : Prop := U.heap.size = sz ∧ va_P G vwCl (wl n ad w) U.heap ∧ va_K G vwCl tys U ∧ WD (fun _ => True) n ad ∧ NW U
def Aft (G : va_G) (n : Nat) (ad : Nat → Nat) (w1 : Nat → va_E) (t : State) : Prop := va_P G vwCl (wl n ad w1) t.heap
def MI (l : Launch) (G : va_G) (tys : List (ClassId × FieldType)) (y : MethodName) (cc : ByteArray) (mL : Nat) (rt : Option FieldType) (fr lo n : Nat) (ad : Nat → Nat) (w : Nat → va_E) (av : List Value) (post : Int32 → (Nat → va_E) → Prop) : Prop := ∀ sz : Nat, Met l y (.code y cc mL rt :: gtb) { frames := fr, cells := 0, slots := 0, locals := lo } (va_Pc av (Pre G tys n ad w sz)) (va_Qi post (Aft G n ad) (wA n ad sz)) 0 0 (wA n ad sz)
def ML (l : Launch) (G : va_G) (tys : List (ClassId × FieldType)) (y : MethodName) (cc : ByteArray) (mL : Nat) (rt : Option FieldType) (fr lo n : Nat) (ad : Nat → Nat) (w : Nat → va_E) (av : List Value) (post : Int64 → (Nat → va_E) → Prop) : Prop := ∀ sz : Nat, Met l y (.code y cc mL rt :: gtb) { frames := fr, cells := 0, slots := 0, locals := lo } (va_Pc av (Pre G tys n ad w sz)) (va_Ql post (Aft G n ad) (wA n ad sz)) 0 0 (wA n ad sz)
def MV (l : Launch) (G : va_G) (tys : List (ClassId × FieldType)) (y : MethodName) (cc : ByteArray) (mL : Nat) (fr lo n : Nat) (ad : Nat → Nat) (w : Nat → va_E) (av : List Value) (post : (Nat → va_E) → Prop) : Prop := ∀ sz : Nat, Met l y (.code y cc mL none :: gtb) { frames := fr, cells := 0, slots := 0, locals := lo } (va_Pc av (Pre G tys n ad w sz)) (va_Qv post (Aft G n ad) (wA n ad sz)) 0 0 (wA n ad sz)
/-- a maker: n cells become n1 -/
def MA (l : Launch) (G : va_G) (tys : List (ClassId × FieldType)) (y : MethodName) (cc : ByteArray) (mL : Nat) (fr lo mc ms n n1 : Nat) (ad : Nat → Nat) (w : Nat → va_E) (av : List Value) (post : (Nat → Nat) → (Nat → va_E) → Prop) : Prop := ∀ sz : Nat, Met l y (.code y cc mL none :: gtb) { frames := fr, cells := mc, slots := ms, locals := lo } (va_Pc av (Pre G tys n ad w sz)) (va_Qv (fun u : (Nat → Nat) × (Nat → va_E) => (∀ k, k < n → u.1 k = ad k) ∧ post u.1 u.2) (fun u t => va_P G vwCl (wl n1 u.1 u.2) t.heap ∧ WD (wA n ad sz) n1 u.1) (wA n ad sz)) mc ms (wA n ad sz)
theorem pre_blind {G : va_G} {tys : List (ClassId × FieldType)} {n sz : Nat} {ad : Nat → Nat} {w : Nat → va_E} {av : List Value} : FrameBlind (va_Pc av (Pre G tys n ad w sz)) := by
  intro a U g mk q
  obtain ⟨q0, q1, qP, qK, qD, qN⟩ := q
  exact ⟨q0, q1, qP, va_K.moved (u := U) (U := U.calling g mk a) (Vm.Alike.refl U.vm) qK, qD, NW.same (s := U) (U := U.calling g mk a) rfl qN⟩
section STARTS
variable {l : Launch} {G : va_G} {tys : List (ClassId × FieldType)} {y : MethodName} {cc : ByteArray} {mL fr lo n mc ms n1 : Nat} {rt : Option FieldType} {ad : Nat → Nat} {w : Nat → va_E} {av : List Value}
theorem mk_any {Qc : Nat → Array Value → State → Outcome → State → Prop} {free : Nat → Nat → Prop} (hy : plainName y.cls = true) (hlen : (lg_sl av).length ≤ mL)
    (body : ∀ (p : Program) (e : Env) (s : State) (m : MethodId) (below : List Frame) (meth : Method) (c : Code) (ls : Array Slot), Fx p m c cc mL s av.toArray y.cls G tys (wA n ad s.heap.size) → WD (wA n ad s.heap.size) n ad → NW s → meth.sig.returnType = rt → meth.locks = false → meth.name = y.name → St G n ad (wA n ad s.heap.size) s.heap w s.heap [] → lv_has ls mL (lv_args 0 av) →
      W p l e { frames := fr, cells := mc, slots := ms, locals := lo } s m av.toArray below meth c s.heap [] 0 0 (MQ below (Qc s.heap.size) av.toArray s mc ms (free s.heap.size)) (F0 m 0 ls [])) (sz : Nat) : Met l y (.code y cc mL rt :: gtb) { frames := fr, cells := mc, slots := ms, locals := lo } (va_Pc av (Pre G tys n ad w sz)) (Qc sz) mc ms (free sz) := by
  refine Met.ofW (cc := cc) (maxL := mL) (ret := rt) hy rfl ?_
  intro p e s m args below meth c s₁ B hml hv
  obtain ⟨rfl, hsz, hP, hK, hD0, hN⟩ := hv
  have hts := atoms_spec (ws := .code y cc mL rt :: gtb) B.pre
  have hl := lv_entry av (n := mL) hlen
  rw [lg_entry_eq]
  subst hsz
  exact body p e s m below meth c _ ⟨⟨B.exec, B.bytes, hml, findClass_of_methodNamed B.named, fun q hq => hts q (List.mem_cons_of_mem _ hq)⟩, hK, fun q hq => Or.inr hq⟩ hD0.self hN B.returns B.notSynchronized (name_of_methodNamed B.named B.method).1 ⟨hP, va_S.rf⟩ hl
theorem mk_i {own : String} {post : Int32 → (Nat → va_E) → Prop} (ho : y.cls = own) (hy : plainName y.cls = true) (hlen : (lg_sl av).length ≤ mL)
    (body : ∀ (p : Program) (e : Env) (s : State) (m : MethodId) (below : List Frame) (meth : Method) (c : Code) (ls : Array Slot), Fx p m c cc mL s av.toArray own G tys (wA n ad s.heap.size) → WD (wA n ad s.heap.size) n ad → NW s → meth.sig.returnType = rt → meth.locks = false → St G n ad (wA n ad s.heap.size) s.heap w s.heap [] → lv_has ls mL (lv_args 0 av) →
      W p l e { frames := fr, cells := 0, slots := 0, locals := lo } s m av.toArray below meth c s.heap [] 0 0 (MQ below (va_Qi post (Aft G n ad) (wA n ad s.heap.size)) av.toArray s 0 0 (wA n ad s.heap.size)) (F0 m 0 ls [])) : MI l G tys y cc mL rt fr lo n ad w av post := by
  subst ho
  exact fun sz => mk_any (Qc := fun sz => va_Qi post (Aft G n ad) (wA n ad sz)) (free := fun sz => wA n ad sz) hy hlen (fun p e s m below meth c ls X hD hN hr hlk _ h hl => body p e s m below meth c ls X hD hN hr hlk h hl) sz
theorem mk_l {own : String} {post : Int64 → (Nat → va_E) → Prop} (ho : y.cls = own) (hy : plainName y.cls = true) (hlen : (lg_sl av).length ≤ mL)
    (body : ∀ (p : Program) (e : Env) (s : State) (m : MethodId) (below : List Frame) (meth : Method) (c : Code) (ls : Array Slot), Fx p m c cc mL s av.toArray own G tys (wA n ad s.heap.size) → WD (wA n ad s.heap.size) n ad → NW s → meth.sig.returnType = rt → meth.locks = false → St G n ad (wA n ad s.heap.size) s.heap w s.heap [] → lv_has ls mL (lv_args 0 av) →
      W p l e { frames := fr, cells := 0, slots := 0, locals := lo } s m av.toArray below meth c s.heap [] 0 0 (MQ below (va_Ql post (Aft G n ad) (wA n ad s.heap.size)) av.toArray s 0 0 (wA n ad s.heap.size)) (F0 m 0 ls [])) : ML l G tys y cc mL rt fr lo n ad w av post := by
  subst ho
  exact fun sz => mk_any (Qc := fun sz => va_Ql post (Aft G n ad) (wA n ad sz)) (free := fun sz => wA n ad sz) hy hlen (fun p e s m below meth c ls X hD hN hr hlk _ h hl => body p e s m below meth c ls X hD hN hr hlk h hl) sz
theorem mk_v {own : String} {post : (Nat → va_E) → Prop} (ho : y.cls = own) (hy : plainName y.cls = true) (hlen : (lg_sl av).length ≤ mL)
    (body : ∀ (p : Program) (e : Env) (s : State) (m : MethodId) (below : List Frame) (meth : Method) (c : Code) (ls : Array Slot), Fx p m c cc mL s av.toArray own G tys (wA n ad s.heap.size) → WD (wA n ad s.heap.size) n ad → NW s → meth.sig.returnType = none → meth.locks = false → St G n ad (wA n ad s.heap.size) s.heap w s.heap [] → lv_has ls mL (lv_args 0 av) →
      W p l e { frames := fr, cells := 0, slots := 0, locals := lo } s m av.toArray below meth c s.heap [] 0 0 (MQ below (va_Qv post (Aft G n ad) (wA n ad s.heap.size)) av.toArray s 0 0 (wA n ad s.heap.size)) (F0 m 0 ls [])) : MV l G tys y cc mL fr lo n ad w av post := by
  subst ho
  exact fun sz => mk_any (Qc := fun sz => va_Qv post (Aft G n ad) (wA n ad sz)) (free := fun sz => wA n ad sz) hy hlen (fun p e s m below meth c ls X hD hN hr hlk _ h hl => body p e s m below meth c ls X hD hN hr hlk h hl) sz
theorem mk_a {own : String} {post : (Nat → Nat) → (Nat → va_E) → Prop} (ho : y.cls = own) (hy : plainName y.cls = true) (hlen : (lg_sl av).length ≤ mL)
    (body : ∀ (p : Program) (e : Env) (s : State) (m : MethodId) (below : List Frame) (meth : Method) (c : Code) (ls : Array Slot), Fx p m c cc mL s av.toArray own G tys (wA n ad s.heap.size) → WD (wA n ad s.heap.size) n ad → NW s → meth.sig.returnType = none → meth.locks = false → meth.name = y.name → St G n ad (wA n ad s.heap.size) s.heap w s.heap [] → lv_has ls mL (lv_args 0 av) →
      W p l e { frames := fr, cells := mc, slots := ms, locals := lo } s m av.toArray below meth c s.heap [] 0 0 (MQ below (va_Qv (fun u : (Nat → Nat) × (Nat → va_E) => (∀ k, k < n → u.1 k = ad k) ∧ post u.1 u.2) (fun u t => va_P G vwCl (wl n1 u.1 u.2) t.heap ∧ WD (wA n ad s.heap.size) n1 u.1) (wA n ad s.heap.size)) av.toArray s mc ms (wA n ad s.heap.size)) (F0 m 0 ls [])) : MA l G tys y cc mL fr lo mc ms n n1 ad w av post := by
  subst ho
  exact fun sz => mk_any (Qc := fun sz => va_Qv (fun u : (Nat → Nat) × (Nat → va_E) => (∀ k, k < n → u.1 k = ad k) ∧ post u.1 u.2) (fun u t => va_P G vwCl (wl n1 u.1 u.2) t.heap ∧ WD (wA n ad sz) n1 u.1) (wA n ad sz)) (free := fun sz => wA n ad sz) hy hlen body sz
end STARTS
/-- the array classes: int, byte, boolean, Isle -/
abbrev tyq (cI cB cZ cO : ClassId) : List (ClassId × FieldType) := [(cI, .int), (cB, .byte), (cZ, .boolean), (cO, .object "NoonShade$Isle")]
section CALLS
variable {p : Program} {l : Launch} {e : Env} {R : Room} {s : State} {m : MethodId} {args : Array Value} {below : List Frame} {meth : Method} {c : Code} {H : Heap} {locs : List Loc} {cells slots : Nat} {Q : State → Prop}
variable {cc : ByteArray} {pc nL n : Nat} {ls : Array Slot} {rest stk : List Value} {own : String} {G : va_G} {tys : List (ClassId × FieldType)} {A : Nat → Prop} {ad : Nat → Nat} {w : Nat → va_E}
/-- the end of a method -/
theorem e_i (X : Fx p m c cc nL s args own G tys A) (h : St G n ad A s.heap w H locs) (hr : meth.sig.returnType = some .int) (hlk : meth.locks = false) {v : Int32} {post : Int32 → (Nat → va_E) → Prop} (hdg : decode cc pc = .ok (.ireturn, 1)) (hp : post v w) : W p l e R s m args below meth c H locs 0 0 (MQ below (va_Qi post (Aft G n ad) A) args s 0 0 A) (F0 m pc ls [.int v]) :=
  W.iret X.1.1 X.1.2.1 hr (fun t ht _ => ⟨⟨v, w, rfl, hp, by show va_P G vwCl (wl n ad w) t.heap; rw [ht]; exact h.1⟩, h.2.F ht⟩) h.2.2.2 hdg hlk
theorem e_z (X : Fx p m c cc nL s args own G tys A) (h : St G n ad A s.heap w H locs) (hr : meth.sig.returnType = some .boolean) (hlk : meth.locks = false) {v : Int32} {post : Int32 → (Nat → va_E) → Prop} (hn : narrow .boolean (.int v) = .int v) (hdg : decode cc pc = .ok (.ireturn, 1)) (hp : post v w) : W p l e R s m args below meth c H locs 0 0 (MQ below (va_Qi post (Aft G n ad) A) args s 0 0 A) (F0 m pc ls [.int v]) :=
  W.zret X.1.1 X.1.2.1 hr hn (fun t ht _ => ⟨⟨v, w, rfl, hp, by show va_P G vwCl (wl n ad w) t.heap; rw [ht]; exact h.1⟩, h.2.F ht⟩) h.2.2.2 hdg hlk
theorem e_l (X : Fx p m c cc nL s args own G tys A) (h : St G n ad A s.heap w H locs) (hr : meth.sig.returnType = some .long) (hlk : meth.locks = false) {v : Int64} {post : Int64 → (Nat → va_E) → Prop} (hdg : decode cc pc = .ok (.lreturn, 1)) (hp : post v w) : W p l e R s m args below meth c H locs 0 0 (MQ below (va_Ql post (Aft G n ad) A) args s 0 0 A) (F0 m pc ls [.long v]) :=
  W.lret X.1.1 X.1.2.1 hr (fun t ht _ => ⟨⟨v, w, rfl, hp, by show va_P G vwCl (wl n ad w) t.heap; rw [ht]; exact h.1⟩, h.2.F ht⟩) h.2.2.2 hdg hlk
theorem e_v (X : Fx p m c cc nL s args own G tys A) (h : St G n ad A s.heap w H locs) (hr : meth.sig.returnType = none) (hlk : meth.locks = false) {post : (Nat → va_E) → Prop} (hdg : decode cc pc = .ok (.return_, 1)) (hp : post w) : W p l e R s m args below meth c H locs 0 0 (MQ below (va_Qv post (Aft G n ad) A) args s 0 0 A) (F0 m pc ls []) :=
  W.vret X.1.1 X.1.2.1 hr (fun t ht _ => ⟨⟨w, rfl, hp, by show va_P G vwCl (wl n ad w) t.heap; rw [ht]; exact h.1⟩, h.2.F ht⟩) h.2.2.2 hdg hlk
theorem e_a {n1 : Nat} {ad1 : Nat → Nat} (X : Fx p m c cc nL s args own G tys A) (hD : WD A n1 ad1) (h : St G n1 ad1 A s.heap w H locs) (hr : meth.sig.returnType = none) (hlk : meth.locks = false) {post : (Nat → Nat) → (Nat → va_E) → Prop} (hdg : decode cc pc = .ok (.return_, 1)) (ho : ∀ k, k < n → ad1 k = ad k) (hp : post ad1 w) : W p l e R s m args below meth c H locs cells slots (MQ below (va_Qv (fun u : (Nat → Nat) × (Nat → va_E) => (∀ k, k < n → u.1 k = ad k) ∧ post u.1 u.2) (fun u t => va_P G vwCl (wl n1 u.1 u.2) t.heap ∧ WD A n1 u.1) A) args s cells slots A) (F0 m pc ls []) :=
  W.vret X.1.1 X.1.2.1 hr (fun t ht _ => ⟨⟨(ad1, w), rfl, ⟨ho, hp⟩, by rw [ht]; exact h.1, hD⟩, h.2.F ht⟩) h.2.2.2 hdg hlk
/-- the callee's words -/
def cwd (own C : String) (idx : Nat) (y : MethodName) (bytes : ByteArray) (mL : Nat) (rt : Option FieldType) : Prop := Cond.methodLink own idx y ∈ gtb ∧ Cond.instanceMethod y ∈ gtb ∧ Cond.selects C y y ∈ gtb ∧ Cond.initialized C ∈ gtb ∧ Cond.code y bytes mL rt ∈ gtb
theorem cwd.good {own C : String} {idx : Nat} {y : MethodName} {bytes : ByteArray} {mL : Nat} {rt : Option FieldType} (h : cwd own C idx y bytes mL rt) : GoodIn gtb (wsV own idx C y (.code y bytes mL rt :: gtb)) := by
  refine gtb_app (fun v hv => ?_) (gtb_cons h.2.2.2.2)
  simp only [List.mem_cons, List.not_mem_nil, or_false] at hv
  rcases hv with rfl | rfl | rfl | rfl
  · exact h.1
  · exact h.2.1
  · exact h.2.2.1
  · exact h.2.2.2.1
def cws (own : String) (idx : Nat) (y : MethodName) (bytes : ByteArray) (mL : Nat) (rt : Option FieldType) : Prop := Cond.methodLink own idx y ∈ gtb ∧ Cond.static y ∈ gtb ∧ Cond.initialized y.cls ∈ gtb ∧ Cond.code y bytes mL rt ∈ gtb
theorem cws.good {own : String} {idx : Nat} {y : MethodName} {bytes : ByteArray} {mL : Nat} {rt : Option FieldType} (h : cws own idx y bytes mL rt) : GoodIn gtb (va_wsS own idx y (.code y bytes mL rt :: gtb)) := by
  refine gtb_app (fun v hv => ?_) (gtb_cons h.2.2.2)
  simp only [List.mem_cons, List.not_mem_nil, or_false] at hv
  rcases hv with rfl | rfl | rfl
  · exact h.1
  · exact h.2.1
  · exact h.2.2.1
def desc (y : MethodName) (na : Nat) : Prop := y.cls ≠ "java/lang/invoke/MethodHandle" ∧ y.cls ≠ "java/lang/invoke/VarHandle" ∧ (parseMethodDescriptor y.desc).map (fun d => d.parameters.length) = some na
variable {y : MethodName} {bytes : ByteArray} {mL fr lo na idx : Nat} {rt : Option FieldType} {As : List Value} {C : String}
theorem pre_go (X : Fx p m c cc nL s args own G tys A) (hD : WD A n ad) (hN : NW s) (h : St G n ad A s.heap w H locs) (av : List Value) : ∀ U : State, U.heap = H → s.WarmedH U.vm → va_Pc av (Pre G tys n ad w H.size) av.toArray U := fun U hU hW =>
  ⟨rfl, by rw [hU], by rw [hU]; exact h.1, va_K.moved hW.alike X.2.1, hD.weaken (fun _ _ => trivial), NW.warm hW hN⟩
theorem q_Vi {post : Int32 → (Nat → va_E) → Prop} {b ci a N : Nat} {T : u_T} {fs : List Value} (X : Fx p m c cc nL s args own G tys A) (hD : WD A n ad) (hN : NW s) (h : St G n ad A s.heap w H locs) (ha : ad b = a) (hM : MI l G tys y bytes mL rt fr lo n ad w (.ref a :: As) post) (hwd : cwd own C idx y bytes mL rt) (hy : y.cls = C) (hd : desc y na) (hR : fr + 1 ≤ R.frames ∧ 8 + (mL + 11) + lo ≤ R.locals) (hc : cells ≤ R.cells ∧ slots ≤ R.slots)
    (hb : b < n) (hw : w b = .inr (ci, fs)) (hcl : vwCl[ci]? = some (C, T, N)) (hn : As.length = na) (hl : ls.size = nL) (hst : stk = As.reverse ++ .ref a :: rest) (hW : (rest.map fun v => v.category).sum ≤ 8) (hdg : decode cc pc = .ok (.invokevirtual idx, 3))
    (kk : ∀ (r : Int32) (w1 : Nat → va_E) (H1 : Heap) (locs1 : List Loc), post r w1 → St G n ad A s.heap w1 H1 locs1 → W p l e R s m args below meth c H1 locs1 cells slots Q (F0 m (pc + 3) ls (.int r :: rest))) : W p l e R s m args below meth c H locs cells slots Q (F0 m pc ls stk) := by
  have hF := hD.free X.2.2 h.2.1
  refine va_calli (va_runV (As := As) (rest := rest) X.1 (hM H.size) (cwV na X.1.2.2.2.2 hwd.good rfl rfl rfl ⟨hy, hd⟩ hR) ⟨pre_blind, va_recv X.2.1 h.1 hcl (by rw [wl_get hb, hw, ha]), pre_go X hD hN h _⟩ rfl hn hl hst (lv_room hW) hdg ⟨hc.1, hc.2⟩) h.2 (fun q _ hq => hF q hq) hF (fun r u t H1 locs1 ht _ hpo hB _ _ hS => kk r u H1 locs1 hpo ⟨by rw [← ht]; exact hB, hS⟩)
theorem q_Vl {post : Int64 → (Nat → va_E) → Prop} {b ci a N : Nat} {T : u_T} {fs : List Value} (X : Fx p m c cc nL s args own G tys A) (hD : WD A n ad) (hN : NW s) (h : St G n ad A s.heap w H locs) (ha : ad b = a) (hM : ML l G tys y bytes mL rt fr lo n ad w (.ref a :: As) post) (hwd : cwd own C idx y bytes mL rt) (hy : y.cls = C) (hd : desc y na) (hR : fr + 1 ≤ R.frames ∧ 8 + (mL + 11) + lo ≤ R.locals) (hc : cells ≤ R.cells ∧ slots ≤ R.slots)
    (hb : b < n) (hw : w b = .inr (ci, fs)) (hcl : vwCl[ci]? = some (C, T, N)) (hn : As.length = na) (hl : ls.size = nL) (hst : stk = As.reverse ++ .ref a :: rest) (hW : (rest.map fun v => v.category).sum ≤ 8) (hdg : decode cc pc = .ok (.invokevirtual idx, 3))
    (kk : ∀ (r : Int64) (w1 : Nat → va_E) (H1 : Heap) (locs1 : List Loc), post r w1 → St G n ad A s.heap w1 H1 locs1 → W p l e R s m args below meth c H1 locs1 cells slots Q (F0 m (pc + 3) ls (.long r :: rest))) : W p l e R s m args below meth c H locs cells slots Q (F0 m pc ls stk) := by
  have hF := hD.free X.2.2 h.2.1
  refine va_calll (va_runV (As := As) (rest := rest) X.1 (hM H.size) (cwV na X.1.2.2.2.2 hwd.good rfl rfl rfl ⟨hy, hd⟩ hR) ⟨pre_blind, va_recv X.2.1 h.1 hcl (by rw [wl_get hb, hw, ha]), pre_go X hD hN h _⟩ rfl hn hl hst (lv_room hW) hdg ⟨hc.1, hc.2⟩) h.2 (fun q _ hq => hF q hq) hF (fun r u t H1 locs1 ht _ hpo hB _ _ hS => kk r u H1 locs1 hpo ⟨by rw [← ht]; exact hB, hS⟩)
theorem q_Vv {post : (Nat → va_E) → Prop} {b ci a N : Nat} {T : u_T} {fs : List Value} (X : Fx p m c cc nL s args own G tys A) (hD : WD A n ad) (hN : NW s) (h : St G n ad A s.heap w H locs) (ha : ad b = a) (hM : MV l G tys y bytes mL fr lo n ad w (.ref a :: As) post) (hwd : cwd own C idx y bytes mL none) (hy : y.cls = C) (hd : desc y na) (hR : fr + 1 ≤ R.frames ∧ 8 + (mL + 11) + lo ≤ R.locals) (hc : cells ≤ R.cells ∧ slots ≤ R.slots)
    (hb : b < n) (hw : w b = .inr (ci, fs)) (hcl : vwCl[ci]? = some (C, T, N)) (hn : As.length = na) (hl : ls.size = nL) (hst : stk = As.reverse ++ .ref a :: rest) (hW : (rest.map fun v => v.category).sum ≤ 8) (hdg : decode cc pc = .ok (.invokevirtual idx, 3))
    (kk : ∀ (w1 : Nat → va_E) (H1 : Heap) (locs1 : List Loc), post w1 → St G n ad A s.heap w1 H1 locs1 → W p l e R s m args below meth c H1 locs1 cells slots Q (F0 m (pc + 3) ls rest)) : W p l e R s m args below meth c H locs cells slots Q (F0 m pc ls stk) := by
  have hF := hD.free X.2.2 h.2.1
  refine va_callv (va_runV (As := As) (rest := rest) X.1 (hM H.size) (cwV na X.1.2.2.2.2 hwd.good rfl rfl rfl ⟨hy, hd⟩ hR) ⟨pre_blind, va_recv X.2.1 h.1 hcl (by rw [wl_get hb, hw, ha]), pre_go X hD hN h _⟩ rfl hn hl hst (lv_room hW) hdg ⟨hc.1, hc.2⟩) h.2 (fun q _ hq => hF q hq) hF (fun u t H1 locs1 ht _ hpo hB _ _ hS => kk u H1 locs1 hpo ⟨by rw [← ht]; exact hB, hS⟩)
theorem q_Si {post : Int32 → (Nat → va_E) → Prop} (X : Fx p m c cc nL s args own G tys A) (hD : WD A n ad) (hN : NW s) (h : St G n ad A s.heap w H locs) (hM : MI l G tys y bytes mL rt fr lo n ad w As post) (hwd : cws own idx y bytes mL rt) (hd : desc y na) (hR : fr + 1 ≤ R.frames ∧ 8 + (mL + 11) + lo ≤ R.locals) (hc : cells ≤ R.cells ∧ slots ≤ R.slots)
    (hn : As.length = na) (hl : ls.size = nL) (hst : stk = As.reverse ++ rest) (hW : (rest.map fun v => v.category).sum ≤ 8) (hdg : decode cc pc = .ok (.invokestatic idx, 3))
    (kk : ∀ (r : Int32) (w1 : Nat → va_E) (H1 : Heap) (locs1 : List Loc), post r w1 → St G n ad A s.heap w1 H1 locs1 → W p l e R s m args below meth c H1 locs1 cells slots Q (F0 m (pc + 3) ls (.int r :: rest))) : W p l e R s m args below meth c H locs cells slots Q (F0 m pc ls stk) := by
  have hF := hD.free X.2.2 h.2.1
  refine va_calli (va_runS (As := As) (rest := rest) X.1 (hM H.size) (va_cwS na X.1.2.2.2.2 hwd.good rfl rfl rfl hd hR) ⟨pre_blind, pre_go X hD hN h _⟩ rfl hn hl hst (lv_room hW) hdg ⟨hc.1, hc.2⟩) h.2 (fun q _ hq => hF q hq) hF (fun r u t H1 locs1 ht _ hpo hB _ _ hS => kk r u H1 locs1 hpo ⟨by rw [← ht]; exact hB, hS⟩)
theorem q_Sv {post : (Nat → va_E) → Prop} (X : Fx p m c cc nL s args own G tys A) (hD : WD A n ad) (hN : NW s) (h : St G n ad A s.heap w H locs) (hM : MV l G tys y bytes mL fr lo n ad w As post) (hwd : cws own idx y bytes mL none) (hd : desc y na) (hR : fr + 1 ≤ R.frames ∧ 8 + (mL + 11) + lo ≤ R.locals) (hc : cells ≤ R.cells ∧ slots ≤ R.slots)
    (hn : As.length = na) (hl : ls.size = nL) (hst : stk = As.reverse ++ rest) (hW : (rest.map fun v => v.category).sum ≤ 8) (hdg : decode cc pc = .ok (.invokestatic idx, 3))
    (kk : ∀ (w1 : Nat → va_E) (H1 : Heap) (locs1 : List Loc), post w1 → St G n ad A s.heap w1 H1 locs1 → W p l e R s m args below meth c H1 locs1 cells slots Q (F0 m (pc + 3) ls rest)) : W p l e R s m args below meth c H locs cells slots Q (F0 m pc ls stk) := by
  have hF := hD.free X.2.2 h.2.1
  refine va_callv (va_runS (As := As) (rest := rest) X.1 (hM H.size) (va_cwS na X.1.2.2.2.2 hwd.good rfl rfl rfl hd hR) ⟨pre_blind, pre_go X hD hN h _⟩ rfl hn hl hst (lv_room hW) hdg ⟨hc.1, hc.2⟩) h.2 (fun q _ hq => hF q hq) hF (fun u t H1 locs1 ht _ hpo hB _ _ hS => kk u H1 locs1 hpo ⟨by rw [← ht]; exact hB, hS⟩)
/-- makers -/
theorem q_A {post : (Nat → Nat) → (Nat → va_E) → Prop} {a mc ms n1 : Nat} (X : Fx p m c cc nL s args own G tys A) (hD : WD A n ad) (hN : NW s) (h : St G n ad A s.heap w H locs) (hM : MA l G tys y bytes mL fr lo mc ms n n1 ad w (.ref a :: As) post) (hl1 : Cond.methodLink own idx y ∈ gtb) (hl2 : Cond.instanceMethod y ∈ gtb) (hl3 : Cond.initialized y.cls ∈ gtb) (hl4 : Cond.code y bytes mL none ∈ gtb) (hy : y.name = "<init>") (hd : desc y na) (hR : fr + 1 ≤ R.frames ∧ 8 + (mL + 11) + lo ≤ R.locals) (hc : cells + mc ≤ R.cells ∧ slots + ms ≤ R.slots)
    (hn : As.length = na) (hl : ls.size = nL) (hst : stk = As.reverse ++ .ref a :: rest) (hW : (rest.map fun v => v.category).sum ≤ 8) (hdg : decode cc pc = .ok (.invokespecial idx, 3))
    (kk : ∀ (ad1 : Nat → Nat) (w1 : Nat → va_E) (H1 : Heap) (locs1 : List Loc), (∀ k, k < n → ad1 k = ad k) → post ad1 w1 → WD A n1 ad1 → St G n1 ad1 A s.heap w1 H1 locs1 → W p l e R s m args below meth c H1 locs1 (cells + mc) (slots + ms) Q (F0 m (pc + 3) ls rest)) : W p l e R s m args below meth c H locs cells slots Q (F0 m pc ls stk) := by
  have hF := hD.free X.2.2 h.2.1
  refine va_callv (va_runI (As := As) (rest := rest) X.1 (hM H.size) (cwI na X.1.2.2.2.2 (gtb_cons hl4) rfl rfl rfl (X.1.2.2.2.2 _ hl3) (X.1.2.2.2.2 _ hl1) (X.1.2.2.2.2 _ hl2) hy hd hR) ⟨pre_blind, pre_go X hD hN h _⟩ rfl hn hl hst (lv_room hW) hdg hc) h.2 (fun q _ hq => hF q hq) hF (fun u t H1 locs1 ht _ hpo hB _ _ hS => kk u.1 u.2 H1 locs1 hpo.1 hpo.2 (hB.2.weaken hF) ⟨by rw [← ht]; exact hB.1, hS⟩)
theorem q_AN {post : (Nat → Nat) → (Nat → va_E) → Prop} {a mc ms n1 : Nat} {host : String} (X : Fx p m c cc nL s args own G tys A) (hD : WD A n ad) (hN : NW s) (h : St G n ad A s.heap w H locs) (hM : MA l G tys y bytes mL fr lo mc ms n n1 ad w (.ref a :: As) post) (hl1 : (own, idx, y, host) ∈ nwq) (hl2 : Cond.instanceMethod y ∈ gtb) (hl3 : Cond.initialized y.cls ∈ gtb) (hl4 : Cond.code y bytes mL none ∈ gtb) (hy : y.name = "<init>") (hd : desc y na) (hR : fr + 1 ≤ R.frames ∧ 8 + (mL + 11) + lo ≤ R.locals) (hc : cells + mc ≤ R.cells ∧ slots + ms ≤ R.slots)
    (hn : As.length = na) (hl : ls.size = nL) (hst : stk = As.reverse ++ .ref a :: rest) (hW : (rest.map fun v => v.category).sum ≤ 8) (hdg : decode cc pc = .ok (.invokespecial idx, 3))
    (kk : ∀ (ad1 : Nat → Nat) (w1 : Nat → va_E) (H1 : Heap) (locs1 : List Loc), (∀ k, k < n → ad1 k = ad k) → post ad1 w1 → WD A n1 ad1 → St G n1 ad1 A s.heap w1 H1 locs1 → W p l e R s m args below meth c H1 locs1 (cells + mc) (slots + ms) Q (F0 m (pc + 3) ls rest)) : W p l e R s m args below meth c H locs cells slots Q (F0 m pc ls stk) := by
  have hF := hD.free X.2.2 h.2.1
  refine va_callv (va_runIN (As := As) (rest := rest) X.1 (hM H.size) ⟨va_cnB na X.1.2.2.2.2 (gtb_cons hl4) rfl rfl rfl (hN.1 _ hl1) (X.1.2.2.2.2 _ hl3) hd hR, hy, X.1.2.2.2.2 _ hl2⟩ ⟨pre_blind, pre_go X hD hN h _⟩ rfl hn hl hst (lv_room hW) hdg hc) h.2 (fun q _ hq => hF q hq) hF (fun u t H1 locs1 ht _ hpo hB _ _ hS => kk u.1 u.2 H1 locs1 hpo.1 hpo.2 (hB.2.weaken hF) ⟨by rw [← ht]; exact hB.1, hS⟩)
end CALLS
end
section
/-! ===== plain facts on ints (kit/laws/NUMBERS) ===== -/
theorem fa_lt (a b : Int32) : a < b ↔ a.toInt < b.toInt := Int32.lt_iff_toInt_lt
theorem fa_le (a b : Int32) : a ≤ b ↔ a.toInt ≤ b.toInt := Int32.le_iff_toInt_le
theorem fa_eq (a b : Int32) : a = b ↔ a.toInt = b.toInt := Int32.toInt_inj.symm
theorem fa_lt64 (a b : Int64) : a < b ↔ a.toInt < b.toInt := Int64.lt_iff_toInt_lt
theorem fa_le64 (a b : Int64) : a ≤ b ↔ a.toInt ≤ b.toInt := Int64.le_iff_toInt_le
theorem fa_eq64 (a b : Int64) : a = b ↔ a.toInt = b.toInt := Int64.toInt_inj.symm
theorem i_le {a b : Int32} {x y : Int} (h : a ≤ b) (hx : a.toInt = x) (hy : b.toInt = y) : x ≤ y := by rw [← hx, ← hy]; exact (fa_le _ _).mp h
theorem i_lt {a b : Int32} {x y : Int} (h : a < b) (hx : a.toInt = x) (hy : b.toInt = y) : x < y := by rw [← hx, ← hy]; exact (fa_lt _ _).mp h
theorem i_eq {a b : Int32} {x y : Int} (h : a = b) (hx : a.toInt = x) (hy : b.toInt = y) : x = y := by rw [← hx, ← hy, h]
theorem i_nle {a b : Int32} {x y : Int} (h : ¬ a ≤ b) (hx : a.toInt = x) (hy : b.toInt = y) : ¬ x ≤ y := by rw [← hx, ← hy]; exact fun q => h ((fa_le _ _).mpr q)
theorem i_nlt {a b : Int32} {x y : Int} (h : ¬ a < b) (hx : a.toInt = x) (hy : b.toInt = y) : ¬ x < y := by rw [← hx, ← hy]; exact fun q => h ((fa_lt _ _).mpr q)
theorem i_ne {a b : Int32} {x y : Int} (h : ¬ a = b) (hx : a.toInt = x) (hy : b.toInt = y) : ¬ x = y := by rw [← hx, ← hy]; exact fun q => h ((fa_eq _ _).mpr q)
theorem in_of {x : Int32} {n : Nat} (h0 : 0 ≤ x.toInt) (h1 : x.toInt < n) : vp_in x n := vp_in_iff.mpr ⟨h0, h1⟩
theorem cl_of {x : Int32} (h0 : 0 ≤ x.toInt) : ((x.toNatClampNeg : Nat) : Int) = x.toInt := by
  show ((x.toInt.toNat : Nat) : Int) = x.toInt
  omega
theorem lcm_lt {x y : Int64} {u v : Int} (h : lg_cmp x y < 0) (hx : x.toInt = u) (hy : y.toInt = v) : u < v := by
  rw [lg_cmp_lt, fa_lt64, hx, hy] at h; exact h
theorem lcm_nlt {x y : Int64} {u v : Int} (h : ¬ lg_cmp x y < 0) (hx : x.toInt = u) (hy : y.toInt = v) : ¬ u < v := by
  rw [lg_cmp_lt, fa_lt64, hx, hy] at h; exact h
theorem lcm_gt {x y : Int64} {u v : Int} (h : 0 < lg_cmp x y) (hx : x.toInt = u) (hy : y.toInt = v) : v < u := by
  rw [lg_cmp_gt, fa_lt64, hx, hy] at h; exact h
theorem lcm_ngt {x y : Int64} {u v : Int} (h : ¬ 0 < lg_cmp x y) (hx : x.toInt = u) (hy : y.toInt = v) : ¬ v < u := by
  rw [lg_cmp_gt, fa_lt64, hx, hy] at h; exact h
theorem lcm_eq {x y : Int64} {u v : Int} (h : lg_cmp x y = 0) (hx : x.toInt = u) (hy : y.toInt = v) : u = v := by
  rw [lg_cmp_eq, fa_eq64, hx, hy] at h; exact h
theorem lcm_ne {x y : Int64} {u v : Int} (h : ¬ lg_cmp x y = 0) (hx : x.toInt = u) (hy : y.toInt = v) : ¬ u = v := by
  rw [lg_cmp_eq, fa_eq64, hx, hy] at h; exact h
theorem fb_bmod {z : Int} (h1 : -2147483648 ≤ z) (h2 : z < 2147483648) : z.bmod (2 ^ 32) = z := by
  rw [Int.bmod_eq_of_le (by omega) (by omega)]
theorem fb_addI {x y : Int32} (h1 : -2147483648 ≤ x.toInt + y.toInt) (h2 : x.toInt + y.toInt < 2147483648) : (x + y).toInt = x.toInt + y.toInt := by
  rw [Int32.toInt_add, fb_bmod h1 h2]
theorem fb_subI {x y : Int32} (h1 : -2147483648 ≤ x.toInt - y.toInt) (h2 : x.toInt - y.toInt < 2147483648) : (x - y).toInt = x.toInt - y.toInt := by
  rw [Int32.toInt_sub, fb_bmod h1 h2]
theorem fb_mulI {x y : Int32} (h1 : -2147483648 ≤ x.toInt * y.toInt) (h2 : x.toInt * y.toInt < 2147483648) : (x * y).toInt = x.toInt * y.toInt := by
  rw [Int32.toInt_mul, fb_bmod h1 h2]
theorem inc1 {k : Int32} (h0 : 0 ≤ k.toInt) (h : k.toInt < 2147483647) : (k + 1).toInt = k.toInt + 1 := by
  rw [fb_addI (by show -2147483648 ≤ k.toInt + 1; omega) (by show k.toInt + 1 < 2147483648; omega)]; rfl
theorem addc {k c : Int32} {a : Int} (hc : c.toInt = a) (h0 : 0 ≤ k.toInt) (h1 : 0 ≤ a) (h : k.toInt + a < 2147483648) : (c + k).toInt = a + k.toInt := by
  rw [fb_addI (by rw [hc]; omega) (by rw [hc]; omega), hc]
theorem upd0 (k : Nat) : upd (fun _ => (0 : Int32)) k 0 = fun _ => 0 := by
  funext j
  by_cases h : j = k <;> simp [upd, h]
theorem cpy0 (a b c : Nat) : va_cpy (fun _ => (0 : Int32)) (fun _ => 0) a b c = fun _ => 0 := by
  funext j
  by_cases h : b ≤ j ∧ j < b + c <;> simp [va_cpy, h]
section OPS
variable {p : Program} {l : Launch} {e : Env} {R : Room} {s : State} {m : MethodId} {args : Array Value} {below : List Frame} {meth : Method} {c : Code} {H : Heap} {locs : List Loc} {cells slots : Nat} {Q : State → Prop}
variable {cc : ByteArray} {pc nL n : Nat} {ls : Array Slot} {rest stk : List Value} {own : String} {G : va_G} {tys : List (ClassId × FieldType)} {A : Nat → Prop} {ad : Nat → Nat} {w : Nat → va_E}
theorem o_iadd (hx : p.tables.exec = Jvm.exec) (hb : c.code = cc) {x y z : Int32} (hdg : decode cc pc = .ok (.iadd, 1)) (hz : x + y = z) (k : W p l e R s m args below meth c H locs cells slots Q (F0 m (pc + 1) ls (.int z :: rest))) : W p l e R s m args below meth c H locs cells slots Q (F0 m pc ls (.int y :: .int x :: rest)) := by
  subst hz
  exact lv_iadd hx hb hdg k
theorem o_isub (hx : p.tables.exec = Jvm.exec) (hb : c.code = cc) {x y z : Int32} (hdg : decode cc pc = .ok (.isub, 1)) (hz : x - y = z) (k : W p l e R s m args below meth c H locs cells slots Q (F0 m (pc + 1) ls (.int z :: rest))) : W p l e R s m args below meth c H locs cells slots Q (F0 m pc ls (.int y :: .int x :: rest)) := by
  subst hz
  exact lv_isub hx hb hdg k
theorem o_imul (hx : p.tables.exec = Jvm.exec) (hb : c.code = cc) {x y z : Int32} (hdg : decode cc pc = .ok (.imul, 1)) (hz : x * y = z) (k : W p l e R s m args below meth c H locs cells slots Q (F0 m (pc + 1) ls (.int z :: rest))) : W p l e R s m args below meth c H locs cells slots Q (F0 m pc ls (.int y :: .int x :: rest)) := by
  subst hz
  exact lv_imul hx hb hdg k
theorem o_iand (hx : p.tables.exec = Jvm.exec) (hb : c.code = cc) {x y z : Int32} (hdg : decode cc pc = .ok (.iand, 1)) (hz : x &&& y = z) (k : W p l e R s m args below meth c H locs cells slots Q (F0 m (pc + 1) ls (.int z :: rest))) : W p l e R s m args below meth c H locs cells slots Q (F0 m pc ls (.int y :: .int x :: rest)) := by
  subst hz
  exact lv_iand hx hb hdg k
theorem o_ior (hx : p.tables.exec = Jvm.exec) (hb : c.code = cc) {x y z : Int32} (hdg : decode cc pc = .ok (.ior, 1)) (hz : x ||| y = z) (k : W p l e R s m args below meth c H locs cells slots Q (F0 m (pc + 1) ls (.int z :: rest))) : W p l e R s m args below meth c H locs cells slots Q (F0 m pc ls (.int y :: .int x :: rest)) := by
  subst hz
  exact lv_ior hx hb hdg k
theorem o_ishl (hx : p.tables.exec = Jvm.exec) (hb : c.code = cc) {x y z : Int32} (hdg : decode cc pc = .ok (.ishl, 1)) (hz : x <<< (y &&& 31) = z) (k : W p l e R s m args below meth c H locs cells slots Q (F0 m (pc + 1) ls (.int z :: rest))) : W p l e R s m args below meth c H locs cells slots Q (F0 m pc ls (.int y :: .int x :: rest)) := by
  subst hz
  exact lv_ishl hx hb hdg k
theorem o_ishr (hx : p.tables.exec = Jvm.exec) (hb : c.code = cc) {x y z : Int32} (hdg : decode cc pc = .ok (.ishr, 1)) (hz : x >>> (y &&& 31) = z) (k : W p l e R s m args below meth c H locs cells slots Q (F0 m (pc + 1) ls (.int z :: rest))) : W p l e R s m args below meth c H locs cells slots Q (F0 m pc ls (.int y :: .int x :: rest)) := by
  subst hz
  exact lv_ishr hx hb hdg k
theorem o_ladd (hx : p.tables.exec = Jvm.exec) (hb : c.code = cc) {x y z : Int64} (hdg : decode cc pc = .ok (.ladd, 1)) (hz : x + y = z) (k : W p l e R s m args below meth c H locs cells slots Q (F0 m (pc + 1) ls (.long z :: rest))) : W p l e R s m args below meth c H locs cells slots Q (F0 m pc ls (.long y :: .long x :: rest)) := by
  subst hz
  exact lv_ladd hx hb hdg k
theorem o_lsub (hx : p.tables.exec = Jvm.exec) (hb : c.code = cc) {x y z : Int64} (hdg : decode cc pc = .ok (.lsub, 1)) (hz : x - y = z) (k : W p l e R s m args below meth c H locs cells slots Q (F0 m (pc + 1) ls (.long z :: rest))) : W p l e R s m args below meth c H locs cells slots Q (F0 m pc ls (.long y :: .long x :: rest)) := by
  subst hz
  exact lv_lsub hx hb hdg k
theorem o_lmul (hx : p.tables.exec = Jvm.exec) (hb : c.code = cc) {x y z : Int64} (hdg : decode cc pc = .ok (.lmul, 1)) (hz : x * y = z) (k : W p l e R s m args below meth c H locs cells slots Q (F0 m (pc + 1) ls (.long z :: rest))) : W p l e R s m args below meth c H locs cells slots Q (F0 m pc ls (.long y :: .long x :: rest)) := by
  subst hz
  exact lv_lmul hx hb hdg k
theorem o_idiv (hx : p.tables.exec = Jvm.exec) (hb : c.code = cc) {x y z : Int32} (hdg : decode cc pc = .ok (.idiv, 1)) (hne : ¬ y = 0) (hz : x / y = z) (k : W p l e R s m args below meth c H locs cells slots Q (F0 m (pc + 1) ls (.int z :: rest))) : W p l e R s m args below meth c H locs cells slots Q (F0 m pc ls (.int y :: .int x :: rest)) := by
  subst hz
  exact lv_idiv hx hb hdg hne k
theorem o_irem (hx : p.tables.exec = Jvm.exec) (hb : c.code = cc) {x y z : Int32} (hdg : decode cc pc = .ok (.irem, 1)) (hne : ¬ y = 0) (hz : x - x / y * y = z) (k : W p l e R s m args below meth c H locs cells slots Q (F0 m (pc + 1) ls (.int z :: rest))) : W p l e R s m args below meth c H locs cells slots Q (F0 m pc ls (.int y :: .int x :: rest)) := by
  subst hz
  exact lv_irem hx hb hdg hne k
theorem o_ldiv (hx : p.tables.exec = Jvm.exec) (hb : c.code = cc) {x y z : Int64} (hdg : decode cc pc = .ok (.ldiv, 1)) (hne : ¬ y = 0) (hz : x / y = z) (k : W p l e R s m args below meth c H locs cells slots Q (F0 m (pc + 1) ls (.long z :: rest))) : W p l e R s m args below meth c H locs cells slots Q (F0 m pc ls (.long y :: .long x :: rest)) := by
  subst hz
  exact lv_ldiv hx hb hdg hne k
theorem o_lrem (hx : p.tables.exec = Jvm.exec) (hb : c.code = cc) {x y z : Int64} (hdg : decode cc pc = .ok (.lrem, 1)) (hne : ¬ y = 0) (hz : x - x / y * y = z) (k : W p l e R s m args below meth c H locs cells slots Q (F0 m (pc + 1) ls (.long z :: rest))) : W p l e R s m args below meth c H locs cells slots Q (F0 m pc ls (.long y :: .long x :: rest)) := by
  subst hz
  exact lv_lrem hx hb hdg hne k
theorem o_iald (X : Fx p m c cc nL s args own G tys A) (h : St G n ad A s.heap w H locs) (b t0 : Nat) {a N : Nat} {cA : ClassId} {f : Nat → Int32} {i v : Int32} (hb : b < n) (ha : ad b = a) (hw : w b = .inl (cA, N, .inl f)) (ht : tys[t0]? = some (cA, .int)) (hin : vp_in i N) (hv : f i.toNatClampNeg = v) (hdg : decode cc pc = .ok (.iaload, 1))
    (kk : W p l e R s m args below meth c H locs cells slots Q (F0 m (pc + 1) ls (.int v :: rest))) : W p l e R s m args below meth c H locs cells slots Q (F0 m pc ls (.int i :: .ref a :: rest)) := by
  subst hv
  exact r_iald X h b t0 hb ha hw ht hin hdg kk
theorem o_zald (X : Fx p m c cc nL s args own G tys A) (h : St G n ad A s.heap w H locs) (b t0 : Nat) {a N : Nat} {cA : ClassId} {f : Nat → Int32} {i v : Int32} (hb : b < n) (ha : ad b = a) (hw : w b = .inl (cA, N, .inl f)) (ht : tys[t0]? = some (cA, .boolean)) (hin : vp_in i N) (hv : f i.toNatClampNeg = v) (hdg : decode cc pc = .ok (.baload, 1))
    (kk : W p l e R s m args below meth c H locs cells slots Q (F0 m (pc + 1) ls (.int v :: rest))) : W p l e R s m args below meth c H locs cells slots Q (F0 m pc ls (.int i :: .ref a :: rest)) := by
  subst hv
  exact r_zald X h b t0 hb ha hw ht hin hdg kk
theorem o_bald (X : Fx p m c cc nL s args own G tys A) (h : St G n ad A s.heap w H locs) (b t0 : Nat) {a N : Nat} {cA : ClassId} {f : Nat → Int32} {i v : Int32} (hb : b < n) (ha : ad b = a) (hw : w b = .inl (cA, N, .inl f)) (ht : tys[t0]? = some (cA, .byte)) (hin : vp_in i N) (hv : f i.toNatClampNeg = v) (hdg : decode cc pc = .ok (.baload, 1))
    (kk : W p l e R s m args below meth c H locs cells slots Q (F0 m (pc + 1) ls (.int v :: rest))) : W p l e R s m args below meth c H locs cells slots Q (F0 m pc ls (.int i :: .ref a :: rest)) := by
  subst hv
  exact r_bald X h b t0 hb ha hw ht hin hdg kk
theorem o_iast (X : Fx p m c cc nL s args own G tys A) (hD : WD A n ad) (h : St G n ad A s.heap w H locs) (b t0 : Nat) {a N : Nat} {cA : ClassId} {f f1 : Nat → Int32} {i x : Int32} (hb : b < n) (ha : ad b = a) (hw : w b = .inl (cA, N, .inl f)) (ht : tys[t0]? = some (cA, .int)) (hin : vp_in i N) (hf : upd f i.toNatClampNeg x = f1) (hdg : decode cc pc = .ok (.iastore, 1))
    (kk : ∀ (H1 : Heap) (locs1 : List Loc) (w1 : Nat → va_E), w1 = va_up w b (.inl (cA, N, .inl f1)) → St G n ad A s.heap w1 H1 locs1 → W p l e R s m args below meth c H1 locs1 cells slots Q (F0 m (pc + 1) ls rest)) : W p l e R s m args below meth c H locs cells slots Q (F0 m pc ls (.int x :: .int i :: .ref a :: rest)) := by
  subst hf
  exact r_iast X hD h b t0 hb ha hw ht hin hdg kk
theorem o_bast (X : Fx p m c cc nL s args own G tys A) (hD : WD A n ad) (h : St G n ad A s.heap w H locs) (b t0 : Nat) {a N : Nat} {cA : ClassId} {f f1 : Nat → Int32} {i x : Int32} (hb : b < n) (ha : ad b = a) (hw : w b = .inl (cA, N, .inl f)) (ht : tys[t0]? = some (cA, .byte)) (hin : vp_in i N) (hf : upd f i.toNatClampNeg (vp_nar .byte x) = f1) (hdg : decode cc pc = .ok (.bastore, 1))
    (kk : ∀ (H1 : Heap) (locs1 : List Loc) (w1 : Nat → va_E), w1 = va_up w b (.inl (cA, N, .inl f1)) → St G n ad A s.heap w1 H1 locs1 → W p l e R s m args below meth c H1 locs1 cells slots Q (F0 m (pc + 1) ls rest)) : W p l e R s m args below meth c H locs cells slots Q (F0 m pc ls (.int x :: .int i :: .ref a :: rest)) := by
  subst hf
  exact r_bast X hD h b t0 hb ha hw ht hin hdg kk
theorem o_zast (X : Fx p m c cc nL s args own G tys A) (hD : WD A n ad) (h : St G n ad A s.heap w H locs) (b t0 : Nat) {a N : Nat} {cA : ClassId} {f f1 : Nat → Int32} {i x : Int32} (hb : b < n) (ha : ad b = a) (hw : w b = .inl (cA, N, .inl f)) (ht : tys[t0]? = some (cA, .boolean)) (hin : vp_in i N) (hf : upd f i.toNatClampNeg (vp_nar .boolean x) = f1) (hdg : decode cc pc = .ok (.bastore, 1))
    (kk : ∀ (H1 : Heap) (locs1 : List Loc) (w1 : Nat → va_E), w1 = va_up w b (.inl (cA, N, .inl f1)) → St G n ad A s.heap w1 H1 locs1 → W p l e R s m args below meth c H1 locs1 cells slots Q (F0 m (pc + 1) ls rest)) : W p l e R s m args below meth c H locs cells slots Q (F0 m pc ls (.int x :: .int i :: .ref a :: rest)) := by
  subst hf
  exact r_zast X hD h b t0 hb ha hw ht hin hdg kk
/-- System.arraycopy of ints -/
theorem r_copy (X : Fx p m c cc nL s args own G tys A) (hD : WD A n ad) (h : St G n ad A s.heap w H locs) (hl : ls.size = nL) {idx : Nat} (hlk : Cond.methodLink own idx arraycopyName ∈ gtb) (hk2 : Cond.native arraycopyName ∈ gtb) (hk3 : Cond.static arraycopyName ∈ gtb) (hk4 : Cond.initialized "java/lang/System" ∈ gtb) (b0 b1 t0 : Nat) {a0 a1 n0 n1 : Nat} {cA : ClassId} {f g f1 : Nat → Int32} {sp dp k : Int32} (h0 : b0 < n) (h1 : b1 < n) (e0 : ad b0 = a0) (e1 : ad b1 = a1) (hw0 : w b0 = .inl (cA, n0, .inl f)) (hw1 : w b1 = .inl (cA, n1, .inl g)) (ht : tys[t0]? = some (cA, .int)) (g1 : ¬ sp < 0) (g2 : ¬ dp < 0) (g3 : ¬ k < 0) (g4 : sp.toNatClampNeg + k.toNatClampNeg ≤ n0) (g5 : dp.toNatClampNeg + k.toNatClampNeg ≤ n1) (hf : va_cpy f g sp.toNatClampNeg dp.toNatClampNeg k.toNatClampNeg = f1) (hR : 1 ≤ R.frames ∧ (rest.map fun v => v.category).sum + (nativeFrameWords "java/lang/System" "arraycopy" 5 + 11) ≤ R.locals) (hdg : decode cc pc = .ok (.invokestatic idx, 3))
    (kk : ∀ (H1 : Heap) (locs1 : List Loc) (w1 : Nat → va_E), w1 = va_up w b1 (.inl (cA, n1, .inl f1)) → St G n ad A s.heap w1 H1 locs1 → W p l e R s m args below meth c H1 locs1 cells slots Q (F0 m (pc + 3) ls rest)) : W p l e R s m args below meth c H locs cells slots Q (F0 m pc ls (.int k :: .int dp :: .ref a1 :: .int sp :: .ref a0 :: rest)) := by
  subst e0; subst e1; subst hf
  refine va_copyi X.1.1 X.1.2.1 (by rw [X.1.2.2.1, hl]) X.1.2.2.2.1 (X.1.2.2.2.2 _ hlk) (X.1.2.2.2.2 _ hk2) (X.1.2.2.2.2 _ hk3) (X.1.2.2.2.2 _ hk4) X.2.1 h.1 (hD.D w) h.2 b0 b1 t0 t0 (by rw [wl_get h0, hw0]) (by rw [wl_get h1, hw1]) ht ht rfl g1 g2 g3 g4 g5 (fun _ _ => rfl) hR.1 hR.2 hdg (fun H1 locs1 hP _ hS => ?_)
  rw [wl_set h1] at hP
  exact kk H1 locs1 _ rfl ⟨hP, hS⟩
end OPS
theorem kt1 : ∀ w ∈ u_ws "NoonShade$Guess" TX1 1, w ∈ lw_tbl := by decide +kernel
theorem kg1 : ∀ w ∈ u_ws "NoonShade$Guess" TX1 1, goodWord w = true := by decide +kernel
theorem kc1 : KC 0 "NoonShade$Guess" TX1 tyX1 1 := ⟨rfl, fun w h => gtb_mem (kt1 w h) (kg1 w h), tyX1_ok, nmX1⟩
theorem kt2 : ∀ w ∈ u_ws "NoonShade$Isle" TX2 14, w ∈ lw_tbl := by decide +kernel
theorem kg2 : ∀ w ∈ u_ws "NoonShade$Isle" TX2 14, goodWord w = true := by decide +kernel
theorem kc2 : KC 1 "NoonShade$Isle" TX2 tyX2 14 := ⟨rfl, fun w h => gtb_mem (kt2 w h) (kg2 w h), tyX2_ok, nmX2⟩
theorem kt4 : ∀ w ∈ u_ws "NoonShade$Past" TX4 2, w ∈ lw_tbl := by decide +kernel
theorem kg4 : ∀ w ∈ u_ws "NoonShade$Past" TX4 2, goodWord w = true := by decide +kernel
theorem kc4 : KC 2 "NoonShade$Past" TX4 tyX4 2 := ⟨rfl, fun w h => gtb_mem (kt4 w h) (kg4 w h), tyX4_ok, nmX4⟩
theorem kt5 : ∀ w ∈ u_ws "NoonShade$Plan" TX5 6, w ∈ lw_tbl := by decide +kernel
theorem kg5 : ∀ w ∈ u_ws "NoonShade$Plan" TX5 6, goodWord w = true := by decide +kernel
theorem kc5 : KC 3 "NoonShade$Plan" TX5 tyX5 6 := ⟨rfl, fun w h => gtb_mem (kt5 w h) (kg5 w h), tyX5_ok, nmX5⟩
theorem kt6 : ∀ w ∈ u_ws "NoonShade$Rows" TX6 2, w ∈ lw_tbl := by decide +kernel
theorem kg6 : ∀ w ∈ u_ws "NoonShade$Rows" TX6 2, goodWord w = true := by decide +kernel
theorem kc6 : KC 4 "NoonShade$Rows" TX6 tyX6 2 := ⟨rfl, fun w h => gtb_mem (kt6 w h) (kg6 w h), tyX6_ok, nmX6⟩
theorem kt7 : ∀ w ∈ u_ws "NoonShade$Text" TX7 7, w ∈ lw_tbl := by decide +kernel
theorem kg7 : ∀ w ∈ u_ws "NoonShade$Text" TX7 7, goodWord w = true := by decide +kernel
theorem kc7 : KC 5 "NoonShade$Text" TX7 tyX7 7 := ⟨rfl, fun w h => gtb_mem (kt7 w h) (kg7 w h), tyX7_ok, nmX7⟩
theorem kt8 : ∀ w ∈ u_ws "NoonShade" TX8 12, w ∈ lw_tbl := by decide +kernel
theorem kg8 : ∀ w ∈ u_ws "NoonShade" TX8 12, goodWord w = true := by decide +kernel
theorem kc8 : KC 6 "NoonShade" TX8 tyX8 12 := ⟨rfl, fun w h => gtb_mem (kt8 w h) (kg8 w h), tyX8_ok, nmX8⟩
theorem kt9 : ∀ w ∈ u_ws "NoonShadeModel" TX9 17, w ∈ lw_tbl := by decide +kernel
theorem kg9 : ∀ w ∈ u_ws "NoonShadeModel" TX9 17, goodWord w = true := by decide +kernel
theorem kc9 : KC 7 "NoonShadeModel" TX9 tyX9 17 := ⟨rfl, fun w h => gtb_mem (kt9 w h) (kg9 w h), tyX9_ok, nmX9⟩
end
section
theorem kw_0 : Cond.fieldLink "NoonShade$Isle" 57 "NoonShade$Isle" "casters" "I" ∈ gtb := gtb_mem (in_t1 (List.mem_of_getElem? (i := 73) (by decide +kernel))) rfl
theorem kw_1 : Cond.fieldLink "NoonShade$Isle" 60 "NoonShade$Isle" "jars" "I" ∈ gtb := gtb_mem (in_t1 (List.mem_of_getElem? (i := 76) (by decide +kernel))) rfl
theorem kw_2 : Cond.fieldLink "NoonShade" 260 "NoonShade" "fulls" "I" ∈ gtb := gtb_mem (in_t1 (List.mem_of_getElem? (i := 211) (by decide +kernel))) rfl
theorem kw_3 : Cond.fieldLink "NoonShade" 257 "NoonShade" "noes" "I" ∈ gtb := gtb_mem (in_t1 (List.mem_of_getElem? (i := 210) (by decide +kernel))) rfl
theorem kw_4 : Cond.fieldLink "NoonShade" 254 "NoonShade" "bads" "I" ∈ gtb := gtb_mem (in_t1 (List.mem_of_getElem? (i := 209) (by decide +kernel))) rfl
theorem kw_5 : Cond.fieldLink "NoonShade" 10 "NoonShade" "now" "LNoonShade$Isle;" ∈ gtb := gtb_mem (in_t1 (List.mem_of_getElem? (i := 200) (by decide +kernel))) rfl
theorem kw_6 : Cond.methodLink "NoonShade" 108 yX2_hasCaster ∈ gtb := gtb_mem (in_t3 (List.mem_of_getElem? (i := 8) (by decide +kernel))) rfl
theorem kw_7 : Cond.instanceMethod yX2_hasCaster ∈ gtb := gtb_mem (in_t2 (List.mem_of_getElem? (i := 163) (by decide +kernel))) rfl
theorem kw_8 : Cond.selects "NoonShade$Isle" yX2_hasCaster yX2_hasCaster ∈ gtb := gtb_mem (in_t2 (List.mem_of_getElem? (i := 164) (by decide +kernel))) rfl
theorem kw_9 : Cond.initialized "NoonShade$Isle" ∈ gtb := gtb_mem (in_t1 (List.mem_of_getElem? (i := 2) (by decide +kernel))) rfl
theorem kw_10 : Cond.code yX2_hasCaster prog_4_method_4_code 2 (some .boolean) ∈ gtb := gtb_mem (in_t2 (List.mem_of_getElem? (i := 165) (rfl))) rfl
theorem kw_11 : Cond.methodLink "NoonShade" 59 yX8_refused ∈ gtb := gtb_mem (in_t2 (List.mem_of_getElem? (i := 4) (by decide +kernel))) rfl
theorem kw_12 : Cond.instanceMethod yX8_refused ∈ gtb := gtb_mem (in_t2 (List.mem_of_getElem? (i := 6) (by decide +kernel))) rfl
theorem kw_13 : Cond.selects "NoonShade" yX8_refused yX8_refused ∈ gtb := gtb_mem (in_t0 (List.mem_of_getElem? (i := 0) (by decide +kernel))) rfl
theorem kw_14 : Cond.initialized "NoonShade" ∈ gtb := gtb_mem (in_t1 (List.mem_of_getElem? (i := 1) (by decide +kernel))) rfl
theorem kw_15 : Cond.code yX8_refused prog_1_method_39_code 2 (some .int) ∈ gtb := gtb_mem (in_t2 (List.mem_of_getElem? (i := 7) (rfl))) rfl
theorem kw_16 : Cond.methodLink "NoonShade" 112 yX2_hasJar ∈ gtb := gtb_mem (in_t3 (List.mem_of_getElem? (i := 9) (by decide +kernel))) rfl
theorem kw_17 : Cond.instanceMethod yX2_hasJar ∈ gtb := gtb_mem (in_t2 (List.mem_of_getElem? (i := 171) (by decide +kernel))) rfl
theorem kw_18 : Cond.selects "NoonShade$Isle" yX2_hasJar yX2_hasJar ∈ gtb := gtb_mem (in_t2 (List.mem_of_getElem? (i := 172) (by decide +kernel))) rfl
theorem kw_19 : Cond.code yX2_hasJar prog_4_method_5_code 2 (some .boolean) ∈ gtb := gtb_mem (in_t2 (List.mem_of_getElem? (i := 173) (rfl))) rfl
theorem kw_20 : Cond.fieldLink "NoonShade$Rows" 15 "NoonShade$Rows" "size" "I" ∈ gtb := gtb_mem (in_t1 (List.mem_of_getElem? (i := 39) (by decide +kernel))) rfl
theorem kw_21 : Cond.fieldLink "NoonShade$Past" 15 "NoonShade$Past" "steps" "I" ∈ gtb := gtb_mem (in_t1 (List.mem_of_getElem? (i := 54) (by decide +kernel))) rfl
theorem kw_22 : Cond.fieldLink "NoonShade$Isle" 47 "NoonShade$Isle" "hour" "I" ∈ gtb := gtb_mem (in_t1 (List.mem_of_getElem? (i := 61) (by decide +kernel))) rfl
theorem kw_23 : Cond.fieldLink "NoonShade$Isle" 51 "NoonShade$Isle" "sold" "I" ∈ gtb := gtb_mem (in_t1 (List.mem_of_getElem? (i := 66) (by decide +kernel))) rfl
theorem kw_24 : Cond.fieldLink "NoonShade$Isle" 54 "NoonShade$Isle" "milked" "I" ∈ gtb := gtb_mem (in_t1 (List.mem_of_getElem? (i := 69) (by decide +kernel))) rfl
theorem kw_25 : Cond.fieldLink "NoonShade$Isle" 33 "NoonShade$Isle" "notes" "LNoonShade$Rows;" ∈ gtb := gtb_mem (in_t1 (List.mem_of_getElem? (i := 96) (by decide +kernel))) rfl
theorem kw_26 : Cond.methodLink "NoonShade$Isle" 63 yX6_empty ∈ gtb := gtb_mem (in_t2 (List.mem_of_getElem? (i := 12) (by decide +kernel))) rfl
theorem kw_27 : Cond.instanceMethod yX6_empty ∈ gtb := gtb_mem (in_t2 (List.mem_of_getElem? (i := 13) (by decide +kernel))) rfl
theorem kw_28 : Cond.selects "NoonShade$Rows" yX6_empty yX6_empty ∈ gtb := gtb_mem (in_t2 (List.mem_of_getElem? (i := 14) (by decide +kernel))) rfl
theorem kw_29 : Cond.initialized "NoonShade$Rows" ∈ gtb := gtb_mem (in_t1 (List.mem_of_getElem? (i := 3) (by decide +kernel))) rfl
theorem kw_30 : Cond.code yX6_empty prog_8_method_4_code 2 (some .int) ∈ gtb := gtb_mem (in_t2 (List.mem_of_getElem? (i := 15) (rfl))) rfl
theorem kw_31 : Cond.fieldLink "NoonShade$Isle" 37 "NoonShade$Isle" "marks" "LNoonShade$Rows;" ∈ gtb := gtb_mem (in_t1 (List.mem_of_getElem? (i := 98) (by decide +kernel))) rfl
theorem kw_32 : Cond.fieldLink "NoonShade$Isle" 43 "NoonShade$Isle" "past" "LNoonShade$Past;" ∈ gtb := gtb_mem (in_t1 (List.mem_of_getElem? (i := 100) (by decide +kernel))) rfl
theorem kw_33 : Cond.methodLink "NoonShade$Isle" 67 yX4_empty ∈ gtb := gtb_mem (in_t2 (List.mem_of_getElem? (i := 16) (by decide +kernel))) rfl
theorem kw_34 : Cond.instanceMethod yX4_empty ∈ gtb := gtb_mem (in_t2 (List.mem_of_getElem? (i := 17) (by decide +kernel))) rfl
theorem kw_35 : Cond.selects "NoonShade$Past" yX4_empty yX4_empty ∈ gtb := gtb_mem (in_t2 (List.mem_of_getElem? (i := 18) (by decide +kernel))) rfl
theorem kw_36 : Cond.initialized "NoonShade$Past" ∈ gtb := gtb_mem (in_t1 (List.mem_of_getElem? (i := 4) (by decide +kernel))) rfl
theorem kw_37 : Cond.code yX4_empty prog_6_method_2_code 1 none ∈ gtb := gtb_mem (in_t2 (List.mem_of_getElem? (i := 19) (rfl))) rfl
theorem kw_38 : Cond.methodLink "NoonShade" 55 yX8_within ∈ gtb := gtb_mem (in_t2 (List.mem_of_getElem? (i := 1) (by decide +kernel))) rfl
theorem kw_39 : Cond.static yX8_within ∈ gtb := gtb_mem (in_t2 (List.mem_of_getElem? (i := 2) (by decide +kernel))) rfl
theorem kw_40 : Cond.code yX8_within prog_1_method_38_code 3 (some .boolean) ∈ gtb := gtb_mem (in_t2 (List.mem_of_getElem? (i := 3) (rfl))) rfl
theorem kw_41 : Cond.fieldLink "NoonShade" 63 "NoonShade$Isle" "casters" "I" ∈ gtb := gtb_mem (in_t1 (List.mem_of_getElem? (i := 74) (by decide +kernel))) rfl
theorem kw_42 : Cond.methodLink "NoonShade" 67 yX2_begin ∈ gtb := gtb_mem (in_t2 (List.mem_of_getElem? (i := 8) (by decide +kernel))) rfl
theorem kw_43 : Cond.instanceMethod yX2_begin ∈ gtb := gtb_mem (in_t2 (List.mem_of_getElem? (i := 9) (by decide +kernel))) rfl
theorem kw_44 : Cond.selects "NoonShade$Isle" yX2_begin yX2_begin ∈ gtb := gtb_mem (in_t2 (List.mem_of_getElem? (i := 10) (by decide +kernel))) rfl
theorem kw_45 : Cond.code yX2_begin prog_4_method_2_code 2 none ∈ gtb := gtb_mem (in_t2 (List.mem_of_getElem? (i := 11) (rfl))) rfl
theorem kw_46 : Cond.fieldLink "NoonShade$Isle" 9 "NoonShade$Isle" "casterKind" "[I" ∈ gtb := gtb_mem (in_t1 (List.mem_of_getElem? (i := 79) (by decide +kernel))) rfl
theorem kw_47 : Cond.fieldLink "NoonShade$Isle" 15 "NoonShade$Isle" "height" "[I" ∈ gtb := gtb_mem (in_t1 (List.mem_of_getElem? (i := 81) (by decide +kernel))) rfl
theorem kw_48 : Cond.fieldLink "NoonShade$Isle" 18 "NoonShade$Isle" "casterTaste" "[I" ∈ gtb := gtb_mem (in_t1 (List.mem_of_getElem? (i := 83) (by decide +kernel))) rfl
theorem kw_49 : Cond.fieldLink "NoonShade$Isle" 21 "NoonShade$Isle" "jarKind" "[I" ∈ gtb := gtb_mem (in_t1 (List.mem_of_getElem? (i := 85) (by decide +kernel))) rfl
theorem kw_50 : Cond.fieldLink "NoonShade$Isle" 24 "NoonShade$Isle" "cool" "[I" ∈ gtb := gtb_mem (in_t1 (List.mem_of_getElem? (i := 88) (by decide +kernel))) rfl
theorem kw_51 : Cond.fieldLink "NoonShade$Isle" 27 "NoonShade$Isle" "jarTaste" "[I" ∈ gtb := gtb_mem (in_t1 (List.mem_of_getElem? (i := 93) (by decide +kernel))) rfl
theorem kw_52 : Cond.fieldLink "NoonShade" 71 "NoonShade$Isle" "past" "LNoonShade$Past;" ∈ gtb := gtb_mem (in_t1 (List.mem_of_getElem? (i := 101) (by decide +kernel))) rfl
theorem kw_53 : Cond.methodLink "NoonShade" 75 yX4_empty ∈ gtb := gtb_mem (in_t2 (List.mem_of_getElem? (i := 24) (by decide +kernel))) rfl
theorem kw_54 : Cond.methodLink "NoonShade" 80 yX2_addCaster ∈ gtb := gtb_mem (in_t2 (List.mem_of_getElem? (i := 25) (by decide +kernel))) rfl
theorem kw_55 : Cond.instanceMethod yX2_addCaster ∈ gtb := gtb_mem (in_t2 (List.mem_of_getElem? (i := 26) (by decide +kernel))) rfl
theorem kw_56 : Cond.selects "NoonShade$Isle" yX2_addCaster yX2_addCaster ∈ gtb := gtb_mem (in_t2 (List.mem_of_getElem? (i := 27) (by decide +kernel))) rfl
theorem kw_57 : Cond.code yX2_addCaster prog_4_method_7_code 4 (some .int) ∈ gtb := gtb_mem (in_t2 (List.mem_of_getElem? (i := 28) (rfl))) rfl
theorem kw_58 : Cond.fieldLink "NoonShade" 84 "NoonShade$Isle" "jars" "I" ∈ gtb := gtb_mem (in_t1 (List.mem_of_getElem? (i := 77) (by decide +kernel))) rfl
theorem kw_59 : Cond.methodLink "NoonShade" 87 yX2_addJar ∈ gtb := gtb_mem (in_t2 (List.mem_of_getElem? (i := 33) (by decide +kernel))) rfl
theorem kw_60 : Cond.instanceMethod yX2_addJar ∈ gtb := gtb_mem (in_t2 (List.mem_of_getElem? (i := 34) (by decide +kernel))) rfl
theorem kw_61 : Cond.selects "NoonShade$Isle" yX2_addJar yX2_addJar ∈ gtb := gtb_mem (in_t2 (List.mem_of_getElem? (i := 35) (by decide +kernel))) rfl
theorem kw_62 : Cond.code yX2_addJar prog_4_method_8_code 2 (some .int) ∈ gtb := gtb_mem (in_t2 (List.mem_of_getElem? (i := 36) (rfl))) rfl
theorem kw_63 : Cond.fieldLink "NoonShade$Text" 19 "NoonShade$Text" "length" "I" ∈ gtb := gtb_mem (in_t1 (List.mem_of_getElem? (i := 140) (by decide +kernel))) rfl
theorem kw_64 : Cond.methodLink "NoonShade$Text" 23 yX7_isFull ∈ gtb := gtb_mem (in_t2 (List.mem_of_getElem? (i := 49) (by decide +kernel))) rfl
theorem kw_65 : Cond.instanceMethod yX7_isFull ∈ gtb := gtb_mem (in_t2 (List.mem_of_getElem? (i := 42) (by decide +kernel))) rfl
theorem kw_66 : Cond.selects "NoonShade$Text" yX7_isFull yX7_isFull ∈ gtb := gtb_mem (in_t2 (List.mem_of_getElem? (i := 43) (by decide +kernel))) rfl
theorem kw_67 : Cond.initialized "NoonShade$Text" ∈ gtb := gtb_mem (in_t1 (List.mem_of_getElem? (i := 5) (by decide +kernel))) rfl
theorem kw_68 : Cond.code yX7_isFull prog_9_method_2_code 1 (some .boolean) ∈ gtb := gtb_mem (in_t2 (List.mem_of_getElem? (i := 44) (rfl))) rfl
theorem kw_69 : Cond.fieldLink "NoonShade$Text" 11 "NoonShade$Text" "bytes" "[B" ∈ gtb := gtb_mem (in_t1 (List.mem_of_getElem? (i := 138) (by decide +kernel))) rfl
theorem kw_70 : Cond.fieldLink "NoonShade" 30 "NoonShade" "text" "LNoonShade$Text;" ∈ gtb := gtb_mem (in_t1 (List.mem_of_getElem? (i := 204) (by decide +kernel))) rfl
theorem kw_71 : Cond.methodLink "NoonShade" 90 yX7_isFull ∈ gtb := gtb_mem (in_t2 (List.mem_of_getElem? (i := 41) (by decide +kernel))) rfl
theorem kw_72 : Cond.methodLink "NoonShade" 94 yX7_add ∈ gtb := gtb_mem (in_t2 (List.mem_of_getElem? (i := 45) (by decide +kernel))) rfl
theorem kw_73 : Cond.instanceMethod yX7_add ∈ gtb := gtb_mem (in_t2 (List.mem_of_getElem? (i := 46) (by decide +kernel))) rfl
theorem kw_74 : Cond.selects "NoonShade$Text" yX7_add yX7_add ∈ gtb := gtb_mem (in_t2 (List.mem_of_getElem? (i := 47) (by decide +kernel))) rfl
theorem kw_75 : Cond.code yX7_add prog_9_method_3_code 2 (some .int) ∈ gtb := gtb_mem (in_t2 (List.mem_of_getElem? (i := 48) (rfl))) rfl
theorem kw_76 : Cond.methodLink "NoonShade" 97 yX7_empty ∈ gtb := gtb_mem (in_t2 (List.mem_of_getElem? (i := 54) (by decide +kernel))) rfl
theorem kw_77 : Cond.instanceMethod yX7_empty ∈ gtb := gtb_mem (in_t2 (List.mem_of_getElem? (i := 55) (by decide +kernel))) rfl
theorem kw_78 : Cond.selects "NoonShade$Text" yX7_empty yX7_empty ∈ gtb := gtb_mem (in_t2 (List.mem_of_getElem? (i := 56) (by decide +kernel))) rfl
theorem kw_79 : Cond.code yX7_empty prog_9_method_4_code 2 (some .int) ∈ gtb := gtb_mem (in_t2 (List.mem_of_getElem? (i := 57) (rfl))) rfl
theorem kw_80 : Cond.fieldLink "NoonShade$Text" 33 "NoonShade$Text" "at" "I" ∈ gtb := gtb_mem (in_t1 (List.mem_of_getElem? (i := 143) (by decide +kernel))) rfl
theorem kw_81 : Cond.fieldLink "NoonShade$Text" 58 "NoonShade$Text" "start" "I" ∈ gtb := gtb_mem (in_t1 (List.mem_of_getElem? (i := 142) (by decide +kernel))) rfl
theorem kw_82 : Cond.fieldLink "NoonShade$Text" 39 "NoonShade$Text" "token" "I" ∈ gtb := gtb_mem (in_t1 (List.mem_of_getElem? (i := 144) (by decide +kernel))) rfl
theorem kw_83 : Cond.methodLink "NoonShade$Text" 27 yX2_begin ∈ gtb := gtb_mem (in_t2 (List.mem_of_getElem? (i := 66) (by decide +kernel))) rfl
theorem kw_84 : Cond.methodLink "NoonShade$Text" 36 yX7_step ∈ gtb := gtb_mem (in_t2 (List.mem_of_getElem? (i := 67) (by decide +kernel))) rfl
theorem kw_85 : Cond.instanceMethod yX7_step ∈ gtb := gtb_mem (in_t2 (List.mem_of_getElem? (i := 69) (by decide +kernel))) rfl
theorem kw_86 : Cond.selects "NoonShade$Text" yX7_step yX7_step ∈ gtb := gtb_mem (in_t0 (List.mem_of_getElem? (i := 1) (by decide +kernel))) rfl
theorem kw_87 : Cond.code yX7_step prog_9_method_12_code 1 none ∈ gtb := gtb_mem (in_t2 (List.mem_of_getElem? (i := 70) (rfl))) rfl
theorem kw_88 : Cond.methodLink "NoonShade$Text" 46 yX7_mayBegin ∈ gtb := gtb_mem (in_t2 (List.mem_of_getElem? (i := 143) (by decide +kernel))) rfl
theorem kw_89 : Cond.static yX7_mayBegin ∈ gtb := gtb_mem (in_t2 (List.mem_of_getElem? (i := 144) (by decide +kernel))) rfl
theorem kw_90 : Cond.code yX7_mayBegin prog_9_method_6_code 3 (some .boolean) ∈ gtb := gtb_mem (in_t2 (List.mem_of_getElem? (i := 145) (rfl))) rfl
theorem kw_91 : Cond.fieldLink "NoonShade" 16 "NoonShade" "draft" "LNoonShade$Isle;" ∈ gtb := gtb_mem (in_t1 (List.mem_of_getElem? (i := 201) (by decide +kernel))) rfl
theorem kw_92 : Cond.methodLink "NoonShade" 100 yX7_tell ∈ gtb := gtb_mem (in_t2 (List.mem_of_getElem? (i := 62) (by decide +kernel))) rfl
theorem kw_93 : Cond.instanceMethod yX7_tell ∈ gtb := gtb_mem (in_t2 (List.mem_of_getElem? (i := 63) (by decide +kernel))) rfl
theorem kw_94 : Cond.selects "NoonShade$Text" yX7_tell yX7_tell ∈ gtb := gtb_mem (in_t2 (List.mem_of_getElem? (i := 64) (by decide +kernel))) rfl
theorem kw_95 : Cond.code yX7_tell prog_9_method_5_code 4 (some .int) ∈ gtb := gtb_mem (in_t2 (List.mem_of_getElem? (i := 65) (rfl))) rfl
theorem kw_96 : Cond.methodLink "NoonShade" 141 yX4_bringBack ∈ gtb := gtb_mem (in_t3 (List.mem_of_getElem? (i := 38) (by decide +kernel))) rfl
theorem kw_97 : Cond.instanceMethod yX4_bringBack ∈ gtb := gtb_mem (in_t3 (List.mem_of_getElem? (i := 39) (by decide +kernel))) rfl
theorem kw_98 : Cond.selects "NoonShade$Past" yX4_bringBack yX4_bringBack ∈ gtb := gtb_mem (in_t3 (List.mem_of_getElem? (i := 40) (by decide +kernel))) rfl
theorem kw_99 : Cond.code yX4_bringBack prog_6_method_5_code 3 (some .boolean) ∈ gtb := gtb_mem (in_t3 (List.mem_of_getElem? (i := 41) (rfl))) rfl
theorem kw_100 : Cond.fieldLink "NoonShade" 192 "NoonShade$Isle" "notes" "LNoonShade$Rows;" ∈ gtb := gtb_mem (in_t1 (List.mem_of_getElem? (i := 97) (by decide +kernel))) rfl
theorem kw_101 : Cond.methodLink "NoonShade" 205 yX6_empty ∈ gtb := gtb_mem (in_t3 (List.mem_of_getElem? (i := 167) (by decide +kernel))) rfl
theorem kw_102 : Cond.fieldLink "NoonShade" 202 "NoonShade$Isle" "marks" "LNoonShade$Rows;" ∈ gtb := gtb_mem (in_t1 (List.mem_of_getElem? (i := 99) (by decide +kernel))) rfl
theorem kw_103 : Cond.fieldLink "NoonShade" 48 "NoonShade" "above" "J" ∈ gtb := gtb_mem (in_t1 (List.mem_of_getElem? (i := 207) (by decide +kernel))) rfl
theorem kw_104 : Cond.fieldLink "NoonShade" 52 "NoonShade" "below" "J" ∈ gtb := gtb_mem (in_t1 (List.mem_of_getElem? (i := 208) (by decide +kernel))) rfl
theorem kw_105 : Cond.fieldLink "NoonShade" 23 "NoonShade" "imageKept" "[Z" ∈ gtb := gtb_mem (in_t1 (List.mem_of_getElem? (i := 203) (by decide +kernel))) rfl
theorem kw_106 : Cond.constant "java/lang/Integer" 265 1431655765 ∈ gtb := gtb_mem (in_t3 (List.mem_of_getElem? (i := 124) (by decide +kernel))) rfl
theorem kw_107 : Cond.constant "java/lang/Integer" 266 858993459 ∈ gtb := gtb_mem (in_t3 (List.mem_of_getElem? (i := 125) (by decide +kernel))) rfl
theorem kw_108 : Cond.constant "java/lang/Integer" 267 252645135 ∈ gtb := gtb_mem (in_t3 (List.mem_of_getElem? (i := 126) (by decide +kernel))) rfl
theorem kw_109 : Cond.methodLink "NoonShade" 251 yX2_coolInAll ∈ gtb := gtb_mem (in_t4 (List.mem_of_getElem? (i := 18) (by decide +kernel))) rfl
theorem kw_110 : Cond.instanceMethod yX2_coolInAll ∈ gtb := gtb_mem (in_t4 (List.mem_of_getElem? (i := 19) (by decide +kernel))) rfl
theorem kw_111 : Cond.selects "NoonShade$Isle" yX2_coolInAll yX2_coolInAll ∈ gtb := gtb_mem (in_t4 (List.mem_of_getElem? (i := 20) (by decide +kernel))) rfl
theorem kw_112 : Cond.code yX2_coolInAll prog_4_method_20_code 3 (some .int) ∈ gtb := gtb_mem (in_t4 (List.mem_of_getElem? (i := 21) (rfl))) rfl
theorem kw_113 : Cond.fieldLink "NoonShade" 135 "NoonShade$Isle" "hour" "I" ∈ gtb := gtb_mem (in_t1 (List.mem_of_getElem? (i := 64) (by decide +kernel))) rfl
theorem kw_114 : Cond.fieldLink "NoonShade" 274 "NoonShade$Isle" "milked" "I" ∈ gtb := gtb_mem (in_t1 (List.mem_of_getElem? (i := 71) (by decide +kernel))) rfl
theorem kw_115 : Cond.methodLink "NoonShade" 184 yJ6_bitCount_0f7a4 ∈ gtb := gtb_mem (in_t3 (List.mem_of_getElem? (i := 121) (by decide +kernel))) rfl
theorem kw_116 : Cond.static yJ6_bitCount_0f7a4 ∈ gtb := gtb_mem (in_t3 (List.mem_of_getElem? (i := 122) (by decide +kernel))) rfl
theorem kw_117 : Cond.initialized "java/lang/Integer" ∈ gtb := gtb_mem (in_t1 (List.mem_of_getElem? (i := 17) (by decide +kernel))) rfl
theorem kw_118 : Cond.code yJ6_bitCount_0f7a4 prog_12_method_49_code 1 (some .int) ∈ gtb := gtb_mem (in_t3 (List.mem_of_getElem? (i := 123) (rfl))) rfl
theorem kw_119 : Cond.fieldLink "NoonShade" 277 "NoonShade$Isle" "sold" "I" ∈ gtb := gtb_mem (in_t1 (List.mem_of_getElem? (i := 68) (by decide +kernel))) rfl
theorem kw_120 : Cond.fieldLink "NoonShade" 280 "NoonShade$Rows" "size" "I" ∈ gtb := gtb_mem (in_t1 (List.mem_of_getElem? (i := 40) (by decide +kernel))) rfl
theorem kw_121 : Cond.fieldLink "NoonShade" 283 "NoonShade$Past" "steps" "I" ∈ gtb := gtb_mem (in_t1 (List.mem_of_getElem? (i := 55) (by decide +kernel))) rfl
theorem kw_122 : Cond.fieldLink "NoonShade" 286 "NoonShade$Text" "length" "I" ∈ gtb := gtb_mem (in_t1 (List.mem_of_getElem? (i := 141) (by decide +kernel))) rfl
theorem kw_123 : Cond.methodLink "NoonShade" 263 yX8_counted ∈ gtb := gtb_mem (in_t4 (List.mem_of_getElem? (i := 42) (by decide +kernel))) rfl
theorem kw_124 : Cond.instanceMethod yX8_counted ∈ gtb := gtb_mem (in_t4 (List.mem_of_getElem? (i := 44) (by decide +kernel))) rfl
theorem kw_125 : Cond.selects "NoonShade" yX8_counted yX8_counted ∈ gtb := gtb_mem (in_t0 (List.mem_of_getElem? (i := 24) (by decide +kernel))) rfl
theorem kw_126 : Cond.code yX8_counted prog_1_method_40_code 2 (some .int) ∈ gtb := gtb_mem (in_t4 (List.mem_of_getElem? (i := 45) (rfl))) rfl
theorem kw_127 : Cond.methodLink "NoonShade$Isle" 122 yX6_mixed ∈ gtb := gtb_mem (in_t4 (List.mem_of_getElem? (i := 57) (by decide +kernel))) rfl
theorem kw_128 : Cond.instanceMethod yX6_mixed ∈ gtb := gtb_mem (in_t4 (List.mem_of_getElem? (i := 58) (by decide +kernel))) rfl
theorem kw_129 : Cond.selects "NoonShade$Rows" yX6_mixed yX6_mixed ∈ gtb := gtb_mem (in_t4 (List.mem_of_getElem? (i := 59) (by decide +kernel))) rfl
theorem kw_130 : Cond.code yX6_mixed prog_8_method_7_code 6 (some .long) ∈ gtb := gtb_mem (in_t4 (List.mem_of_getElem? (i := 60) (rfl))) rfl
theorem kw_131 : Cond.constantLong "NoonShade" 266 1879 ∈ gtb := gtb_mem (in_t4 (List.mem_of_getElem? (i := 50) (by decide +kernel))) rfl
theorem kw_132 : Cond.constantLong "NoonShade" 268 31 ∈ gtb := gtb_mem (in_t4 (List.mem_of_getElem? (i := 51) (by decide +kernel))) rfl
theorem kw_133 : Cond.methodLink "NoonShade" 270 yX2_mixed ∈ gtb := gtb_mem (in_t4 (List.mem_of_getElem? (i := 52) (by decide +kernel))) rfl
theorem kw_134 : Cond.instanceMethod yX2_mixed ∈ gtb := gtb_mem (in_t4 (List.mem_of_getElem? (i := 53) (by decide +kernel))) rfl
theorem kw_135 : Cond.selects "NoonShade$Isle" yX2_mixed yX2_mixed ∈ gtb := gtb_mem (in_t4 (List.mem_of_getElem? (i := 54) (by decide +kernel))) rfl
theorem kw_136 : Cond.code yX2_mixed prog_4_method_21_code 6 (some .long) ∈ gtb := gtb_mem (in_t4 (List.mem_of_getElem? (i := 55) (rfl))) rfl
theorem kw_137 : Cond.methodLink "NoonShade$Isle" 114 yX2_passHour ∈ gtb := gtb_mem (in_t2 (List.mem_of_getElem? (i := 214) (by decide +kernel))) rfl
theorem kw_138 : Cond.instanceMethod yX2_passHour ∈ gtb := gtb_mem (in_t2 (List.mem_of_getElem? (i := 215) (by decide +kernel))) rfl
theorem kw_139 : Cond.selects "NoonShade$Isle" yX2_passHour yX2_passHour ∈ gtb := gtb_mem (in_t2 (List.mem_of_getElem? (i := 216) (by decide +kernel))) rfl
theorem kw_140 : Cond.code yX2_passHour prog_4_method_19_code 2 none ∈ gtb := gtb_mem (in_t2 (List.mem_of_getElem? (i := 217) (rfl))) rfl
theorem kw_141 : Cond.fieldLink "NoonShade$Past" 25 "NoonShade$Isle" "cool" "[I" ∈ gtb := gtb_mem (in_t1 (List.mem_of_getElem? (i := 90) (by decide +kernel))) rfl
theorem kw_142 : Cond.fieldLink "NoonShade$Past" 11 "NoonShade$Past" "cells" "[I" ∈ gtb := gtb_mem (in_t1 (List.mem_of_getElem? (i := 53) (by decide +kernel))) rfl
theorem kw_143 : Cond.methodLink "NoonShade$Past" 19 ⟨"java/lang/System", "arraycopy", "(Ljava/lang/Object;ILjava/lang/Object;II)V"⟩ ∈ gtb := gtb_mem (in_t3 (List.mem_of_getElem? (i := 3) (by decide +kernel))) rfl
theorem kw_144 : Cond.native ⟨"java/lang/System", "arraycopy", "(Ljava/lang/Object;ILjava/lang/Object;II)V"⟩ ∈ gtb := gtb_mem (in_t2 (List.mem_of_getElem? (i := 233) (by decide +kernel))) rfl
theorem kw_145 : Cond.static ⟨"java/lang/System", "arraycopy", "(Ljava/lang/Object;ILjava/lang/Object;II)V"⟩ ∈ gtb := gtb_mem (in_t2 (List.mem_of_getElem? (i := 232) (by decide +kernel))) rfl
theorem kw_146 : Cond.initialized "java/lang/System" ∈ gtb := gtb_mem (in_t1 (List.mem_of_getElem? (i := 16) (by decide +kernel))) rfl
theorem kw_147 : Cond.fieldLink "NoonShade$Past" 30 "NoonShade$Isle" "jarTaste" "[I" ∈ gtb := gtb_mem (in_t1 (List.mem_of_getElem? (i := 94) (by decide +kernel))) rfl
theorem kw_148 : Cond.fieldLink "NoonShade$Past" 33 "NoonShade$Isle" "milked" "I" ∈ gtb := gtb_mem (in_t1 (List.mem_of_getElem? (i := 70) (by decide +kernel))) rfl
theorem kw_149 : Cond.fieldLink "NoonShade$Past" 36 "NoonShade$Isle" "sold" "I" ∈ gtb := gtb_mem (in_t1 (List.mem_of_getElem? (i := 67) (by decide +kernel))) rfl
theorem kw_150 : Cond.fieldLink "NoonShade$Past" 39 "NoonShade$Isle" "hour" "I" ∈ gtb := gtb_mem (in_t1 (List.mem_of_getElem? (i := 63) (by decide +kernel))) rfl
theorem kw_151 : Cond.methodLink "NoonShade" 118 yX4_remember ∈ gtb := gtb_mem (in_t3 (List.mem_of_getElem? (i := 11) (by decide +kernel))) rfl
theorem kw_152 : Cond.instanceMethod yX4_remember ∈ gtb := gtb_mem (in_t3 (List.mem_of_getElem? (i := 12) (by decide +kernel))) rfl
theorem kw_153 : Cond.selects "NoonShade$Past" yX4_remember yX4_remember ∈ gtb := gtb_mem (in_t3 (List.mem_of_getElem? (i := 13) (by decide +kernel))) rfl
theorem kw_154 : Cond.code yX4_remember prog_6_method_4_code 3 none ∈ gtb := gtb_mem (in_t3 (List.mem_of_getElem? (i := 14) (rfl))) rfl
theorem kw_155 : Cond.methodLink "NoonShade" 138 yX2_passHours ∈ gtb := gtb_mem (in_t3 (List.mem_of_getElem? (i := 33) (by decide +kernel))) rfl
theorem kw_156 : Cond.instanceMethod yX2_passHours ∈ gtb := gtb_mem (in_t2 (List.mem_of_getElem? (i := 211) (by decide +kernel))) rfl
theorem kw_157 : Cond.selects "NoonShade$Isle" yX2_passHours yX2_passHours ∈ gtb := gtb_mem (in_t2 (List.mem_of_getElem? (i := 212) (by decide +kernel))) rfl
theorem kw_158 : Cond.code yX2_passHours prog_4_method_18_code 3 none ∈ gtb := gtb_mem (in_t2 (List.mem_of_getElem? (i := 213) (rfl))) rfl
theorem kw_159 : Cond.fieldLink "NoonShade$Rows" 11 "NoonShade$Rows" "cells" "[I" ∈ gtb := gtb_mem (in_t1 (List.mem_of_getElem? (i := 38) (by decide +kernel))) rfl
theorem kw_160 : Cond.methodLink "NoonShade$Rows" 23 ⟨"java/lang/System", "arraycopy", "(Ljava/lang/Object;ILjava/lang/Object;II)V"⟩ ∈ gtb := gtb_mem (in_t2 (List.mem_of_getElem? (i := 238) (by decide +kernel))) rfl
theorem kw_161 : Cond.methodLink "NoonShade$Isle" 69 ⟨"java/lang/System", "arraycopy", "(Ljava/lang/Object;ILjava/lang/Object;II)V"⟩ ∈ gtb := gtb_mem (in_t2 (List.mem_of_getElem? (i := 231) (by decide +kernel))) rfl
theorem kw_162 : Cond.methodLink "NoonShade$Isle" 75 yX6_become ∈ gtb := gtb_mem (in_t2 (List.mem_of_getElem? (i := 234) (by decide +kernel))) rfl
theorem kw_163 : Cond.instanceMethod yX6_become ∈ gtb := gtb_mem (in_t2 (List.mem_of_getElem? (i := 235) (by decide +kernel))) rfl
theorem kw_164 : Cond.selects "NoonShade$Rows" yX6_become yX6_become ∈ gtb := gtb_mem (in_t2 (List.mem_of_getElem? (i := 236) (by decide +kernel))) rfl
theorem kw_165 : Cond.code yX6_become prog_8_method_5_code 2 none ∈ gtb := gtb_mem (in_t2 (List.mem_of_getElem? (i := 237) (rfl))) rfl
theorem kw_166 : Cond.methodLink "NoonShade$Isle" 79 yX4_become ∈ gtb := gtb_mem (in_t2 (List.mem_of_getElem? (i := 239) (by decide +kernel))) rfl
theorem kw_167 : Cond.instanceMethod yX4_become ∈ gtb := gtb_mem (in_t3 (List.mem_of_getElem? (i := 0) (by decide +kernel))) rfl
theorem kw_168 : Cond.selects "NoonShade$Past" yX4_become yX4_become ∈ gtb := gtb_mem (in_t3 (List.mem_of_getElem? (i := 1) (by decide +kernel))) rfl
theorem kw_169 : Cond.code yX4_become prog_6_method_3_code 2 none ∈ gtb := gtb_mem (in_t3 (List.mem_of_getElem? (i := 2) (rfl))) rfl
theorem kw_170 : Cond.fieldLink "NoonShade" 19 "NoonShade" "images" "[LNoonShade$Isle;" ∈ gtb := gtb_mem (in_t1 (List.mem_of_getElem? (i := 202) (by decide +kernel))) rfl
theorem kw_171 : Cond.methodLink "NoonShade" 104 yX2_become ∈ gtb := gtb_mem (in_t2 (List.mem_of_getElem? (i := 227) (by decide +kernel))) rfl
theorem kw_172 : Cond.instanceMethod yX2_become ∈ gtb := gtb_mem (in_t2 (List.mem_of_getElem? (i := 228) (by decide +kernel))) rfl
theorem kw_173 : Cond.selects "NoonShade$Isle" yX2_become yX2_become ∈ gtb := gtb_mem (in_t2 (List.mem_of_getElem? (i := 229) (by decide +kernel))) rfl
theorem kw_174 : Cond.code yX2_become prog_4_method_3_code 2 none ∈ gtb := gtb_mem (in_t2 (List.mem_of_getElem? (i := 230) (rfl))) rfl
theorem kw_175 : Cond.constant "NoonShade" 229 999999 ∈ gtb := gtb_mem (in_t4 (List.mem_of_getElem? (i := 7) (by decide +kernel))) rfl
theorem kw_176 : Cond.constantLong "NoonShade" 230 1103515245 ∈ gtb := gtb_mem (in_t4 (List.mem_of_getElem? (i := 8) (by decide +kernel))) rfl
theorem kw_177 : Cond.constantLong "NoonShade" 232 12345 ∈ gtb := gtb_mem (in_t4 (List.mem_of_getElem? (i := 9) (by decide +kernel))) rfl
theorem kw_178 : Cond.constantLong "NoonShade" 234 2147483648 ∈ gtb := gtb_mem (in_t4 (List.mem_of_getElem? (i := 10) (by decide +kernel))) rfl
theorem kw_179 : Cond.constantLong "NoonShade" 236 65536 ∈ gtb := gtb_mem (in_t4 (List.mem_of_getElem? (i := 11) (by decide +kernel))) rfl
theorem kw_180 : Cond.constantLong "NoonShade" 238 7 ∈ gtb := gtb_mem (in_t4 (List.mem_of_getElem? (i := 12) (by decide +kernel))) rfl
theorem kw_181 : Cond.constantLong "NoonShade" 240 1048576 ∈ gtb := gtb_mem (in_t4 (List.mem_of_getElem? (i := 13) (by decide +kernel))) rfl
theorem kw_182 : Cond.constantLong "NoonShade" 242 4 ∈ gtb := gtb_mem (in_t4 (List.mem_of_getElem? (i := 14) (by decide +kernel))) rfl
theorem kw_183 : Cond.constantLong "NoonShade" 244 16384 ∈ gtb := gtb_mem (in_t4 (List.mem_of_getElem? (i := 15) (by decide +kernel))) rfl
theorem kw_184 : Cond.constantLong "NoonShade" 246 2 ∈ gtb := gtb_mem (in_t4 (List.mem_of_getElem? (i := 16) (by decide +kernel))) rfl
theorem kw_185 : Cond.methodLink "NoonShade" 248 yX2_passHour ∈ gtb := gtb_mem (in_t4 (List.mem_of_getElem? (i := 17) (by decide +kernel))) rfl
end
section
theorem dJ6_bitCount_0f7a4_0 : decode cJ6_bitCount_0f7a4 0 = .ok (.iload_n 0, 1) := by decide +kernel
theorem dJ6_bitCount_0f7a4_1 : decode cJ6_bitCount_0f7a4 1 = .ok (.iload_n 0, 1) := by decide +kernel
theorem dJ6_bitCount_0f7a4_2 : decode cJ6_bitCount_0f7a4 2 = .ok (.iconst 1, 1) := by decide +kernel
theorem dJ6_bitCount_0f7a4_3 : decode cJ6_bitCount_0f7a4 3 = .ok (.iushr, 1) := by decide +kernel
theorem dJ6_bitCount_0f7a4_4 : decode cJ6_bitCount_0f7a4 4 = .ok (.ldc_w 265, 3) := by decide +kernel
theorem dJ6_bitCount_0f7a4_7 : decode cJ6_bitCount_0f7a4 7 = .ok (.iand, 1) := by decide +kernel
theorem dJ6_bitCount_0f7a4_8 : decode cJ6_bitCount_0f7a4 8 = .ok (.isub, 1) := by decide +kernel
theorem dJ6_bitCount_0f7a4_9 : decode cJ6_bitCount_0f7a4 9 = .ok (.istore_n 0, 1) := by decide +kernel
theorem dJ6_bitCount_0f7a4_10 : decode cJ6_bitCount_0f7a4 10 = .ok (.iload_n 0, 1) := by decide +kernel
theorem dJ6_bitCount_0f7a4_11 : decode cJ6_bitCount_0f7a4 11 = .ok (.ldc_w 266, 3) := by decide +kernel
theorem dJ6_bitCount_0f7a4_14 : decode cJ6_bitCount_0f7a4 14 = .ok (.iand, 1) := by decide +kernel
theorem dJ6_bitCount_0f7a4_15 : decode cJ6_bitCount_0f7a4 15 = .ok (.iload_n 0, 1) := by decide +kernel
theorem dJ6_bitCount_0f7a4_16 : decode cJ6_bitCount_0f7a4 16 = .ok (.iconst 2, 1) := by decide +kernel
theorem dJ6_bitCount_0f7a4_17 : decode cJ6_bitCount_0f7a4 17 = .ok (.iushr, 1) := by decide +kernel
theorem dJ6_bitCount_0f7a4_18 : decode cJ6_bitCount_0f7a4 18 = .ok (.ldc_w 266, 3) := by decide +kernel
theorem dJ6_bitCount_0f7a4_21 : decode cJ6_bitCount_0f7a4 21 = .ok (.iand, 1) := by decide +kernel
theorem dJ6_bitCount_0f7a4_22 : decode cJ6_bitCount_0f7a4 22 = .ok (.iadd, 1) := by decide +kernel
theorem dJ6_bitCount_0f7a4_23 : decode cJ6_bitCount_0f7a4 23 = .ok (.istore_n 0, 1) := by decide +kernel
theorem dJ6_bitCount_0f7a4_24 : decode cJ6_bitCount_0f7a4 24 = .ok (.iload_n 0, 1) := by decide +kernel
theorem dJ6_bitCount_0f7a4_25 : decode cJ6_bitCount_0f7a4 25 = .ok (.iload_n 0, 1) := by decide +kernel
theorem dJ6_bitCount_0f7a4_26 : decode cJ6_bitCount_0f7a4 26 = .ok (.iconst 4, 1) := by decide +kernel
theorem dJ6_bitCount_0f7a4_27 : decode cJ6_bitCount_0f7a4 27 = .ok (.iushr, 1) := by decide +kernel
theorem dJ6_bitCount_0f7a4_28 : decode cJ6_bitCount_0f7a4 28 = .ok (.iadd, 1) := by decide +kernel
theorem dJ6_bitCount_0f7a4_29 : decode cJ6_bitCount_0f7a4 29 = .ok (.ldc_w 267, 3) := by decide +kernel
theorem dJ6_bitCount_0f7a4_32 : decode cJ6_bitCount_0f7a4 32 = .ok (.iand, 1) := by decide +kernel
theorem dJ6_bitCount_0f7a4_33 : decode cJ6_bitCount_0f7a4 33 = .ok (.istore_n 0, 1) := by decide +kernel
theorem dJ6_bitCount_0f7a4_34 : decode cJ6_bitCount_0f7a4 34 = .ok (.iload_n 0, 1) := by decide +kernel
theorem dJ6_bitCount_0f7a4_35 : decode cJ6_bitCount_0f7a4 35 = .ok (.iload_n 0, 1) := by decide +kernel
theorem dJ6_bitCount_0f7a4_36 : decode cJ6_bitCount_0f7a4 36 = .ok (.bipush 8, 2) := by decide +kernel
theorem dJ6_bitCount_0f7a4_38 : decode cJ6_bitCount_0f7a4 38 = .ok (.iushr, 1) := by decide +kernel
theorem dJ6_bitCount_0f7a4_39 : decode cJ6_bitCount_0f7a4 39 = .ok (.iadd, 1) := by decide +kernel
theorem dJ6_bitCount_0f7a4_40 : decode cJ6_bitCount_0f7a4 40 = .ok (.istore_n 0, 1) := by decide +kernel
theorem dJ6_bitCount_0f7a4_41 : decode cJ6_bitCount_0f7a4 41 = .ok (.iload_n 0, 1) := by decide +kernel
theorem dJ6_bitCount_0f7a4_42 : decode cJ6_bitCount_0f7a4 42 = .ok (.iload_n 0, 1) := by decide +kernel
theorem dJ6_bitCount_0f7a4_43 : decode cJ6_bitCount_0f7a4 43 = .ok (.bipush 16, 2) := by decide +kernel
theorem dJ6_bitCount_0f7a4_45 : decode cJ6_bitCount_0f7a4 45 = .ok (.iushr, 1) := by decide +kernel
theorem dJ6_bitCount_0f7a4_46 : decode cJ6_bitCount_0f7a4 46 = .ok (.iadd, 1) := by decide +kernel
theorem dJ6_bitCount_0f7a4_47 : decode cJ6_bitCount_0f7a4 47 = .ok (.istore_n 0, 1) := by decide +kernel
theorem dJ6_bitCount_0f7a4_48 : decode cJ6_bitCount_0f7a4 48 = .ok (.iload_n 0, 1) := by decide +kernel
theorem dJ6_bitCount_0f7a4_49 : decode cJ6_bitCount_0f7a4 49 = .ok (.bipush 63, 2) := by decide +kernel
theorem dJ6_bitCount_0f7a4_51 : decode cJ6_bitCount_0f7a4 51 = .ok (.iand, 1) := by decide +kernel
theorem dJ6_bitCount_0f7a4_52 : decode cJ6_bitCount_0f7a4 52 = .ok (.ireturn, 1) := by decide +kernel
theorem dX2_addCaster_0 : decode cX2_addCaster 0 = .ok (.aload_n 0, 1) := by decide +kernel
theorem dX2_addCaster_1 : decode cX2_addCaster 1 = .ok (.getfield 57, 3) := by decide +kernel
theorem dX2_addCaster_4 : decode cX2_addCaster 4 = .ok (.bipush 7, 2) := by decide +kernel
theorem dX2_addCaster_6 : decode cX2_addCaster 6 = .ok (.if_icmp .lt 6, 3) := by decide +kernel
theorem dX2_addCaster_12 : decode cX2_addCaster 12 = .ok (.aload_n 0, 1) := by decide +kernel
theorem dX2_addCaster_13 : decode cX2_addCaster 13 = .ok (.getfield 9, 3) := by decide +kernel
theorem dX2_addCaster_16 : decode cX2_addCaster 16 = .ok (.aload_n 0, 1) := by decide +kernel
theorem dX2_addCaster_17 : decode cX2_addCaster 17 = .ok (.getfield 57, 3) := by decide +kernel
theorem dX2_addCaster_20 : decode cX2_addCaster 20 = .ok (.iload_n 1, 1) := by decide +kernel
theorem dX2_addCaster_21 : decode cX2_addCaster 21 = .ok (.iastore, 1) := by decide +kernel
theorem dX2_addCaster_22 : decode cX2_addCaster 22 = .ok (.aload_n 0, 1) := by decide +kernel
theorem dX2_addCaster_23 : decode cX2_addCaster 23 = .ok (.getfield 15, 3) := by decide +kernel
theorem dX2_addCaster_26 : decode cX2_addCaster 26 = .ok (.aload_n 0, 1) := by decide +kernel
theorem dX2_addCaster_27 : decode cX2_addCaster 27 = .ok (.getfield 57, 3) := by decide +kernel
theorem dX2_addCaster_30 : decode cX2_addCaster 30 = .ok (.iload_n 2, 1) := by decide +kernel
theorem dX2_addCaster_31 : decode cX2_addCaster 31 = .ok (.iastore, 1) := by decide +kernel
theorem dX2_addCaster_32 : decode cX2_addCaster 32 = .ok (.aload_n 0, 1) := by decide +kernel
theorem dX2_addCaster_33 : decode cX2_addCaster 33 = .ok (.getfield 18, 3) := by decide +kernel
theorem dX2_addCaster_36 : decode cX2_addCaster 36 = .ok (.aload_n 0, 1) := by decide +kernel
theorem dX2_addCaster_37 : decode cX2_addCaster 37 = .ok (.getfield 57, 3) := by decide +kernel
theorem dX2_addCaster_40 : decode cX2_addCaster 40 = .ok (.iload_n 3, 1) := by decide +kernel
theorem dX2_addCaster_41 : decode cX2_addCaster 41 = .ok (.iastore, 1) := by decide +kernel
theorem dX2_addCaster_42 : decode cX2_addCaster 42 = .ok (.aload_n 0, 1) := by decide +kernel
theorem dX2_addCaster_43 : decode cX2_addCaster 43 = .ok (.dup, 1) := by decide +kernel
theorem dX2_addCaster_44 : decode cX2_addCaster 44 = .ok (.getfield 57, 3) := by decide +kernel
theorem dX2_addCaster_47 : decode cX2_addCaster 47 = .ok (.iconst 1, 1) := by decide +kernel
theorem dX2_addCaster_48 : decode cX2_addCaster 48 = .ok (.iadd, 1) := by decide +kernel
theorem dX2_addCaster_49 : decode cX2_addCaster 49 = .ok (.putfield 57, 3) := by decide +kernel
theorem dX2_addCaster_52 : decode cX2_addCaster 52 = .ok (.aload_n 0, 1) := by decide +kernel
theorem dX2_addCaster_53 : decode cX2_addCaster 53 = .ok (.getfield 57, 3) := by decide +kernel
theorem dX2_addCaster_56 : decode cX2_addCaster 56 = .ok (.iconst 1, 1) := by decide +kernel
theorem dX2_addCaster_57 : decode cX2_addCaster 57 = .ok (.isub, 1) := by decide +kernel
theorem dX2_addCaster_58 : decode cX2_addCaster 58 = .ok (.ireturn, 1) := by decide +kernel
theorem dX2_addJar_0 : decode cX2_addJar 0 = .ok (.aload_n 0, 1) := by decide +kernel
theorem dX2_addJar_1 : decode cX2_addJar 1 = .ok (.getfield 60, 3) := by decide +kernel
theorem dX2_addJar_4 : decode cX2_addJar 4 = .ok (.iconst 4, 1) := by decide +kernel
theorem dX2_addJar_5 : decode cX2_addJar 5 = .ok (.if_icmp .lt 6, 3) := by decide +kernel
theorem dX2_addJar_11 : decode cX2_addJar 11 = .ok (.aload_n 0, 1) := by decide +kernel
theorem dX2_addJar_12 : decode cX2_addJar 12 = .ok (.getfield 21, 3) := by decide +kernel
theorem dX2_addJar_15 : decode cX2_addJar 15 = .ok (.aload_n 0, 1) := by decide +kernel
theorem dX2_addJar_16 : decode cX2_addJar 16 = .ok (.getfield 60, 3) := by decide +kernel
theorem dX2_addJar_19 : decode cX2_addJar 19 = .ok (.iload_n 1, 1) := by decide +kernel
theorem dX2_addJar_20 : decode cX2_addJar 20 = .ok (.iastore, 1) := by decide +kernel
theorem dX2_addJar_21 : decode cX2_addJar 21 = .ok (.aload_n 0, 1) := by decide +kernel
theorem dX2_addJar_22 : decode cX2_addJar 22 = .ok (.getfield 24, 3) := by decide +kernel
theorem dX2_addJar_25 : decode cX2_addJar 25 = .ok (.aload_n 0, 1) := by decide +kernel
theorem dX2_addJar_26 : decode cX2_addJar 26 = .ok (.getfield 60, 3) := by decide +kernel
theorem dX2_addJar_29 : decode cX2_addJar 29 = .ok (.iconst 0, 1) := by decide +kernel
theorem dX2_addJar_30 : decode cX2_addJar 30 = .ok (.iastore, 1) := by decide +kernel
theorem dX2_addJar_31 : decode cX2_addJar 31 = .ok (.aload_n 0, 1) := by decide +kernel
theorem dX2_addJar_32 : decode cX2_addJar 32 = .ok (.getfield 27, 3) := by decide +kernel
theorem dX2_addJar_35 : decode cX2_addJar 35 = .ok (.aload_n 0, 1) := by decide +kernel
theorem dX2_addJar_36 : decode cX2_addJar 36 = .ok (.getfield 60, 3) := by decide +kernel
theorem dX2_addJar_39 : decode cX2_addJar 39 = .ok (.iconst (-1), 1) := by decide +kernel
theorem dX2_addJar_40 : decode cX2_addJar 40 = .ok (.iastore, 1) := by decide +kernel
theorem dX2_addJar_41 : decode cX2_addJar 41 = .ok (.aload_n 0, 1) := by decide +kernel
theorem dX2_addJar_42 : decode cX2_addJar 42 = .ok (.dup, 1) := by decide +kernel
theorem dX2_addJar_43 : decode cX2_addJar 43 = .ok (.getfield 60, 3) := by decide +kernel
theorem dX2_addJar_46 : decode cX2_addJar 46 = .ok (.iconst 1, 1) := by decide +kernel
theorem dX2_addJar_47 : decode cX2_addJar 47 = .ok (.iadd, 1) := by decide +kernel
theorem dX2_addJar_48 : decode cX2_addJar 48 = .ok (.putfield 60, 3) := by decide +kernel
theorem dX2_addJar_51 : decode cX2_addJar 51 = .ok (.aload_n 0, 1) := by decide +kernel
theorem dX2_addJar_52 : decode cX2_addJar 52 = .ok (.getfield 60, 3) := by decide +kernel
theorem dX2_addJar_55 : decode cX2_addJar 55 = .ok (.iconst 1, 1) := by decide +kernel
theorem dX2_addJar_56 : decode cX2_addJar 56 = .ok (.isub, 1) := by decide +kernel
theorem dX2_addJar_57 : decode cX2_addJar 57 = .ok (.ireturn, 1) := by decide +kernel
theorem dX2_become_0 : decode cX2_become 0 = .ok (.aload_n 0, 1) := by decide +kernel
theorem dX2_become_1 : decode cX2_become 1 = .ok (.aload_n 1, 1) := by decide +kernel
theorem dX2_become_2 : decode cX2_become 2 = .ok (.getfield 47, 3) := by decide +kernel
theorem dX2_become_5 : decode cX2_become 5 = .ok (.putfield 47, 3) := by decide +kernel
theorem dX2_become_8 : decode cX2_become 8 = .ok (.aload_n 0, 1) := by decide +kernel
theorem dX2_become_9 : decode cX2_become 9 = .ok (.aload_n 1, 1) := by decide +kernel
theorem dX2_become_10 : decode cX2_become 10 = .ok (.getfield 51, 3) := by decide +kernel
theorem dX2_become_13 : decode cX2_become 13 = .ok (.putfield 51, 3) := by decide +kernel
theorem dX2_become_16 : decode cX2_become 16 = .ok (.aload_n 0, 1) := by decide +kernel
theorem dX2_become_17 : decode cX2_become 17 = .ok (.aload_n 1, 1) := by decide +kernel
theorem dX2_become_18 : decode cX2_become 18 = .ok (.getfield 54, 3) := by decide +kernel
theorem dX2_become_21 : decode cX2_become 21 = .ok (.putfield 54, 3) := by decide +kernel
theorem dX2_become_24 : decode cX2_become 24 = .ok (.aload_n 0, 1) := by decide +kernel
theorem dX2_become_25 : decode cX2_become 25 = .ok (.aload_n 1, 1) := by decide +kernel
theorem dX2_become_26 : decode cX2_become 26 = .ok (.getfield 57, 3) := by decide +kernel
theorem dX2_become_29 : decode cX2_become 29 = .ok (.putfield 57, 3) := by decide +kernel
theorem dX2_become_32 : decode cX2_become 32 = .ok (.aload_n 0, 1) := by decide +kernel
theorem dX2_become_33 : decode cX2_become 33 = .ok (.aload_n 1, 1) := by decide +kernel
theorem dX2_become_34 : decode cX2_become 34 = .ok (.getfield 60, 3) := by decide +kernel
theorem dX2_become_37 : decode cX2_become 37 = .ok (.putfield 60, 3) := by decide +kernel
theorem dX2_become_40 : decode cX2_become 40 = .ok (.aload_n 1, 1) := by decide +kernel
theorem dX2_become_41 : decode cX2_become 41 = .ok (.getfield 9, 3) := by decide +kernel
theorem dX2_become_44 : decode cX2_become 44 = .ok (.iconst 0, 1) := by decide +kernel
theorem dX2_become_45 : decode cX2_become 45 = .ok (.aload_n 0, 1) := by decide +kernel
theorem dX2_become_46 : decode cX2_become 46 = .ok (.getfield 9, 3) := by decide +kernel
theorem dX2_become_49 : decode cX2_become 49 = .ok (.iconst 0, 1) := by decide +kernel
theorem dX2_become_50 : decode cX2_become 50 = .ok (.bipush 7, 2) := by decide +kernel
theorem dX2_become_52 : decode cX2_become 52 = .ok (.invokestatic 69, 3) := by decide +kernel
theorem dX2_become_55 : decode cX2_become 55 = .ok (.aload_n 1, 1) := by decide +kernel
theorem dX2_become_56 : decode cX2_become 56 = .ok (.getfield 15, 3) := by decide +kernel
theorem dX2_become_59 : decode cX2_become 59 = .ok (.iconst 0, 1) := by decide +kernel
theorem dX2_become_60 : decode cX2_become 60 = .ok (.aload_n 0, 1) := by decide +kernel
theorem dX2_become_61 : decode cX2_become 61 = .ok (.getfield 15, 3) := by decide +kernel
theorem dX2_become_64 : decode cX2_become 64 = .ok (.iconst 0, 1) := by decide +kernel
theorem dX2_become_65 : decode cX2_become 65 = .ok (.bipush 7, 2) := by decide +kernel
theorem dX2_become_67 : decode cX2_become 67 = .ok (.invokestatic 69, 3) := by decide +kernel
theorem dX2_become_70 : decode cX2_become 70 = .ok (.aload_n 1, 1) := by decide +kernel
theorem dX2_become_71 : decode cX2_become 71 = .ok (.getfield 18, 3) := by decide +kernel
theorem dX2_become_74 : decode cX2_become 74 = .ok (.iconst 0, 1) := by decide +kernel
theorem dX2_become_75 : decode cX2_become 75 = .ok (.aload_n 0, 1) := by decide +kernel
theorem dX2_become_76 : decode cX2_become 76 = .ok (.getfield 18, 3) := by decide +kernel
theorem dX2_become_79 : decode cX2_become 79 = .ok (.iconst 0, 1) := by decide +kernel
theorem dX2_become_80 : decode cX2_become 80 = .ok (.bipush 7, 2) := by decide +kernel
theorem dX2_become_82 : decode cX2_become 82 = .ok (.invokestatic 69, 3) := by decide +kernel
theorem dX2_become_85 : decode cX2_become 85 = .ok (.aload_n 1, 1) := by decide +kernel
theorem dX2_become_86 : decode cX2_become 86 = .ok (.getfield 21, 3) := by decide +kernel
theorem dX2_become_89 : decode cX2_become 89 = .ok (.iconst 0, 1) := by decide +kernel
theorem dX2_become_90 : decode cX2_become 90 = .ok (.aload_n 0, 1) := by decide +kernel
theorem dX2_become_91 : decode cX2_become 91 = .ok (.getfield 21, 3) := by decide +kernel
theorem dX2_become_94 : decode cX2_become 94 = .ok (.iconst 0, 1) := by decide +kernel
theorem dX2_become_95 : decode cX2_become 95 = .ok (.iconst 4, 1) := by decide +kernel
theorem dX2_become_96 : decode cX2_become 96 = .ok (.invokestatic 69, 3) := by decide +kernel
theorem dX2_become_99 : decode cX2_become 99 = .ok (.aload_n 1, 1) := by decide +kernel
theorem dX2_become_100 : decode cX2_become 100 = .ok (.getfield 24, 3) := by decide +kernel
theorem dX2_become_103 : decode cX2_become 103 = .ok (.iconst 0, 1) := by decide +kernel
theorem dX2_become_104 : decode cX2_become 104 = .ok (.aload_n 0, 1) := by decide +kernel
theorem dX2_become_105 : decode cX2_become 105 = .ok (.getfield 24, 3) := by decide +kernel
theorem dX2_become_108 : decode cX2_become 108 = .ok (.iconst 0, 1) := by decide +kernel
theorem dX2_become_109 : decode cX2_become 109 = .ok (.iconst 4, 1) := by decide +kernel
theorem dX2_become_110 : decode cX2_become 110 = .ok (.invokestatic 69, 3) := by decide +kernel
theorem dX2_become_113 : decode cX2_become 113 = .ok (.aload_n 1, 1) := by decide +kernel
theorem dX2_become_114 : decode cX2_become 114 = .ok (.getfield 27, 3) := by decide +kernel
theorem dX2_become_117 : decode cX2_become 117 = .ok (.iconst 0, 1) := by decide +kernel
theorem dX2_become_118 : decode cX2_become 118 = .ok (.aload_n 0, 1) := by decide +kernel
theorem dX2_become_119 : decode cX2_become 119 = .ok (.getfield 27, 3) := by decide +kernel
theorem dX2_become_122 : decode cX2_become 122 = .ok (.iconst 0, 1) := by decide +kernel
theorem dX2_become_123 : decode cX2_become 123 = .ok (.iconst 4, 1) := by decide +kernel
theorem dX2_become_124 : decode cX2_become 124 = .ok (.invokestatic 69, 3) := by decide +kernel
theorem dX2_become_127 : decode cX2_become 127 = .ok (.aload_n 0, 1) := by decide +kernel
theorem dX2_become_128 : decode cX2_become 128 = .ok (.getfield 33, 3) := by decide +kernel
theorem dX2_become_131 : decode cX2_become 131 = .ok (.aload_n 1, 1) := by decide +kernel
theorem dX2_become_132 : decode cX2_become 132 = .ok (.getfield 33, 3) := by decide +kernel
theorem dX2_become_135 : decode cX2_become 135 = .ok (.invokevirtual 75, 3) := by decide +kernel
theorem dX2_become_138 : decode cX2_become 138 = .ok (.aload_n 0, 1) := by decide +kernel
theorem dX2_become_139 : decode cX2_become 139 = .ok (.getfield 37, 3) := by decide +kernel
theorem dX2_become_142 : decode cX2_become 142 = .ok (.aload_n 1, 1) := by decide +kernel
theorem dX2_become_143 : decode cX2_become 143 = .ok (.getfield 37, 3) := by decide +kernel
theorem dX2_become_146 : decode cX2_become 146 = .ok (.invokevirtual 75, 3) := by decide +kernel
theorem dX2_become_149 : decode cX2_become 149 = .ok (.aload_n 0, 1) := by decide +kernel
theorem dX2_become_150 : decode cX2_become 150 = .ok (.getfield 43, 3) := by decide +kernel
theorem dX2_become_153 : decode cX2_become 153 = .ok (.aload_n 1, 1) := by decide +kernel
theorem dX2_become_154 : decode cX2_become 154 = .ok (.getfield 43, 3) := by decide +kernel
theorem dX2_become_157 : decode cX2_become 157 = .ok (.invokevirtual 79, 3) := by decide +kernel
theorem dX2_become_160 : decode cX2_become 160 = .ok (.return_, 1) := by decide +kernel
theorem dX2_begin_0 : decode cX2_begin 0 = .ok (.aload_n 0, 1) := by decide +kernel
theorem dX2_begin_1 : decode cX2_begin 1 = .ok (.iload_n 1, 1) := by decide +kernel
theorem dX2_begin_2 : decode cX2_begin 2 = .ok (.putfield 47, 3) := by decide +kernel
theorem dX2_begin_5 : decode cX2_begin 5 = .ok (.aload_n 0, 1) := by decide +kernel
theorem dX2_begin_6 : decode cX2_begin 6 = .ok (.iconst 0, 1) := by decide +kernel
theorem dX2_begin_7 : decode cX2_begin 7 = .ok (.putfield 51, 3) := by decide +kernel
theorem dX2_begin_10 : decode cX2_begin 10 = .ok (.aload_n 0, 1) := by decide +kernel
theorem dX2_begin_11 : decode cX2_begin 11 = .ok (.iconst 0, 1) := by decide +kernel
theorem dX2_begin_12 : decode cX2_begin 12 = .ok (.putfield 54, 3) := by decide +kernel
theorem dX2_begin_15 : decode cX2_begin 15 = .ok (.aload_n 0, 1) := by decide +kernel
theorem dX2_begin_16 : decode cX2_begin 16 = .ok (.iconst 0, 1) := by decide +kernel
theorem dX2_begin_17 : decode cX2_begin 17 = .ok (.putfield 57, 3) := by decide +kernel
theorem dX2_begin_20 : decode cX2_begin 20 = .ok (.aload_n 0, 1) := by decide +kernel
theorem dX2_begin_21 : decode cX2_begin 21 = .ok (.iconst 0, 1) := by decide +kernel
theorem dX2_begin_22 : decode cX2_begin 22 = .ok (.putfield 60, 3) := by decide +kernel
theorem dX2_begin_25 : decode cX2_begin 25 = .ok (.aload_n 0, 1) := by decide +kernel
theorem dX2_begin_26 : decode cX2_begin 26 = .ok (.getfield 33, 3) := by decide +kernel
theorem dX2_begin_29 : decode cX2_begin 29 = .ok (.invokevirtual 63, 3) := by decide +kernel
theorem dX2_begin_32 : decode cX2_begin 32 = .ok (.pop, 1) := by decide +kernel
theorem dX2_begin_33 : decode cX2_begin 33 = .ok (.aload_n 0, 1) := by decide +kernel
theorem dX2_begin_34 : decode cX2_begin 34 = .ok (.getfield 37, 3) := by decide +kernel
theorem dX2_begin_37 : decode cX2_begin 37 = .ok (.invokevirtual 63, 3) := by decide +kernel
theorem dX2_begin_40 : decode cX2_begin 40 = .ok (.pop, 1) := by decide +kernel
theorem dX2_begin_41 : decode cX2_begin 41 = .ok (.aload_n 0, 1) := by decide +kernel
theorem dX2_begin_42 : decode cX2_begin 42 = .ok (.getfield 43, 3) := by decide +kernel
theorem dX2_begin_45 : decode cX2_begin 45 = .ok (.invokevirtual 67, 3) := by decide +kernel
theorem dX2_begin_48 : decode cX2_begin 48 = .ok (.return_, 1) := by decide +kernel
theorem dX2_coolInAll_0 : decode cX2_coolInAll 0 = .ok (.iconst 0, 1) := by decide +kernel
theorem dX2_coolInAll_1 : decode cX2_coolInAll 1 = .ok (.istore_n 1, 1) := by decide +kernel
theorem dX2_coolInAll_2 : decode cX2_coolInAll 2 = .ok (.iconst 0, 1) := by decide +kernel
theorem dX2_coolInAll_3 : decode cX2_coolInAll 3 = .ok (.istore_n 2, 1) := by decide +kernel
theorem dX2_coolInAll_4 : decode cX2_coolInAll 4 = .ok (.iload_n 2, 1) := by decide +kernel
theorem dX2_coolInAll_5 : decode cX2_coolInAll 5 = .ok (.aload_n 0, 1) := by decide +kernel
theorem dX2_coolInAll_6 : decode cX2_coolInAll 6 = .ok (.getfield 60, 3) := by decide +kernel
theorem dX2_coolInAll_9 : decode cX2_coolInAll 9 = .ok (.if_icmp .ge 18, 3) := by decide +kernel
theorem dX2_coolInAll_27 : decode cX2_coolInAll 27 = .ok (.iload_n 1, 1) := by decide +kernel
theorem dX2_coolInAll_28 : decode cX2_coolInAll 28 = .ok (.ireturn, 1) := by decide +kernel
theorem dX2_hasCaster_0 : decode cX2_hasCaster 0 = .ok (.iload_n 1, 1) := by decide +kernel
theorem dX2_hasCaster_1 : decode cX2_hasCaster 1 = .ok (.ifCond .lt 15, 3) := by decide +kernel
theorem dX2_hasCaster_4 : decode cX2_hasCaster 4 = .ok (.iload_n 1, 1) := by decide +kernel
theorem dX2_hasCaster_5 : decode cX2_hasCaster 5 = .ok (.aload_n 0, 1) := by decide +kernel
theorem dX2_hasCaster_6 : decode cX2_hasCaster 6 = .ok (.getfield 57, 3) := by decide +kernel
theorem dX2_hasCaster_9 : decode cX2_hasCaster 9 = .ok (.if_icmp .ge 7, 3) := by decide +kernel
theorem dX2_hasCaster_12 : decode cX2_hasCaster 12 = .ok (.iconst 1, 1) := by decide +kernel
theorem dX2_hasCaster_13 : decode cX2_hasCaster 13 = .ok (.goto 4, 3) := by decide +kernel
theorem dX2_hasCaster_16 : decode cX2_hasCaster 16 = .ok (.iconst 0, 1) := by decide +kernel
theorem dX2_hasCaster_17 : decode cX2_hasCaster 17 = .ok (.ireturn, 1) := by decide +kernel
theorem dX2_hasJar_0 : decode cX2_hasJar 0 = .ok (.iload_n 1, 1) := by decide +kernel
theorem dX2_hasJar_1 : decode cX2_hasJar 1 = .ok (.ifCond .lt 15, 3) := by decide +kernel
theorem dX2_hasJar_4 : decode cX2_hasJar 4 = .ok (.iload_n 1, 1) := by decide +kernel
theorem dX2_hasJar_5 : decode cX2_hasJar 5 = .ok (.aload_n 0, 1) := by decide +kernel
theorem dX2_hasJar_6 : decode cX2_hasJar 6 = .ok (.getfield 60, 3) := by decide +kernel
theorem dX2_hasJar_9 : decode cX2_hasJar 9 = .ok (.if_icmp .ge 7, 3) := by decide +kernel
theorem dX2_hasJar_12 : decode cX2_hasJar 12 = .ok (.iconst 1, 1) := by decide +kernel
theorem dX2_hasJar_13 : decode cX2_hasJar 13 = .ok (.goto 4, 3) := by decide +kernel
theorem dX2_hasJar_16 : decode cX2_hasJar 16 = .ok (.iconst 0, 1) := by decide +kernel
theorem dX2_hasJar_17 : decode cX2_hasJar 17 = .ok (.ireturn, 1) := by decide +kernel
theorem dX2_mixed_0 : decode cX2_mixed 0 = .ok (.lload_n 1, 1) := by decide +kernel
theorem dX2_mixed_1 : decode cX2_mixed 1 = .ok (.lstore_n 3, 1) := by decide +kernel
theorem dX2_mixed_2 : decode cX2_mixed 2 = .ok (.iconst 0, 1) := by decide +kernel
theorem dX2_mixed_3 : decode cX2_mixed 3 = .ok (.istore 5, 2) := by decide +kernel
theorem dX2_mixed_5 : decode cX2_mixed 5 = .ok (.iload 5, 2) := by decide +kernel
theorem dX2_mixed_7 : decode cX2_mixed 7 = .ok (.aload_n 0, 1) := by decide +kernel
theorem dX2_mixed_8 : decode cX2_mixed 8 = .ok (.getfield 57, 3) := by decide +kernel
theorem dX2_mixed_11 : decode cX2_mixed 11 = .ok (.if_icmp .ge 76, 3) := by decide +kernel
theorem dX2_mixed_87 : decode cX2_mixed 87 = .ok (.iconst 0, 1) := by decide +kernel
theorem dX2_mixed_88 : decode cX2_mixed 88 = .ok (.istore 5, 2) := by decide +kernel
theorem dX2_mixed_90 : decode cX2_mixed 90 = .ok (.iload 5, 2) := by decide +kernel
theorem dX2_mixed_92 : decode cX2_mixed 92 = .ok (.aload_n 0, 1) := by decide +kernel
theorem dX2_mixed_93 : decode cX2_mixed 93 = .ok (.getfield 60, 3) := by decide +kernel
theorem dX2_mixed_96 : decode cX2_mixed 96 = .ok (.if_icmp .ge 54, 3) := by decide +kernel
theorem dX2_mixed_150 : decode cX2_mixed 150 = .ok (.aload_n 0, 1) := by decide +kernel
theorem dX2_mixed_151 : decode cX2_mixed 151 = .ok (.getfield 37, 3) := by decide +kernel
theorem dX2_mixed_154 : decode cX2_mixed 154 = .ok (.aload_n 0, 1) := by decide +kernel
theorem dX2_mixed_155 : decode cX2_mixed 155 = .ok (.getfield 33, 3) := by decide +kernel
theorem dX2_mixed_158 : decode cX2_mixed 158 = .ok (.lload_n 3, 1) := by decide +kernel
theorem dX2_mixed_159 : decode cX2_mixed 159 = .ok (.invokevirtual 122, 3) := by decide +kernel
theorem dX2_mixed_162 : decode cX2_mixed 162 = .ok (.invokevirtual 122, 3) := by decide +kernel
theorem dX2_mixed_165 : decode cX2_mixed 165 = .ok (.lreturn, 1) := by decide +kernel
theorem dX2_passHour_0 : decode cX2_passHour 0 = .ok (.iconst 0, 1) := by decide +kernel
theorem dX2_passHour_1 : decode cX2_passHour 1 = .ok (.istore_n 1, 1) := by decide +kernel
theorem dX2_passHour_2 : decode cX2_passHour 2 = .ok (.iload_n 1, 1) := by decide +kernel
theorem dX2_passHour_3 : decode cX2_passHour 3 = .ok (.aload_n 0, 1) := by decide +kernel
theorem dX2_passHour_4 : decode cX2_passHour 4 = .ok (.getfield 60, 3) := by decide +kernel
theorem dX2_passHour_7 : decode cX2_passHour 7 = .ok (.if_icmp .ge 40, 3) := by decide +kernel
theorem dX2_passHour_47 : decode cX2_passHour 47 = .ok (.aload_n 0, 1) := by decide +kernel
theorem dX2_passHour_48 : decode cX2_passHour 48 = .ok (.dup, 1) := by decide +kernel
theorem dX2_passHour_49 : decode cX2_passHour 49 = .ok (.getfield 47, 3) := by decide +kernel
theorem dX2_passHour_52 : decode cX2_passHour 52 = .ok (.iconst 1, 1) := by decide +kernel
theorem dX2_passHour_53 : decode cX2_passHour 53 = .ok (.iadd, 1) := by decide +kernel
theorem dX2_passHour_54 : decode cX2_passHour 54 = .ok (.putfield 47, 3) := by decide +kernel
theorem dX2_passHour_57 : decode cX2_passHour 57 = .ok (.aload_n 0, 1) := by decide +kernel
theorem dX2_passHour_58 : decode cX2_passHour 58 = .ok (.iconst 0, 1) := by decide +kernel
theorem dX2_passHour_59 : decode cX2_passHour 59 = .ok (.putfield 54, 3) := by decide +kernel
theorem dX2_passHour_62 : decode cX2_passHour 62 = .ok (.return_, 1) := by decide +kernel
theorem dX2_passHours_0 : decode cX2_passHours 0 = .ok (.iconst 0, 1) := by decide +kernel
theorem dX2_passHours_1 : decode cX2_passHours 1 = .ok (.istore_n 2, 1) := by decide +kernel
theorem dX2_passHours_2 : decode cX2_passHours 2 = .ok (.iload_n 2, 1) := by decide +kernel
theorem dX2_passHours_3 : decode cX2_passHours 3 = .ok (.iload_n 1, 1) := by decide +kernel
theorem dX2_passHours_4 : decode cX2_passHours 4 = .ok (.if_icmp .ge 23, 3) := by decide +kernel
theorem dX2_passHours_7 : decode cX2_passHours 7 = .ok (.aload_n 0, 1) := by decide +kernel
theorem dX2_passHours_8 : decode cX2_passHours 8 = .ok (.getfield 47, 3) := by decide +kernel
theorem dX2_passHours_11 : decode cX2_passHours 11 = .ok (.sipush 9999, 3) := by decide +kernel
theorem dX2_passHours_14 : decode cX2_passHours 14 = .ok (.if_icmp .ge 13, 3) := by decide +kernel
theorem dX2_passHours_17 : decode cX2_passHours 17 = .ok (.aload_n 0, 1) := by decide +kernel
theorem dX2_passHours_18 : decode cX2_passHours 18 = .ok (.invokevirtual 114, 3) := by decide +kernel
theorem dX2_passHours_21 : decode cX2_passHours 21 = .ok (.iinc 2 1, 3) := by decide +kernel
theorem dX2_passHours_24 : decode cX2_passHours 24 = .ok (.goto (-22), 3) := by decide +kernel
theorem dX2_passHours_27 : decode cX2_passHours 27 = .ok (.return_, 1) := by decide +kernel
theorem dX4_become_0 : decode cX4_become 0 = .ok (.aload_n 1, 1) := by decide +kernel
theorem dX4_become_1 : decode cX4_become 1 = .ok (.getfield 11, 3) := by decide +kernel
theorem dX4_become_4 : decode cX4_become 4 = .ok (.iconst 0, 1) := by decide +kernel
theorem dX4_become_5 : decode cX4_become 5 = .ok (.aload_n 0, 1) := by decide +kernel
theorem dX4_become_6 : decode cX4_become 6 = .ok (.getfield 11, 3) := by decide +kernel
theorem dX4_become_9 : decode cX4_become 9 = .ok (.iconst 0, 1) := by decide +kernel
theorem dX4_become_10 : decode cX4_become 10 = .ok (.bipush 88, 2) := by decide +kernel
theorem dX4_become_12 : decode cX4_become 12 = .ok (.invokestatic 19, 3) := by decide +kernel
theorem dX4_become_15 : decode cX4_become 15 = .ok (.aload_n 0, 1) := by decide +kernel
theorem dX4_become_16 : decode cX4_become 16 = .ok (.aload_n 1, 1) := by decide +kernel
theorem dX4_become_17 : decode cX4_become 17 = .ok (.getfield 15, 3) := by decide +kernel
theorem dX4_become_20 : decode cX4_become 20 = .ok (.putfield 15, 3) := by decide +kernel
theorem dX4_become_23 : decode cX4_become 23 = .ok (.return_, 1) := by decide +kernel
theorem dX4_bringBack_0 : decode cX4_bringBack 0 = .ok (.aload_n 0, 1) := by decide +kernel
theorem dX4_bringBack_1 : decode cX4_bringBack 1 = .ok (.getfield 15, 3) := by decide +kernel
theorem dX4_bringBack_4 : decode cX4_bringBack 4 = .ok (.ifCond .gt 5, 3) := by decide +kernel
theorem dX4_bringBack_7 : decode cX4_bringBack 7 = .ok (.iconst 0, 1) := by decide +kernel
theorem dX4_bringBack_8 : decode cX4_bringBack 8 = .ok (.ireturn, 1) := by decide +kernel
theorem dX4_empty_0 : decode cX4_empty 0 = .ok (.aload_n 0, 1) := by decide +kernel
theorem dX4_empty_1 : decode cX4_empty 1 = .ok (.iconst 0, 1) := by decide +kernel
theorem dX4_empty_2 : decode cX4_empty 2 = .ok (.putfield 15, 3) := by decide +kernel
theorem dX4_empty_5 : decode cX4_empty 5 = .ok (.return_, 1) := by decide +kernel
theorem dX4_remember_0 : decode cX4_remember 0 = .ok (.aload_n 0, 1) := by decide +kernel
theorem dX4_remember_1 : decode cX4_remember 1 = .ok (.getfield 15, 3) := by decide +kernel
theorem dX4_remember_4 : decode cX4_remember 4 = .ok (.bipush 8, 2) := by decide +kernel
theorem dX4_remember_6 : decode cX4_remember 6 = .ok (.if_icmp .lt 25, 3) := by decide +kernel
theorem dX4_remember_31 : decode cX4_remember 31 = .ok (.aload_n 0, 1) := by decide +kernel
theorem dX4_remember_32 : decode cX4_remember 32 = .ok (.getfield 15, 3) := by decide +kernel
theorem dX4_remember_35 : decode cX4_remember 35 = .ok (.bipush 11, 2) := by decide +kernel
theorem dX4_remember_37 : decode cX4_remember 37 = .ok (.imul, 1) := by decide +kernel
theorem dX4_remember_38 : decode cX4_remember 38 = .ok (.istore_n 2, 1) := by decide +kernel
theorem dX4_remember_39 : decode cX4_remember 39 = .ok (.aload_n 1, 1) := by decide +kernel
theorem dX4_remember_40 : decode cX4_remember 40 = .ok (.getfield 25, 3) := by decide +kernel
theorem dX4_remember_43 : decode cX4_remember 43 = .ok (.iconst 0, 1) := by decide +kernel
theorem dX4_remember_44 : decode cX4_remember 44 = .ok (.aload_n 0, 1) := by decide +kernel
theorem dX4_remember_45 : decode cX4_remember 45 = .ok (.getfield 11, 3) := by decide +kernel
theorem dX4_remember_48 : decode cX4_remember 48 = .ok (.iload_n 2, 1) := by decide +kernel
theorem dX4_remember_49 : decode cX4_remember 49 = .ok (.iconst 4, 1) := by decide +kernel
theorem dX4_remember_50 : decode cX4_remember 50 = .ok (.invokestatic 19, 3) := by decide +kernel
theorem dX4_remember_53 : decode cX4_remember 53 = .ok (.aload_n 1, 1) := by decide +kernel
theorem dX4_remember_54 : decode cX4_remember 54 = .ok (.getfield 30, 3) := by decide +kernel
theorem dX4_remember_57 : decode cX4_remember 57 = .ok (.iconst 0, 1) := by decide +kernel
theorem dX4_remember_58 : decode cX4_remember 58 = .ok (.aload_n 0, 1) := by decide +kernel
theorem dX4_remember_59 : decode cX4_remember 59 = .ok (.getfield 11, 3) := by decide +kernel
theorem dX4_remember_62 : decode cX4_remember 62 = .ok (.iload_n 2, 1) := by decide +kernel
theorem dX4_remember_63 : decode cX4_remember 63 = .ok (.iconst 4, 1) := by decide +kernel
theorem dX4_remember_64 : decode cX4_remember 64 = .ok (.iadd, 1) := by decide +kernel
theorem dX4_remember_65 : decode cX4_remember 65 = .ok (.iconst 4, 1) := by decide +kernel
theorem dX4_remember_66 : decode cX4_remember 66 = .ok (.invokestatic 19, 3) := by decide +kernel
theorem dX4_remember_69 : decode cX4_remember 69 = .ok (.aload_n 0, 1) := by decide +kernel
theorem dX4_remember_70 : decode cX4_remember 70 = .ok (.getfield 11, 3) := by decide +kernel
theorem dX4_remember_73 : decode cX4_remember 73 = .ok (.iload_n 2, 1) := by decide +kernel
theorem dX4_remember_74 : decode cX4_remember 74 = .ok (.bipush 8, 2) := by decide +kernel
theorem dX4_remember_76 : decode cX4_remember 76 = .ok (.iadd, 1) := by decide +kernel
theorem dX4_remember_77 : decode cX4_remember 77 = .ok (.aload_n 1, 1) := by decide +kernel
theorem dX4_remember_78 : decode cX4_remember 78 = .ok (.getfield 33, 3) := by decide +kernel
theorem dX4_remember_81 : decode cX4_remember 81 = .ok (.iastore, 1) := by decide +kernel
theorem dX4_remember_82 : decode cX4_remember 82 = .ok (.aload_n 0, 1) := by decide +kernel
theorem dX4_remember_83 : decode cX4_remember 83 = .ok (.getfield 11, 3) := by decide +kernel
theorem dX4_remember_86 : decode cX4_remember 86 = .ok (.iload_n 2, 1) := by decide +kernel
theorem dX4_remember_87 : decode cX4_remember 87 = .ok (.bipush 8, 2) := by decide +kernel
theorem dX4_remember_89 : decode cX4_remember 89 = .ok (.iadd, 1) := by decide +kernel
theorem dX4_remember_90 : decode cX4_remember 90 = .ok (.iconst 1, 1) := by decide +kernel
theorem dX4_remember_91 : decode cX4_remember 91 = .ok (.iadd, 1) := by decide +kernel
theorem dX4_remember_92 : decode cX4_remember 92 = .ok (.aload_n 1, 1) := by decide +kernel
theorem dX4_remember_93 : decode cX4_remember 93 = .ok (.getfield 36, 3) := by decide +kernel
theorem dX4_remember_96 : decode cX4_remember 96 = .ok (.iastore, 1) := by decide +kernel
theorem dX4_remember_97 : decode cX4_remember 97 = .ok (.aload_n 0, 1) := by decide +kernel
theorem dX4_remember_98 : decode cX4_remember 98 = .ok (.getfield 11, 3) := by decide +kernel
theorem dX4_remember_101 : decode cX4_remember 101 = .ok (.iload_n 2, 1) := by decide +kernel
theorem dX4_remember_102 : decode cX4_remember 102 = .ok (.bipush 8, 2) := by decide +kernel
theorem dX4_remember_104 : decode cX4_remember 104 = .ok (.iadd, 1) := by decide +kernel
theorem dX4_remember_105 : decode cX4_remember 105 = .ok (.iconst 2, 1) := by decide +kernel
theorem dX4_remember_106 : decode cX4_remember 106 = .ok (.iadd, 1) := by decide +kernel
theorem dX4_remember_107 : decode cX4_remember 107 = .ok (.aload_n 1, 1) := by decide +kernel
theorem dX4_remember_108 : decode cX4_remember 108 = .ok (.getfield 39, 3) := by decide +kernel
theorem dX4_remember_111 : decode cX4_remember 111 = .ok (.iastore, 1) := by decide +kernel
theorem dX4_remember_112 : decode cX4_remember 112 = .ok (.aload_n 0, 1) := by decide +kernel
theorem dX4_remember_113 : decode cX4_remember 113 = .ok (.dup, 1) := by decide +kernel
theorem dX4_remember_114 : decode cX4_remember 114 = .ok (.getfield 15, 3) := by decide +kernel
theorem dX4_remember_117 : decode cX4_remember 117 = .ok (.iconst 1, 1) := by decide +kernel
theorem dX4_remember_118 : decode cX4_remember 118 = .ok (.iadd, 1) := by decide +kernel
theorem dX4_remember_119 : decode cX4_remember 119 = .ok (.putfield 15, 3) := by decide +kernel
theorem dX4_remember_122 : decode cX4_remember 122 = .ok (.return_, 1) := by decide +kernel
theorem dX6_become_0 : decode cX6_become 0 = .ok (.aload_n 1, 1) := by decide +kernel
theorem dX6_become_1 : decode cX6_become 1 = .ok (.getfield 11, 3) := by decide +kernel
theorem dX6_become_4 : decode cX6_become 4 = .ok (.iconst 0, 1) := by decide +kernel
theorem dX6_become_5 : decode cX6_become 5 = .ok (.aload_n 0, 1) := by decide +kernel
theorem dX6_become_6 : decode cX6_become 6 = .ok (.getfield 11, 3) := by decide +kernel
theorem dX6_become_9 : decode cX6_become 9 = .ok (.iconst 0, 1) := by decide +kernel
theorem dX6_become_10 : decode cX6_become 10 = .ok (.bipush 24, 2) := by decide +kernel
theorem dX6_become_12 : decode cX6_become 12 = .ok (.invokestatic 23, 3) := by decide +kernel
theorem dX6_become_15 : decode cX6_become 15 = .ok (.aload_n 0, 1) := by decide +kernel
theorem dX6_become_16 : decode cX6_become 16 = .ok (.aload_n 1, 1) := by decide +kernel
theorem dX6_become_17 : decode cX6_become 17 = .ok (.getfield 15, 3) := by decide +kernel
theorem dX6_become_20 : decode cX6_become 20 = .ok (.putfield 15, 3) := by decide +kernel
theorem dX6_become_23 : decode cX6_become 23 = .ok (.return_, 1) := by decide +kernel
theorem dX6_empty_0 : decode cX6_empty 0 = .ok (.aload_n 0, 1) := by decide +kernel
theorem dX6_empty_1 : decode cX6_empty 1 = .ok (.getfield 15, 3) := by decide +kernel
theorem dX6_empty_4 : decode cX6_empty 4 = .ok (.istore_n 1, 1) := by decide +kernel
theorem dX6_empty_5 : decode cX6_empty 5 = .ok (.aload_n 0, 1) := by decide +kernel
theorem dX6_empty_6 : decode cX6_empty 6 = .ok (.iconst 0, 1) := by decide +kernel
theorem dX6_empty_7 : decode cX6_empty 7 = .ok (.putfield 15, 3) := by decide +kernel
theorem dX6_empty_10 : decode cX6_empty 10 = .ok (.iload_n 1, 1) := by decide +kernel
theorem dX6_empty_11 : decode cX6_empty 11 = .ok (.ireturn, 1) := by decide +kernel
theorem dX6_mixed_0 : decode cX6_mixed 0 = .ok (.lload_n 1, 1) := by decide +kernel
theorem dX6_mixed_1 : decode cX6_mixed 1 = .ok (.lstore_n 3, 1) := by decide +kernel
theorem dX6_mixed_2 : decode cX6_mixed 2 = .ok (.iconst 0, 1) := by decide +kernel
theorem dX6_mixed_3 : decode cX6_mixed 3 = .ok (.istore 5, 2) := by decide +kernel
theorem dX6_mixed_5 : decode cX6_mixed 5 = .ok (.iload 5, 2) := by decide +kernel
theorem dX6_mixed_7 : decode cX6_mixed 7 = .ok (.aload_n 0, 1) := by decide +kernel
theorem dX6_mixed_8 : decode cX6_mixed 8 = .ok (.getfield 15, 3) := by decide +kernel
theorem dX6_mixed_11 : decode cX6_mixed 11 = .ok (.iconst 4, 1) := by decide +kernel
theorem dX6_mixed_12 : decode cX6_mixed 12 = .ok (.imul, 1) := by decide +kernel
theorem dX6_mixed_13 : decode cX6_mixed 13 = .ok (.if_icmp .ge 24, 3) := by decide +kernel
theorem dX6_mixed_37 : decode cX6_mixed 37 = .ok (.lload_n 3, 1) := by decide +kernel
theorem dX6_mixed_38 : decode cX6_mixed 38 = .ok (.lreturn, 1) := by decide +kernel
theorem dX7_add_0 : decode cX7_add 0 = .ok (.aload_n 0, 1) := by decide +kernel
theorem dX7_add_1 : decode cX7_add 1 = .ok (.invokevirtual 23, 3) := by decide +kernel
theorem dX7_add_4 : decode cX7_add 4 = .ok (.ifCond .eq 6, 3) := by decide +kernel
theorem dX7_add_10 : decode cX7_add 10 = .ok (.aload_n 0, 1) := by decide +kernel
theorem dX7_add_11 : decode cX7_add 11 = .ok (.getfield 11, 3) := by decide +kernel
theorem dX7_add_14 : decode cX7_add 14 = .ok (.aload_n 0, 1) := by decide +kernel
theorem dX7_add_15 : decode cX7_add 15 = .ok (.getfield 19, 3) := by decide +kernel
theorem dX7_add_18 : decode cX7_add 18 = .ok (.iload_n 1, 1) := by decide +kernel
theorem dX7_add_19 : decode cX7_add 19 = .ok (.i2b, 1) := by decide +kernel
theorem dX7_add_20 : decode cX7_add 20 = .ok (.bastore, 1) := by decide +kernel
theorem dX7_add_21 : decode cX7_add 21 = .ok (.aload_n 0, 1) := by decide +kernel
theorem dX7_add_22 : decode cX7_add 22 = .ok (.dup, 1) := by decide +kernel
theorem dX7_add_23 : decode cX7_add 23 = .ok (.getfield 19, 3) := by decide +kernel
theorem dX7_add_26 : decode cX7_add 26 = .ok (.iconst 1, 1) := by decide +kernel
theorem dX7_add_27 : decode cX7_add 27 = .ok (.iadd, 1) := by decide +kernel
theorem dX7_add_28 : decode cX7_add 28 = .ok (.putfield 19, 3) := by decide +kernel
theorem dX7_add_31 : decode cX7_add 31 = .ok (.aload_n 0, 1) := by decide +kernel
theorem dX7_add_32 : decode cX7_add 32 = .ok (.getfield 19, 3) := by decide +kernel
theorem dX7_add_35 : decode cX7_add 35 = .ok (.ireturn, 1) := by decide +kernel
theorem dX7_empty_0 : decode cX7_empty 0 = .ok (.aload_n 0, 1) := by decide +kernel
theorem dX7_empty_1 : decode cX7_empty 1 = .ok (.getfield 19, 3) := by decide +kernel
theorem dX7_empty_4 : decode cX7_empty 4 = .ok (.istore_n 1, 1) := by decide +kernel
theorem dX7_empty_5 : decode cX7_empty 5 = .ok (.aload_n 0, 1) := by decide +kernel
theorem dX7_empty_6 : decode cX7_empty 6 = .ok (.iconst 0, 1) := by decide +kernel
theorem dX7_empty_7 : decode cX7_empty 7 = .ok (.putfield 19, 3) := by decide +kernel
theorem dX7_empty_10 : decode cX7_empty 10 = .ok (.iload_n 1, 1) := by decide +kernel
theorem dX7_empty_11 : decode cX7_empty 11 = .ok (.ireturn, 1) := by decide +kernel
theorem dX7_isFull_0 : decode cX7_isFull 0 = .ok (.aload_n 0, 1) := by decide +kernel
theorem dX7_isFull_1 : decode cX7_isFull 1 = .ok (.getfield 19, 3) := by decide +kernel
theorem dX7_isFull_4 : decode cX7_isFull 4 = .ok (.sipush 150, 3) := by decide +kernel
theorem dX7_isFull_7 : decode cX7_isFull 7 = .ok (.if_icmp .lt 7, 3) := by decide +kernel
theorem dX7_isFull_14 : decode cX7_isFull 14 = .ok (.iconst 0, 1) := by decide +kernel
theorem dX7_isFull_15 : decode cX7_isFull 15 = .ok (.ireturn, 1) := by decide +kernel
theorem dX7_mayBegin_0 : decode cX7_mayBegin 0 = .ok (.iload_n 1, 1) := by decide +kernel
theorem dX7_mayBegin_1 : decode cX7_mayBegin 1 = .ok (.tableswitch 72 (-1) 2 #[31, 33, 35, 54], 31) := by decide +kernel
theorem dX7_mayBegin_32 : decode cX7_mayBegin 32 = .ok (.iconst 0, 1) := by decide +kernel
theorem dX7_mayBegin_33 : decode cX7_mayBegin 33 = .ok (.ireturn, 1) := by decide +kernel
theorem dX7_step_0 : decode cX7_step 0 = .ok (.aload_n 0, 1) := by decide +kernel
theorem dX7_step_1 : decode cX7_step 1 = .ok (.getfield 33, 3) := by decide +kernel
theorem dX7_step_4 : decode cX7_step 4 = .ok (.aload_n 0, 1) := by decide +kernel
theorem dX7_step_5 : decode cX7_step 5 = .ok (.getfield 19, 3) := by decide +kernel
theorem dX7_step_8 : decode cX7_step 8 = .ok (.if_icmp .ge 30, 3) := by decide +kernel
theorem dX7_step_38 : decode cX7_step 38 = .ok (.aload_n 0, 1) := by decide +kernel
theorem dX7_step_39 : decode cX7_step 39 = .ok (.aload_n 0, 1) := by decide +kernel
theorem dX7_step_40 : decode cX7_step 40 = .ok (.getfield 33, 3) := by decide +kernel
theorem dX7_step_43 : decode cX7_step 43 = .ok (.putfield 58, 3) := by decide +kernel
theorem dX7_step_46 : decode cX7_step 46 = .ok (.aload_n 0, 1) := by decide +kernel
theorem dX7_step_47 : decode cX7_step 47 = .ok (.getfield 33, 3) := by decide +kernel
theorem dX7_step_50 : decode cX7_step 50 = .ok (.aload_n 0, 1) := by decide +kernel
theorem dX7_step_51 : decode cX7_step 51 = .ok (.getfield 19, 3) := by decide +kernel
theorem dX7_step_54 : decode cX7_step 54 = .ok (.if_icmp .lt 11, 3) := by decide +kernel
theorem dX7_step_57 : decode cX7_step 57 = .ok (.aload_n 0, 1) := by decide +kernel
theorem dX7_step_58 : decode cX7_step 58 = .ok (.iconst 0, 1) := by decide +kernel
theorem dX7_step_59 : decode cX7_step 59 = .ok (.putfield 39, 3) := by decide +kernel
theorem dX7_step_62 : decode cX7_step 62 = .ok (.goto 117, 3) := by decide +kernel
theorem dX7_step_179 : decode cX7_step 179 = .ok (.return_, 1) := by decide +kernel
theorem dX7_tell_0 : decode cX7_tell 0 = .ok (.aload_n 1, 1) := by decide +kernel
theorem dX7_tell_1 : decode cX7_tell 1 = .ok (.iconst 0, 1) := by decide +kernel
theorem dX7_tell_2 : decode cX7_tell 2 = .ok (.invokevirtual 27, 3) := by decide +kernel
theorem dX7_tell_5 : decode cX7_tell 5 = .ok (.aload_n 0, 1) := by decide +kernel
theorem dX7_tell_6 : decode cX7_tell 6 = .ok (.iconst 0, 1) := by decide +kernel
theorem dX7_tell_7 : decode cX7_tell 7 = .ok (.putfield 33, 3) := by decide +kernel
theorem dX7_tell_10 : decode cX7_tell 10 = .ok (.iconst 0, 1) := by decide +kernel
theorem dX7_tell_11 : decode cX7_tell 11 = .ok (.istore_n 2, 1) := by decide +kernel
theorem dX7_tell_12 : decode cX7_tell 12 = .ok (.iload_n 2, 1) := by decide +kernel
theorem dX7_tell_13 : decode cX7_tell 13 = .ok (.sipush 150, 3) := by decide +kernel
theorem dX7_tell_16 : decode cX7_tell 16 = .ok (.if_icmp .gt 78, 3) := by decide +kernel
theorem dX7_tell_19 : decode cX7_tell 19 = .ok (.aload_n 0, 1) := by decide +kernel
theorem dX7_tell_20 : decode cX7_tell 20 = .ok (.invokevirtual 36, 3) := by decide +kernel
theorem dX7_tell_23 : decode cX7_tell 23 = .ok (.aload_n 0, 1) := by decide +kernel
theorem dX7_tell_24 : decode cX7_tell 24 = .ok (.getfield 39, 3) := by decide +kernel
theorem dX7_tell_27 : decode cX7_tell 27 = .ok (.ifCond .ne 9, 3) := by decide +kernel
theorem dX7_tell_30 : decode cX7_tell 30 = .ok (.iload_n 2, 1) := by decide +kernel
theorem dX7_tell_31 : decode cX7_tell 31 = .ok (.ifCond .le 5, 3) := by decide +kernel
theorem dX7_tell_36 : decode cX7_tell 36 = .ok (.aload_n 0, 1) := by decide +kernel
theorem dX7_tell_37 : decode cX7_tell 37 = .ok (.getfield 39, 3) := by decide +kernel
theorem dX7_tell_40 : decode cX7_tell 40 = .ok (.iconst 1, 1) := by decide +kernel
theorem dX7_tell_41 : decode cX7_tell 41 = .ok (.if_icmp .ne 10, 3) := by decide +kernel
theorem dX7_tell_51 : decode cX7_tell 51 = .ok (.iconst (-1), 1) := by decide +kernel
theorem dX7_tell_52 : decode cX7_tell 52 = .ok (.istore_n 3, 1) := by decide +kernel
theorem dX7_tell_53 : decode cX7_tell 53 = .ok (.aload_n 1, 1) := by decide +kernel
theorem dX7_tell_54 : decode cX7_tell 54 = .ok (.iload_n 3, 1) := by decide +kernel
theorem dX7_tell_55 : decode cX7_tell 55 = .ok (.iload_n 2, 1) := by decide +kernel
theorem dX7_tell_56 : decode cX7_tell 56 = .ok (.ifCond .ne 7, 3) := by decide +kernel
theorem dX7_tell_59 : decode cX7_tell 59 = .ok (.iconst 1, 1) := by decide +kernel
theorem dX7_tell_60 : decode cX7_tell 60 = .ok (.goto 4, 3) := by decide +kernel
theorem dX7_tell_64 : decode cX7_tell 64 = .ok (.invokestatic 46, 3) := by decide +kernel
theorem dX7_tell_67 : decode cX7_tell 67 = .ok (.ifCond .eq 27, 3) := by decide +kernel
theorem dX7_tell_94 : decode cX7_tell 94 = .ok (.bipush (-10), 2) := by decide +kernel
theorem dX7_tell_96 : decode cX7_tell 96 = .ok (.aload_n 0, 1) := by decide +kernel
theorem dX7_tell_97 : decode cX7_tell 97 = .ok (.getfield 58, 3) := by decide +kernel
theorem dX7_tell_100 : decode cX7_tell 100 = .ok (.isub, 1) := by decide +kernel
theorem dX7_tell_101 : decode cX7_tell 101 = .ok (.ireturn, 1) := by decide +kernel
theorem dX8_about_0 : decode cX8_about 0 = .ok (.aload_n 0, 1) := by decide +kernel
theorem dX8_about_1 : decode cX8_about 1 = .ok (.getfield 10, 3) := by decide +kernel
theorem dX8_about_4 : decode cX8_about 4 = .ok (.iload_n 1, 1) := by decide +kernel
theorem dX8_about_5 : decode cX8_about 5 = .ok (.invokevirtual 112, 3) := by decide +kernel
theorem dX8_about_8 : decode cX8_about 8 = .ok (.ifCond .ne 10, 3) := by decide +kernel
theorem dX8_about_11 : decode cX8_about 11 = .ok (.aload_n 0, 1) := by decide +kernel
theorem dX8_about_12 : decode cX8_about 12 = .ok (.bipush (-2), 2) := by decide +kernel
theorem dX8_about_14 : decode cX8_about 14 = .ok (.invokevirtual 59, 3) := by decide +kernel
theorem dX8_about_17 : decode cX8_about 17 = .ok (.ireturn, 1) := by decide +kernel
theorem dX8_ask_0 : decode cX8_ask 0 = .ok (.aload_n 0, 1) := by decide +kernel
theorem dX8_ask_1 : decode cX8_ask 1 = .ok (.getfield 10, 3) := by decide +kernel
theorem dX8_ask_4 : decode cX8_ask 4 = .ok (.iload_n 1, 1) := by decide +kernel
theorem dX8_ask_5 : decode cX8_ask 5 = .ok (.invokevirtual 112, 3) := by decide +kernel
theorem dX8_ask_8 : decode cX8_ask 8 = .ok (.ifCond .ne 10, 3) := by decide +kernel
theorem dX8_ask_11 : decode cX8_ask 11 = .ok (.aload_n 0, 1) := by decide +kernel
theorem dX8_ask_12 : decode cX8_ask 12 = .ok (.bipush (-2), 2) := by decide +kernel
theorem dX8_ask_14 : decode cX8_ask 14 = .ok (.invokevirtual 59, 3) := by decide +kernel
theorem dX8_ask_17 : decode cX8_ask 17 = .ok (.ireturn, 1) := by decide +kernel
theorem dX8_caster_0 : decode cX8_caster 0 = .ok (.iload_n 1, 1) := by decide +kernel
theorem dX8_caster_1 : decode cX8_caster 1 = .ok (.iconst 0, 1) := by decide +kernel
theorem dX8_caster_2 : decode cX8_caster 2 = .ok (.iconst 5, 1) := by decide +kernel
theorem dX8_caster_3 : decode cX8_caster 3 = .ok (.invokestatic 55, 3) := by decide +kernel
theorem dX8_caster_6 : decode cX8_caster 6 = .ok (.ifCond .eq 22, 3) := by decide +kernel
theorem dX8_caster_9 : decode cX8_caster 9 = .ok (.iload_n 2, 1) := by decide +kernel
theorem dX8_caster_10 : decode cX8_caster 10 = .ok (.iconst 1, 1) := by decide +kernel
theorem dX8_caster_11 : decode cX8_caster 11 = .ok (.bipush 9, 2) := by decide +kernel
theorem dX8_caster_13 : decode cX8_caster 13 = .ok (.invokestatic 55, 3) := by decide +kernel
theorem dX8_caster_16 : decode cX8_caster 16 = .ok (.ifCond .eq 12, 3) := by decide +kernel
theorem dX8_caster_19 : decode cX8_caster 19 = .ok (.iload_n 3, 1) := by decide +kernel
theorem dX8_caster_20 : decode cX8_caster 20 = .ok (.iconst 0, 1) := by decide +kernel
theorem dX8_caster_21 : decode cX8_caster 21 = .ok (.iconst 3, 1) := by decide +kernel
theorem dX8_caster_22 : decode cX8_caster 22 = .ok (.invokestatic 55, 3) := by decide +kernel
theorem dX8_caster_25 : decode cX8_caster 25 = .ok (.ifCond .ne 10, 3) := by decide +kernel
theorem dX8_caster_28 : decode cX8_caster 28 = .ok (.aload_n 0, 1) := by decide +kernel
theorem dX8_caster_29 : decode cX8_caster 29 = .ok (.bipush (-2), 2) := by decide +kernel
theorem dX8_caster_31 : decode cX8_caster 31 = .ok (.invokevirtual 59, 3) := by decide +kernel
theorem dX8_caster_34 : decode cX8_caster 34 = .ok (.ireturn, 1) := by decide +kernel
theorem dX8_caster_35 : decode cX8_caster 35 = .ok (.aload_n 0, 1) := by decide +kernel
theorem dX8_caster_36 : decode cX8_caster 36 = .ok (.getfield 10, 3) := by decide +kernel
theorem dX8_caster_39 : decode cX8_caster 39 = .ok (.getfield 63, 3) := by decide +kernel
theorem dX8_caster_42 : decode cX8_caster 42 = .ok (.bipush 7, 2) := by decide +kernel
theorem dX8_caster_44 : decode cX8_caster 44 = .ok (.if_icmp .lt 10, 3) := by decide +kernel
theorem dX8_caster_54 : decode cX8_caster 54 = .ok (.aload_n 0, 1) := by decide +kernel
theorem dX8_caster_55 : decode cX8_caster 55 = .ok (.getfield 10, 3) := by decide +kernel
theorem dX8_caster_58 : decode cX8_caster 58 = .ok (.getfield 71, 3) := by decide +kernel
theorem dX8_caster_61 : decode cX8_caster 61 = .ok (.invokevirtual 75, 3) := by decide +kernel
theorem dX8_caster_64 : decode cX8_caster 64 = .ok (.aload_n 0, 1) := by decide +kernel
theorem dX8_caster_65 : decode cX8_caster 65 = .ok (.getfield 10, 3) := by decide +kernel
theorem dX8_caster_68 : decode cX8_caster 68 = .ok (.iload_n 1, 1) := by decide +kernel
theorem dX8_caster_69 : decode cX8_caster 69 = .ok (.iload_n 2, 1) := by decide +kernel
theorem dX8_caster_70 : decode cX8_caster 70 = .ok (.iload_n 3, 1) := by decide +kernel
theorem dX8_caster_71 : decode cX8_caster 71 = .ok (.invokevirtual 80, 3) := by decide +kernel
theorem dX8_caster_74 : decode cX8_caster 74 = .ok (.ireturn, 1) := by decide +kernel
theorem dX8_clear_0 : decode cX8_clear 0 = .ok (.aload_n 0, 1) := by decide +kernel
theorem dX8_clear_1 : decode cX8_clear 1 = .ok (.getfield 30, 3) := by decide +kernel
theorem dX8_clear_4 : decode cX8_clear 4 = .ok (.invokevirtual 97, 3) := by decide +kernel
theorem dX8_clear_7 : decode cX8_clear 7 = .ok (.ireturn, 1) := by decide +kernel
theorem dX8_count_0 : decode cX8_count 0 = .ok (.iload_n 1, 1) := by decide +kernel
theorem dX8_count_1 : decode cX8_count 1 = .ok (.iconst 0, 1) := by decide +kernel
theorem dX8_count_2 : decode cX8_count 2 = .ok (.bipush 9, 2) := by decide +kernel
theorem dX8_count_4 : decode cX8_count 4 = .ok (.invokestatic 55, 3) := by decide +kernel
theorem dX8_count_7 : decode cX8_count 7 = .ok (.ifCond .ne 10, 3) := by decide +kernel
theorem dX8_count_10 : decode cX8_count 10 = .ok (.aload_n 0, 1) := by decide +kernel
theorem dX8_count_11 : decode cX8_count 11 = .ok (.bipush (-2), 2) := by decide +kernel
theorem dX8_count_13 : decode cX8_count 13 = .ok (.invokevirtual 59, 3) := by decide +kernel
theorem dX8_count_16 : decode cX8_count 16 = .ok (.ireturn, 1) := by decide +kernel
theorem dX8_count_17 : decode cX8_count 17 = .ok (.aload_n 0, 1) := by decide +kernel
theorem dX8_count_18 : decode cX8_count 18 = .ok (.iload_n 1, 1) := by decide +kernel
theorem dX8_count_19 : decode cX8_count 19 = .ok (.invokevirtual 263, 3) := by decide +kernel
theorem dX8_count_22 : decode cX8_count 22 = .ok (.ireturn, 1) := by decide +kernel
theorem dX8_counted_0 : decode cX8_counted 0 = .ok (.iload_n 1, 1) := by decide +kernel
theorem dX8_counted_1 : decode cX8_counted 1 = .ok (.tableswitch 135 0 8 #[51, 59, 67, 75, 83, 94, 102, 113, 124], 51) := by decide +kernel
theorem dX8_counted_52 : decode cX8_counted 52 = .ok (.aload_n 0, 1) := by decide +kernel
theorem dX8_counted_53 : decode cX8_counted 53 = .ok (.getfield 10, 3) := by decide +kernel
theorem dX8_counted_56 : decode cX8_counted 56 = .ok (.getfield 63, 3) := by decide +kernel
theorem dX8_counted_59 : decode cX8_counted 59 = .ok (.ireturn, 1) := by decide +kernel
theorem dX8_counted_60 : decode cX8_counted 60 = .ok (.aload_n 0, 1) := by decide +kernel
theorem dX8_counted_61 : decode cX8_counted 61 = .ok (.getfield 10, 3) := by decide +kernel
theorem dX8_counted_64 : decode cX8_counted 64 = .ok (.getfield 84, 3) := by decide +kernel
theorem dX8_counted_67 : decode cX8_counted 67 = .ok (.ireturn, 1) := by decide +kernel
theorem dX8_counted_68 : decode cX8_counted 68 = .ok (.aload_n 0, 1) := by decide +kernel
theorem dX8_counted_69 : decode cX8_counted 69 = .ok (.getfield 10, 3) := by decide +kernel
theorem dX8_counted_72 : decode cX8_counted 72 = .ok (.invokevirtual 251, 3) := by decide +kernel
theorem dX8_counted_75 : decode cX8_counted 75 = .ok (.ireturn, 1) := by decide +kernel
theorem dX8_counted_76 : decode cX8_counted 76 = .ok (.aload_n 0, 1) := by decide +kernel
theorem dX8_counted_77 : decode cX8_counted 77 = .ok (.getfield 10, 3) := by decide +kernel
theorem dX8_counted_80 : decode cX8_counted 80 = .ok (.getfield 135, 3) := by decide +kernel
theorem dX8_counted_83 : decode cX8_counted 83 = .ok (.ireturn, 1) := by decide +kernel
theorem dX8_counted_84 : decode cX8_counted 84 = .ok (.aload_n 0, 1) := by decide +kernel
theorem dX8_counted_85 : decode cX8_counted 85 = .ok (.getfield 10, 3) := by decide +kernel
theorem dX8_counted_88 : decode cX8_counted 88 = .ok (.getfield 274, 3) := by decide +kernel
theorem dX8_counted_91 : decode cX8_counted 91 = .ok (.invokestatic 184, 3) := by decide +kernel
theorem dX8_counted_94 : decode cX8_counted 94 = .ok (.ireturn, 1) := by decide +kernel
theorem dX8_counted_95 : decode cX8_counted 95 = .ok (.aload_n 0, 1) := by decide +kernel
theorem dX8_counted_96 : decode cX8_counted 96 = .ok (.getfield 10, 3) := by decide +kernel
theorem dX8_counted_99 : decode cX8_counted 99 = .ok (.getfield 277, 3) := by decide +kernel
theorem dX8_counted_102 : decode cX8_counted 102 = .ok (.ireturn, 1) := by decide +kernel
theorem dX8_counted_103 : decode cX8_counted 103 = .ok (.aload_n 0, 1) := by decide +kernel
theorem dX8_counted_104 : decode cX8_counted 104 = .ok (.getfield 10, 3) := by decide +kernel
theorem dX8_counted_107 : decode cX8_counted 107 = .ok (.getfield 192, 3) := by decide +kernel
theorem dX8_counted_110 : decode cX8_counted 110 = .ok (.getfield 280, 3) := by decide +kernel
theorem dX8_counted_113 : decode cX8_counted 113 = .ok (.ireturn, 1) := by decide +kernel
theorem dX8_counted_114 : decode cX8_counted 114 = .ok (.aload_n 0, 1) := by decide +kernel
theorem dX8_counted_115 : decode cX8_counted 115 = .ok (.getfield 10, 3) := by decide +kernel
theorem dX8_counted_118 : decode cX8_counted 118 = .ok (.getfield 202, 3) := by decide +kernel
theorem dX8_counted_121 : decode cX8_counted 121 = .ok (.getfield 280, 3) := by decide +kernel
theorem dX8_counted_124 : decode cX8_counted 124 = .ok (.ireturn, 1) := by decide +kernel
theorem dX8_counted_125 : decode cX8_counted 125 = .ok (.aload_n 0, 1) := by decide +kernel
theorem dX8_counted_126 : decode cX8_counted 126 = .ok (.getfield 10, 3) := by decide +kernel
theorem dX8_counted_129 : decode cX8_counted 129 = .ok (.getfield 71, 3) := by decide +kernel
theorem dX8_counted_132 : decode cX8_counted 132 = .ok (.getfield 283, 3) := by decide +kernel
theorem dX8_counted_135 : decode cX8_counted 135 = .ok (.ireturn, 1) := by decide +kernel
theorem dX8_counted_136 : decode cX8_counted 136 = .ok (.aload_n 0, 1) := by decide +kernel
theorem dX8_counted_137 : decode cX8_counted 137 = .ok (.getfield 30, 3) := by decide +kernel
theorem dX8_counted_140 : decode cX8_counted 140 = .ok (.getfield 286, 3) := by decide +kernel
theorem dX8_counted_143 : decode cX8_counted 143 = .ok (.ireturn, 1) := by decide +kernel
theorem dX8_digest_0 : decode cX8_digest 0 = .ok (.ldc2_w 266, 3) := by decide +kernel
theorem dX8_digest_3 : decode cX8_digest 3 = .ok (.lstore_n 1, 1) := by decide +kernel
theorem dX8_digest_4 : decode cX8_digest 4 = .ok (.iconst 0, 1) := by decide +kernel
theorem dX8_digest_5 : decode cX8_digest 5 = .ok (.istore_n 3, 1) := by decide +kernel
theorem dX8_digest_6 : decode cX8_digest 6 = .ok (.iload_n 3, 1) := by decide +kernel
theorem dX8_digest_7 : decode cX8_digest 7 = .ok (.bipush 9, 2) := by decide +kernel
theorem dX8_digest_9 : decode cX8_digest 9 = .ok (.if_icmp .gt 22, 3) := by decide +kernel
theorem dX8_digest_12 : decode cX8_digest 12 = .ok (.ldc2_w 268, 3) := by decide +kernel
theorem dX8_digest_15 : decode cX8_digest 15 = .ok (.lload_n 1, 1) := by decide +kernel
theorem dX8_digest_16 : decode cX8_digest 16 = .ok (.lmul, 1) := by decide +kernel
theorem dX8_digest_17 : decode cX8_digest 17 = .ok (.aload_n 0, 1) := by decide +kernel
theorem dX8_digest_18 : decode cX8_digest 18 = .ok (.iload_n 3, 1) := by decide +kernel
theorem dX8_digest_19 : decode cX8_digest 19 = .ok (.invokevirtual 263, 3) := by decide +kernel
theorem dX8_digest_22 : decode cX8_digest 22 = .ok (.i2l, 1) := by decide +kernel
theorem dX8_digest_23 : decode cX8_digest 23 = .ok (.ladd, 1) := by decide +kernel
theorem dX8_digest_24 : decode cX8_digest 24 = .ok (.lstore_n 1, 1) := by decide +kernel
theorem dX8_digest_25 : decode cX8_digest 25 = .ok (.iinc 3 1, 3) := by decide +kernel
theorem dX8_digest_28 : decode cX8_digest 28 = .ok (.goto (-22), 3) := by decide +kernel
theorem dX8_digest_31 : decode cX8_digest 31 = .ok (.aload_n 0, 1) := by decide +kernel
theorem dX8_digest_32 : decode cX8_digest 32 = .ok (.getfield 10, 3) := by decide +kernel
theorem dX8_digest_35 : decode cX8_digest 35 = .ok (.lload_n 1, 1) := by decide +kernel
theorem dX8_digest_36 : decode cX8_digest 36 = .ok (.invokevirtual 270, 3) := by decide +kernel
theorem dX8_digest_39 : decode cX8_digest 39 = .ok (.lstore_n 1, 1) := by decide +kernel
theorem dX8_digest_40 : decode cX8_digest 40 = .ok (.ldc2_w 268, 3) := by decide +kernel
theorem dX8_digest_43 : decode cX8_digest 43 = .ok (.lload_n 1, 1) := by decide +kernel
theorem dX8_digest_44 : decode cX8_digest 44 = .ok (.lmul, 1) := by decide +kernel
theorem dX8_digest_45 : decode cX8_digest 45 = .ok (.aload_n 0, 1) := by decide +kernel
theorem dX8_digest_46 : decode cX8_digest 46 = .ok (.getfield 48, 3) := by decide +kernel
theorem dX8_digest_49 : decode cX8_digest 49 = .ok (.ladd, 1) := by decide +kernel
theorem dX8_digest_50 : decode cX8_digest 50 = .ok (.lstore_n 1, 1) := by decide +kernel
theorem dX8_digest_51 : decode cX8_digest 51 = .ok (.ldc2_w 268, 3) := by decide +kernel
theorem dX8_digest_54 : decode cX8_digest 54 = .ok (.lload_n 1, 1) := by decide +kernel
theorem dX8_digest_55 : decode cX8_digest 55 = .ok (.lmul, 1) := by decide +kernel
theorem dX8_digest_56 : decode cX8_digest 56 = .ok (.aload_n 0, 1) := by decide +kernel
theorem dX8_digest_57 : decode cX8_digest 57 = .ok (.getfield 52, 3) := by decide +kernel
theorem dX8_digest_60 : decode cX8_digest 60 = .ok (.ladd, 1) := by decide +kernel
theorem dX8_digest_61 : decode cX8_digest 61 = .ok (.lreturn, 1) := by decide +kernel
theorem dX8_few_0 : decode cX8_few 0 = .ok (.aload_n 0, 1) := by decide +kernel
theorem dX8_few_1 : decode cX8_few 1 = .ok (.getfield 10, 3) := by decide +kernel
theorem dX8_few_4 : decode cX8_few 4 = .ok (.iload_n 1, 1) := by decide +kernel
theorem dX8_few_5 : decode cX8_few 5 = .ok (.invokevirtual 112, 3) := by decide +kernel
theorem dX8_few_8 : decode cX8_few 8 = .ok (.ifCond .eq 32, 3) := by decide +kernel
theorem dX8_few_40 : decode cX8_few 40 = .ok (.aload_n 0, 1) := by decide +kernel
theorem dX8_few_41 : decode cX8_few 41 = .ok (.bipush (-2), 2) := by decide +kernel
theorem dX8_few_43 : decode cX8_few 43 = .ok (.invokevirtual 59, 3) := by decide +kernel
theorem dX8_few_46 : decode cX8_few 46 = .ok (.ireturn, 1) := by decide +kernel
theorem dX8_forget_0 : decode cX8_forget 0 = .ok (.iload_n 1, 1) := by decide +kernel
theorem dX8_forget_1 : decode cX8_forget 1 = .ok (.lookupswitch 49 #[(0, 27), (1, 38)], 27) := by decide +kernel
theorem dX8_forget_28 : decode cX8_forget 28 = .ok (.aload_n 0, 1) := by decide +kernel
theorem dX8_forget_29 : decode cX8_forget 29 = .ok (.getfield 10, 3) := by decide +kernel
theorem dX8_forget_32 : decode cX8_forget 32 = .ok (.getfield 192, 3) := by decide +kernel
theorem dX8_forget_35 : decode cX8_forget 35 = .ok (.invokevirtual 205, 3) := by decide +kernel
theorem dX8_forget_38 : decode cX8_forget 38 = .ok (.ireturn, 1) := by decide +kernel
theorem dX8_forget_39 : decode cX8_forget 39 = .ok (.aload_n 0, 1) := by decide +kernel
theorem dX8_forget_40 : decode cX8_forget 40 = .ok (.getfield 10, 3) := by decide +kernel
theorem dX8_forget_43 : decode cX8_forget 43 = .ok (.getfield 202, 3) := by decide +kernel
theorem dX8_forget_46 : decode cX8_forget 46 = .ok (.invokevirtual 205, 3) := by decide +kernel
theorem dX8_forget_49 : decode cX8_forget 49 = .ok (.ireturn, 1) := by decide +kernel
theorem dX8_forget_50 : decode cX8_forget 50 = .ok (.aload_n 0, 1) := by decide +kernel
theorem dX8_forget_51 : decode cX8_forget 51 = .ok (.bipush (-2), 2) := by decide +kernel
theorem dX8_forget_53 : decode cX8_forget 53 = .ok (.invokevirtual 59, 3) := by decide +kernel
theorem dX8_forget_56 : decode cX8_forget 56 = .ok (.ireturn, 1) := by decide +kernel
theorem dX8_from_0 : decode cX8_from 0 = .ok (.iload_n 1, 1) := by decide +kernel
theorem dX8_from_1 : decode cX8_from 1 = .ok (.iconst 0, 1) := by decide +kernel
theorem dX8_from_2 : decode cX8_from 2 = .ok (.iconst 1, 1) := by decide +kernel
theorem dX8_from_3 : decode cX8_from 3 = .ok (.invokestatic 55, 3) := by decide +kernel
theorem dX8_from_6 : decode cX8_from 6 = .ok (.ifCond .ne 10, 3) := by decide +kernel
theorem dX8_from_9 : decode cX8_from 9 = .ok (.aload_n 0, 1) := by decide +kernel
theorem dX8_from_10 : decode cX8_from 10 = .ok (.bipush (-2), 2) := by decide +kernel
theorem dX8_from_12 : decode cX8_from 12 = .ok (.invokevirtual 59, 3) := by decide +kernel
theorem dX8_from_15 : decode cX8_from 15 = .ok (.ireturn, 1) := by decide +kernel
theorem dX8_from_16 : decode cX8_from 16 = .ok (.aload_n 0, 1) := by decide +kernel
theorem dX8_from_17 : decode cX8_from 17 = .ok (.getfield 23, 3) := by decide +kernel
theorem dX8_from_20 : decode cX8_from 20 = .ok (.iload_n 1, 1) := by decide +kernel
theorem dX8_from_21 : decode cX8_from 21 = .ok (.baload, 1) := by decide +kernel
theorem dX8_from_22 : decode cX8_from 22 = .ok (.ifCond .ne 10, 3) := by decide +kernel
theorem dX8_from_25 : decode cX8_from 25 = .ok (.aload_n 0, 1) := by decide +kernel
theorem dX8_from_26 : decode cX8_from 26 = .ok (.bipush (-3), 2) := by decide +kernel
theorem dX8_from_28 : decode cX8_from 28 = .ok (.invokevirtual 59, 3) := by decide +kernel
theorem dX8_from_31 : decode cX8_from 31 = .ok (.ireturn, 1) := by decide +kernel
theorem dX8_gives_0 : decode cX8_gives 0 = .ok (.aload_n 0, 1) := by decide +kernel
theorem dX8_gives_1 : decode cX8_gives 1 = .ok (.getfield 10, 3) := by decide +kernel
theorem dX8_gives_4 : decode cX8_gives 4 = .ok (.iload_n 1, 1) := by decide +kernel
theorem dX8_gives_5 : decode cX8_gives 5 = .ok (.invokevirtual 108, 3) := by decide +kernel
theorem dX8_gives_8 : decode cX8_gives 8 = .ok (.ifCond .eq 13, 3) := by decide +kernel
theorem dX8_gives_21 : decode cX8_gives 21 = .ok (.aload_n 0, 1) := by decide +kernel
theorem dX8_gives_22 : decode cX8_gives 22 = .ok (.bipush (-2), 2) := by decide +kernel
theorem dX8_gives_24 : decode cX8_gives 24 = .ok (.invokevirtual 59, 3) := by decide +kernel
theorem dX8_gives_27 : decode cX8_gives 27 = .ok (.ireturn, 1) := by decide +kernel
theorem dX8_gone_0 : decode cX8_gone 0 = .ok (.aload_n 0, 1) := by decide +kernel
theorem dX8_gone_1 : decode cX8_gone 1 = .ok (.getfield 10, 3) := by decide +kernel
theorem dX8_gone_4 : decode cX8_gone 4 = .ok (.iload_n 1, 1) := by decide +kernel
theorem dX8_gone_5 : decode cX8_gone 5 = .ok (.invokevirtual 112, 3) := by decide +kernel
theorem dX8_gone_8 : decode cX8_gone 8 = .ok (.ifCond .ne 10, 3) := by decide +kernel
theorem dX8_gone_11 : decode cX8_gone 11 = .ok (.aload_n 0, 1) := by decide +kernel
theorem dX8_gone_12 : decode cX8_gone 12 = .ok (.bipush (-2), 2) := by decide +kernel
theorem dX8_gone_14 : decode cX8_gone 14 = .ok (.invokevirtual 59, 3) := by decide +kernel
theorem dX8_gone_17 : decode cX8_gone 17 = .ok (.ireturn, 1) := by decide +kernel
theorem dX8_hours_0 : decode cX8_hours 0 = .ok (.iload_n 1, 1) := by decide +kernel
theorem dX8_hours_1 : decode cX8_hours 1 = .ok (.iconst 1, 1) := by decide +kernel
theorem dX8_hours_2 : decode cX8_hours 2 = .ok (.bipush 60, 2) := by decide +kernel
theorem dX8_hours_4 : decode cX8_hours 4 = .ok (.invokestatic 55, 3) := by decide +kernel
theorem dX8_hours_7 : decode cX8_hours 7 = .ok (.ifCond .ne 10, 3) := by decide +kernel
theorem dX8_hours_10 : decode cX8_hours 10 = .ok (.aload_n 0, 1) := by decide +kernel
theorem dX8_hours_11 : decode cX8_hours 11 = .ok (.bipush (-2), 2) := by decide +kernel
theorem dX8_hours_13 : decode cX8_hours 13 = .ok (.invokevirtual 59, 3) := by decide +kernel
theorem dX8_hours_16 : decode cX8_hours 16 = .ok (.ireturn, 1) := by decide +kernel
theorem dX8_hours_17 : decode cX8_hours 17 = .ok (.aload_n 0, 1) := by decide +kernel
theorem dX8_hours_18 : decode cX8_hours 18 = .ok (.getfield 10, 3) := by decide +kernel
theorem dX8_hours_21 : decode cX8_hours 21 = .ok (.getfield 135, 3) := by decide +kernel
theorem dX8_hours_24 : decode cX8_hours 24 = .ok (.sipush 9999, 3) := by decide +kernel
theorem dX8_hours_27 : decode cX8_hours 27 = .ok (.if_icmp .ge 25, 3) := by decide +kernel
theorem dX8_hours_30 : decode cX8_hours 30 = .ok (.aload_n 0, 1) := by decide +kernel
theorem dX8_hours_31 : decode cX8_hours 31 = .ok (.getfield 10, 3) := by decide +kernel
theorem dX8_hours_34 : decode cX8_hours 34 = .ok (.getfield 71, 3) := by decide +kernel
theorem dX8_hours_37 : decode cX8_hours 37 = .ok (.aload_n 0, 1) := by decide +kernel
theorem dX8_hours_38 : decode cX8_hours 38 = .ok (.getfield 10, 3) := by decide +kernel
theorem dX8_hours_41 : decode cX8_hours 41 = .ok (.invokevirtual 118, 3) := by decide +kernel
theorem dX8_hours_44 : decode cX8_hours 44 = .ok (.aload_n 0, 1) := by decide +kernel
theorem dX8_hours_45 : decode cX8_hours 45 = .ok (.getfield 10, 3) := by decide +kernel
theorem dX8_hours_48 : decode cX8_hours 48 = .ok (.iload_n 1, 1) := by decide +kernel
theorem dX8_hours_49 : decode cX8_hours 49 = .ok (.invokevirtual 138, 3) := by decide +kernel
theorem dX8_hours_52 : decode cX8_hours 52 = .ok (.aload_n 0, 1) := by decide +kernel
theorem dX8_hours_53 : decode cX8_hours 53 = .ok (.getfield 10, 3) := by decide +kernel
theorem dX8_hours_56 : decode cX8_hours 56 = .ok (.getfield 135, 3) := by decide +kernel
theorem dX8_hours_59 : decode cX8_hours 59 = .ok (.ireturn, 1) := by decide +kernel
theorem dX8_image_0 : decode cX8_image 0 = .ok (.iload_n 1, 1) := by decide +kernel
theorem dX8_image_1 : decode cX8_image 1 = .ok (.iconst 0, 1) := by decide +kernel
theorem dX8_image_2 : decode cX8_image 2 = .ok (.iconst 1, 1) := by decide +kernel
theorem dX8_image_3 : decode cX8_image 3 = .ok (.invokestatic 55, 3) := by decide +kernel
theorem dX8_image_6 : decode cX8_image 6 = .ok (.ifCond .ne 10, 3) := by decide +kernel
theorem dX8_image_9 : decode cX8_image 9 = .ok (.aload_n 0, 1) := by decide +kernel
theorem dX8_image_10 : decode cX8_image 10 = .ok (.bipush (-2), 2) := by decide +kernel
theorem dX8_image_12 : decode cX8_image 12 = .ok (.invokevirtual 59, 3) := by decide +kernel
theorem dX8_image_15 : decode cX8_image 15 = .ok (.ireturn, 1) := by decide +kernel
theorem dX8_image_16 : decode cX8_image 16 = .ok (.aload_n 0, 1) := by decide +kernel
theorem dX8_image_17 : decode cX8_image 17 = .ok (.getfield 19, 3) := by decide +kernel
theorem dX8_image_20 : decode cX8_image 20 = .ok (.iload_n 1, 1) := by decide +kernel
theorem dX8_image_21 : decode cX8_image 21 = .ok (.aaload, 1) := by decide +kernel
theorem dX8_image_22 : decode cX8_image 22 = .ok (.aload_n 0, 1) := by decide +kernel
theorem dX8_image_23 : decode cX8_image 23 = .ok (.getfield 10, 3) := by decide +kernel
theorem dX8_image_26 : decode cX8_image 26 = .ok (.invokevirtual 104, 3) := by decide +kernel
theorem dX8_image_29 : decode cX8_image 29 = .ok (.aload_n 0, 1) := by decide +kernel
theorem dX8_image_30 : decode cX8_image 30 = .ok (.getfield 23, 3) := by decide +kernel
theorem dX8_image_33 : decode cX8_image 33 = .ok (.iload_n 1, 1) := by decide +kernel
theorem dX8_image_34 : decode cX8_image 34 = .ok (.iconst 1, 1) := by decide +kernel
theorem dX8_image_35 : decode cX8_image 35 = .ok (.bastore, 1) := by decide +kernel
theorem dX8_image_36 : decode cX8_image 36 = .ok (.iconst 1, 1) := by decide +kernel
theorem dX8_image_37 : decode cX8_image 37 = .ok (.ireturn, 1) := by decide +kernel
theorem dX8_into_0 : decode cX8_into 0 = .ok (.aload_n 0, 1) := by decide +kernel
theorem dX8_into_1 : decode cX8_into 1 = .ok (.getfield 10, 3) := by decide +kernel
theorem dX8_into_4 : decode cX8_into 4 = .ok (.iload_n 1, 1) := by decide +kernel
theorem dX8_into_5 : decode cX8_into 5 = .ok (.invokevirtual 112, 3) := by decide +kernel
theorem dX8_into_8 : decode cX8_into 8 = .ok (.ifCond .eq 22, 3) := by decide +kernel
theorem dX8_into_30 : decode cX8_into 30 = .ok (.aload_n 0, 1) := by decide +kernel
theorem dX8_into_31 : decode cX8_into 31 = .ok (.bipush (-2), 2) := by decide +kernel
theorem dX8_into_33 : decode cX8_into 33 = .ok (.invokevirtual 59, 3) := by decide +kernel
theorem dX8_into_36 : decode cX8_into 36 = .ok (.ireturn, 1) := by decide +kernel
theorem dX8_is_0 : decode cX8_is 0 = .ok (.aload_n 0, 1) := by decide +kernel
theorem dX8_is_1 : decode cX8_is 1 = .ok (.getfield 10, 3) := by decide +kernel
theorem dX8_is_4 : decode cX8_is 4 = .ok (.iload_n 1, 1) := by decide +kernel
theorem dX8_is_5 : decode cX8_is 5 = .ok (.invokevirtual 108, 3) := by decide +kernel
theorem dX8_is_8 : decode cX8_is 8 = .ok (.ifCond .ne 10, 3) := by decide +kernel
theorem dX8_is_11 : decode cX8_is 11 = .ok (.aload_n 0, 1) := by decide +kernel
theorem dX8_is_12 : decode cX8_is 12 = .ok (.bipush (-2), 2) := by decide +kernel
theorem dX8_is_14 : decode cX8_is 14 = .ok (.invokevirtual 59, 3) := by decide +kernel
theorem dX8_is_17 : decode cX8_is 17 = .ok (.ireturn, 1) := by decide +kernel
theorem dX8_island_0 : decode cX8_island 0 = .ok (.iload_n 1, 1) := by decide +kernel
theorem dX8_island_1 : decode cX8_island 1 = .ok (.iconst 0, 1) := by decide +kernel
theorem dX8_island_2 : decode cX8_island 2 = .ok (.bipush 99, 2) := by decide +kernel
theorem dX8_island_4 : decode cX8_island 4 = .ok (.invokestatic 55, 3) := by decide +kernel
theorem dX8_island_7 : decode cX8_island 7 = .ok (.ifCond .ne 10, 3) := by decide +kernel
theorem dX8_island_10 : decode cX8_island 10 = .ok (.aload_n 0, 1) := by decide +kernel
theorem dX8_island_11 : decode cX8_island 11 = .ok (.bipush (-2), 2) := by decide +kernel
theorem dX8_island_13 : decode cX8_island 13 = .ok (.invokevirtual 59, 3) := by decide +kernel
theorem dX8_island_16 : decode cX8_island 16 = .ok (.ireturn, 1) := by decide +kernel
theorem dX8_island_17 : decode cX8_island 17 = .ok (.aload_n 0, 1) := by decide +kernel
theorem dX8_island_18 : decode cX8_island 18 = .ok (.getfield 10, 3) := by decide +kernel
theorem dX8_island_21 : decode cX8_island 21 = .ok (.getfield 63, 3) := by decide +kernel
theorem dX8_island_24 : decode cX8_island 24 = .ok (.istore_n 2, 1) := by decide +kernel
theorem dX8_island_25 : decode cX8_island 25 = .ok (.aload_n 0, 1) := by decide +kernel
theorem dX8_island_26 : decode cX8_island 26 = .ok (.getfield 10, 3) := by decide +kernel
theorem dX8_island_29 : decode cX8_island 29 = .ok (.iload_n 1, 1) := by decide +kernel
theorem dX8_island_30 : decode cX8_island 30 = .ok (.invokevirtual 67, 3) := by decide +kernel
theorem dX8_island_33 : decode cX8_island 33 = .ok (.iload_n 2, 1) := by decide +kernel
theorem dX8_island_34 : decode cX8_island 34 = .ok (.ireturn, 1) := by decide +kernel
theorem dX8_jar_0 : decode cX8_jar 0 = .ok (.iload_n 1, 1) := by decide +kernel
theorem dX8_jar_1 : decode cX8_jar 1 = .ok (.iconst 0, 1) := by decide +kernel
theorem dX8_jar_2 : decode cX8_jar 2 = .ok (.iconst 5, 1) := by decide +kernel
theorem dX8_jar_3 : decode cX8_jar 3 = .ok (.invokestatic 55, 3) := by decide +kernel
theorem dX8_jar_6 : decode cX8_jar 6 = .ok (.ifCond .ne 10, 3) := by decide +kernel
theorem dX8_jar_9 : decode cX8_jar 9 = .ok (.aload_n 0, 1) := by decide +kernel
theorem dX8_jar_10 : decode cX8_jar 10 = .ok (.bipush (-2), 2) := by decide +kernel
theorem dX8_jar_12 : decode cX8_jar 12 = .ok (.invokevirtual 59, 3) := by decide +kernel
theorem dX8_jar_15 : decode cX8_jar 15 = .ok (.ireturn, 1) := by decide +kernel
theorem dX8_jar_16 : decode cX8_jar 16 = .ok (.aload_n 0, 1) := by decide +kernel
theorem dX8_jar_17 : decode cX8_jar 17 = .ok (.getfield 10, 3) := by decide +kernel
theorem dX8_jar_20 : decode cX8_jar 20 = .ok (.getfield 84, 3) := by decide +kernel
theorem dX8_jar_23 : decode cX8_jar 23 = .ok (.iconst 4, 1) := by decide +kernel
theorem dX8_jar_24 : decode cX8_jar 24 = .ok (.if_icmp .lt 10, 3) := by decide +kernel
theorem dX8_jar_34 : decode cX8_jar 34 = .ok (.aload_n 0, 1) := by decide +kernel
theorem dX8_jar_35 : decode cX8_jar 35 = .ok (.getfield 10, 3) := by decide +kernel
theorem dX8_jar_38 : decode cX8_jar 38 = .ok (.getfield 71, 3) := by decide +kernel
theorem dX8_jar_41 : decode cX8_jar 41 = .ok (.invokevirtual 75, 3) := by decide +kernel
theorem dX8_jar_44 : decode cX8_jar 44 = .ok (.aload_n 0, 1) := by decide +kernel
theorem dX8_jar_45 : decode cX8_jar 45 = .ok (.getfield 10, 3) := by decide +kernel
theorem dX8_jar_48 : decode cX8_jar 48 = .ok (.iload_n 1, 1) := by decide +kernel
theorem dX8_jar_49 : decode cX8_jar 49 = .ok (.invokevirtual 87, 3) := by decide +kernel
theorem dX8_jar_52 : decode cX8_jar 52 = .ok (.ireturn, 1) := by decide +kernel
theorem dX8_keeps_0 : decode cX8_keeps 0 = .ok (.aload_n 0, 1) := by decide +kernel
theorem dX8_keeps_1 : decode cX8_keeps 1 = .ok (.getfield 10, 3) := by decide +kernel
theorem dX8_keeps_4 : decode cX8_keeps 4 = .ok (.iload_n 1, 1) := by decide +kernel
theorem dX8_keeps_5 : decode cX8_keeps 5 = .ok (.invokevirtual 112, 3) := by decide +kernel
theorem dX8_keeps_8 : decode cX8_keeps 8 = .ok (.ifCond .eq 13, 3) := by decide +kernel
theorem dX8_keeps_21 : decode cX8_keeps 21 = .ok (.aload_n 0, 1) := by decide +kernel
theorem dX8_keeps_22 : decode cX8_keeps 22 = .ok (.bipush (-2), 2) := by decide +kernel
theorem dX8_keeps_24 : decode cX8_keeps 24 = .ok (.invokevirtual 59, 3) := by decide +kernel
theorem dX8_keeps_27 : decode cX8_keeps 27 = .ok (.ireturn, 1) := by decide +kernel
theorem dX8_kinds_0 : decode cX8_kinds 0 = .ok (.aload_n 0, 1) := by decide +kernel
theorem dX8_kinds_1 : decode cX8_kinds 1 = .ok (.getfield 10, 3) := by decide +kernel
theorem dX8_kinds_4 : decode cX8_kinds 4 = .ok (.iload_n 1, 1) := by decide +kernel
theorem dX8_kinds_5 : decode cX8_kinds 5 = .ok (.invokevirtual 112, 3) := by decide +kernel
theorem dX8_kinds_8 : decode cX8_kinds 8 = .ok (.ifCond .ne 10, 3) := by decide +kernel
theorem dX8_kinds_11 : decode cX8_kinds 11 = .ok (.aload_n 0, 1) := by decide +kernel
theorem dX8_kinds_12 : decode cX8_kinds 12 = .ok (.bipush (-2), 2) := by decide +kernel
theorem dX8_kinds_14 : decode cX8_kinds 14 = .ok (.invokevirtual 59, 3) := by decide +kernel
theorem dX8_kinds_17 : decode cX8_kinds 17 = .ok (.ireturn, 1) := by decide +kernel
theorem dX8_ladle_0 : decode cX8_ladle 0 = .ok (.aload_n 0, 1) := by decide +kernel
theorem dX8_ladle_1 : decode cX8_ladle 1 = .ok (.getfield 10, 3) := by decide +kernel
theorem dX8_ladle_4 : decode cX8_ladle 4 = .ok (.iload_n 1, 1) := by decide +kernel
theorem dX8_ladle_5 : decode cX8_ladle 5 = .ok (.invokevirtual 108, 3) := by decide +kernel
theorem dX8_ladle_8 : decode cX8_ladle 8 = .ok (.ifCond .eq 14, 3) := by decide +kernel
theorem dX8_ladle_22 : decode cX8_ladle 22 = .ok (.aload_n 0, 1) := by decide +kernel
theorem dX8_ladle_23 : decode cX8_ladle 23 = .ok (.bipush (-2), 2) := by decide +kernel
theorem dX8_ladle_25 : decode cX8_ladle 25 = .ok (.invokevirtual 59, 3) := by decide +kernel
theorem dX8_ladle_28 : decode cX8_ladle 28 = .ok (.ireturn, 1) := by decide +kernel
theorem dX8_look_0 : decode cX8_look 0 = .ok (.aload_n 0, 1) := by decide +kernel
theorem dX8_look_1 : decode cX8_look 1 = .ok (.getfield 10, 3) := by decide +kernel
theorem dX8_look_4 : decode cX8_look 4 = .ok (.iload_n 1, 1) := by decide +kernel
theorem dX8_look_5 : decode cX8_look 5 = .ok (.invokevirtual 108, 3) := by decide +kernel
theorem dX8_look_8 : decode cX8_look 8 = .ok (.ifCond .ne 10, 3) := by decide +kernel
theorem dX8_look_11 : decode cX8_look 11 = .ok (.aload_n 0, 1) := by decide +kernel
theorem dX8_look_12 : decode cX8_look 12 = .ok (.bipush (-2), 2) := by decide +kernel
theorem dX8_look_14 : decode cX8_look 14 = .ok (.invokevirtual 59, 3) := by decide +kernel
theorem dX8_look_17 : decode cX8_look 17 = .ok (.ireturn, 1) := by decide +kernel
theorem dX8_mark_0 : decode cX8_mark 0 = .ok (.aload_n 0, 1) := by decide +kernel
theorem dX8_mark_1 : decode cX8_mark 1 = .ok (.getfield 10, 3) := by decide +kernel
theorem dX8_mark_4 : decode cX8_mark 4 = .ok (.iload_n 1, 1) := by decide +kernel
theorem dX8_mark_5 : decode cX8_mark 5 = .ok (.invokevirtual 112, 3) := by decide +kernel
theorem dX8_mark_8 : decode cX8_mark 8 = .ok (.ifCond .eq 34, 3) := by decide +kernel
theorem dX8_mark_42 : decode cX8_mark 42 = .ok (.aload_n 0, 1) := by decide +kernel
theorem dX8_mark_43 : decode cX8_mark 43 = .ok (.bipush (-2), 2) := by decide +kernel
theorem dX8_mark_45 : decode cX8_mark 45 = .ok (.invokevirtual 59, 3) := by decide +kernel
theorem dX8_mark_48 : decode cX8_mark 48 = .ok (.ireturn, 1) := by decide +kernel
theorem dX8_noons_0 : decode cX8_noons 0 = .ok (.iload_n 1, 1) := by decide +kernel
theorem dX8_noons_1 : decode cX8_noons 1 = .ok (.iconst 0, 1) := by decide +kernel
theorem dX8_noons_2 : decode cX8_noons 2 = .ok (.ldc 229, 2) := by decide +kernel
theorem dX8_noons_4 : decode cX8_noons 4 = .ok (.invokestatic 55, 3) := by decide +kernel
theorem dX8_noons_7 : decode cX8_noons 7 = .ok (.ifCond .eq 13, 3) := by decide +kernel
theorem dX8_noons_10 : decode cX8_noons 10 = .ok (.iload_n 2, 1) := by decide +kernel
theorem dX8_noons_11 : decode cX8_noons 11 = .ok (.iconst 0, 1) := by decide +kernel
theorem dX8_noons_12 : decode cX8_noons 12 = .ok (.bipush 60, 2) := by decide +kernel
theorem dX8_noons_14 : decode cX8_noons 14 = .ok (.invokestatic 55, 3) := by decide +kernel
theorem dX8_noons_17 : decode cX8_noons 17 = .ok (.ifCond .ne 10, 3) := by decide +kernel
theorem dX8_noons_20 : decode cX8_noons 20 = .ok (.aload_n 0, 1) := by decide +kernel
theorem dX8_noons_21 : decode cX8_noons 21 = .ok (.bipush (-2), 2) := by decide +kernel
theorem dX8_noons_23 : decode cX8_noons 23 = .ok (.invokevirtual 59, 3) := by decide +kernel
theorem dX8_noons_26 : decode cX8_noons 26 = .ok (.ireturn, 1) := by decide +kernel
theorem dX8_noons_27 : decode cX8_noons 27 = .ok (.aload_n 0, 1) := by decide +kernel
theorem dX8_noons_28 : decode cX8_noons 28 = .ok (.getfield 16, 3) := by decide +kernel
theorem dX8_noons_31 : decode cX8_noons 31 = .ok (.aload_n 0, 1) := by decide +kernel
theorem dX8_noons_32 : decode cX8_noons 32 = .ok (.getfield 10, 3) := by decide +kernel
theorem dX8_noons_35 : decode cX8_noons 35 = .ok (.invokevirtual 104, 3) := by decide +kernel
theorem dX8_noons_38 : decode cX8_noons 38 = .ok (.iload_n 1, 1) := by decide +kernel
theorem dX8_noons_39 : decode cX8_noons 39 = .ok (.i2l, 1) := by decide +kernel
theorem dX8_noons_40 : decode cX8_noons 40 = .ok (.lstore_n 3, 1) := by decide +kernel
theorem dX8_noons_41 : decode cX8_noons 41 = .ok (.iconst 0, 1) := by decide +kernel
theorem dX8_noons_42 : decode cX8_noons 42 = .ok (.istore 5, 2) := by decide +kernel
theorem dX8_noons_44 : decode cX8_noons 44 = .ok (.iload 5, 2) := by decide +kernel
theorem dX8_noons_46 : decode cX8_noons 46 = .ok (.iload_n 2, 1) := by decide +kernel
theorem dX8_noons_47 : decode cX8_noons 47 = .ok (.if_icmp .ge 116, 3) := by decide +kernel
theorem dX8_noons_50 : decode cX8_noons 50 = .ok (.lload_n 3, 1) := by decide +kernel
theorem dX8_noons_51 : decode cX8_noons 51 = .ok (.ldc2_w 230, 3) := by decide +kernel
theorem dX8_noons_54 : decode cX8_noons 54 = .ok (.lmul, 1) := by decide +kernel
theorem dX8_noons_55 : decode cX8_noons 55 = .ok (.ldc2_w 232, 3) := by decide +kernel
theorem dX8_noons_58 : decode cX8_noons 58 = .ok (.ladd, 1) := by decide +kernel
theorem dX8_noons_59 : decode cX8_noons 59 = .ok (.ldc2_w 234, 3) := by decide +kernel
theorem dX8_noons_62 : decode cX8_noons 62 = .ok (.lrem, 1) := by decide +kernel
theorem dX8_noons_63 : decode cX8_noons 63 = .ok (.lstore_n 3, 1) := by decide +kernel
theorem dX8_noons_64 : decode cX8_noons 64 = .ok (.lload_n 3, 1) := by decide +kernel
theorem dX8_noons_65 : decode cX8_noons 65 = .ok (.ldc2_w 236, 3) := by decide +kernel
theorem dX8_noons_68 : decode cX8_noons 68 = .ok (.ldiv, 1) := by decide +kernel
theorem dX8_noons_69 : decode cX8_noons 69 = .ok (.ldc2_w 238, 3) := by decide +kernel
theorem dX8_noons_72 : decode cX8_noons 72 = .ok (.lrem, 1) := by decide +kernel
theorem dX8_noons_73 : decode cX8_noons 73 = .ok (.l2i, 1) := by decide +kernel
theorem dX8_noons_74 : decode cX8_noons 74 = .ok (.istore 6, 2) := by decide +kernel
theorem dX8_noons_76 : decode cX8_noons 76 = .ok (.lload_n 3, 1) := by decide +kernel
theorem dX8_noons_77 : decode cX8_noons 77 = .ok (.ldc2_w 240, 3) := by decide +kernel
theorem dX8_noons_80 : decode cX8_noons 80 = .ok (.ldiv, 1) := by decide +kernel
theorem dX8_noons_81 : decode cX8_noons 81 = .ok (.ldc2_w 242, 3) := by decide +kernel
theorem dX8_noons_84 : decode cX8_noons 84 = .ok (.lrem, 1) := by decide +kernel
theorem dX8_noons_85 : decode cX8_noons 85 = .ok (.l2i, 1) := by decide +kernel
theorem dX8_noons_86 : decode cX8_noons 86 = .ok (.istore 7, 2) := by decide +kernel
theorem dX8_noons_88 : decode cX8_noons 88 = .ok (.aload_n 0, 1) := by decide +kernel
theorem dX8_noons_89 : decode cX8_noons 89 = .ok (.getfield 16, 3) := by decide +kernel
theorem dX8_noons_92 : decode cX8_noons 92 = .ok (.iload 6, 2) := by decide +kernel
theorem dX8_noons_94 : decode cX8_noons 94 = .ok (.invokevirtual 108, 3) := by decide +kernel
theorem dX8_noons_97 : decode cX8_noons 97 = .ok (.ifCond .eq 39, 3) := by decide +kernel
theorem dX8_noons_136 : decode cX8_noons 136 = .ok (.lload_n 3, 1) := by decide +kernel
theorem dX8_noons_137 : decode cX8_noons 137 = .ok (.ldc2_w 244, 3) := by decide +kernel
theorem dX8_noons_140 : decode cX8_noons 140 = .ok (.ldiv, 1) := by decide +kernel
theorem dX8_noons_141 : decode cX8_noons 141 = .ok (.ldc2_w 246, 3) := by decide +kernel
theorem dX8_noons_144 : decode cX8_noons 144 = .ok (.lrem, 1) := by decide +kernel
theorem dX8_noons_145 : decode cX8_noons 145 = .ok (.lconst 0, 1) := by decide +kernel
theorem dX8_noons_146 : decode cX8_noons 146 = .ok (.lcmp, 1) := by decide +kernel
theorem dX8_noons_147 : decode cX8_noons 147 = .ok (.ifCond .ne 10, 3) := by decide +kernel
theorem dX8_noons_150 : decode cX8_noons 150 = .ok (.aload_n 0, 1) := by decide +kernel
theorem dX8_noons_151 : decode cX8_noons 151 = .ok (.getfield 16, 3) := by decide +kernel
theorem dX8_noons_154 : decode cX8_noons 154 = .ok (.invokevirtual 248, 3) := by decide +kernel
theorem dX8_noons_157 : decode cX8_noons 157 = .ok (.iinc 5 1, 3) := by decide +kernel
theorem dX8_noons_160 : decode cX8_noons 160 = .ok (.goto (-116), 3) := by decide +kernel
theorem dX8_noons_163 : decode cX8_noons 163 = .ok (.aload_n 0, 1) := by decide +kernel
theorem dX8_noons_164 : decode cX8_noons 164 = .ok (.getfield 16, 3) := by decide +kernel
theorem dX8_noons_167 : decode cX8_noons 167 = .ok (.invokevirtual 251, 3) := by decide +kernel
theorem dX8_noons_170 : decode cX8_noons 170 = .ok (.ireturn, 1) := by decide +kernel
theorem dX8_note_0 : decode cX8_note 0 = .ok (.aload_n 0, 1) := by decide +kernel
theorem dX8_note_1 : decode cX8_note 1 = .ok (.getfield 10, 3) := by decide +kernel
theorem dX8_note_4 : decode cX8_note 4 = .ok (.iload_n 1, 1) := by decide +kernel
theorem dX8_note_5 : decode cX8_note 5 = .ok (.invokevirtual 108, 3) := by decide +kernel
theorem dX8_note_8 : decode cX8_note 8 = .ok (.ifCond .eq 34, 3) := by decide +kernel
theorem dX8_note_42 : decode cX8_note 42 = .ok (.aload_n 0, 1) := by decide +kernel
theorem dX8_note_43 : decode cX8_note 43 = .ok (.bipush (-2), 2) := by decide +kernel
theorem dX8_note_45 : decode cX8_note 45 = .ok (.invokevirtual 59, 3) := by decide +kernel
theorem dX8_note_48 : decode cX8_note 48 = .ok (.ireturn, 1) := by decide +kernel
theorem dX8_of_0 : decode cX8_of 0 = .ok (.aload_n 0, 1) := by decide +kernel
theorem dX8_of_1 : decode cX8_of 1 = .ok (.getfield 10, 3) := by decide +kernel
theorem dX8_of_4 : decode cX8_of 4 = .ok (.iload_n 1, 1) := by decide +kernel
theorem dX8_of_5 : decode cX8_of 5 = .ok (.invokevirtual 108, 3) := by decide +kernel
theorem dX8_of_8 : decode cX8_of 8 = .ok (.ifCond .ne 10, 3) := by decide +kernel
theorem dX8_of_11 : decode cX8_of 11 = .ok (.aload_n 0, 1) := by decide +kernel
theorem dX8_of_12 : decode cX8_of 12 = .ok (.bipush (-2), 2) := by decide +kernel
theorem dX8_of_14 : decode cX8_of 14 = .ok (.invokevirtual 59, 3) := by decide +kernel
theorem dX8_of_17 : decode cX8_of 17 = .ok (.ireturn, 1) := by decide +kernel
theorem dX8_part_0 : decode cX8_part 0 = .ok (.iload_n 1, 1) := by decide +kernel
theorem dX8_part_1 : decode cX8_part 1 = .ok (.lookupswitch 37 #[(0, 27), (1, 32)], 27) := by decide +kernel
theorem dX8_part_28 : decode cX8_part 28 = .ok (.aload_n 0, 1) := by decide +kernel
theorem dX8_part_29 : decode cX8_part 29 = .ok (.getfield 48, 3) := by decide +kernel
theorem dX8_part_32 : decode cX8_part 32 = .ok (.lreturn, 1) := by decide +kernel
theorem dX8_part_33 : decode cX8_part 33 = .ok (.aload_n 0, 1) := by decide +kernel
theorem dX8_part_34 : decode cX8_part 34 = .ok (.getfield 52, 3) := by decide +kernel
theorem dX8_part_37 : decode cX8_part 37 = .ok (.lreturn, 1) := by decide +kernel
theorem dX8_part_38 : decode cX8_part 38 = .ok (.aload_n 0, 1) := by decide +kernel
theorem dX8_part_39 : decode cX8_part 39 = .ok (.bipush (-2), 2) := by decide +kernel
theorem dX8_part_41 : decode cX8_part 41 = .ok (.invokevirtual 59, 3) := by decide +kernel
theorem dX8_part_44 : decode cX8_part 44 = .ok (.i2l, 1) := by decide +kernel
theorem dX8_part_45 : decode cX8_part 45 = .ok (.lreturn, 1) := by decide +kernel
theorem dX8_pours_0 : decode cX8_pours 0 = .ok (.aload_n 0, 1) := by decide +kernel
theorem dX8_pours_1 : decode cX8_pours 1 = .ok (.getfield 10, 3) := by decide +kernel
theorem dX8_pours_4 : decode cX8_pours 4 = .ok (.iload_n 1, 1) := by decide +kernel
theorem dX8_pours_5 : decode cX8_pours 5 = .ok (.invokevirtual 112, 3) := by decide +kernel
theorem dX8_pours_8 : decode cX8_pours 8 = .ok (.ifCond .eq 19, 3) := by decide +kernel
theorem dX8_pours_27 : decode cX8_pours 27 = .ok (.aload_n 0, 1) := by decide +kernel
theorem dX8_pours_28 : decode cX8_pours 28 = .ok (.bipush (-2), 2) := by decide +kernel
theorem dX8_pours_30 : decode cX8_pours 30 = .ok (.invokevirtual 59, 3) := by decide +kernel
theorem dX8_pours_33 : decode cX8_pours 33 = .ok (.ireturn, 1) := by decide +kernel
theorem dX8_read_0 : decode cX8_read 0 = .ok (.aload_n 0, 1) := by decide +kernel
theorem dX8_read_1 : decode cX8_read 1 = .ok (.getfield 30, 3) := by decide +kernel
theorem dX8_read_4 : decode cX8_read 4 = .ok (.aload_n 0, 1) := by decide +kernel
theorem dX8_read_5 : decode cX8_read 5 = .ok (.getfield 16, 3) := by decide +kernel
theorem dX8_read_8 : decode cX8_read 8 = .ok (.invokevirtual 100, 3) := by decide +kernel
theorem dX8_read_11 : decode cX8_read 11 = .ok (.istore_n 1, 1) := by decide +kernel
theorem dX8_read_12 : decode cX8_read 12 = .ok (.iload_n 1, 1) := by decide +kernel
theorem dX8_read_13 : decode cX8_read 13 = .ok (.ifCond .le 14, 3) := by decide +kernel
theorem dX8_read_27 : decode cX8_read 27 = .ok (.iload_n 1, 1) := by decide +kernel
theorem dX8_read_28 : decode cX8_read 28 = .ok (.ireturn, 1) := by decide +kernel
theorem dX8_refused_0 : decode cX8_refused 0 = .ok (.iload_n 1, 1) := by decide +kernel
theorem dX8_refused_1 : decode cX8_refused 1 = .ok (.bipush (-2), 2) := by decide +kernel
theorem dX8_refused_3 : decode cX8_refused 3 = .ok (.if_icmp .ne 16, 3) := by decide +kernel
theorem dX8_refused_6 : decode cX8_refused 6 = .ok (.aload_n 0, 1) := by decide +kernel
theorem dX8_refused_7 : decode cX8_refused 7 = .ok (.dup, 1) := by decide +kernel
theorem dX8_refused_8 : decode cX8_refused 8 = .ok (.getfield 254, 3) := by decide +kernel
theorem dX8_refused_11 : decode cX8_refused 11 = .ok (.iconst 1, 1) := by decide +kernel
theorem dX8_refused_12 : decode cX8_refused 12 = .ok (.iadd, 1) := by decide +kernel
theorem dX8_refused_13 : decode cX8_refused 13 = .ok (.putfield 254, 3) := by decide +kernel
theorem dX8_refused_16 : decode cX8_refused 16 = .ok (.goto 32, 3) := by decide +kernel
theorem dX8_refused_19 : decode cX8_refused 19 = .ok (.iload_n 1, 1) := by decide +kernel
theorem dX8_refused_20 : decode cX8_refused 20 = .ok (.bipush (-3), 2) := by decide +kernel
theorem dX8_refused_22 : decode cX8_refused 22 = .ok (.if_icmp .ne 16, 3) := by decide +kernel
theorem dX8_refused_25 : decode cX8_refused 25 = .ok (.aload_n 0, 1) := by decide +kernel
theorem dX8_refused_26 : decode cX8_refused 26 = .ok (.dup, 1) := by decide +kernel
theorem dX8_refused_27 : decode cX8_refused 27 = .ok (.getfield 257, 3) := by decide +kernel
theorem dX8_refused_30 : decode cX8_refused 30 = .ok (.iconst 1, 1) := by decide +kernel
theorem dX8_refused_31 : decode cX8_refused 31 = .ok (.iadd, 1) := by decide +kernel
theorem dX8_refused_32 : decode cX8_refused 32 = .ok (.putfield 257, 3) := by decide +kernel
theorem dX8_refused_35 : decode cX8_refused 35 = .ok (.goto 13, 3) := by decide +kernel
theorem dX8_refused_38 : decode cX8_refused 38 = .ok (.aload_n 0, 1) := by decide +kernel
theorem dX8_refused_39 : decode cX8_refused 39 = .ok (.dup, 1) := by decide +kernel
theorem dX8_refused_40 : decode cX8_refused 40 = .ok (.getfield 260, 3) := by decide +kernel
theorem dX8_refused_43 : decode cX8_refused 43 = .ok (.iconst 1, 1) := by decide +kernel
theorem dX8_refused_44 : decode cX8_refused 44 = .ok (.iadd, 1) := by decide +kernel
theorem dX8_refused_45 : decode cX8_refused 45 = .ok (.putfield 260, 3) := by decide +kernel
theorem dX8_refused_48 : decode cX8_refused 48 = .ok (.iload_n 1, 1) := by decide +kernel
theorem dX8_refused_49 : decode cX8_refused 49 = .ok (.ireturn, 1) := by decide +kernel
theorem dX8_round_0 : decode cX8_round 0 = .ok (.aload_n 0, 1) := by decide +kernel
theorem dX8_round_1 : decode cX8_round 1 = .ok (.getfield 10, 3) := by decide +kernel
theorem dX8_round_4 : decode cX8_round 4 = .ok (.iload_n 1, 1) := by decide +kernel
theorem dX8_round_5 : decode cX8_round 5 = .ok (.invokevirtual 112, 3) := by decide +kernel
theorem dX8_round_8 : decode cX8_round 8 = .ok (.ifCond .eq 22, 3) := by decide +kernel
theorem dX8_round_30 : decode cX8_round 30 = .ok (.aload_n 0, 1) := by decide +kernel
theorem dX8_round_31 : decode cX8_round 31 = .ok (.bipush (-2), 2) := by decide +kernel
theorem dX8_round_33 : decode cX8_round 33 = .ok (.invokevirtual 59, 3) := by decide +kernel
theorem dX8_round_36 : decode cX8_round 36 = .ok (.pop, 1) := by decide +kernel
theorem dX8_round_37 : decode cX8_round 37 = .ok (.bipush (-10), 2) := by decide +kernel
theorem dX8_round_39 : decode cX8_round 39 = .ok (.ireturn, 1) := by decide +kernel
theorem dX8_sells_0 : decode cX8_sells 0 = .ok (.aload_n 0, 1) := by decide +kernel
theorem dX8_sells_1 : decode cX8_sells 1 = .ok (.getfield 10, 3) := by decide +kernel
theorem dX8_sells_4 : decode cX8_sells 4 = .ok (.iload_n 1, 1) := by decide +kernel
theorem dX8_sells_5 : decode cX8_sells 5 = .ok (.invokevirtual 112, 3) := by decide +kernel
theorem dX8_sells_8 : decode cX8_sells 8 = .ok (.ifCond .ne 10, 3) := by decide +kernel
theorem dX8_sells_11 : decode cX8_sells 11 = .ok (.aload_n 0, 1) := by decide +kernel
theorem dX8_sells_12 : decode cX8_sells 12 = .ok (.bipush (-2), 2) := by decide +kernel
theorem dX8_sells_14 : decode cX8_sells 14 = .ok (.invokevirtual 59, 3) := by decide +kernel
theorem dX8_sells_17 : decode cX8_sells 17 = .ok (.ireturn, 1) := by decide +kernel
theorem dX8_spilt_0 : decode cX8_spilt 0 = .ok (.aload_n 0, 1) := by decide +kernel
theorem dX8_spilt_1 : decode cX8_spilt 1 = .ok (.getfield 10, 3) := by decide +kernel
theorem dX8_spilt_4 : decode cX8_spilt 4 = .ok (.iload_n 1, 1) := by decide +kernel
theorem dX8_spilt_5 : decode cX8_spilt 5 = .ok (.invokevirtual 112, 3) := by decide +kernel
theorem dX8_spilt_8 : decode cX8_spilt 8 = .ok (.ifCond .eq 33, 3) := by decide +kernel
theorem dX8_spilt_41 : decode cX8_spilt 41 = .ok (.aload_n 0, 1) := by decide +kernel
theorem dX8_spilt_42 : decode cX8_spilt 42 = .ok (.bipush (-2), 2) := by decide +kernel
theorem dX8_spilt_44 : decode cX8_spilt 44 = .ok (.invokevirtual 59, 3) := by decide +kernel
theorem dX8_spilt_47 : decode cX8_spilt 47 = .ok (.ireturn, 1) := by decide +kernel
theorem dX8_status_0 : decode cX8_status 0 = .ok (.iload_n 1, 1) := by decide +kernel
theorem dX8_status_1 : decode cX8_status 1 = .ok (.tableswitch 42 0 2 #[27, 32, 37], 27) := by decide +kernel
theorem dX8_status_28 : decode cX8_status 28 = .ok (.aload_n 0, 1) := by decide +kernel
theorem dX8_status_29 : decode cX8_status 29 = .ok (.getfield 254, 3) := by decide +kernel
theorem dX8_status_32 : decode cX8_status 32 = .ok (.ireturn, 1) := by decide +kernel
theorem dX8_status_33 : decode cX8_status 33 = .ok (.aload_n 0, 1) := by decide +kernel
theorem dX8_status_34 : decode cX8_status 34 = .ok (.getfield 257, 3) := by decide +kernel
theorem dX8_status_37 : decode cX8_status 37 = .ok (.ireturn, 1) := by decide +kernel
theorem dX8_status_38 : decode cX8_status 38 = .ok (.aload_n 0, 1) := by decide +kernel
theorem dX8_status_39 : decode cX8_status 39 = .ok (.getfield 260, 3) := by decide +kernel
theorem dX8_status_42 : decode cX8_status 42 = .ok (.ireturn, 1) := by decide +kernel
theorem dX8_status_43 : decode cX8_status 43 = .ok (.aload_n 0, 1) := by decide +kernel
theorem dX8_status_44 : decode cX8_status 44 = .ok (.bipush (-2), 2) := by decide +kernel
theorem dX8_status_46 : decode cX8_status 46 = .ok (.invokevirtual 59, 3) := by decide +kernel
theorem dX8_status_49 : decode cX8_status 49 = .ok (.pop, 1) := by decide +kernel
theorem dX8_status_50 : decode cX8_status 50 = .ok (.iconst (-1), 1) := by decide +kernel
theorem dX8_status_51 : decode cX8_status 51 = .ok (.ireturn, 1) := by decide +kernel
theorem dX8_two_0 : decode cX8_two 0 = .ok (.iload_n 1, 1) := by decide +kernel
theorem dX8_two_1 : decode cX8_two 1 = .ok (.iconst (-1), 1) := by decide +kernel
theorem dX8_two_2 : decode cX8_two 2 = .ok (.if_icmp .ge 13, 3) := by decide +kernel
theorem dX8_two_5 : decode cX8_two 5 = .ok (.aload_n 0, 1) := by decide +kernel
theorem dX8_two_6 : decode cX8_two 6 = .ok (.bipush (-2), 2) := by decide +kernel
theorem dX8_two_8 : decode cX8_two 8 = .ok (.invokevirtual 59, 3) := by decide +kernel
theorem dX8_two_11 : decode cX8_two 11 = .ok (.pop, 1) := by decide +kernel
theorem dX8_two_12 : decode cX8_two 12 = .ok (.bipush (-10), 2) := by decide +kernel
theorem dX8_two_14 : decode cX8_two 14 = .ok (.ireturn, 1) := by decide +kernel
theorem dX8_two_15 : decode cX8_two 15 = .ok (.iconst 0, 1) := by decide +kernel
theorem dX8_two_16 : decode cX8_two 16 = .ok (.istore_n 2, 1) := by decide +kernel
theorem dX8_two_17 : decode cX8_two 17 = .ok (.iconst 0, 1) := by decide +kernel
theorem dX8_two_18 : decode cX8_two 18 = .ok (.istore_n 3, 1) := by decide +kernel
theorem dX8_two_19 : decode cX8_two 19 = .ok (.iload_n 3, 1) := by decide +kernel
theorem dX8_two_20 : decode cX8_two 20 = .ok (.aload_n 0, 1) := by decide +kernel
theorem dX8_two_21 : decode cX8_two 21 = .ok (.getfield 10, 3) := by decide +kernel
theorem dX8_two_24 : decode cX8_two 24 = .ok (.getfield 63, 3) := by decide +kernel
theorem dX8_two_27 : decode cX8_two 27 = .ok (.if_icmp .ge 56, 3) := by decide +kernel
theorem dX8_two_83 : decode cX8_two 83 = .ok (.iload_n 1, 1) := by decide +kernel
theorem dX8_two_84 : decode cX8_two 84 = .ok (.iconst (-1), 1) := by decide +kernel
theorem dX8_two_85 : decode cX8_two 85 = .ok (.if_icmp .ne 7, 3) := by decide +kernel
theorem dX8_two_88 : decode cX8_two 88 = .ok (.iload_n 2, 1) := by decide +kernel
theorem dX8_two_89 : decode cX8_two 89 = .ok (.goto 5, 3) := by decide +kernel
theorem dX8_two_92 : decode cX8_two 92 = .ok (.bipush (-5), 2) := by decide +kernel
theorem dX8_two_94 : decode cX8_two 94 = .ok (.ireturn, 1) := by decide +kernel
theorem dX8_type_0 : decode cX8_type 0 = .ok (.iload_n 1, 1) := by decide +kernel
theorem dX8_type_1 : decode cX8_type 1 = .ok (.iconst 0, 1) := by decide +kernel
theorem dX8_type_2 : decode cX8_type 2 = .ok (.bipush 127, 2) := by decide +kernel
theorem dX8_type_4 : decode cX8_type 4 = .ok (.invokestatic 55, 3) := by decide +kernel
theorem dX8_type_7 : decode cX8_type 7 = .ok (.ifCond .ne 10, 3) := by decide +kernel
theorem dX8_type_10 : decode cX8_type 10 = .ok (.aload_n 0, 1) := by decide +kernel
theorem dX8_type_11 : decode cX8_type 11 = .ok (.bipush (-2), 2) := by decide +kernel
theorem dX8_type_13 : decode cX8_type 13 = .ok (.invokevirtual 59, 3) := by decide +kernel
theorem dX8_type_16 : decode cX8_type 16 = .ok (.ireturn, 1) := by decide +kernel
theorem dX8_type_17 : decode cX8_type 17 = .ok (.aload_n 0, 1) := by decide +kernel
theorem dX8_type_18 : decode cX8_type 18 = .ok (.getfield 30, 3) := by decide +kernel
theorem dX8_type_21 : decode cX8_type 21 = .ok (.invokevirtual 90, 3) := by decide +kernel
theorem dX8_type_24 : decode cX8_type 24 = .ok (.ifCond .eq 10, 3) := by decide +kernel
theorem dX8_type_34 : decode cX8_type 34 = .ok (.aload_n 0, 1) := by decide +kernel
theorem dX8_type_35 : decode cX8_type 35 = .ok (.getfield 30, 3) := by decide +kernel
theorem dX8_type_38 : decode cX8_type 38 = .ok (.iload_n 1, 1) := by decide +kernel
theorem dX8_type_39 : decode cX8_type 39 = .ok (.invokevirtual 94, 3) := by decide +kernel
theorem dX8_type_42 : decode cX8_type 42 = .ok (.ireturn, 1) := by decide +kernel
theorem dX8_undo_0 : decode cX8_undo 0 = .ok (.aload_n 0, 1) := by decide +kernel
theorem dX8_undo_1 : decode cX8_undo 1 = .ok (.getfield 10, 3) := by decide +kernel
theorem dX8_undo_4 : decode cX8_undo 4 = .ok (.getfield 71, 3) := by decide +kernel
theorem dX8_undo_7 : decode cX8_undo 7 = .ok (.aload_n 0, 1) := by decide +kernel
theorem dX8_undo_8 : decode cX8_undo 8 = .ok (.getfield 10, 3) := by decide +kernel
theorem dX8_undo_11 : decode cX8_undo 11 = .ok (.invokevirtual 141, 3) := by decide +kernel
theorem dX8_undo_14 : decode cX8_undo 14 = .ok (.ifCond .ne 10, 3) := by decide +kernel
theorem dX8_undo_17 : decode cX8_undo 17 = .ok (.aload_n 0, 1) := by decide +kernel
theorem dX8_undo_18 : decode cX8_undo 18 = .ok (.bipush (-3), 2) := by decide +kernel
theorem dX8_undo_20 : decode cX8_undo 20 = .ok (.invokevirtual 59, 3) := by decide +kernel
theorem dX8_undo_23 : decode cX8_undo 23 = .ok (.ireturn, 1) := by decide +kernel
theorem dX8_when_0 : decode cX8_when 0 = .ok (.aload_n 0, 1) := by decide +kernel
theorem dX8_when_1 : decode cX8_when 1 = .ok (.getfield 10, 3) := by decide +kernel
theorem dX8_when_4 : decode cX8_when 4 = .ok (.iload_n 1, 1) := by decide +kernel
theorem dX8_when_5 : decode cX8_when 5 = .ok (.invokevirtual 108, 3) := by decide +kernel
theorem dX8_when_8 : decode cX8_when 8 = .ok (.ifCond .ne 10, 3) := by decide +kernel
theorem dX8_when_11 : decode cX8_when 11 = .ok (.aload_n 0, 1) := by decide +kernel
theorem dX8_when_12 : decode cX8_when 12 = .ok (.bipush (-2), 2) := by decide +kernel
theorem dX8_when_14 : decode cX8_when 14 = .ok (.invokevirtual 59, 3) := by decide +kernel
theorem dX8_when_17 : decode cX8_when 17 = .ok (.ireturn, 1) := by decide +kernel
theorem dX8_within_0 : decode cX8_within 0 = .ok (.iload_n 0, 1) := by decide +kernel
theorem dX8_within_1 : decode cX8_within 1 = .ok (.iload_n 1, 1) := by decide +kernel
theorem dX8_within_2 : decode cX8_within 2 = .ok (.if_icmp .lt 12, 3) := by decide +kernel
theorem dX8_within_5 : decode cX8_within 5 = .ok (.iload_n 0, 1) := by decide +kernel
theorem dX8_within_6 : decode cX8_within 6 = .ok (.iload_n 2, 1) := by decide +kernel
theorem dX8_within_7 : decode cX8_within 7 = .ok (.if_icmp .gt 7, 3) := by decide +kernel
theorem dX8_within_10 : decode cX8_within 10 = .ok (.iconst 1, 1) := by decide +kernel
theorem dX8_within_11 : decode cX8_within 11 = .ok (.goto 4, 3) := by decide +kernel
theorem dX8_within_14 : decode cX8_within 14 = .ok (.iconst 0, 1) := by decide +kernel
theorem dX8_within_15 : decode cX8_within 15 = .ok (.ireturn, 1) := by decide +kernel
end
section
def fr0 (cI cB cZ cO : ClassId) (ad : Nat → Nat) : Nat → va_E := fun k => match k with
  | 0 => .inr (6, [.ref (ad 1), .ref (ad 14), .ref (ad 27), .ref (ad 54), .ref (ad 55), .ref (ad 58), .ref (ad 62), .long 0, .long 1, .int 0, .int 0, .int 0])
  | 1 => .inr (1, [.int 0, .int 0, .int 0, .int 0, .int 0, .ref (ad 2), .ref (ad 3), .ref (ad 4), .ref (ad 5), .ref (ad 6), .ref (ad 7), .ref (ad 8), .ref (ad 10), .ref (ad 12)])
  | 2 => .inl (cI, 7, .inl (fun _ => 0))
  | 3 => .inl (cI, 7, .inl (fun _ => 0))
  | 4 => .inl (cI, 7, .inl (fun _ => 0))
  | 5 => .inl (cI, 4, .inl (fun _ => 0))
  | 6 => .inl (cI, 4, .inl (fun _ => 0))
  | 7 => .inl (cI, 4, .inl (fun _ => 0))
  | 8 => .inr (4, [.ref (ad 9), .int 0])
  | 9 => .inl (cI, 24, .inl (fun _ => 0))
  | 10 => .inr (4, [.ref (ad 11), .int 0])
  | 11 => .inl (cI, 24, .inl (fun _ => 0))
  | 12 => .inr (2, [.ref (ad 13), .int 0])
  | 13 => .inl (cI, 88, .inl (fun _ => 0))
  | 14 => .inr (1, [.int 0, .int 0, .int 0, .int 0, .int 0, .ref (ad 15), .ref (ad 16), .ref (ad 17), .ref (ad 18), .ref (ad 19), .ref (ad 20), .ref (ad 21), .ref (ad 23), .ref (ad 25)])
  | 15 => .inl (cI, 7, .inl (fun _ => 0))
  | 16 => .inl (cI, 7, .inl (fun _ => 0))
  | 17 => .inl (cI, 7, .inl (fun _ => 0))
  | 18 => .inl (cI, 4, .inl (fun _ => 0))
  | 19 => .inl (cI, 4, .inl (fun _ => 0))
  | 20 => .inl (cI, 4, .inl (fun _ => 0))
  | 21 => .inr (4, [.ref (ad 22), .int 0])
  | 22 => .inl (cI, 24, .inl (fun _ => 0))
  | 23 => .inr (4, [.ref (ad 24), .int 0])
  | 24 => .inl (cI, 24, .inl (fun _ => 0))
  | 25 => .inr (2, [.ref (ad 26), .int 0])
  | 26 => .inl (cI, 88, .inl (fun _ => 0))
  | 27 => .inl (cO, 2, .inr (.inr (.inr (.inr (fun k => if k = 0 then some (ad 28) else if k = 1 then some (ad 41) else none)))))
  | 28 => .inr (1, [.int 0, .int 0, .int 0, .int 0, .int 0, .ref (ad 29), .ref (ad 30), .ref (ad 31), .ref (ad 32), .ref (ad 33), .ref (ad 34), .ref (ad 35), .ref (ad 37), .ref (ad 39)])
  | 29 => .inl (cI, 7, .inl (fun _ => 0))
  | 30 => .inl (cI, 7, .inl (fun _ => 0))
  | 31 => .inl (cI, 7, .inl (fun _ => 0))
  | 32 => .inl (cI, 4, .inl (fun _ => 0))
  | 33 => .inl (cI, 4, .inl (fun _ => 0))
  | 34 => .inl (cI, 4, .inl (fun _ => 0))
  | 35 => .inr (4, [.ref (ad 36), .int 0])
  | 36 => .inl (cI, 24, .inl (fun _ => 0))
  | 37 => .inr (4, [.ref (ad 38), .int 0])
  | 38 => .inl (cI, 24, .inl (fun _ => 0))
  | 39 => .inr (2, [.ref (ad 40), .int 0])
  | 40 => .inl (cI, 88, .inl (fun _ => 0))
  | 41 => .inr (1, [.int 0, .int 0, .int 0, .int 0, .int 0, .ref (ad 42), .ref (ad 43), .ref (ad 44), .ref (ad 45), .ref (ad 46), .ref (ad 47), .ref (ad 48), .ref (ad 50), .ref (ad 52)])
  | 42 => .inl (cI, 7, .inl (fun _ => 0))
  | 43 => .inl (cI, 7, .inl (fun _ => 0))
  | 44 => .inl (cI, 7, .inl (fun _ => 0))
  | 45 => .inl (cI, 4, .inl (fun _ => 0))
  | 46 => .inl (cI, 4, .inl (fun _ => 0))
  | 47 => .inl (cI, 4, .inl (fun _ => 0))
  | 48 => .inr (4, [.ref (ad 49), .int 0])
  | 49 => .inl (cI, 24, .inl (fun _ => 0))
  | 50 => .inr (4, [.ref (ad 51), .int 0])
  | 51 => .inl (cI, 24, .inl (fun _ => 0))
  | 52 => .inr (2, [.ref (ad 53), .int 0])
  | 53 => .inl (cI, 88, .inl (fun _ => 0))
  | 54 => .inl (cZ, 2, .inl (fun _ => 0))
  | 55 => .inr (5, [.ref (ad 56), .ref (ad 57), .int 0, .int 0, .int 0, .int 0, .int 0])
  | 56 => .inl (cB, 150, .inl (fun _ => 0))
  | 57 => .inl (cI, 3, .inl (fun _ => 0))
  | 58 => .inr (3, [.ref (ad 59), .ref (ad 60), .ref (ad 61), .int 0, .int 0, .int 0])
  | 59 => .inl (cI, 28, .inl (fun _ => 0))
  | 60 => .inl (cI, 244, .inl (fun _ => 0))
  | 61 => .inl (cI, 4, .inl (fun _ => 0))
  | 62 => .inr (0, [.ref (ad 63)])
  | 63 => .inl (cI, 6, .inl (fun _ => 0))
  | 64 => .inr (7, [.ref (ad 65), .ref (ad 66), .ref (ad 67), .ref (ad 68), .long 0, .long 1, .ref (ad 69), .int 0, .ref (ad 70), .ref (ad 71), .int 0, .int 0, .int 0, .int 0, .int 0, .ref (ad 72), .ref (ad 73)])
  | 65 => .inl (cI, 177, .inl (fun _ => 0))
  | 66 => .inl (cI, 354, .inl (fun _ => 0))
  | 67 => .inl (cZ, 2, .inl (fun _ => 0))
  | 68 => .inl (cI, 3, .inl (fun _ => 0))
  | 69 => .inl (cI, 41, .inl (fun _ => 0))
  | 70 => .inl (cI, 6, .inl (fun _ => 0))
  | 71 => .inl (cI, 150, .inl (fun _ => 0))
  | 72 => .inl (cI, 89, .inl (fun _ => 0))
  | _ => .inl (cI, 3, .inl (fun _ => 0))
end
section
set_option maxHeartbeats 4000000 in
set_option maxRecDepth 100000 in
theorem c_within (l : Launch) (G : va_G) (cI cB cZ cO : ClassId) (ad : Nat → Nat) (w : Nat → va_E) (v lo hi : Int32) (u a b : Int) (hu : v.toInt = u) (ha : lo.toInt = a) (hb2 : hi.toInt = b) : MI l G (tyq cI cB cZ cO) yX8_within cX8_within 3 (some .boolean) 0 0 74 ad w [.int v, .int lo, .int hi] (fun r w1 => w1 = w ∧ ((a ≤ u ∧ u ≤ b ∧ r = 1) ∨ (¬ (a ≤ u ∧ u ≤ b) ∧ r = 0))) := by
  refine mk_i (own := "NoonShade") rfl (by decide) (Nat.le_of_ble_eq_true rfl) ?_
  intro p e s m below meth c ls X hD hN hr hlk h hl
  have hx := X.1.1
  have hb := X.1.2.1
  have hown := X.1.2.2.2.1
  have hts := X.1.2.2.2.2
  have hl : lv_has ls 3 [(0, .int v), (1, .int lo), (2, .int hi)] := hl
  refine lv_iload_n hx hb dX8_within_0 rfl (lv_at hl 0 rfl) ?_
  refine lv_iload_n hx hb dX8_within_1 rfl (lv_at hl 1 rfl) ?_
  refine lv_icmp_lt (tgt := 14) hx hb dX8_within_2 (by decide) (fun hc1 => ?_) (fun hc1 => ?_)
  · have hc1 : u < a := i_lt hc1 hu ha
    refine lv_iconst (v := 0) hx hb dX8_within_14 (by decide) ?_
    exact e_z X h hr hlk rfl dX8_within_15 ⟨rfl, Or.inr ⟨by omega, rfl⟩⟩
  · have hc1 : ¬ u < a := i_nlt hc1 hu ha
    refine lv_iload_n hx hb dX8_within_5 rfl (lv_at hl 0 rfl) ?_
    refine lv_iload_n hx hb dX8_within_6 rfl (lv_at hl 2 rfl) ?_
    refine lv_icmp_gt (tgt := 14) hx hb dX8_within_7 (by decide) (fun hc2 => ?_) (fun hc2 => ?_)
    · have hc2 : b < u := i_lt hc2 hb2 hu
      refine lv_iconst (v := 0) hx hb dX8_within_14 (by decide) ?_
      exact e_z X h hr hlk rfl dX8_within_15 ⟨rfl, Or.inr ⟨by omega, rfl⟩⟩
    · have hc2 : ¬ b < u := i_nlt hc2 hb2 hu
      refine lv_iconst (v := 1) hx hb dX8_within_10 (by decide) ?_
      refine lv_goto (tgt := 15) hx hb dX8_within_11 (by decide) ?_
      exact e_z X h hr hlk rfl dX8_within_15 ⟨rfl, Or.inl ⟨by omega, by omega, rfl⟩⟩

set_option maxHeartbeats 4000000 in
set_option maxRecDepth 100000 in
theorem c_hasCaster (l : Launch) (G : va_G) (cI cB cZ cO : ClassId) (ad : Nat → Nat) (w : Nat → va_E) (b : Nat) (q0 q1 q2 q3 q4 : Int32) (fs : List Value) (i : Int32) (a : Int) (ha : q3.toInt = a) (hb0 : b < 74) (f : w b = .inr (1, .int q0 :: .int q1 :: .int q2 :: .int q3 :: .int q4 :: fs)) : MI l G (tyq cI cB cZ cO) yX2_hasCaster cX2_hasCaster 2 (some .boolean) 0 0 74 ad w [.ref (ad b), .int i] (fun r w1 => w1 = w ∧ ((0 ≤ i.toInt ∧ i.toInt < a ∧ r = 1) ∨ (¬ (0 ≤ i.toInt ∧ i.toInt < a) ∧ r = 0))) := by
  refine mk_i (own := "NoonShade$Isle") rfl (by decide) (Nat.le_of_ble_eq_true rfl) ?_
  intro p e s m below meth c ls X hD hN hr hlk h hl
  have hx := X.1.1
  have hb := X.1.2.1
  have hown := X.1.2.2.2.1
  have hts := X.1.2.2.2.2
  have hl : lv_has ls 2 [(0, .ref (ad b)), (1, .int i)] := hl
  refine lv_iload_n hx hb dX2_hasCaster_0 rfl (lv_at hl 1 rfl) ?_
  refine lv_if_lt (tgt := 16) hx hb dX2_hasCaster_1 (by decide) (fun hc1 => ?_) (fun hc1 => ?_)
  · have hc1 : (i).toInt < 0 := i_lt hc1 rfl rfl
    refine lv_iconst (v := 0) hx hb dX2_hasCaster_16 (by decide) ?_
    exact e_z X h hr hlk rfl dX2_hasCaster_17 ⟨rfl, Or.inr ⟨by omega, rfl⟩⟩
  · have hc1 : ¬ (i).toInt < 0 := i_nlt hc1 rfl rfl
    refine lv_iload_n hx hb dX2_hasCaster_4 rfl (lv_at hl 1 rfl) ?_
    refine lv_aload_n hx hb dX2_hasCaster_5 rfl (lv_at hl 0 rfl) ?_
    refine r_get kc2 X h b 3 (by omega) rfl f (by decide) kw_0 rfl dX2_hasCaster_6 ?_
    refine lv_icmp_ge (tgt := 16) hx hb dX2_hasCaster_9 (by decide) (fun hc2 => ?_) (fun hc2 => ?_)
    · have hc2 : a ≤ (i).toInt := i_le hc2 ha rfl
      refine lv_iconst (v := 0) hx hb dX2_hasCaster_16 (by decide) ?_
      exact e_z X h hr hlk rfl dX2_hasCaster_17 ⟨rfl, Or.inr ⟨by omega, rfl⟩⟩
    · have hc2 : ¬ a ≤ (i).toInt := i_nle hc2 ha rfl
      refine lv_iconst (v := 1) hx hb dX2_hasCaster_12 (by decide) ?_
      refine lv_goto (tgt := 17) hx hb dX2_hasCaster_13 (by decide) ?_
      exact e_z X h hr hlk rfl dX2_hasCaster_17 ⟨rfl, Or.inl ⟨by omega, by omega, rfl⟩⟩

set_option maxHeartbeats 4000000 in
set_option maxRecDepth 100000 in
theorem c_hasJar (l : Launch) (G : va_G) (cI cB cZ cO : ClassId) (ad : Nat → Nat) (w : Nat → va_E) (b : Nat) (q0 q1 q2 q3 q4 : Int32) (fs : List Value) (i : Int32) (a : Int) (ha : q4.toInt = a) (hb0 : b < 74) (f : w b = .inr (1, .int q0 :: .int q1 :: .int q2 :: .int q3 :: .int q4 :: fs)) : MI l G (tyq cI cB cZ cO) yX2_hasJar cX2_hasJar 2 (some .boolean) 0 0 74 ad w [.ref (ad b), .int i] (fun r w1 => w1 = w ∧ ((0 ≤ i.toInt ∧ i.toInt < a ∧ r = 1) ∨ (¬ (0 ≤ i.toInt ∧ i.toInt < a) ∧ r = 0))) := by
  refine mk_i (own := "NoonShade$Isle") rfl (by decide) (Nat.le_of_ble_eq_true rfl) ?_
  intro p e s m below meth c ls X hD hN hr hlk h hl
  have hx := X.1.1
  have hb := X.1.2.1
  have hown := X.1.2.2.2.1
  have hts := X.1.2.2.2.2
  have hl : lv_has ls 2 [(0, .ref (ad b)), (1, .int i)] := hl
  refine lv_iload_n hx hb dX2_hasJar_0 rfl (lv_at hl 1 rfl) ?_
  refine lv_if_lt (tgt := 16) hx hb dX2_hasJar_1 (by decide) (fun hc1 => ?_) (fun hc1 => ?_)
  · have hc1 : (i).toInt < 0 := i_lt hc1 rfl rfl
    refine lv_iconst (v := 0) hx hb dX2_hasJar_16 (by decide) ?_
    exact e_z X h hr hlk rfl dX2_hasJar_17 ⟨rfl, Or.inr ⟨by omega, rfl⟩⟩
  · have hc1 : ¬ (i).toInt < 0 := i_nlt hc1 rfl rfl
    refine lv_iload_n hx hb dX2_hasJar_4 rfl (lv_at hl 1 rfl) ?_
    refine lv_aload_n hx hb dX2_hasJar_5 rfl (lv_at hl 0 rfl) ?_
    refine r_get kc2 X h b 4 (by omega) rfl f (by decide) kw_1 rfl dX2_hasJar_6 ?_
    refine lv_icmp_ge (tgt := 16) hx hb dX2_hasJar_9 (by decide) (fun hc2 => ?_) (fun hc2 => ?_)
    · have hc2 : a ≤ (i).toInt := i_le hc2 ha rfl
      refine lv_iconst (v := 0) hx hb dX2_hasJar_16 (by decide) ?_
      exact e_z X h hr hlk rfl dX2_hasJar_17 ⟨rfl, Or.inr ⟨by omega, rfl⟩⟩
    · have hc2 : ¬ a ≤ (i).toInt := i_nle hc2 ha rfl
      refine lv_iconst (v := 1) hx hb dX2_hasJar_12 (by decide) ?_
      refine lv_goto (tgt := 17) hx hb dX2_hasJar_13 (by decide) ?_
      exact e_z X h hr hlk rfl dX2_hasJar_17 ⟨rfl, Or.inl ⟨by omega, by omega, rfl⟩⟩

set_option maxHeartbeats 4000000 in
set_option maxRecDepth 100000 in
theorem c_refused (l : Launch) (G : va_G) (cI cB cZ cO : ClassId) (ad : Nat → Nat) (w : Nat → va_E) (v0 v1 v2 v3 v4 v5 v6 v7 v8 : Value) (bd no fu : Int32) (q : Int32) (f : w 0 = .inr (6, [v0, v1, v2, v3, v4, v5, v6, v7, v8, .int bd, .int no, .int fu])) : MI l G (tyq cI cB cZ cO) yX8_refused cX8_refused 2 (some .int) 0 0 74 ad w [.ref (ad 0), .int q] (fun r w1 => r = q ∧ ∃ x y z : Int32, w1 = va_up w 0 (.inr (6, [v0, v1, v2, v3, v4, v5, v6, v7, v8, .int x, .int y, .int z]))) := by
  refine mk_i (own := "NoonShade") rfl (by decide) (Nat.le_of_ble_eq_true rfl) ?_
  intro p e s m below meth c ls X hD hN hr hlk h hl
  have hx := X.1.1
  have hb := X.1.2.1
  have hown := X.1.2.2.2.1
  have hts := X.1.2.2.2.2
  have hl : lv_has ls 2 [(0, .ref (ad 0)), (1, .int q)] := hl
  refine lv_iload_n hx hb dX8_refused_0 rfl (lv_at hl 1 rfl) ?_
  refine lv_bipush (v := (-2)) hx hb dX8_refused_1 (by decide) ?_
  refine lv_icmp_ne (tgt := 19) hx hb dX8_refused_3 (by decide) (fun hc1 => ?_) (fun hc1 => ?_)
  · have hc1 : ¬ (q).toInt = (-2) := i_ne hc1 rfl rfl
    refine lv_iload_n hx hb dX8_refused_19 rfl (lv_at hl 1 rfl) ?_
    refine lv_bipush (v := (-3)) hx hb dX8_refused_20 (by decide) ?_
    refine lv_icmp_ne (tgt := 38) hx hb dX8_refused_22 (by decide) (fun hc2 => ?_) (fun hc2 => ?_)
    · have hc2 : ¬ (q).toInt = (-3) := i_ne hc2 rfl rfl
      refine lv_aload_n hx hb dX8_refused_38 rfl (lv_at hl 0 rfl) ?_
      refine lv_dup hx hb dX8_refused_39 rfl ?_
      refine r_get kc8 X h 0 11 (by decide) rfl f (by decide) kw_2 rfl dX8_refused_40 ?_
      refine lv_iconst (v := 1) hx hb dX8_refused_43 (by decide) ?_
      refine o_iadd (z := fu + 1) hx hb dX8_refused_44 rfl ?_
      refine r_put kc8 X hD h 0 11 (by decide) rfl f (by decide) kw_2 rfl rfl rfl (Nat.le_of_ble_eq_true rfl) dX8_refused_45 (fun H locs w3 e4 h => ?_)
      have f5 : w3 0 = .inr (6, [v0, v1, v2, v3, v4, v5, v6, v7, v8, .int bd, .int no, .int (fu + 1)]) := (congrFun e4 _).trans (va_up_self _ _ _)
      refine lv_iload_n hx hb dX8_refused_48 rfl (lv_at hl 1 rfl) ?_
      exact e_i X h hr hlk dX8_refused_49 ⟨rfl, _, _, _, e4⟩
    · have hc2 : (q).toInt = (-3) := i_eq hc2 rfl rfl
      refine lv_aload_n hx hb dX8_refused_25 rfl (lv_at hl 0 rfl) ?_
      refine lv_dup hx hb dX8_refused_26 rfl ?_
      refine r_get kc8 X h 0 10 (by decide) rfl f (by decide) kw_3 rfl dX8_refused_27 ?_
      refine lv_iconst (v := 1) hx hb dX8_refused_30 (by decide) ?_
      refine o_iadd (z := no + 1) hx hb dX8_refused_31 rfl ?_
      refine r_put kc8 X hD h 0 10 (by decide) rfl f (by decide) kw_3 rfl rfl rfl (Nat.le_of_ble_eq_true rfl) dX8_refused_32 (fun H locs w6 e7 h => ?_)
      have f8 : w6 0 = .inr (6, [v0, v1, v2, v3, v4, v5, v6, v7, v8, .int bd, .int (no + 1), .int fu]) := (congrFun e7 _).trans (va_up_self _ _ _)
      refine lv_goto (tgt := 48) hx hb dX8_refused_35 (by decide) ?_
      refine lv_iload_n hx hb dX8_refused_48 rfl (lv_at hl 1 rfl) ?_
      exact e_i X h hr hlk dX8_refused_49 ⟨rfl, _, _, _, e7⟩
  · have hc1 : (q).toInt = (-2) := i_eq hc1 rfl rfl
    refine lv_aload_n hx hb dX8_refused_6 rfl (lv_at hl 0 rfl) ?_
    refine lv_dup hx hb dX8_refused_7 rfl ?_
    refine r_get kc8 X h 0 9 (by decide) rfl f (by decide) kw_4 rfl dX8_refused_8 ?_
    refine lv_iconst (v := 1) hx hb dX8_refused_11 (by decide) ?_
    refine o_iadd (z := bd + 1) hx hb dX8_refused_12 rfl ?_
    refine r_put kc8 X hD h 0 9 (by decide) rfl f (by decide) kw_4 rfl rfl rfl (Nat.le_of_ble_eq_true rfl) dX8_refused_13 (fun H locs w9 e10 h => ?_)
    have f11 : w9 0 = .inr (6, [v0, v1, v2, v3, v4, v5, v6, v7, v8, .int (bd + 1), .int no, .int fu]) := (congrFun e10 _).trans (va_up_self _ _ _)
    refine lv_goto (tgt := 48) hx hb dX8_refused_16 (by decide) ?_
    refine lv_iload_n hx hb dX8_refused_48 rfl (lv_at hl 1 rfl) ?_
    exact e_i X h hr hlk dX8_refused_49 ⟨rfl, _, _, _, e10⟩

set_option maxHeartbeats 4000000 in
set_option maxRecDepth 100000 in
theorem c_R_empty (l : Launch) (G : va_G) (cI cB cZ cO : ClassId) (ad : Nat → Nat) (w : Nat → va_E) (b : Nat) (v0 : Value) (z : Int32) (hb0 : b < 74) (f : w b = .inr (4, [v0, .int z])) : MI l G (tyq cI cB cZ cO) yX6_empty cX6_empty 2 (some .int) 0 0 74 ad w [.ref (ad b)] (fun r w1 => z = r ∧ w1 = va_up w b (.inr (4, [v0, .int 0]))) := by
  refine mk_i (own := "NoonShade$Rows") rfl (by decide) (Nat.le_of_ble_eq_true rfl) ?_
  intro p e s m below meth c ls X hD hN hr hlk h hl
  have hx := X.1.1
  have hb := X.1.2.1
  have hown := X.1.2.2.2.1
  have hts := X.1.2.2.2.2
  have hl : lv_has ls 2 [(0, .ref (ad b))] := hl
  refine lv_aload_n hx hb dX6_empty_0 rfl (lv_at hl 0 rfl) ?_
  refine r_get kc6 X h b 1 (by omega) rfl f (by decide) kw_20 rfl dX6_empty_1 ?_
  refine lv_istore_n (lv' := [(1, .int z), (0, .ref (ad b))]) hx hb dX6_empty_4 rfl hl (by decide) rfl (fun ls hl => ?_)
  refine lv_aload_n hx hb dX6_empty_5 rfl (lv_at hl 1 rfl) ?_
  refine lv_iconst (v := 0) hx hb dX6_empty_6 (by decide) ?_
  refine r_put kc6 X hD h b 1 (by omega) rfl f (by decide) kw_20 rfl rfl rfl (Nat.le_of_ble_eq_true rfl) dX6_empty_7 (fun H locs w1 e2 h => ?_)
  have f3 : w1 b = .inr (4, [v0, .int 0]) := (congrFun e2 _).trans (va_up_self _ _ _)
  refine lv_iload_n hx hb dX6_empty_10 rfl (lv_at hl 0 rfl) ?_
  exact e_i X h hr hlk dX6_empty_11 ⟨rfl, e2⟩

set_option maxHeartbeats 4000000 in
set_option maxRecDepth 100000 in
theorem c_P_empty (l : Launch) (G : va_G) (cI cB cZ cO : ClassId) (ad : Nat → Nat) (w : Nat → va_E) (b : Nat) (v0 : Value) (z : Int32) (hb0 : b < 74) (f : w b = .inr (2, [v0, .int z])) : MV l G (tyq cI cB cZ cO) yX4_empty cX4_empty 1 0 0 74 ad w [.ref (ad b)] (fun w1 => w1 = va_up w b (.inr (2, [v0, .int 0]))) := by
  refine mk_v (own := "NoonShade$Past") rfl (by decide) (Nat.le_of_ble_eq_true rfl) ?_
  intro p e s m below meth c ls X hD hN hr hlk h hl
  have hx := X.1.1
  have hb := X.1.2.1
  have hown := X.1.2.2.2.1
  have hts := X.1.2.2.2.2
  have hl : lv_has ls 1 [(0, .ref (ad b))] := hl
  refine lv_aload_n hx hb dX4_empty_0 rfl (lv_at hl 0 rfl) ?_
  refine lv_iconst (v := 0) hx hb dX4_empty_1 (by decide) ?_
  refine r_put kc4 X hD h b 1 (by omega) rfl f (by decide) kw_21 rfl rfl rfl (Nat.le_of_ble_eq_true rfl) dX4_empty_2 (fun H locs w1 e2 h => ?_)
  have f3 : w1 b = .inr (2, [v0, .int 0]) := (congrFun e2 _).trans (va_up_self _ _ _)
  exact e_v X h hr hlk dX4_empty_5 e2

set_option maxHeartbeats 4000000 in
set_option maxRecDepth 100000 in
theorem c_begin (l : Launch) (G : va_G) (cI cB cZ cO : ClassId) (ad : Nat → Nat) (w : Nat → va_E) (b : Nat) (q0 q1 q2 q3 q4 z1 z2 z3 t : Int32) (hb0 : b + 12 < 74) (pf0 : w b = .inr (1, [.int q0, .int q1, .int q2, .int q3, .int q4, .ref (ad (b + 1)), .ref (ad (b + 2)), .ref (ad (b + 3)), .ref (ad (b + 4)), .ref (ad (b + 5)), .ref (ad (b + 6)), .ref (ad (b + 7)), .ref (ad (b + 9)), .ref (ad (b + 11))])) (pf7 : w (b + 7) = .inr (4, [.ref (ad (b + 8)), .int z1])) (pf9 : w (b + 9) = .inr (4, [.ref (ad (b + 10)), .int z2])) (pf11 : w (b + 11) = .inr (2, [.ref (ad (b + 12)), .int z3])) : MV l G (tyq cI cB cZ cO) yX2_begin cX2_begin 2 1 21 74 ad w [.ref (ad b), .int t] (fun w1 => w1 b = .inr (1, [.int t, .int 0, .int 0, .int 0, .int 0, .ref (ad (b + 1)), .ref (ad (b + 2)), .ref (ad (b + 3)), .ref (ad (b + 4)), .ref (ad (b + 5)), .ref (ad (b + 6)), .ref (ad (b + 7)), .ref (ad (b + 9)), .ref (ad (b + 11))]) ∧ w1 (b + 7) = .inr (4, [.ref (ad (b + 8)), .int 0]) ∧ w1 (b + 9) = .inr (4, [.ref (ad (b + 10)), .int 0]) ∧ w1 (b + 11) = .inr (2, [.ref (ad (b + 12)), .int 0]) ∧ ∀ k, k ≠ b → k ≠ b + 7 → k ≠ b + 9 → k ≠ b + 11 → w1 k = w k) := by
  refine mk_v (own := "NoonShade$Isle") rfl (by decide) (Nat.le_of_ble_eq_true rfl) ?_
  intro p e s m below meth c ls X hD hN hr hlk h hl
  have hx := X.1.1
  have hb := X.1.2.1
  have hown := X.1.2.2.2.1
  have hts := X.1.2.2.2.2
  have hl : lv_has ls 2 [(0, .ref (ad b)), (1, .int t)] := hl
  refine lv_aload_n hx hb dX2_begin_0 rfl (lv_at hl 0 rfl) ?_
  refine lv_iload_n hx hb dX2_begin_1 rfl (lv_at hl 1 rfl) ?_
  refine r_put kc2 X hD h b 0 (by omega) rfl pf0 (by decide) kw_22 rfl rfl rfl (Nat.le_of_ble_eq_true rfl) dX2_begin_2 (fun H locs w1 e2 h => ?_)
  have f3 : w1 b = .inr (1, [.int t, .int q1, .int q2, .int q3, .int q4, .ref (ad (b + 1)), .ref (ad (b + 2)), .ref (ad (b + 3)), .ref (ad (b + 4)), .ref (ad (b + 5)), .ref (ad (b + 6)), .ref (ad (b + 7)), .ref (ad (b + 9)), .ref (ad (b + 11))]) := (congrFun e2 _).trans (va_up_self _ _ _)
  refine lv_aload_n hx hb dX2_begin_5 rfl (lv_at hl 0 rfl) ?_
  refine lv_iconst (v := 0) hx hb dX2_begin_6 (by decide) ?_
  refine r_put kc2 X hD h b 1 (by omega) rfl f3 (by decide) kw_23 rfl rfl rfl (Nat.le_of_ble_eq_true rfl) dX2_begin_7 (fun H locs w4 e5 h => ?_)
  have f6 : w4 b = .inr (1, [.int t, .int 0, .int q2, .int q3, .int q4, .ref (ad (b + 1)), .ref (ad (b + 2)), .ref (ad (b + 3)), .ref (ad (b + 4)), .ref (ad (b + 5)), .ref (ad (b + 6)), .ref (ad (b + 7)), .ref (ad (b + 9)), .ref (ad (b + 11))]) := (congrFun e5 _).trans (va_up_self _ _ _)
  refine lv_aload_n hx hb dX2_begin_10 rfl (lv_at hl 0 rfl) ?_
  refine lv_iconst (v := 0) hx hb dX2_begin_11 (by decide) ?_
  refine r_put kc2 X hD h b 2 (by omega) rfl f6 (by decide) kw_24 rfl rfl rfl (Nat.le_of_ble_eq_true rfl) dX2_begin_12 (fun H locs w7 e8 h => ?_)
  have f9 : w7 b = .inr (1, [.int t, .int 0, .int 0, .int q3, .int q4, .ref (ad (b + 1)), .ref (ad (b + 2)), .ref (ad (b + 3)), .ref (ad (b + 4)), .ref (ad (b + 5)), .ref (ad (b + 6)), .ref (ad (b + 7)), .ref (ad (b + 9)), .ref (ad (b + 11))]) := (congrFun e8 _).trans (va_up_self _ _ _)
  refine lv_aload_n hx hb dX2_begin_15 rfl (lv_at hl 0 rfl) ?_
  refine lv_iconst (v := 0) hx hb dX2_begin_16 (by decide) ?_
  refine r_put kc2 X hD h b 3 (by omega) rfl f9 (by decide) kw_0 rfl rfl rfl (Nat.le_of_ble_eq_true rfl) dX2_begin_17 (fun H locs w10 e11 h => ?_)
  have f12 : w10 b = .inr (1, [.int t, .int 0, .int 0, .int 0, .int q4, .ref (ad (b + 1)), .ref (ad (b + 2)), .ref (ad (b + 3)), .ref (ad (b + 4)), .ref (ad (b + 5)), .ref (ad (b + 6)), .ref (ad (b + 7)), .ref (ad (b + 9)), .ref (ad (b + 11))]) := (congrFun e11 _).trans (va_up_self _ _ _)
  refine lv_aload_n hx hb dX2_begin_20 rfl (lv_at hl 0 rfl) ?_
  refine lv_iconst (v := 0) hx hb dX2_begin_21 (by decide) ?_
  refine r_put kc2 X hD h b 4 (by omega) rfl f12 (by decide) kw_1 rfl rfl rfl (Nat.le_of_ble_eq_true rfl) dX2_begin_22 (fun H locs w13 e14 h => ?_)
  have f15 : w13 b = .inr (1, [.int t, .int 0, .int 0, .int 0, .int 0, .ref (ad (b + 1)), .ref (ad (b + 2)), .ref (ad (b + 3)), .ref (ad (b + 4)), .ref (ad (b + 5)), .ref (ad (b + 6)), .ref (ad (b + 7)), .ref (ad (b + 9)), .ref (ad (b + 11))]) := (congrFun e14 _).trans (va_up_self _ _ _)
  refine lv_aload_n hx hb dX2_begin_25 rfl (lv_at hl 0 rfl) ?_
  refine r_get kc2 X h b 11 (by omega) rfl f15 (by decide) kw_25 rfl dX2_begin_26 ?_
  have f16 : w1 (b + 7) = .inr (4, [.ref (ad (b + 8)), .int z1]) := by rw [e2, va_up_ne _ _ (by omega)]; exact pf7
  have f17 : w4 (b + 7) = .inr (4, [.ref (ad (b + 8)), .int z1]) := by rw [e5, va_up_ne _ _ (by omega)]; exact f16
  have f18 : w7 (b + 7) = .inr (4, [.ref (ad (b + 8)), .int z1]) := by rw [e8, va_up_ne _ _ (by omega)]; exact f17
  have f19 : w10 (b + 7) = .inr (4, [.ref (ad (b + 8)), .int z1]) := by rw [e11, va_up_ne _ _ (by omega)]; exact f18
  have f20 : w13 (b + 7) = .inr (4, [.ref (ad (b + 8)), .int z1]) := by rw [e14, va_up_ne _ _ (by omega)]; exact f19
  refine q_Vi (na := 0) (As := []) (rest := []) X hD hN h rfl (c_R_empty l G cI cB cZ cO ad w13 (b + 7) _ _ (by omega) f20) ⟨kw_26, kw_27, kw_28, kw_29, kw_30⟩ rfl ⟨by decide, by decide, by decide⟩ ⟨Nat.le_of_ble_eq_true rfl, Nat.le_of_ble_eq_true rfl⟩ ⟨Nat.zero_le _, Nat.zero_le _⟩ (by omega) f20 rfl rfl hl.1 rfl (Nat.le_of_ble_eq_true rfl) dX2_begin_29 (fun r21 w22 H locs hp23 h => ?_)
  obtain ⟨hr26, e24⟩ := hp23
  subst hr26
  have f25 : w22 (b + 7) = .inr (4, [.ref (ad (b + 8)), .int 0]) := (congrFun e24 _).trans (va_up_self _ _ _)
  refine lv_pop hx hb dX2_begin_32 rfl ?_
  refine lv_aload_n hx hb dX2_begin_33 rfl (lv_at hl 0 rfl) ?_
  have f27 : w22 b = .inr (1, [.int t, .int 0, .int 0, .int 0, .int 0, .ref (ad (b + 1)), .ref (ad (b + 2)), .ref (ad (b + 3)), .ref (ad (b + 4)), .ref (ad (b + 5)), .ref (ad (b + 6)), .ref (ad (b + 7)), .ref (ad (b + 9)), .ref (ad (b + 11))]) := by rw [e24, va_up_ne _ _ (by omega)]; exact f15
  refine r_get kc2 X h b 12 (by omega) rfl f27 (by decide) kw_31 rfl dX2_begin_34 ?_
  have f28 : w1 (b + 9) = .inr (4, [.ref (ad (b + 10)), .int z2]) := by rw [e2, va_up_ne _ _ (by omega)]; exact pf9
  have f29 : w4 (b + 9) = .inr (4, [.ref (ad (b + 10)), .int z2]) := by rw [e5, va_up_ne _ _ (by omega)]; exact f28
  have f30 : w7 (b + 9) = .inr (4, [.ref (ad (b + 10)), .int z2]) := by rw [e8, va_up_ne _ _ (by omega)]; exact f29
  have f31 : w10 (b + 9) = .inr (4, [.ref (ad (b + 10)), .int z2]) := by rw [e11, va_up_ne _ _ (by omega)]; exact f30
  have f32 : w13 (b + 9) = .inr (4, [.ref (ad (b + 10)), .int z2]) := by rw [e14, va_up_ne _ _ (by omega)]; exact f31
  have f33 : w22 (b + 9) = .inr (4, [.ref (ad (b + 10)), .int z2]) := by rw [e24, va_up_ne _ _ (by omega)]; exact f32
  refine q_Vi (na := 0) (As := []) (rest := []) X hD hN h rfl (c_R_empty l G cI cB cZ cO ad w22 (b + 9) _ _ (by omega) f33) ⟨kw_26, kw_27, kw_28, kw_29, kw_30⟩ rfl ⟨by decide, by decide, by decide⟩ ⟨Nat.le_of_ble_eq_true rfl, Nat.le_of_ble_eq_true rfl⟩ ⟨Nat.zero_le _, Nat.zero_le _⟩ (by omega) f33 rfl rfl hl.1 rfl (Nat.le_of_ble_eq_true rfl) dX2_begin_37 (fun r34 w35 H locs hp36 h => ?_)
  obtain ⟨hr39, e37⟩ := hp36
  subst hr39
  have f38 : w35 (b + 9) = .inr (4, [.ref (ad (b + 10)), .int 0]) := (congrFun e37 _).trans (va_up_self _ _ _)
  refine lv_pop hx hb dX2_begin_40 rfl ?_
  refine lv_aload_n hx hb dX2_begin_41 rfl (lv_at hl 0 rfl) ?_
  have f40 : w35 b = .inr (1, [.int t, .int 0, .int 0, .int 0, .int 0, .ref (ad (b + 1)), .ref (ad (b + 2)), .ref (ad (b + 3)), .ref (ad (b + 4)), .ref (ad (b + 5)), .ref (ad (b + 6)), .ref (ad (b + 7)), .ref (ad (b + 9)), .ref (ad (b + 11))]) := by rw [e37, va_up_ne _ _ (by omega)]; exact f27
  refine r_get kc2 X h b 13 (by omega) rfl f40 (by decide) kw_32 rfl dX2_begin_42 ?_
  have f41 : w1 (b + 11) = .inr (2, [.ref (ad (b + 12)), .int z3]) := by rw [e2, va_up_ne _ _ (by omega)]; exact pf11
  have f42 : w4 (b + 11) = .inr (2, [.ref (ad (b + 12)), .int z3]) := by rw [e5, va_up_ne _ _ (by omega)]; exact f41
  have f43 : w7 (b + 11) = .inr (2, [.ref (ad (b + 12)), .int z3]) := by rw [e8, va_up_ne _ _ (by omega)]; exact f42
  have f44 : w10 (b + 11) = .inr (2, [.ref (ad (b + 12)), .int z3]) := by rw [e11, va_up_ne _ _ (by omega)]; exact f43
  have f45 : w13 (b + 11) = .inr (2, [.ref (ad (b + 12)), .int z3]) := by rw [e14, va_up_ne _ _ (by omega)]; exact f44
  have f46 : w22 (b + 11) = .inr (2, [.ref (ad (b + 12)), .int z3]) := by rw [e24, va_up_ne _ _ (by omega)]; exact f45
  have f47 : w35 (b + 11) = .inr (2, [.ref (ad (b + 12)), .int z3]) := by rw [e37, va_up_ne _ _ (by omega)]; exact f46
  refine q_Vv (na := 0) (As := []) (rest := []) X hD hN h rfl (c_P_empty l G cI cB cZ cO ad w35 (b + 11) _ _ (by omega) f47) ⟨kw_33, kw_34, kw_35, kw_36, kw_37⟩ rfl ⟨by decide, by decide, by decide⟩ ⟨Nat.le_of_ble_eq_true rfl, Nat.le_of_ble_eq_true rfl⟩ ⟨Nat.zero_le _, Nat.zero_le _⟩ (by omega) f47 rfl rfl hl.1 rfl (Nat.le_of_ble_eq_true rfl) dX2_begin_45 (fun w49 H locs hp50 h => ?_)
  have e51 := hp50
  have f52 : w49 (b + 11) = .inr (2, [.ref (ad (b + 12)), .int 0]) := (congrFun e51 _).trans (va_up_self _ _ _)
  have f53 : w49 b = .inr (1, [.int t, .int 0, .int 0, .int 0, .int 0, .ref (ad (b + 1)), .ref (ad (b + 2)), .ref (ad (b + 3)), .ref (ad (b + 4)), .ref (ad (b + 5)), .ref (ad (b + 6)), .ref (ad (b + 7)), .ref (ad (b + 9)), .ref (ad (b + 11))]) := by rw [e51, va_up_ne _ _ (by omega)]; exact f40
  have f54 : w35 (b + 7) = .inr (4, [.ref (ad (b + 8)), .int 0]) := by rw [e37, va_up_ne _ _ (by omega)]; exact f25
  have f55 : w49 (b + 7) = .inr (4, [.ref (ad (b + 8)), .int 0]) := by rw [e51, va_up_ne _ _ (by omega)]; exact f54
  have f56 : w49 (b + 9) = .inr (4, [.ref (ad (b + 10)), .int 0]) := by rw [e51, va_up_ne _ _ (by omega)]; exact f38
  exact e_v X h hr hlk dX2_begin_48 ⟨f53, f55, f56, f52, fun k h1 h2 h3 h4 => ((congrFun e51 k).trans (va_up_ne _ _ (by omega))).trans (((congrFun e37 k).trans (va_up_ne _ _ (by omega))).trans (((congrFun e24 k).trans (va_up_ne _ _ (by omega))).trans (((congrFun e14 k).trans (va_up_ne _ _ (by omega))).trans (((congrFun e11 k).trans (va_up_ne _ _ (by omega))).trans (((congrFun e8 k).trans (va_up_ne _ _ (by omega))).trans (((congrFun e5 k).trans (va_up_ne _ _ (by omega))).trans ((congrFun e2 k).trans (va_up_ne _ _ (by omega)))))))))⟩

set_option maxHeartbeats 4000000 in
set_option maxRecDepth 100000 in
theorem c_addCaster (l : Launch) (G : va_G) (cI cB cZ cO : ClassId) (ad : Nat → Nat) (w : Nat → va_E) (x y z : Int32) (pf1 : w 1 = .inr (1, [.int 0, .int 0, .int 0, .int 0, .int 0, .ref (ad 2), .ref (ad 3), .ref (ad 4), .ref (ad 5), .ref (ad 6), .ref (ad 7), .ref (ad 8), .ref (ad 10), .ref (ad 12)])) (pf2 : w 2 = .inl (cI, 7, .inl (fun _ => 0))) (pf3 : w 3 = .inl (cI, 7, .inl (fun _ => 0))) (pf4 : w 4 = .inl (cI, 7, .inl (fun _ => 0))) : MI l G (tyq cI cB cZ cO) yX2_addCaster cX2_addCaster 4 (some .int) 0 0 74 ad w [.ref (ad 1), .int x, .int y, .int z] (fun r w1 => r = 0 ∧ ∀ k, 64 ≤ k → w1 k = w k) := by
  refine mk_i (own := "NoonShade$Isle") rfl (by decide) (Nat.le_of_ble_eq_true rfl) ?_
  intro p e s m below meth c ls X hD hN hr hlk h hl
  have hx := X.1.1
  have hb := X.1.2.1
  have hown := X.1.2.2.2.1
  have hts := X.1.2.2.2.2
  have hl : lv_has ls 4 [(0, .ref (ad 1)), (1, .int x), (2, .int y), (3, .int z)] := hl
  refine lv_aload_n hx hb dX2_addCaster_0 rfl (lv_at hl 0 rfl) ?_
  refine r_get kc2 X h 1 3 (by decide) rfl pf1 (by decide) kw_0 rfl dX2_addCaster_1 ?_
  refine lv_bipush (v := 7) hx hb dX2_addCaster_4 (by decide) ?_
  refine lv_icmp_lt (tgt := 12) hx hb dX2_addCaster_6 (by decide) (fun _ => ?_) (fun hc => absurd (by decide) hc)
  refine lv_aload_n hx hb dX2_addCaster_12 rfl (lv_at hl 0 rfl) ?_
  refine r_get kc2 X h 1 5 (by decide) rfl pf1 (by decide) kw_46 rfl dX2_addCaster_13 ?_
  refine lv_aload_n hx hb dX2_addCaster_16 rfl (lv_at hl 0 rfl) ?_
  refine r_get kc2 X h 1 3 (by decide) rfl pf1 (by decide) kw_0 rfl dX2_addCaster_17 ?_
  refine lv_iload_n hx hb dX2_addCaster_20 rfl (lv_at hl 1 rfl) ?_
  refine o_iast (f1 := upd (fun _ => 0) 0 x) X hD h 2 0 (by decide) rfl pf2 rfl (by unfold vp_in; decide) rfl dX2_addCaster_21 (fun H locs w1 e2 h => ?_)
  have f3 : w1 2 = .inl (cI, 7, .inl (upd (fun _ => 0) 0 x)) := (congrFun e2 _).trans (va_up_self _ _ _)
  refine lv_aload_n hx hb dX2_addCaster_22 rfl (lv_at hl 0 rfl) ?_
  have f4 : w1 1 = .inr (1, [.int 0, .int 0, .int 0, .int 0, .int 0, .ref (ad 2), .ref (ad 3), .ref (ad 4), .ref (ad 5), .ref (ad 6), .ref (ad 7), .ref (ad 8), .ref (ad 10), .ref (ad 12)]) := by rw [e2, va_up_ne _ _ (by decide)]; exact pf1
  refine r_get kc2 X h 1 6 (by decide) rfl f4 (by decide) kw_47 rfl dX2_addCaster_23 ?_
  refine lv_aload_n hx hb dX2_addCaster_26 rfl (lv_at hl 0 rfl) ?_
  refine r_get kc2 X h 1 3 (by decide) rfl f4 (by decide) kw_0 rfl dX2_addCaster_27 ?_
  refine lv_iload_n hx hb dX2_addCaster_30 rfl (lv_at hl 2 rfl) ?_
  have f5 : w1 3 = .inl (cI, 7, .inl (fun _ => 0)) := by rw [e2, va_up_ne _ _ (by decide)]; exact pf3
  refine o_iast (f1 := upd (fun _ => 0) 0 y) X hD h 3 0 (by decide) rfl f5 rfl (by unfold vp_in; decide) rfl dX2_addCaster_31 (fun H locs w6 e7 h => ?_)
  have f8 : w6 3 = .inl (cI, 7, .inl (upd (fun _ => 0) 0 y)) := (congrFun e7 _).trans (va_up_self _ _ _)
  refine lv_aload_n hx hb dX2_addCaster_32 rfl (lv_at hl 0 rfl) ?_
  have f9 : w6 1 = .inr (1, [.int 0, .int 0, .int 0, .int 0, .int 0, .ref (ad 2), .ref (ad 3), .ref (ad 4), .ref (ad 5), .ref (ad 6), .ref (ad 7), .ref (ad 8), .ref (ad 10), .ref (ad 12)]) := by rw [e7, va_up_ne _ _ (by decide)]; exact f4
  refine r_get kc2 X h 1 7 (by decide) rfl f9 (by decide) kw_48 rfl dX2_addCaster_33 ?_
  refine lv_aload_n hx hb dX2_addCaster_36 rfl (lv_at hl 0 rfl) ?_
  refine r_get kc2 X h 1 3 (by decide) rfl f9 (by decide) kw_0 rfl dX2_addCaster_37 ?_
  refine lv_iload_n hx hb dX2_addCaster_40 rfl (lv_at hl 3 rfl) ?_
  have f10 : w1 4 = .inl (cI, 7, .inl (fun _ => 0)) := by rw [e2, va_up_ne _ _ (by decide)]; exact pf4
  have f11 : w6 4 = .inl (cI, 7, .inl (fun _ => 0)) := by rw [e7, va_up_ne _ _ (by decide)]; exact f10
  refine o_iast (f1 := upd (fun _ => 0) 0 z) X hD h 4 0 (by decide) rfl f11 rfl (by unfold vp_in; decide) rfl dX2_addCaster_41 (fun H locs w12 e13 h => ?_)
  have f14 : w12 4 = .inl (cI, 7, .inl (upd (fun _ => 0) 0 z)) := (congrFun e13 _).trans (va_up_self _ _ _)
  refine lv_aload_n hx hb dX2_addCaster_42 rfl (lv_at hl 0 rfl) ?_
  refine lv_dup hx hb dX2_addCaster_43 rfl ?_
  have f15 : w12 1 = .inr (1, [.int 0, .int 0, .int 0, .int 0, .int 0, .ref (ad 2), .ref (ad 3), .ref (ad 4), .ref (ad 5), .ref (ad 6), .ref (ad 7), .ref (ad 8), .ref (ad 10), .ref (ad 12)]) := by rw [e13, va_up_ne _ _ (by decide)]; exact f9
  refine r_get kc2 X h 1 3 (by decide) rfl f15 (by decide) kw_0 rfl dX2_addCaster_44 ?_
  refine lv_iconst (v := 1) hx hb dX2_addCaster_47 (by decide) ?_
  refine o_iadd (z := 1) hx hb dX2_addCaster_48 rfl ?_
  refine r_put kc2 X hD h 1 3 (by decide) rfl f15 (by decide) kw_0 rfl rfl rfl (Nat.le_of_ble_eq_true rfl) dX2_addCaster_49 (fun H locs w16 e17 h => ?_)
  have f18 : w16 1 = .inr (1, [.int 0, .int 0, .int 0, .int 1, .int 0, .ref (ad 2), .ref (ad 3), .ref (ad 4), .ref (ad 5), .ref (ad 6), .ref (ad 7), .ref (ad 8), .ref (ad 10), .ref (ad 12)]) := (congrFun e17 _).trans (va_up_self _ _ _)
  refine lv_aload_n hx hb dX2_addCaster_52 rfl (lv_at hl 0 rfl) ?_
  refine r_get kc2 X h 1 3 (by decide) rfl f18 (by decide) kw_0 rfl dX2_addCaster_53 ?_
  refine lv_iconst (v := 1) hx hb dX2_addCaster_56 (by decide) ?_
  refine o_isub (z := 0) hx hb dX2_addCaster_57 rfl ?_
  exact e_i X h hr hlk dX2_addCaster_58 ⟨rfl, fun k hk => ((congrFun e17 k).trans (va_up_ne _ _ (by omega))).trans (((congrFun e13 k).trans (va_up_ne _ _ (by omega))).trans (((congrFun e7 k).trans (va_up_ne _ _ (by omega))).trans ((congrFun e2 k).trans (va_up_ne _ _ (by omega)))))⟩

set_option maxHeartbeats 4000000 in
set_option maxRecDepth 100000 in
theorem c_addJar (l : Launch) (G : va_G) (cI cB cZ cO : ClassId) (ad : Nat → Nat) (w : Nat → va_E) (x : Int32) (pf1 : w 1 = .inr (1, [.int 0, .int 0, .int 0, .int 0, .int 0, .ref (ad 2), .ref (ad 3), .ref (ad 4), .ref (ad 5), .ref (ad 6), .ref (ad 7), .ref (ad 8), .ref (ad 10), .ref (ad 12)])) (pf5 : w 5 = .inl (cI, 4, .inl (fun _ => 0))) (pf6 : w 6 = .inl (cI, 4, .inl (fun _ => 0))) (pf7 : w 7 = .inl (cI, 4, .inl (fun _ => 0))) : MI l G (tyq cI cB cZ cO) yX2_addJar cX2_addJar 2 (some .int) 0 0 74 ad w [.ref (ad 1), .int x] (fun r w1 => r = 0 ∧ ∀ k, 64 ≤ k → w1 k = w k) := by
  refine mk_i (own := "NoonShade$Isle") rfl (by decide) (Nat.le_of_ble_eq_true rfl) ?_
  intro p e s m below meth c ls X hD hN hr hlk h hl
  have hx := X.1.1
  have hb := X.1.2.1
  have hown := X.1.2.2.2.1
  have hts := X.1.2.2.2.2
  have hl : lv_has ls 2 [(0, .ref (ad 1)), (1, .int x)] := hl
  refine lv_aload_n hx hb dX2_addJar_0 rfl (lv_at hl 0 rfl) ?_
  refine r_get kc2 X h 1 4 (by decide) rfl pf1 (by decide) kw_1 rfl dX2_addJar_1 ?_
  refine lv_iconst (v := 4) hx hb dX2_addJar_4 (by decide) ?_
  refine lv_icmp_lt (tgt := 11) hx hb dX2_addJar_5 (by decide) (fun _ => ?_) (fun hc => absurd (by decide) hc)
  refine lv_aload_n hx hb dX2_addJar_11 rfl (lv_at hl 0 rfl) ?_
  refine r_get kc2 X h 1 8 (by decide) rfl pf1 (by decide) kw_49 rfl dX2_addJar_12 ?_
  refine lv_aload_n hx hb dX2_addJar_15 rfl (lv_at hl 0 rfl) ?_
  refine r_get kc2 X h 1 4 (by decide) rfl pf1 (by decide) kw_1 rfl dX2_addJar_16 ?_
  refine lv_iload_n hx hb dX2_addJar_19 rfl (lv_at hl 1 rfl) ?_
  refine o_iast (f1 := upd (fun _ => 0) 0 x) X hD h 5 0 (by decide) rfl pf5 rfl (by unfold vp_in; decide) rfl dX2_addJar_20 (fun H locs w1 e2 h => ?_)
  have f3 : w1 5 = .inl (cI, 4, .inl (upd (fun _ => 0) 0 x)) := (congrFun e2 _).trans (va_up_self _ _ _)
  refine lv_aload_n hx hb dX2_addJar_21 rfl (lv_at hl 0 rfl) ?_
  have f4 : w1 1 = .inr (1, [.int 0, .int 0, .int 0, .int 0, .int 0, .ref (ad 2), .ref (ad 3), .ref (ad 4), .ref (ad 5), .ref (ad 6), .ref (ad 7), .ref (ad 8), .ref (ad 10), .ref (ad 12)]) := by rw [e2, va_up_ne _ _ (by decide)]; exact pf1
  refine r_get kc2 X h 1 9 (by decide) rfl f4 (by decide) kw_50 rfl dX2_addJar_22 ?_
  refine lv_aload_n hx hb dX2_addJar_25 rfl (lv_at hl 0 rfl) ?_
  refine r_get kc2 X h 1 4 (by decide) rfl f4 (by decide) kw_1 rfl dX2_addJar_26 ?_
  refine lv_iconst (v := 0) hx hb dX2_addJar_29 (by decide) ?_
  have f5 : w1 6 = .inl (cI, 4, .inl (fun _ => 0)) := by rw [e2, va_up_ne _ _ (by decide)]; exact pf6
  refine o_iast (f1 := fun _ => 0) X hD h 6 0 (by decide) rfl f5 rfl (by unfold vp_in; decide) (upd0 _) dX2_addJar_30 (fun H locs w6 e7 h => ?_)
  have f8 : w6 6 = .inl (cI, 4, .inl (fun _ => 0)) := (congrFun e7 _).trans (va_up_self _ _ _)
  refine lv_aload_n hx hb dX2_addJar_31 rfl (lv_at hl 0 rfl) ?_
  have f9 : w6 1 = .inr (1, [.int 0, .int 0, .int 0, .int 0, .int 0, .ref (ad 2), .ref (ad 3), .ref (ad 4), .ref (ad 5), .ref (ad 6), .ref (ad 7), .ref (ad 8), .ref (ad 10), .ref (ad 12)]) := by rw [e7, va_up_ne _ _ (by decide)]; exact f4
  refine r_get kc2 X h 1 10 (by decide) rfl f9 (by decide) kw_51 rfl dX2_addJar_32 ?_
  refine lv_aload_n hx hb dX2_addJar_35 rfl (lv_at hl 0 rfl) ?_
  refine r_get kc2 X h 1 4 (by decide) rfl f9 (by decide) kw_1 rfl dX2_addJar_36 ?_
  refine lv_iconst (v := (-1)) hx hb dX2_addJar_39 (by decide) ?_
  have f10 : w1 7 = .inl (cI, 4, .inl (fun _ => 0)) := by rw [e2, va_up_ne _ _ (by decide)]; exact pf7
  have f11 : w6 7 = .inl (cI, 4, .inl (fun _ => 0)) := by rw [e7, va_up_ne _ _ (by decide)]; exact f10
  refine o_iast (f1 := upd (fun _ => 0) 0 (-1)) X hD h 7 0 (by decide) rfl f11 rfl (by unfold vp_in; decide) rfl dX2_addJar_40 (fun H locs w12 e13 h => ?_)
  have f14 : w12 7 = .inl (cI, 4, .inl (upd (fun _ => 0) 0 (-1))) := (congrFun e13 _).trans (va_up_self _ _ _)
  refine lv_aload_n hx hb dX2_addJar_41 rfl (lv_at hl 0 rfl) ?_
  refine lv_dup hx hb dX2_addJar_42 rfl ?_
  have f15 : w12 1 = .inr (1, [.int 0, .int 0, .int 0, .int 0, .int 0, .ref (ad 2), .ref (ad 3), .ref (ad 4), .ref (ad 5), .ref (ad 6), .ref (ad 7), .ref (ad 8), .ref (ad 10), .ref (ad 12)]) := by rw [e13, va_up_ne _ _ (by decide)]; exact f9
  refine r_get kc2 X h 1 4 (by decide) rfl f15 (by decide) kw_1 rfl dX2_addJar_43 ?_
  refine lv_iconst (v := 1) hx hb dX2_addJar_46 (by decide) ?_
  refine o_iadd (z := 1) hx hb dX2_addJar_47 rfl ?_
  refine r_put kc2 X hD h 1 4 (by decide) rfl f15 (by decide) kw_1 rfl rfl rfl (Nat.le_of_ble_eq_true rfl) dX2_addJar_48 (fun H locs w16 e17 h => ?_)
  have f18 : w16 1 = .inr (1, [.int 0, .int 0, .int 0, .int 0, .int 1, .ref (ad 2), .ref (ad 3), .ref (ad 4), .ref (ad 5), .ref (ad 6), .ref (ad 7), .ref (ad 8), .ref (ad 10), .ref (ad 12)]) := (congrFun e17 _).trans (va_up_self _ _ _)
  refine lv_aload_n hx hb dX2_addJar_51 rfl (lv_at hl 0 rfl) ?_
  refine r_get kc2 X h 1 4 (by decide) rfl f18 (by decide) kw_1 rfl dX2_addJar_52 ?_
  refine lv_iconst (v := 1) hx hb dX2_addJar_55 (by decide) ?_
  refine o_isub (z := 0) hx hb dX2_addJar_56 rfl ?_
  exact e_i X h hr hlk dX2_addJar_57 ⟨rfl, fun k hk => ((congrFun e17 k).trans (va_up_ne _ _ (by omega))).trans (((congrFun e13 k).trans (va_up_ne _ _ (by omega))).trans (((congrFun e7 k).trans (va_up_ne _ _ (by omega))).trans ((congrFun e2 k).trans (va_up_ne _ _ (by omega)))))⟩

set_option maxHeartbeats 4000000 in
set_option maxRecDepth 100000 in
theorem c_T_isFull (l : Launch) (G : va_G) (cI cB cZ cO : ClassId) (ad : Nat → Nat) (w : Nat → va_E)  (pf55 : w 55 = .inr (5, [.ref (ad 56), .ref (ad 57), .int 0, .int 0, .int 0, .int 0, .int 0])) : MI l G (tyq cI cB cZ cO) yX7_isFull cX7_isFull 1 (some .boolean) 0 0 74 ad w [.ref (ad 55)] (fun r w1 => w1 = w ∧ r = 0) := by
  refine mk_i (own := "NoonShade$Text") rfl (by decide) (Nat.le_of_ble_eq_true rfl) ?_
  intro p e s m below meth c ls X hD hN hr hlk h hl
  have hx := X.1.1
  have hb := X.1.2.1
  have hown := X.1.2.2.2.1
  have hts := X.1.2.2.2.2
  have hl : lv_has ls 1 [(0, .ref (ad 55))] := hl
  refine lv_aload_n hx hb dX7_isFull_0 rfl (lv_at hl 0 rfl) ?_
  refine r_get kc7 X h 55 2 (by decide) rfl pf55 (by decide) kw_63 rfl dX7_isFull_1 ?_
  refine lv_sipush (v := 150) hx hb dX7_isFull_4 (by decide) ?_
  refine lv_icmp_lt (tgt := 14) hx hb dX7_isFull_7 (by decide) (fun _ => ?_) (fun hc => absurd (by decide) hc)
  refine lv_iconst (v := 0) hx hb dX7_isFull_14 (by decide) ?_
  exact e_z X h hr hlk rfl dX7_isFull_15 ⟨rfl, rfl⟩

set_option maxHeartbeats 4000000 in
set_option maxRecDepth 100000 in
theorem c_T_add (l : Launch) (G : va_G) (cI cB cZ cO : ClassId) (ad : Nat → Nat) (w : Nat → va_E) (x : Int32) (pf55 : w 55 = .inr (5, [.ref (ad 56), .ref (ad 57), .int 0, .int 0, .int 0, .int 0, .int 0])) (pf56 : w 56 = .inl (cB, 150, .inl (fun _ => 0))) : MI l G (tyq cI cB cZ cO) yX7_add cX7_add 2 (some .int) 1 20 74 ad w [.ref (ad 55), .int x] (fun r w1 => r = 1 ∧ ∀ k, 64 ≤ k → w1 k = w k) := by
  refine mk_i (own := "NoonShade$Text") rfl (by decide) (Nat.le_of_ble_eq_true rfl) ?_
  intro p e s m below meth c ls X hD hN hr hlk h hl
  have hx := X.1.1
  have hb := X.1.2.1
  have hown := X.1.2.2.2.1
  have hts := X.1.2.2.2.2
  have hl : lv_has ls 2 [(0, .ref (ad 55)), (1, .int x)] := hl
  refine lv_aload_n hx hb dX7_add_0 rfl (lv_at hl 0 rfl) ?_
  refine q_Vi (na := 0) (As := []) (rest := []) X hD hN h rfl (c_T_isFull l G cI cB cZ cO ad w  pf55) ⟨kw_64, kw_65, kw_66, kw_67, kw_68⟩ rfl ⟨by decide, by decide, by decide⟩ ⟨Nat.le_of_ble_eq_true rfl, Nat.le_of_ble_eq_true rfl⟩ ⟨Nat.zero_le _, Nat.zero_le _⟩ (by decide) pf55 rfl rfl hl.1 rfl (Nat.le_of_ble_eq_true rfl) dX7_add_1 (fun r1 w2 H locs hp3 h => ?_)
  obtain ⟨e4, rfl⟩ := hp3
  refine lv_if_eq (tgt := 10) hx hb dX7_add_4 (by decide) (fun _ => ?_) (fun hc => absurd (by decide) hc)
  refine lv_aload_n hx hb dX7_add_10 rfl (lv_at hl 0 rfl) ?_
  have f5 : w2 55 = .inr (5, [.ref (ad 56), .ref (ad 57), .int 0, .int 0, .int 0, .int 0, .int 0]) := by rw [e4]; exact pf55
  refine r_get kc7 X h 55 0 (by decide) rfl f5 (by decide) kw_69 rfl dX7_add_11 ?_
  refine lv_aload_n hx hb dX7_add_14 rfl (lv_at hl 0 rfl) ?_
  refine r_get kc7 X h 55 2 (by decide) rfl f5 (by decide) kw_63 rfl dX7_add_15 ?_
  refine lv_iload_n hx hb dX7_add_18 rfl (lv_at hl 1 rfl) ?_
  refine lv_i2b (v := x.toInt8.toInt32) hx hb dX7_add_19 rfl ?_
  have f6 : w2 56 = .inl (cB, 150, .inl (fun _ => 0)) := by rw [e4]; exact pf56
  refine o_bast (f1 := upd (fun _ => 0) 0 (vp_nar .byte x.toInt8.toInt32)) X hD h 56 1 (by decide) rfl f6 rfl (by unfold vp_in; decide) rfl dX7_add_20 (fun H locs w7 e8 h => ?_)
  have f9 : w7 56 = .inl (cB, 150, .inl (upd (fun _ => 0) 0 (vp_nar .byte x.toInt8.toInt32))) := (congrFun e8 _).trans (va_up_self _ _ _)
  refine lv_aload_n hx hb dX7_add_21 rfl (lv_at hl 0 rfl) ?_
  refine lv_dup hx hb dX7_add_22 rfl ?_
  have f10 : w7 55 = .inr (5, [.ref (ad 56), .ref (ad 57), .int 0, .int 0, .int 0, .int 0, .int 0]) := by rw [e8, va_up_ne _ _ (by decide)]; exact f5
  refine r_get kc7 X h 55 2 (by decide) rfl f10 (by decide) kw_63 rfl dX7_add_23 ?_
  refine lv_iconst (v := 1) hx hb dX7_add_26 (by decide) ?_
  refine o_iadd (z := 1) hx hb dX7_add_27 rfl ?_
  refine r_put kc7 X hD h 55 2 (by decide) rfl f10 (by decide) kw_63 rfl rfl rfl (Nat.le_of_ble_eq_true rfl) dX7_add_28 (fun H locs w11 e12 h => ?_)
  have f13 : w11 55 = .inr (5, [.ref (ad 56), .ref (ad 57), .int 1, .int 0, .int 0, .int 0, .int 0]) := (congrFun e12 _).trans (va_up_self _ _ _)
  refine lv_aload_n hx hb dX7_add_31 rfl (lv_at hl 0 rfl) ?_
  refine r_get kc7 X h 55 2 (by decide) rfl f13 (by decide) kw_63 rfl dX7_add_32 ?_
  exact e_i X h hr hlk dX7_add_35 ⟨rfl, fun k hk => ((congrFun e12 k).trans (va_up_ne _ _ (by omega))).trans (((congrFun e8 k).trans (va_up_ne _ _ (by omega))).trans (congrFun e4 k))⟩

set_option maxHeartbeats 4000000 in
set_option maxRecDepth 100000 in
theorem c_T_empty (l : Launch) (G : va_G) (cI cB cZ cO : ClassId) (ad : Nat → Nat) (w : Nat → va_E)  (pf55 : w 55 = .inr (5, [.ref (ad 56), .ref (ad 57), .int 0, .int 0, .int 0, .int 0, .int 0])) : MI l G (tyq cI cB cZ cO) yX7_empty cX7_empty 2 (some .int) 0 0 74 ad w [.ref (ad 55)] (fun r w1 => r = 0 ∧ ∀ k, 64 ≤ k → w1 k = w k) := by
  refine mk_i (own := "NoonShade$Text") rfl (by decide) (Nat.le_of_ble_eq_true rfl) ?_
  intro p e s m below meth c ls X hD hN hr hlk h hl
  have hx := X.1.1
  have hb := X.1.2.1
  have hown := X.1.2.2.2.1
  have hts := X.1.2.2.2.2
  have hl : lv_has ls 2 [(0, .ref (ad 55))] := hl
  refine lv_aload_n hx hb dX7_empty_0 rfl (lv_at hl 0 rfl) ?_
  refine r_get kc7 X h 55 2 (by decide) rfl pf55 (by decide) kw_63 rfl dX7_empty_1 ?_
  refine lv_istore_n (lv' := [(1, .int 0), (0, .ref (ad 55))]) hx hb dX7_empty_4 rfl hl (by decide) rfl (fun ls hl => ?_)
  refine lv_aload_n hx hb dX7_empty_5 rfl (lv_at hl 1 rfl) ?_
  refine lv_iconst (v := 0) hx hb dX7_empty_6 (by decide) ?_
  refine r_put kc7 X hD h 55 2 (by decide) rfl pf55 (by decide) kw_63 rfl rfl rfl (Nat.le_of_ble_eq_true rfl) dX7_empty_7 (fun H locs w1 e2 h => ?_)
  have f3 : w1 55 = .inr (5, [.ref (ad 56), .ref (ad 57), .int 0, .int 0, .int 0, .int 0, .int 0]) := (congrFun e2 _).trans (va_up_self _ _ _)
  refine lv_iload_n hx hb dX7_empty_10 rfl (lv_at hl 0 rfl) ?_
  exact e_i X h hr hlk dX7_empty_11 ⟨rfl, fun k hk => (congrFun e2 k).trans (va_up_ne _ _ (by omega))⟩

set_option maxHeartbeats 4000000 in
set_option maxRecDepth 100000 in
theorem c_T_step (l : Launch) (G : va_G) (cI cB cZ cO : ClassId) (ad : Nat → Nat) (w : Nat → va_E)  (pf55 : w 55 = .inr (5, [.ref (ad 56), .ref (ad 57), .int 0, .int 0, .int 0, .int 0, .int 0])) : MV l G (tyq cI cB cZ cO) yX7_step cX7_step 1 0 0 74 ad w [.ref (ad 55)] (fun w1 => w1 55 = .inr (5, [.ref (ad 56), .ref (ad 57), .int 0, .int 0, .int 0, .int 0, .int 0]) ∧ ∀ k, k ≠ 55 → w1 k = w k) := by
  refine mk_v (own := "NoonShade$Text") rfl (by decide) (Nat.le_of_ble_eq_true rfl) ?_
  intro p e s m below meth c ls X hD hN hr hlk h hl
  have hx := X.1.1
  have hb := X.1.2.1
  have hown := X.1.2.2.2.1
  have hts := X.1.2.2.2.2
  have hl : lv_has ls 1 [(0, .ref (ad 55))] := hl
  refine lv_aload_n hx hb dX7_step_0 rfl (lv_at hl 0 rfl) ?_
  refine r_get kc7 X h 55 4 (by decide) rfl pf55 (by decide) kw_80 rfl dX7_step_1 ?_
  refine lv_aload_n hx hb dX7_step_4 rfl (lv_at hl 0 rfl) ?_
  refine r_get kc7 X h 55 2 (by decide) rfl pf55 (by decide) kw_63 rfl dX7_step_5 ?_
  refine lv_icmp_ge (tgt := 38) hx hb dX7_step_8 (by decide) (fun _ => ?_) (fun hc => absurd (by decide) hc)
  refine lv_aload_n hx hb dX7_step_38 rfl (lv_at hl 0 rfl) ?_
  refine lv_aload_n hx hb dX7_step_39 rfl (lv_at hl 0 rfl) ?_
  refine r_get kc7 X h 55 4 (by decide) rfl pf55 (by decide) kw_80 rfl dX7_step_40 ?_
  refine r_put kc7 X hD h 55 3 (by decide) rfl pf55 (by decide) kw_81 rfl rfl rfl (Nat.le_of_ble_eq_true rfl) dX7_step_43 (fun H locs w1 e2 h => ?_)
  have f3 : w1 55 = .inr (5, [.ref (ad 56), .ref (ad 57), .int 0, .int 0, .int 0, .int 0, .int 0]) := (congrFun e2 _).trans (va_up_self _ _ _)
  refine lv_aload_n hx hb dX7_step_46 rfl (lv_at hl 0 rfl) ?_
  refine r_get kc7 X h 55 4 (by decide) rfl f3 (by decide) kw_80 rfl dX7_step_47 ?_
  refine lv_aload_n hx hb dX7_step_50 rfl (lv_at hl 0 rfl) ?_
  refine r_get kc7 X h 55 2 (by decide) rfl f3 (by decide) kw_63 rfl dX7_step_51 ?_
  refine lv_icmp_lt (tgt := 65) hx hb dX7_step_54 (by decide) (fun hc => absurd hc (by decide)) (fun _ => ?_)
  refine lv_aload_n hx hb dX7_step_57 rfl (lv_at hl 0 rfl) ?_
  refine lv_iconst (v := 0) hx hb dX7_step_58 (by decide) ?_
  refine r_put kc7 X hD h 55 5 (by decide) rfl f3 (by decide) kw_82 rfl rfl rfl (Nat.le_of_ble_eq_true rfl) dX7_step_59 (fun H locs w4 e5 h => ?_)
  have f6 : w4 55 = .inr (5, [.ref (ad 56), .ref (ad 57), .int 0, .int 0, .int 0, .int 0, .int 0]) := (congrFun e5 _).trans (va_up_self _ _ _)
  refine lv_goto (tgt := 179) hx hb dX7_step_62 (by decide) ?_
  exact e_v X h hr hlk dX7_step_179 ⟨f6, fun k hk => ((congrFun e5 k).trans (va_up_ne _ _ (by omega))).trans ((congrFun e2 k).trans (va_up_ne _ _ (by omega)))⟩

set_option maxHeartbeats 4000000 in
set_option maxRecDepth 100000 in
theorem c_T_mayBegin (l : Launch) (G : va_G) (cI cB cZ cO : ClassId) (ad : Nat → Nat) (w : Nat → va_E) (b : Nat) (z : Int32) : MI l G (tyq cI cB cZ cO) yX7_mayBegin cX7_mayBegin 3 (some .boolean) 0 0 74 ad w [.ref (ad b), .int (-1), .int z] (fun r w1 => w1 = w ∧ r = 0) := by
  refine mk_i (own := "NoonShade$Text") rfl (by decide) (Nat.le_of_ble_eq_true rfl) ?_
  intro p e s m below meth c ls X hD hN hr hlk h hl
  have hx := X.1.1
  have hb := X.1.2.1
  have hown := X.1.2.2.2.1
  have hts := X.1.2.2.2.2
  have hl : lv_has ls 3 [(0, .ref (ad b)), (1, .int (-1)), (2, .int z)] := hl
  refine lv_iload_n hx hb dX7_mayBegin_0 rfl (lv_at hl 1 rfl) ?_
  refine lv_tableIn (tgt := 32) (off := 31) hx hb dX7_mayBegin_1 (by decide) (by decide) (by decide) (by decide) ?_
  refine lv_iconst (v := 0) hx hb dX7_mayBegin_32 (by decide) ?_
  exact e_z X h hr hlk rfl dX7_mayBegin_33 ⟨rfl, rfl⟩

set_option maxHeartbeats 4000000 in
set_option maxRecDepth 100000 in
theorem c_T_tell (l : Launch) (G : va_G) (cI cB cZ cO : ClassId) (ad : Nat → Nat) (w : Nat → va_E)  (pf55 : w 55 = .inr (5, [.ref (ad 56), .ref (ad 57), .int 0, .int 0, .int 0, .int 0, .int 0])) (pf14 : w 14 = .inr (1, [.int 0, .int 0, .int 0, .int 0, .int 0, .ref (ad 15), .ref (ad 16), .ref (ad 17), .ref (ad 18), .ref (ad 19), .ref (ad 20), .ref (ad 21), .ref (ad 23), .ref (ad 25)])) (pf21 : w 21 = .inr (4, [.ref (ad 22), .int 0])) (pf23 : w 23 = .inr (4, [.ref (ad 24), .int 0])) (pf25 : w 25 = .inr (2, [.ref (ad 26), .int 0])) : MI l G (tyq cI cB cZ cO) yX7_tell cX7_tell 4 (some .int) 2 42 74 ad w [.ref (ad 55), .ref (ad 14)] (fun r w1 => r = -10 ∧ ∀ k, 64 ≤ k → w1 k = w k) := by
  refine mk_i (own := "NoonShade$Text") rfl (by decide) (Nat.le_of_ble_eq_true rfl) ?_
  intro p e s m below meth c ls X hD hN hr hlk h hl
  have hx := X.1.1
  have hb := X.1.2.1
  have hown := X.1.2.2.2.1
  have hts := X.1.2.2.2.2
  have hl : lv_has ls 4 [(0, .ref (ad 55)), (1, .ref (ad 14))] := hl
  refine lv_aload_n hx hb dX7_tell_0 rfl (lv_at hl 1 rfl) ?_
  refine lv_iconst (v := 0) hx hb dX7_tell_1 (by decide) ?_
  refine q_Vv (na := 1) (As := [.int 0]) (rest := []) X hD hN h rfl (c_begin l G cI cB cZ cO ad w 14 _ _ _ _ _ _ _ _ 0 (by decide) pf14 pf21 pf23 pf25) ⟨kw_83, kw_43, kw_44, kw_9, kw_45⟩ rfl ⟨by decide, by decide, by decide⟩ ⟨Nat.le_of_ble_eq_true rfl, Nat.le_of_ble_eq_true rfl⟩ ⟨Nat.zero_le _, Nat.zero_le _⟩ (by decide) pf14 rfl rfl hl.1 rfl (Nat.le_of_ble_eq_true rfl) dX7_tell_2 (fun w2 H locs hp3 h => ?_)
  obtain ⟨f4, f5, f6, f7, hf8⟩ := hp3
  refine lv_aload_n hx hb dX7_tell_5 rfl (lv_at hl 0 rfl) ?_
  refine lv_iconst (v := 0) hx hb dX7_tell_6 (by decide) ?_
  have f9 : w2 55 = .inr (5, [.ref (ad 56), .ref (ad 57), .int 0, .int 0, .int 0, .int 0, .int 0]) := (hf8 55 (by decide) (by decide) (by decide) (by decide)).trans pf55
  refine r_put kc7 X hD h 55 4 (by decide) rfl f9 (by decide) kw_80 rfl rfl rfl (Nat.le_of_ble_eq_true rfl) dX7_tell_7 (fun H locs w10 e11 h => ?_)
  have f12 : w10 55 = .inr (5, [.ref (ad 56), .ref (ad 57), .int 0, .int 0, .int 0, .int 0, .int 0]) := (congrFun e11 _).trans (va_up_self _ _ _)
  refine lv_iconst (v := 0) hx hb dX7_tell_10 (by decide) ?_
  refine lv_istore_n (lv' := [(2, .int 0), (0, .ref (ad 55)), (1, .ref (ad 14))]) hx hb dX7_tell_11 rfl hl (by decide) rfl (fun ls hl => ?_)
  refine lv_iload_n hx hb dX7_tell_12 rfl (lv_at hl 0 rfl) ?_
  refine lv_sipush (v := 150) hx hb dX7_tell_13 (by decide) ?_
  refine lv_icmp_gt (tgt := 94) hx hb dX7_tell_16 (by decide) (fun hc => absurd hc (by decide)) (fun _ => ?_)
  refine lv_aload_n hx hb dX7_tell_19 rfl (lv_at hl 1 rfl) ?_
  refine q_Vv (na := 0) (As := []) (rest := []) X hD hN h rfl (c_T_step l G cI cB cZ cO ad w10  f12) ⟨kw_84, kw_85, kw_86, kw_67, kw_87⟩ rfl ⟨by decide, by decide, by decide⟩ ⟨Nat.le_of_ble_eq_true rfl, Nat.le_of_ble_eq_true rfl⟩ ⟨Nat.zero_le _, Nat.zero_le _⟩ (by decide) f12 rfl rfl hl.1 rfl (Nat.le_of_ble_eq_true rfl) dX7_tell_20 (fun w14 H locs hp15 h => ?_)
  obtain ⟨f16, hf17⟩ := hp15
  refine lv_aload_n hx hb dX7_tell_23 rfl (lv_at hl 1 rfl) ?_
  refine r_get kc7 X h 55 5 (by decide) rfl f16 (by decide) kw_82 rfl dX7_tell_24 ?_
  refine lv_if_ne (tgt := 36) hx hb dX7_tell_27 (by decide) (fun hc => absurd (by decide) hc) (fun _ => ?_)
  refine lv_iload_n hx hb dX7_tell_30 rfl (lv_at hl 0 rfl) ?_
  refine lv_if_le (tgt := 36) hx hb dX7_tell_31 (by decide) (fun _ => ?_) (fun hc => absurd (by decide) hc)
  refine lv_aload_n hx hb dX7_tell_36 rfl (lv_at hl 1 rfl) ?_
  refine r_get kc7 X h 55 5 (by decide) rfl f16 (by decide) kw_82 rfl dX7_tell_37 ?_
  refine lv_iconst (v := 1) hx hb dX7_tell_40 (by decide) ?_
  refine lv_icmp_ne (tgt := 51) hx hb dX7_tell_41 (by decide) (fun _ => ?_) (fun hc => absurd hc (by decide))
  refine lv_iconst (v := (-1)) hx hb dX7_tell_51 (by decide) ?_
  refine lv_istore_n (lv' := [(3, .int (-1)), (2, .int 0), (0, .ref (ad 55)), (1, .ref (ad 14))]) hx hb dX7_tell_52 rfl hl (by decide) rfl (fun ls hl => ?_)
  refine lv_aload_n hx hb dX7_tell_53 rfl (lv_at hl 3 rfl) ?_
  refine lv_iload_n hx hb dX7_tell_54 rfl (lv_at hl 0 rfl) ?_
  refine lv_iload_n hx hb dX7_tell_55 rfl (lv_at hl 1 rfl) ?_
  refine lv_if_ne (tgt := 63) hx hb dX7_tell_56 (by decide) (fun hc => absurd (by decide) hc) (fun _ => ?_)
  refine lv_iconst (v := 1) hx hb dX7_tell_59 (by decide) ?_
  refine lv_goto (tgt := 64) hx hb dX7_tell_60 (by decide) ?_
  refine q_Si (na := 3) (As := [.ref (ad 14), .int (-1), .int 1]) (rest := []) X hD hN h (c_T_mayBegin l G cI cB cZ cO ad w14 14 1) ⟨kw_88, kw_89, kw_67, kw_90⟩ ⟨by decide, by decide, by decide⟩ ⟨Nat.le_of_ble_eq_true rfl, Nat.le_of_ble_eq_true rfl⟩ ⟨Nat.zero_le _, Nat.zero_le _⟩ rfl hl.1 rfl (Nat.le_of_ble_eq_true rfl) dX7_tell_64 (fun r18 w19 H locs hp20 h => ?_)
  obtain ⟨e21, rfl⟩ := hp20
  refine lv_if_eq (tgt := 94) hx hb dX7_tell_67 (by decide) (fun _ => ?_) (fun hc => absurd (by decide) hc)
  refine lv_bipush (v := (-10)) hx hb dX7_tell_94 (by decide) ?_
  refine lv_aload_n hx hb dX7_tell_96 rfl (lv_at hl 2 rfl) ?_
  have f22 : w19 55 = .inr (5, [.ref (ad 56), .ref (ad 57), .int 0, .int 0, .int 0, .int 0, .int 0]) := by rw [e21]; exact f16
  refine r_get kc7 X h 55 3 (by decide) rfl f22 (by decide) kw_81 rfl dX7_tell_97 ?_
  refine o_isub (z := (-10)) hx hb dX7_tell_100 rfl ?_
  exact e_i X h hr hlk dX7_tell_101 ⟨rfl, fun k hk => (congrFun e21 k).trans ((hf17 k (by omega)).trans (((congrFun e11 k).trans (va_up_ne _ _ (by omega))).trans (hf8 k (by omega) (by omega) (by omega) (by omega))))⟩

set_option maxHeartbeats 4000000 in
set_option maxRecDepth 100000 in
theorem c_bringBack (l : Launch) (G : va_G) (cI cB cZ cO : ClassId) (ad : Nat → Nat) (w : Nat → va_E) (pf12 : w 12 = .inr (2, [.ref (ad 13), .int 0])) : MI l G (tyq cI cB cZ cO) yX4_bringBack cX4_bringBack 3 (some .boolean) 0 0 74 ad w [.ref (ad 12), .ref (ad 1)] (fun r w1 => w1 = w ∧ r = 0) := by
  refine mk_i (own := "NoonShade$Past") rfl (by decide) (Nat.le_of_ble_eq_true rfl) ?_
  intro p e s m below meth c ls X hD hN hr hlk h hl
  have hx := X.1.1
  have hb := X.1.2.1
  have hown := X.1.2.2.2.1
  have hts := X.1.2.2.2.2
  have hl : lv_has ls 3 [(0, .ref (ad 12)), (1, .ref (ad 1))] := hl
  refine lv_aload_n hx hb dX4_bringBack_0 rfl (lv_at hl 0 rfl) ?_
  refine r_get kc4 X h 12 1 (by decide) rfl pf12 (by decide) kw_21 rfl dX4_bringBack_1 ?_
  refine lv_if_gt (tgt := 9) hx hb dX4_bringBack_4 (by decide) (fun hc => absurd hc (by decide)) (fun _ => ?_)
  refine lv_iconst (v := 0) hx hb dX4_bringBack_7 (by decide) ?_
  exact e_z X h hr hlk rfl dX4_bringBack_8 ⟨rfl, rfl⟩

set_option maxHeartbeats 4000000 in
set_option maxRecDepth 100000 in
theorem c_coolInAll (l : Launch) (G : va_G) (cI cB cZ cO : ClassId) (ad : Nat → Nat) (w : Nat → va_E)  (pf1 : w 1 = .inr (1, [.int 0, .int 0, .int 0, .int 0, .int 0, .ref (ad 2), .ref (ad 3), .ref (ad 4), .ref (ad 5), .ref (ad 6), .ref (ad 7), .ref (ad 8), .ref (ad 10), .ref (ad 12)])) : MI l G (tyq cI cB cZ cO) yX2_coolInAll cX2_coolInAll 3 (some .int) 0 0 74 ad w [.ref (ad 1)] (fun r w1 => w1 = w ∧ r = 0) := by
  refine mk_i (own := "NoonShade$Isle") rfl (by decide) (Nat.le_of_ble_eq_true rfl) ?_
  intro p e s m below meth c ls X hD hN hr hlk h hl
  have hx := X.1.1
  have hb := X.1.2.1
  have hown := X.1.2.2.2.1
  have hts := X.1.2.2.2.2
  have hl : lv_has ls 3 [(0, .ref (ad 1))] := hl
  refine lv_iconst (v := 0) hx hb dX2_coolInAll_0 (by decide) ?_
  refine lv_istore_n (lv' := [(1, .int 0), (0, .ref (ad 1))]) hx hb dX2_coolInAll_1 rfl hl (by decide) rfl (fun ls hl => ?_)
  refine lv_iconst (v := 0) hx hb dX2_coolInAll_2 (by decide) ?_
  refine lv_istore_n (lv' := [(2, .int 0), (1, .int 0), (0, .ref (ad 1))]) hx hb dX2_coolInAll_3 rfl hl (by decide) rfl (fun ls hl => ?_)
  refine lv_iload_n hx hb dX2_coolInAll_4 rfl (lv_at hl 0 rfl) ?_
  refine lv_aload_n hx hb dX2_coolInAll_5 rfl (lv_at hl 2 rfl) ?_
  refine r_get kc2 X h 1 4 (by decide) rfl pf1 (by decide) kw_1 rfl dX2_coolInAll_6 ?_
  refine lv_icmp_ge (tgt := 27) hx hb dX2_coolInAll_9 (by decide) (fun _ => ?_) (fun hc => absurd (by decide) hc)
  refine lv_iload_n hx hb dX2_coolInAll_27 rfl (lv_at hl 1 rfl) ?_
  exact e_i X h hr hlk dX2_coolInAll_28 ⟨rfl, rfl⟩

set_option maxHeartbeats 4000000 in
set_option maxRecDepth 100000 in
theorem c_bitCount (l : Launch) (G : va_G) (cI cB cZ cO : ClassId) (ad : Nat → Nat) (w : Nat → va_E)  : MI l G (tyq cI cB cZ cO) yJ6_bitCount_0f7a4 cJ6_bitCount_0f7a4 1 (some .int) 0 0 74 ad w [.int 0] (fun r w1 => w1 = w ∧ r = 0) := by
  refine mk_i (own := "java/lang/Integer") rfl (by decide) (Nat.le_of_ble_eq_true rfl) ?_
  intro p e s m below meth c ls X hD hN hr hlk h hl
  have hx := X.1.1
  have hb := X.1.2.1
  have hown := X.1.2.2.2.1
  have hts := X.1.2.2.2.2
  have hl : lv_has ls 1 [(0, .int 0)] := hl
  refine lv_iload_n hx hb dJ6_bitCount_0f7a4_0 rfl (lv_at hl 0 rfl) ?_
  refine lv_iload_n hx hb dJ6_bitCount_0f7a4_1 rfl (lv_at hl 0 rfl) ?_
  refine lv_iconst (v := 1) hx hb dJ6_bitCount_0f7a4_2 (by decide) ?_
  refine lv_iushr (v := 0) hx hb dJ6_bitCount_0f7a4_3 rfl ?_
  refine lv_ldcw (v := 1431655765) hx hb hown (hts _ kw_106) dJ6_bitCount_0f7a4_4 ?_
  refine o_iand (z := 0) hx hb dJ6_bitCount_0f7a4_7 rfl ?_
  refine o_isub (z := 0) hx hb dJ6_bitCount_0f7a4_8 rfl ?_
  refine lv_istore_n (lv' := [(0, .int 0)]) hx hb dJ6_bitCount_0f7a4_9 rfl hl (by decide) rfl (fun ls hl => ?_)
  refine lv_iload_n hx hb dJ6_bitCount_0f7a4_10 rfl (lv_at hl 0 rfl) ?_
  refine lv_ldcw (v := 858993459) hx hb hown (hts _ kw_107) dJ6_bitCount_0f7a4_11 ?_
  refine o_iand (z := 0) hx hb dJ6_bitCount_0f7a4_14 rfl ?_
  refine lv_iload_n hx hb dJ6_bitCount_0f7a4_15 rfl (lv_at hl 0 rfl) ?_
  refine lv_iconst (v := 2) hx hb dJ6_bitCount_0f7a4_16 (by decide) ?_
  refine lv_iushr (v := 0) hx hb dJ6_bitCount_0f7a4_17 rfl ?_
  refine lv_ldcw (v := 858993459) hx hb hown (hts _ kw_107) dJ6_bitCount_0f7a4_18 ?_
  refine o_iand (z := 0) hx hb dJ6_bitCount_0f7a4_21 rfl ?_
  refine o_iadd (z := 0) hx hb dJ6_bitCount_0f7a4_22 rfl ?_
  refine lv_istore_n (lv' := [(0, .int 0)]) hx hb dJ6_bitCount_0f7a4_23 rfl hl (by decide) rfl (fun ls hl => ?_)
  refine lv_iload_n hx hb dJ6_bitCount_0f7a4_24 rfl (lv_at hl 0 rfl) ?_
  refine lv_iload_n hx hb dJ6_bitCount_0f7a4_25 rfl (lv_at hl 0 rfl) ?_
  refine lv_iconst (v := 4) hx hb dJ6_bitCount_0f7a4_26 (by decide) ?_
  refine lv_iushr (v := 0) hx hb dJ6_bitCount_0f7a4_27 rfl ?_
  refine o_iadd (z := 0) hx hb dJ6_bitCount_0f7a4_28 rfl ?_
  refine lv_ldcw (v := 252645135) hx hb hown (hts _ kw_108) dJ6_bitCount_0f7a4_29 ?_
  refine o_iand (z := 0) hx hb dJ6_bitCount_0f7a4_32 rfl ?_
  refine lv_istore_n (lv' := [(0, .int 0)]) hx hb dJ6_bitCount_0f7a4_33 rfl hl (by decide) rfl (fun ls hl => ?_)
  refine lv_iload_n hx hb dJ6_bitCount_0f7a4_34 rfl (lv_at hl 0 rfl) ?_
  refine lv_iload_n hx hb dJ6_bitCount_0f7a4_35 rfl (lv_at hl 0 rfl) ?_
  refine lv_bipush (v := 8) hx hb dJ6_bitCount_0f7a4_36 (by decide) ?_
  refine lv_iushr (v := 0) hx hb dJ6_bitCount_0f7a4_38 rfl ?_
  refine o_iadd (z := 0) hx hb dJ6_bitCount_0f7a4_39 rfl ?_
  refine lv_istore_n (lv' := [(0, .int 0)]) hx hb dJ6_bitCount_0f7a4_40 rfl hl (by decide) rfl (fun ls hl => ?_)
  refine lv_iload_n hx hb dJ6_bitCount_0f7a4_41 rfl (lv_at hl 0 rfl) ?_
  refine lv_iload_n hx hb dJ6_bitCount_0f7a4_42 rfl (lv_at hl 0 rfl) ?_
  refine lv_bipush (v := 16) hx hb dJ6_bitCount_0f7a4_43 (by decide) ?_
  refine lv_iushr (v := 0) hx hb dJ6_bitCount_0f7a4_45 rfl ?_
  refine o_iadd (z := 0) hx hb dJ6_bitCount_0f7a4_46 rfl ?_
  refine lv_istore_n (lv' := [(0, .int 0)]) hx hb dJ6_bitCount_0f7a4_47 rfl hl (by decide) rfl (fun ls hl => ?_)
  refine lv_iload_n hx hb dJ6_bitCount_0f7a4_48 rfl (lv_at hl 0 rfl) ?_
  refine lv_bipush (v := 63) hx hb dJ6_bitCount_0f7a4_49 (by decide) ?_
  refine o_iand (z := 0) hx hb dJ6_bitCount_0f7a4_51 rfl ?_
  exact e_i X h hr hlk dJ6_bitCount_0f7a4_52 ⟨rfl, rfl⟩

set_option maxHeartbeats 4000000 in
set_option maxRecDepth 100000 in
theorem c_R_mixed8 (l : Launch) (G : va_G) (cI cB cZ cO : ClassId) (ad : Nat → Nat) (w : Nat → va_E) (x : Int64) (pf8 : w 8 = .inr (4, [.ref (ad 9), .int 0])) : ML l G (tyq cI cB cZ cO) yX6_mixed cX6_mixed 6 (some .long) 0 0 74 ad w [.ref (ad 8), .long x] (fun r w1 => w1 = w ∧ x = r) := by
  refine mk_l (own := "NoonShade$Rows") rfl (by decide) (Nat.le_of_ble_eq_true rfl) ?_
  intro p e s m below meth c ls X hD hN hr hlk h hl
  have hx := X.1.1
  have hb := X.1.2.1
  have hown := X.1.2.2.2.1
  have hts := X.1.2.2.2.2
  have hl : lv_has ls 6 [(0, .ref (ad 8)), (1, .long x)] := hl
  refine lv_lload_n hx hb dX6_mixed_0 rfl (lv_at hl 1 rfl) ?_
  refine lv_lstore_n (lv' := [(3, .long x), (0, .ref (ad 8)), (1, .long x)]) hx hb dX6_mixed_1 rfl hl (by decide) rfl (fun ls hl => ?_)
  refine lv_iconst (v := 0) hx hb dX6_mixed_2 (by decide) ?_
  refine lv_istore (lv' := [(5, .int 0), (3, .long x), (0, .ref (ad 8)), (1, .long x)]) hx hb dX6_mixed_3 hl (by decide) rfl (fun ls hl => ?_)
  refine lv_iload hx hb dX6_mixed_5 (lv_at hl 0 rfl) ?_
  refine lv_aload_n hx hb dX6_mixed_7 rfl (lv_at hl 2 rfl) ?_
  refine r_get kc6 X h 8 1 (by decide) rfl pf8 (by decide) kw_20 rfl dX6_mixed_8 ?_
  refine lv_iconst (v := 4) hx hb dX6_mixed_11 (by decide) ?_
  refine o_imul (z := 0) hx hb dX6_mixed_12 rfl ?_
  refine lv_icmp_ge (tgt := 37) hx hb dX6_mixed_13 (by decide) (fun _ => ?_) (fun hc => absurd (by decide) hc)
  refine lv_lload_n hx hb dX6_mixed_37 rfl (lv_at hl 1 rfl) ?_
  exact e_l X h hr hlk dX6_mixed_38 ⟨rfl, rfl⟩

set_option maxHeartbeats 4000000 in
set_option maxRecDepth 100000 in
theorem c_R_mixed10 (l : Launch) (G : va_G) (cI cB cZ cO : ClassId) (ad : Nat → Nat) (w : Nat → va_E) (x : Int64) (pf10 : w 10 = .inr (4, [.ref (ad 11), .int 0])) : ML l G (tyq cI cB cZ cO) yX6_mixed cX6_mixed 6 (some .long) 0 0 74 ad w [.ref (ad 10), .long x] (fun r w1 => w1 = w ∧ x = r) := by
  refine mk_l (own := "NoonShade$Rows") rfl (by decide) (Nat.le_of_ble_eq_true rfl) ?_
  intro p e s m below meth c ls X hD hN hr hlk h hl
  have hx := X.1.1
  have hb := X.1.2.1
  have hown := X.1.2.2.2.1
  have hts := X.1.2.2.2.2
  have hl : lv_has ls 6 [(0, .ref (ad 10)), (1, .long x)] := hl
  refine lv_lload_n hx hb dX6_mixed_0 rfl (lv_at hl 1 rfl) ?_
  refine lv_lstore_n (lv' := [(3, .long x), (0, .ref (ad 10)), (1, .long x)]) hx hb dX6_mixed_1 rfl hl (by decide) rfl (fun ls hl => ?_)
  refine lv_iconst (v := 0) hx hb dX6_mixed_2 (by decide) ?_
  refine lv_istore (lv' := [(5, .int 0), (3, .long x), (0, .ref (ad 10)), (1, .long x)]) hx hb dX6_mixed_3 hl (by decide) rfl (fun ls hl => ?_)
  refine lv_iload hx hb dX6_mixed_5 (lv_at hl 0 rfl) ?_
  refine lv_aload_n hx hb dX6_mixed_7 rfl (lv_at hl 2 rfl) ?_
  refine r_get kc6 X h 10 1 (by decide) rfl pf10 (by decide) kw_20 rfl dX6_mixed_8 ?_
  refine lv_iconst (v := 4) hx hb dX6_mixed_11 (by decide) ?_
  refine o_imul (z := 0) hx hb dX6_mixed_12 rfl ?_
  refine lv_icmp_ge (tgt := 37) hx hb dX6_mixed_13 (by decide) (fun _ => ?_) (fun hc => absurd (by decide) hc)
  refine lv_lload_n hx hb dX6_mixed_37 rfl (lv_at hl 1 rfl) ?_
  exact e_l X h hr hlk dX6_mixed_38 ⟨rfl, rfl⟩

set_option maxHeartbeats 4000000 in
set_option maxRecDepth 100000 in
theorem c_I_mixed (l : Launch) (G : va_G) (cI cB cZ cO : ClassId) (ad : Nat → Nat) (w : Nat → va_E) (x : Int64) (pf1 : w 1 = .inr (1, [.int 0, .int 0, .int 0, .int 0, .int 0, .ref (ad 2), .ref (ad 3), .ref (ad 4), .ref (ad 5), .ref (ad 6), .ref (ad 7), .ref (ad 8), .ref (ad 10), .ref (ad 12)])) (pf8 : w 8 = .inr (4, [.ref (ad 9), .int 0])) (pf10 : w 10 = .inr (4, [.ref (ad 11), .int 0])) : ML l G (tyq cI cB cZ cO) yX2_mixed cX2_mixed 6 (some .long) 1 25 74 ad w [.ref (ad 1), .long x] (fun r w1 => w1 = w ∧ x = r) := by
  refine mk_l (own := "NoonShade$Isle") rfl (by decide) (Nat.le_of_ble_eq_true rfl) ?_
  intro p e s m below meth c ls X hD hN hr hlk h hl
  have hx := X.1.1
  have hb := X.1.2.1
  have hown := X.1.2.2.2.1
  have hts := X.1.2.2.2.2
  have hl : lv_has ls 6 [(0, .ref (ad 1)), (1, .long x)] := hl
  refine lv_lload_n hx hb dX2_mixed_0 rfl (lv_at hl 1 rfl) ?_
  refine lv_lstore_n (lv' := [(3, .long x), (0, .ref (ad 1)), (1, .long x)]) hx hb dX2_mixed_1 rfl hl (by decide) rfl (fun ls hl => ?_)
  refine lv_iconst (v := 0) hx hb dX2_mixed_2 (by decide) ?_
  refine lv_istore (lv' := [(5, .int 0), (3, .long x), (0, .ref (ad 1)), (1, .long x)]) hx hb dX2_mixed_3 hl (by decide) rfl (fun ls hl => ?_)
  refine lv_iload hx hb dX2_mixed_5 (lv_at hl 0 rfl) ?_
  refine lv_aload_n hx hb dX2_mixed_7 rfl (lv_at hl 2 rfl) ?_
  refine r_get kc2 X h 1 3 (by decide) rfl pf1 (by decide) kw_0 rfl dX2_mixed_8 ?_
  refine lv_icmp_ge (tgt := 87) hx hb dX2_mixed_11 (by decide) (fun _ => ?_) (fun hc => absurd (by decide) hc)
  refine lv_iconst (v := 0) hx hb dX2_mixed_87 (by decide) ?_
  refine lv_istore (lv' := [(5, .int 0), (3, .long x), (0, .ref (ad 1)), (1, .long x)]) hx hb dX2_mixed_88 hl (by decide) rfl (fun ls hl => ?_)
  refine lv_iload hx hb dX2_mixed_90 (lv_at hl 0 rfl) ?_
  refine lv_aload_n hx hb dX2_mixed_92 rfl (lv_at hl 2 rfl) ?_
  refine r_get kc2 X h 1 4 (by decide) rfl pf1 (by decide) kw_1 rfl dX2_mixed_93 ?_
  refine lv_icmp_ge (tgt := 150) hx hb dX2_mixed_96 (by decide) (fun _ => ?_) (fun hc => absurd (by decide) hc)
  refine lv_aload_n hx hb dX2_mixed_150 rfl (lv_at hl 2 rfl) ?_
  refine r_get kc2 X h 1 12 (by decide) rfl pf1 (by decide) kw_31 rfl dX2_mixed_151 ?_
  refine lv_aload_n hx hb dX2_mixed_154 rfl (lv_at hl 2 rfl) ?_
  refine r_get kc2 X h 1 11 (by decide) rfl pf1 (by decide) kw_25 rfl dX2_mixed_155 ?_
  refine lv_lload_n hx hb dX2_mixed_158 rfl (lv_at hl 1 rfl) ?_
  refine q_Vl (na := 1) (As := [.long x]) (rest := [.ref (ad 10)]) X hD hN h rfl (c_R_mixed8 l G cI cB cZ cO ad w x pf8) ⟨kw_127, kw_128, kw_129, kw_29, kw_130⟩ rfl ⟨by decide, by decide, by decide⟩ ⟨Nat.le_of_ble_eq_true rfl, Nat.le_of_ble_eq_true rfl⟩ ⟨Nat.zero_le _, Nat.zero_le _⟩ (by decide) pf8 rfl rfl hl.1 rfl (Nat.le_of_ble_eq_true rfl) dX2_mixed_159 (fun r1 w2 H locs hp3 h => ?_)
  obtain ⟨e4, rfl⟩ := hp3
  have f5 : w2 10 = .inr (4, [.ref (ad 11), .int 0]) := by rw [e4]; exact pf10
  refine q_Vl (na := 1) (As := [.long x]) (rest := []) X hD hN h rfl (c_R_mixed10 l G cI cB cZ cO ad w2 x f5) ⟨kw_127, kw_128, kw_129, kw_29, kw_130⟩ rfl ⟨by decide, by decide, by decide⟩ ⟨Nat.le_of_ble_eq_true rfl, Nat.le_of_ble_eq_true rfl⟩ ⟨Nat.zero_le _, Nat.zero_le _⟩ (by decide) f5 rfl rfl hl.1 rfl (Nat.le_of_ble_eq_true rfl) dX2_mixed_162 (fun r6 w7 H locs hp8 h => ?_)
  obtain ⟨e9, rfl⟩ := hp8
  exact e_l X h hr hlk dX2_mixed_165 ⟨funext fun k => (congrFun e9 k).trans (congrFun e4 k), rfl⟩
end
section
set_option maxHeartbeats 4000000 in
set_option maxRecDepth 100000 in
theorem c_passHour (l : Launch) (G : va_G) (cI cB cZ cO : ClassId) (ad : Nat → Nat) (w : Nat → va_E) (b : Nat) (q0 q1 q2 q3 : Int32) (hb0 : b < 74) (pf : w b = .inr (1, [.int q0, .int q1, .int q2, .int q3, .int 0, .ref (ad (b + 1)), .ref (ad (b + 2)), .ref (ad (b + 3)), .ref (ad (b + 4)), .ref (ad (b + 5)), .ref (ad (b + 6)), .ref (ad (b + 7)), .ref (ad (b + 9)), .ref (ad (b + 11))])) : MV l G (tyq cI cB cZ cO) yX2_passHour cX2_passHour 2 0 0 74 ad w [.ref (ad b)] (fun w1 => w1 b = .inr (1, [.int (q0 + 1), .int q1, .int 0, .int q3, .int 0, .ref (ad (b + 1)), .ref (ad (b + 2)), .ref (ad (b + 3)), .ref (ad (b + 4)), .ref (ad (b + 5)), .ref (ad (b + 6)), .ref (ad (b + 7)), .ref (ad (b + 9)), .ref (ad (b + 11))]) ∧ ∀ k, k ≠ b → w1 k = w k) := by
  refine mk_v (own := "NoonShade$Isle") rfl (by decide) (Nat.le_of_ble_eq_true rfl) ?_
  intro p e s m below meth c ls X hD hN hr hlk h hl
  have hx := X.1.1
  have hb := X.1.2.1
  have hown := X.1.2.2.2.1
  have hts := X.1.2.2.2.2
  have hl : lv_has ls 2 [(0, .ref (ad b))] := hl
  refine lv_iconst (v := 0) hx hb dX2_passHour_0 (by decide) ?_
  refine lv_istore_n (lv' := [(1, .int 0), (0, .ref (ad b))]) hx hb dX2_passHour_1 rfl hl (by decide) rfl (fun ls hl => ?_)
  refine lv_iload_n hx hb dX2_passHour_2 rfl (lv_at hl 0 rfl) ?_
  refine lv_aload_n hx hb dX2_passHour_3 rfl (lv_at hl 1 rfl) ?_
  refine r_get kc2 X h b 4 (by omega) rfl pf (by decide) kw_1 rfl dX2_passHour_4 ?_
  refine lv_icmp_ge (tgt := 47) hx hb dX2_passHour_7 (by decide) (fun _ => ?_) (fun hc => absurd (by decide) hc)
  refine lv_aload_n hx hb dX2_passHour_47 rfl (lv_at hl 1 rfl) ?_
  refine lv_dup hx hb dX2_passHour_48 rfl ?_
  refine r_get kc2 X h b 0 (by omega) rfl pf (by decide) kw_22 rfl dX2_passHour_49 ?_
  refine lv_iconst (v := 1) hx hb dX2_passHour_52 (by decide) ?_
  refine o_iadd (z := q0 + 1) hx hb dX2_passHour_53 rfl ?_
  refine r_put kc2 X hD h b 0 (by omega) rfl pf (by decide) kw_22 rfl rfl rfl (Nat.le_of_ble_eq_true rfl) dX2_passHour_54 (fun H locs w1 e2 h => ?_)
  have f3 : w1 b = .inr (1, [.int (q0 + 1), .int q1, .int q2, .int q3, .int 0, .ref (ad (b + 1)), .ref (ad (b + 2)), .ref (ad (b + 3)), .ref (ad (b + 4)), .ref (ad (b + 5)), .ref (ad (b + 6)), .ref (ad (b + 7)), .ref (ad (b + 9)), .ref (ad (b + 11))]) := (congrFun e2 _).trans (va_up_self _ _ _)
  refine lv_aload_n hx hb dX2_passHour_57 rfl (lv_at hl 1 rfl) ?_
  refine lv_iconst (v := 0) hx hb dX2_passHour_58 (by decide) ?_
  refine r_put kc2 X hD h b 2 (by omega) rfl f3 (by decide) kw_24 rfl rfl rfl (Nat.le_of_ble_eq_true rfl) dX2_passHour_59 (fun H locs w4 e5 h => ?_)
  have f6 : w4 b = .inr (1, [.int (q0 + 1), .int q1, .int 0, .int q3, .int 0, .ref (ad (b + 1)), .ref (ad (b + 2)), .ref (ad (b + 3)), .ref (ad (b + 4)), .ref (ad (b + 5)), .ref (ad (b + 6)), .ref (ad (b + 7)), .ref (ad (b + 9)), .ref (ad (b + 11))]) := (congrFun e5 _).trans (va_up_self _ _ _)
  exact e_v X h hr hlk dX2_passHour_62 ⟨f6, fun k h1 => ((congrFun e5 k).trans (va_up_ne _ _ (by omega))).trans ((congrFun e2 k).trans (va_up_ne _ _ (by omega)))⟩

set_option maxHeartbeats 4000000 in
set_option maxRecDepth 100000 in
theorem c_passHours (l : Launch) (G : va_G) (cI cB cZ cO : ClassId) (ad : Nat → Nat) (w : Nat → va_E) (n : Int32) (hn0 : 0 ≤ n.toInt) (hn1 : n.toInt ≤ 60) (pf1 : w 1 = .inr (1, [.int 0, .int 0, .int 0, .int 0, .int 0, .ref (ad 2), .ref (ad 3), .ref (ad 4), .ref (ad 5), .ref (ad 6), .ref (ad 7), .ref (ad 8), .ref (ad 10), .ref (ad 12)])) : MV l G (tyq cI cB cZ cO) yX2_passHours cX2_passHours 3 1 21 74 ad w [.ref (ad 1), .int n] (fun w1 => w1 1 = .inr (1, [.int n, .int 0, .int 0, .int 0, .int 0, .ref (ad 2), .ref (ad 3), .ref (ad 4), .ref (ad 5), .ref (ad 6), .ref (ad 7), .ref (ad 8), .ref (ad 10), .ref (ad 12)]) ∧ ∀ k, k ≠ 1 → w1 k = w k) := by
  refine mk_v (own := "NoonShade$Isle") rfl (by decide) (Nat.le_of_ble_eq_true rfl) ?_
  intro p e s m below meth c ls X hD hN hr hlk h hl
  have hx := X.1.1
  have hb := X.1.2.1
  have hown := X.1.2.2.2.1
  have hts := X.1.2.2.2.2
  have hl : lv_has ls 3 [(0, .ref (ad 1)), (1, .int n)] := hl
  refine lv_iconst (v := 0) hx hb dX2_passHours_0 (by decide) ?_
  refine lv_istore_n (lv' := [(2, .int 0), (0, .ref (ad 1)), (1, .int n)]) hx hb dX2_passHours_1 rfl hl (by decide) rfl (fun ls hl => ?_)
  have hloop1 : ∀ (d : Nat) (k : Int32) (w2 : Nat → va_E) (H : Heap) (locs : List Loc) (ls : Array Slot), 0 ≤ k.toInt → k.toInt ≤ n.toInt → w2 1 = .inr (1, [.int k, .int 0, .int 0, .int 0, .int 0, .ref (ad 2), .ref (ad 3), .ref (ad 4), .ref (ad 5), .ref (ad 6), .ref (ad 7), .ref (ad 8), .ref (ad 10), .ref (ad 12)]) → (∀ k, k ≠ 1 → w2 k = w k) → n.toInt - k.toInt < (d : Int) → St G 74 ad (wA 74 ad s.heap.size) s.heap w2 H locs → lv_has ls 3 [(0, .ref (ad 1)), (1, .int n), (2, .int k)] → W p l e { frames := 1, cells := 0, slots := 0, locals := 21 } s m [.ref (ad 1), .int n].toArray below meth c H locs 0 0 (MQ below (va_Qv (fun w1 => w1 1 = .inr (1, [.int n, .int 0, .int 0, .int 0, .int 0, .ref (ad 2), .ref (ad 3), .ref (ad 4), .ref (ad 5), .ref (ad 6), .ref (ad 7), .ref (ad 8), .ref (ad 10), .ref (ad 12)]) ∧ ∀ k, k ≠ 1 → w1 k = w k) (Aft G 74 ad) (wA 74 ad s.heap.size)) [.ref (ad 1), .int n].toArray s 0 0 (wA 74 ad s.heap.size)) (F0 m 2 ls []) := by
    intro d
    induction d with
    | zero => intro k w2 H locs ls hk0 hk1 g1 hfr hm h hl; exfalso; omega
    | succ d ih =>
      intro k w2 H locs ls hk0 hk1 g1 hfr hm h hl
      refine lv_iload_n hx hb dX2_passHours_2 rfl (lv_at hl 2 rfl) ?_
      refine lv_iload_n hx hb dX2_passHours_3 rfl (lv_at hl 1 rfl) ?_
      refine lv_icmp_ge (tgt := 27) hx hb dX2_passHours_4 (by decide) (fun hc2 => ?_) (fun hc2 => ?_)
      · have hc2 : (n).toInt ≤ (k).toInt := i_le hc2 rfl rfl
        have hkn : k = n := (fa_eq _ _).mpr (by omega)
        exact e_v X h hr hlk dX2_passHours_27 ⟨by rw [← hkn]; exact g1, fun k h1 => hfr k (by omega)⟩
      · have hc2 : ¬ (n).toInt ≤ (k).toInt := i_nle hc2 rfl rfl
        refine lv_aload_n hx hb dX2_passHours_7 rfl (lv_at hl 0 rfl) ?_
        refine r_get kc2 X h 1 0 (by decide) rfl g1 (by decide) kw_22 rfl dX2_passHours_8 ?_
        refine lv_sipush (v := 9999) hx hb dX2_passHours_11 (by decide) ?_
        refine lv_icmp_ge (tgt := 27) hx hb dX2_passHours_14 (by decide) (fun hc3 => ?_) (fun hc3 => ?_)
        · have hc3 : 9999 ≤ (k).toInt := i_le hc3 rfl rfl
          exfalso; omega
        · have hc3 : ¬ 9999 ≤ (k).toInt := i_nle hc3 rfl rfl
          refine lv_aload_n hx hb dX2_passHours_17 rfl (lv_at hl 0 rfl) ?_
          refine q_Vv (na := 0) (As := []) (rest := []) X hD hN h rfl (c_passHour l G cI cB cZ cO ad w2 1 _ _ _ _ (by decide) g1) ⟨kw_137, kw_138, kw_139, kw_9, kw_140⟩ rfl ⟨by decide, by decide, by decide⟩ ⟨Nat.le_of_ble_eq_true rfl, Nat.le_of_ble_eq_true rfl⟩ ⟨Nat.zero_le _, Nat.zero_le _⟩ (by decide) g1 rfl rfl hl.1 rfl (Nat.le_of_ble_eq_true rfl) dX2_passHours_18 (fun w5 H locs hp6 h => ?_)
          obtain ⟨f7, hf8⟩ := hp6
          refine lv_iinc (v := k + 1) (lv' := [(2, .int (k + 1)), (0, .ref (ad 1)), (1, .int n)]) hx hb dX2_passHours_21 hl (k := 2) rfl rfl (by decide) rfl (fun ls hl => ?_)
          refine lv_goto (tgt := 2) hx hb dX2_passHours_24 (by decide) ?_
          have hi : (k + 1).toInt = k.toInt + 1 := inc1 (by omega) (by omega)
          exact ih (k + 1) w5 H locs ls (by omega) (by omega) f7 (fun k h0 => (hf8 k (by omega)).trans (hfr k (by omega))) (by omega) h (lv_sub hl [1, 2, 0] rfl)
  exact hloop1 61 0 w H locs ls (by decide) (by have : (0 : Int32).toInt = 0 := rfl; omega) pf1 (fun k _ => rfl) (by have : (0 : Int32).toInt = 0 := rfl; omega) h (lv_sub hl [1, 2, 0] rfl)

set_option maxHeartbeats 4000000 in
set_option maxRecDepth 100000 in
theorem c_remember (l : Launch) (G : va_G) (cI cB cZ cO : ClassId) (ad : Nat → Nat) (w : Nat → va_E)  (pf12 : w 12 = .inr (2, [.ref (ad 13), .int 0])) (pf13 : w 13 = .inl (cI, 88, .inl (fun _ => 0))) (pf1 : w 1 = .inr (1, [.int 0, .int 0, .int 0, .int 0, .int 0, .ref (ad 2), .ref (ad 3), .ref (ad 4), .ref (ad 5), .ref (ad 6), .ref (ad 7), .ref (ad 8), .ref (ad 10), .ref (ad 12)])) (pf6 : w 6 = .inl (cI, 4, .inl (fun _ => 0))) (pf7 : w 7 = .inl (cI, 4, .inl (fun _ => 0))) : MV l G (tyq cI cB cZ cO) yX4_remember cX4_remember 3 1 40 74 ad w [.ref (ad 12), .ref (ad 1)] (fun w1 => ∀ k, k ≠ 12 → k ≠ 13 → w1 k = w k) := by
  refine mk_v (own := "NoonShade$Past") rfl (by decide) (Nat.le_of_ble_eq_true rfl) ?_
  intro p e s m below meth c ls X hD hN hr hlk h hl
  have hx := X.1.1
  have hb := X.1.2.1
  have hown := X.1.2.2.2.1
  have hts := X.1.2.2.2.2
  have hl : lv_has ls 3 [(0, .ref (ad 12)), (1, .ref (ad 1))] := hl
  refine lv_aload_n hx hb dX4_remember_0 rfl (lv_at hl 0 rfl) ?_
  refine r_get kc4 X h 12 1 (by decide) rfl pf12 (by decide) kw_21 rfl dX4_remember_1 ?_
  refine lv_bipush (v := 8) hx hb dX4_remember_4 (by decide) ?_
  refine lv_icmp_lt (tgt := 31) hx hb dX4_remember_6 (by decide) (fun _ => ?_) (fun hc => absurd (by decide) hc)
  refine lv_aload_n hx hb dX4_remember_31 rfl (lv_at hl 0 rfl) ?_
  refine r_get kc4 X h 12 1 (by decide) rfl pf12 (by decide) kw_21 rfl dX4_remember_32 ?_
  refine lv_bipush (v := 11) hx hb dX4_remember_35 (by decide) ?_
  refine o_imul (z := 0) hx hb dX4_remember_37 rfl ?_
  refine lv_istore_n (lv' := [(2, .int 0), (0, .ref (ad 12)), (1, .ref (ad 1))]) hx hb dX4_remember_38 rfl hl (by decide) rfl (fun ls hl => ?_)
  refine lv_aload_n hx hb dX4_remember_39 rfl (lv_at hl 2 rfl) ?_
  refine r_get kc2 X h 1 9 (by decide) rfl pf1 (by decide) kw_141 rfl dX4_remember_40 ?_
  refine lv_iconst (v := 0) hx hb dX4_remember_43 (by decide) ?_
  refine lv_aload_n hx hb dX4_remember_44 rfl (lv_at hl 1 rfl) ?_
  refine r_get kc4 X h 12 0 (by decide) rfl pf12 (by decide) kw_142 rfl dX4_remember_45 ?_
  refine lv_iload_n hx hb dX4_remember_48 rfl (lv_at hl 0 rfl) ?_
  refine lv_iconst (v := 4) hx hb dX4_remember_49 (by decide) ?_
  refine r_copy (f1 := fun _ => 0) X hD h hl.1 kw_143 kw_144 kw_145 kw_146 6 13 0 (by decide) (by decide) rfl rfl pf6 pf13 rfl (by decide) (by decide) (by decide) (by decide) (by decide) (cpy0 _ _ _) ⟨Nat.le_of_ble_eq_true rfl, by decide⟩ dX4_remember_50 (fun H locs w1 e2 h => ?_)
  have f3 : w1 13 = .inl (cI, 88, .inl (fun _ => 0)) := (congrFun e2 _).trans (va_up_self _ _ _)
  refine lv_aload_n hx hb dX4_remember_53 rfl (lv_at hl 2 rfl) ?_
  have f4 : w1 1 = .inr (1, [.int 0, .int 0, .int 0, .int 0, .int 0, .ref (ad 2), .ref (ad 3), .ref (ad 4), .ref (ad 5), .ref (ad 6), .ref (ad 7), .ref (ad 8), .ref (ad 10), .ref (ad 12)]) := by rw [e2, va_up_ne _ _ (by decide)]; exact pf1
  refine r_get kc2 X h 1 10 (by decide) rfl f4 (by decide) kw_147 rfl dX4_remember_54 ?_
  refine lv_iconst (v := 0) hx hb dX4_remember_57 (by decide) ?_
  refine lv_aload_n hx hb dX4_remember_58 rfl (lv_at hl 1 rfl) ?_
  have f5 : w1 12 = .inr (2, [.ref (ad 13), .int 0]) := by rw [e2, va_up_ne _ _ (by decide)]; exact pf12
  refine r_get kc4 X h 12 0 (by decide) rfl f5 (by decide) kw_142 rfl dX4_remember_59 ?_
  refine lv_iload_n hx hb dX4_remember_62 rfl (lv_at hl 0 rfl) ?_
  refine lv_iconst (v := 4) hx hb dX4_remember_63 (by decide) ?_
  refine o_iadd (z := 4) hx hb dX4_remember_64 rfl ?_
  refine lv_iconst (v := 4) hx hb dX4_remember_65 (by decide) ?_
  have f6 : w1 7 = .inl (cI, 4, .inl (fun _ => 0)) := by rw [e2, va_up_ne _ _ (by decide)]; exact pf7
  refine r_copy (f1 := fun _ => 0) X hD h hl.1 kw_143 kw_144 kw_145 kw_146 7 13 0 (by decide) (by decide) rfl rfl f6 f3 rfl (by decide) (by decide) (by decide) (by decide) (by decide) (cpy0 _ _ _) ⟨Nat.le_of_ble_eq_true rfl, by decide⟩ dX4_remember_66 (fun H locs w7 e8 h => ?_)
  have f9 : w7 13 = .inl (cI, 88, .inl (fun _ => 0)) := (congrFun e8 _).trans (va_up_self _ _ _)
  refine lv_aload_n hx hb dX4_remember_69 rfl (lv_at hl 1 rfl) ?_
  have f10 : w7 12 = .inr (2, [.ref (ad 13), .int 0]) := by rw [e8, va_up_ne _ _ (by decide)]; exact f5
  refine r_get kc4 X h 12 0 (by decide) rfl f10 (by decide) kw_142 rfl dX4_remember_70 ?_
  refine lv_iload_n hx hb dX4_remember_73 rfl (lv_at hl 0 rfl) ?_
  refine lv_bipush (v := 8) hx hb dX4_remember_74 (by decide) ?_
  refine o_iadd (z := 8) hx hb dX4_remember_76 rfl ?_
  refine lv_aload_n hx hb dX4_remember_77 rfl (lv_at hl 2 rfl) ?_
  have f11 : w7 1 = .inr (1, [.int 0, .int 0, .int 0, .int 0, .int 0, .ref (ad 2), .ref (ad 3), .ref (ad 4), .ref (ad 5), .ref (ad 6), .ref (ad 7), .ref (ad 8), .ref (ad 10), .ref (ad 12)]) := by rw [e8, va_up_ne _ _ (by decide)]; exact f4
  refine r_get kc2 X h 1 2 (by decide) rfl f11 (by decide) kw_148 rfl dX4_remember_78 ?_
  refine o_iast (f1 := fun _ => 0) X hD h 13 0 (by decide) rfl f9 rfl (by unfold vp_in; decide) (upd0 _) dX4_remember_81 (fun H locs w12 e13 h => ?_)
  have f14 : w12 13 = .inl (cI, 88, .inl (fun _ => 0)) := (congrFun e13 _).trans (va_up_self _ _ _)
  refine lv_aload_n hx hb dX4_remember_82 rfl (lv_at hl 1 rfl) ?_
  have f15 : w12 12 = .inr (2, [.ref (ad 13), .int 0]) := by rw [e13, va_up_ne _ _ (by decide)]; exact f10
  refine r_get kc4 X h 12 0 (by decide) rfl f15 (by decide) kw_142 rfl dX4_remember_83 ?_
  refine lv_iload_n hx hb dX4_remember_86 rfl (lv_at hl 0 rfl) ?_
  refine lv_bipush (v := 8) hx hb dX4_remember_87 (by decide) ?_
  refine o_iadd (z := 8) hx hb dX4_remember_89 rfl ?_
  refine lv_iconst (v := 1) hx hb dX4_remember_90 (by decide) ?_
  refine o_iadd (z := 9) hx hb dX4_remember_91 rfl ?_
  refine lv_aload_n hx hb dX4_remember_92 rfl (lv_at hl 2 rfl) ?_
  have f16 : w12 1 = .inr (1, [.int 0, .int 0, .int 0, .int 0, .int 0, .ref (ad 2), .ref (ad 3), .ref (ad 4), .ref (ad 5), .ref (ad 6), .ref (ad 7), .ref (ad 8), .ref (ad 10), .ref (ad 12)]) := by rw [e13, va_up_ne _ _ (by decide)]; exact f11
  refine r_get kc2 X h 1 1 (by decide) rfl f16 (by decide) kw_149 rfl dX4_remember_93 ?_
  refine o_iast (f1 := fun _ => 0) X hD h 13 0 (by decide) rfl f14 rfl (by unfold vp_in; decide) (upd0 _) dX4_remember_96 (fun H locs w17 e18 h => ?_)
  have f19 : w17 13 = .inl (cI, 88, .inl (fun _ => 0)) := (congrFun e18 _).trans (va_up_self _ _ _)
  refine lv_aload_n hx hb dX4_remember_97 rfl (lv_at hl 1 rfl) ?_
  have f20 : w17 12 = .inr (2, [.ref (ad 13), .int 0]) := by rw [e18, va_up_ne _ _ (by decide)]; exact f15
  refine r_get kc4 X h 12 0 (by decide) rfl f20 (by decide) kw_142 rfl dX4_remember_98 ?_
  refine lv_iload_n hx hb dX4_remember_101 rfl (lv_at hl 0 rfl) ?_
  refine lv_bipush (v := 8) hx hb dX4_remember_102 (by decide) ?_
  refine o_iadd (z := 8) hx hb dX4_remember_104 rfl ?_
  refine lv_iconst (v := 2) hx hb dX4_remember_105 (by decide) ?_
  refine o_iadd (z := 10) hx hb dX4_remember_106 rfl ?_
  refine lv_aload_n hx hb dX4_remember_107 rfl (lv_at hl 2 rfl) ?_
  have f21 : w17 1 = .inr (1, [.int 0, .int 0, .int 0, .int 0, .int 0, .ref (ad 2), .ref (ad 3), .ref (ad 4), .ref (ad 5), .ref (ad 6), .ref (ad 7), .ref (ad 8), .ref (ad 10), .ref (ad 12)]) := by rw [e18, va_up_ne _ _ (by decide)]; exact f16
  refine r_get kc2 X h 1 0 (by decide) rfl f21 (by decide) kw_150 rfl dX4_remember_108 ?_
  refine o_iast (f1 := fun _ => 0) X hD h 13 0 (by decide) rfl f19 rfl (by unfold vp_in; decide) (upd0 _) dX4_remember_111 (fun H locs w22 e23 h => ?_)
  have f24 : w22 13 = .inl (cI, 88, .inl (fun _ => 0)) := (congrFun e23 _).trans (va_up_self _ _ _)
  refine lv_aload_n hx hb dX4_remember_112 rfl (lv_at hl 1 rfl) ?_
  refine lv_dup hx hb dX4_remember_113 rfl ?_
  have f25 : w22 12 = .inr (2, [.ref (ad 13), .int 0]) := by rw [e23, va_up_ne _ _ (by decide)]; exact f20
  refine r_get kc4 X h 12 1 (by decide) rfl f25 (by decide) kw_21 rfl dX4_remember_114 ?_
  refine lv_iconst (v := 1) hx hb dX4_remember_117 (by decide) ?_
  refine o_iadd (z := 1) hx hb dX4_remember_118 rfl ?_
  refine r_put kc4 X hD h 12 1 (by decide) rfl f25 (by decide) kw_21 rfl rfl rfl (Nat.le_of_ble_eq_true rfl) dX4_remember_119 (fun H locs w26 e27 h => ?_)
  have f28 : w26 12 = .inr (2, [.ref (ad 13), .int 1]) := (congrFun e27 _).trans (va_up_self _ _ _)
  exact e_v X h hr hlk dX4_remember_122 fun k h1 h2 => ((congrFun e27 k).trans (va_up_ne _ _ (by omega))).trans (((congrFun e23 k).trans (va_up_ne _ _ (by omega))).trans (((congrFun e18 k).trans (va_up_ne _ _ (by omega))).trans (((congrFun e13 k).trans (va_up_ne _ _ (by omega))).trans (((congrFun e8 k).trans (va_up_ne _ _ (by omega))).trans ((congrFun e2 k).trans (va_up_ne _ _ (by omega)))))))

set_option maxHeartbeats 4000000 in
set_option maxRecDepth 100000 in
theorem c_R_become (l : Launch) (G : va_G) (cI cB cZ cO : ClassId) (ad : Nat → Nat) (w : Nat → va_E) (b o : Nat) (z y : Int32) (f g : Nat → Int32) (hb0 : b + 1 < 74) (ho0 : o + 1 < 74) (hd : o + 1 < b ∨ b + 1 < o) (pb : w b = .inr (4, [.ref (ad (b + 1)), .int z])) (pb1 : w (b + 1) = .inl (cI, 24, .inl g)) (po : w o = .inr (4, [.ref (ad (o + 1)), .int y])) (po1 : w (o + 1) = .inl (cI, 24, .inl f)) : MV l G (tyq cI cB cZ cO) yX6_become cX6_become 2 1 40 74 ad w [.ref (ad b), .ref (ad o)] (fun w1 => ∀ k, k ≠ b → k ≠ b + 1 → w1 k = w k) := by
  refine mk_v (own := "NoonShade$Rows") rfl (by decide) (Nat.le_of_ble_eq_true rfl) ?_
  intro p e s m below meth c ls X hD hN hr hlk h hl
  have hx := X.1.1
  have hb := X.1.2.1
  have hown := X.1.2.2.2.1
  have hts := X.1.2.2.2.2
  have hl : lv_has ls 2 [(0, .ref (ad b)), (1, .ref (ad o))] := hl
  refine lv_aload_n hx hb dX6_become_0 rfl (lv_at hl 1 rfl) ?_
  refine r_get kc6 X h o 0 (by omega) rfl po (by decide) kw_159 rfl dX6_become_1 ?_
  refine lv_iconst (v := 0) hx hb dX6_become_4 (by decide) ?_
  refine lv_aload_n hx hb dX6_become_5 rfl (lv_at hl 0 rfl) ?_
  refine r_get kc6 X h b 0 (by omega) rfl pb (by decide) kw_159 rfl dX6_become_6 ?_
  refine lv_iconst (v := 0) hx hb dX6_become_9 (by decide) ?_
  refine lv_bipush (v := 24) hx hb dX6_become_10 (by decide) ?_
  refine r_copy (f1 := va_cpy f g 0 0 24) X hD h hl.1 kw_160 kw_144 kw_145 kw_146 (o + 1) (b + 1) 0 (by omega) (by omega) rfl rfl po1 pb1 rfl (by decide) (by decide) (by decide) (by decide) (by decide) rfl ⟨Nat.le_of_ble_eq_true rfl, by decide⟩ dX6_become_12 (fun H locs w1 e2 h => ?_)
  have f3 : w1 (b + 1) = .inl (cI, 24, .inl (va_cpy f g 0 0 24)) := (congrFun e2 _).trans (va_up_self _ _ _)
  refine lv_aload_n hx hb dX6_become_15 rfl (lv_at hl 0 rfl) ?_
  refine lv_aload_n hx hb dX6_become_16 rfl (lv_at hl 1 rfl) ?_
  have f4 : w1 o = .inr (4, [.ref (ad (o + 1)), .int y]) := by rw [e2, va_up_ne _ _ (by omega)]; exact po
  refine r_get kc6 X h o 1 (by omega) rfl f4 (by decide) kw_20 rfl dX6_become_17 ?_
  have f5 : w1 b = .inr (4, [.ref (ad (b + 1)), .int z]) := by rw [e2, va_up_ne _ _ (by omega)]; exact pb
  refine r_put kc6 X hD h b 1 (by omega) rfl f5 (by decide) kw_20 rfl rfl rfl (Nat.le_of_ble_eq_true rfl) dX6_become_20 (fun H locs w6 e7 h => ?_)
  have f8 : w6 b = .inr (4, [.ref (ad (b + 1)), .int y]) := (congrFun e7 _).trans (va_up_self _ _ _)
  exact e_v X h hr hlk dX6_become_23 fun k h1 h2 => ((congrFun e7 k).trans (va_up_ne _ _ (by omega))).trans ((congrFun e2 k).trans (va_up_ne _ _ (by omega)))

set_option maxHeartbeats 4000000 in
set_option maxRecDepth 100000 in
theorem c_P_become (l : Launch) (G : va_G) (cI cB cZ cO : ClassId) (ad : Nat → Nat) (w : Nat → va_E) (b o : Nat) (z y : Int32) (f g : Nat → Int32) (hb0 : b + 1 < 74) (ho0 : o + 1 < 74) (hd : o + 1 < b ∨ b + 1 < o) (pb : w b = .inr (2, [.ref (ad (b + 1)), .int z])) (pb1 : w (b + 1) = .inl (cI, 88, .inl g)) (po : w o = .inr (2, [.ref (ad (o + 1)), .int y])) (po1 : w (o + 1) = .inl (cI, 88, .inl f)) : MV l G (tyq cI cB cZ cO) yX4_become cX4_become 2 1 40 74 ad w [.ref (ad b), .ref (ad o)] (fun w1 => ∀ k, k ≠ b → k ≠ b + 1 → w1 k = w k) := by
  refine mk_v (own := "NoonShade$Past") rfl (by decide) (Nat.le_of_ble_eq_true rfl) ?_
  intro p e s m below meth c ls X hD hN hr hlk h hl
  have hx := X.1.1
  have hb := X.1.2.1
  have hown := X.1.2.2.2.1
  have hts := X.1.2.2.2.2
  have hl : lv_has ls 2 [(0, .ref (ad b)), (1, .ref (ad o))] := hl
  refine lv_aload_n hx hb dX4_become_0 rfl (lv_at hl 1 rfl) ?_
  refine r_get kc4 X h o 0 (by omega) rfl po (by decide) kw_142 rfl dX4_become_1 ?_
  refine lv_iconst (v := 0) hx hb dX4_become_4 (by decide) ?_
  refine lv_aload_n hx hb dX4_become_5 rfl (lv_at hl 0 rfl) ?_
  refine r_get kc4 X h b 0 (by omega) rfl pb (by decide) kw_142 rfl dX4_become_6 ?_
  refine lv_iconst (v := 0) hx hb dX4_become_9 (by decide) ?_
  refine lv_bipush (v := 88) hx hb dX4_become_10 (by decide) ?_
  refine r_copy (f1 := va_cpy f g 0 0 88) X hD h hl.1 kw_143 kw_144 kw_145 kw_146 (o + 1) (b + 1) 0 (by omega) (by omega) rfl rfl po1 pb1 rfl (by decide) (by decide) (by decide) (by decide) (by decide) rfl ⟨Nat.le_of_ble_eq_true rfl, by decide⟩ dX4_become_12 (fun H locs w1 e2 h => ?_)
  have f3 : w1 (b + 1) = .inl (cI, 88, .inl (va_cpy f g 0 0 88)) := (congrFun e2 _).trans (va_up_self _ _ _)
  refine lv_aload_n hx hb dX4_become_15 rfl (lv_at hl 0 rfl) ?_
  refine lv_aload_n hx hb dX4_become_16 rfl (lv_at hl 1 rfl) ?_
  have f4 : w1 o = .inr (2, [.ref (ad (o + 1)), .int y]) := by rw [e2, va_up_ne _ _ (by omega)]; exact po
  refine r_get kc4 X h o 1 (by omega) rfl f4 (by decide) kw_21 rfl dX4_become_17 ?_
  have f5 : w1 b = .inr (2, [.ref (ad (b + 1)), .int z]) := by rw [e2, va_up_ne _ _ (by omega)]; exact pb
  refine r_put kc4 X hD h b 1 (by omega) rfl f5 (by decide) kw_21 rfl rfl rfl (Nat.le_of_ble_eq_true rfl) dX4_become_20 (fun H locs w6 e7 h => ?_)
  have f8 : w6 b = .inr (2, [.ref (ad (b + 1)), .int y]) := (congrFun e7 _).trans (va_up_self _ _ _)
  exact e_v X h hr hlk dX4_become_23 fun k h1 h2 => ((congrFun e7 k).trans (va_up_ne _ _ (by omega))).trans ((congrFun e2 k).trans (va_up_ne _ _ (by omega)))

set_option maxHeartbeats 4000000 in
set_option maxRecDepth 100000 in
theorem c_become14 (l : Launch) (G : va_G) (cI cB cZ cO : ClassId) (ad : Nat → Nat) (w : Nat → va_E)  (pf1 : w 1 = .inr (1, [.int 0, .int 0, .int 0, .int 0, .int 0, .ref (ad 2), .ref (ad 3), .ref (ad 4), .ref (ad 5), .ref (ad 6), .ref (ad 7), .ref (ad 8), .ref (ad 10), .ref (ad 12)])) (pf2 : w 2 = .inl (cI, 7, .inl (fun _ => 0))) (pf3 : w 3 = .inl (cI, 7, .inl (fun _ => 0))) (pf4 : w 4 = .inl (cI, 7, .inl (fun _ => 0))) (pf5 : w 5 = .inl (cI, 4, .inl (fun _ => 0))) (pf6 : w 6 = .inl (cI, 4, .inl (fun _ => 0))) (pf7 : w 7 = .inl (cI, 4, .inl (fun _ => 0))) (pf8 : w 8 = .inr (4, [.ref (ad 9), .int 0])) (pf9 : w 9 = .inl (cI, 24, .inl (fun _ => 0))) (pf10 : w 10 = .inr (4, [.ref (ad 11), .int 0])) (pf11 : w 11 = .inl (cI, 24, .inl (fun _ => 0))) (pf12 : w 12 = .inr (2, [.ref (ad 13), .int 0])) (pf13 : w 13 = .inl (cI, 88, .inl (fun _ => 0))) (pf14 : w 14 = .inr (1, [.int 0, .int 0, .int 0, .int 0, .int 0, .ref (ad 15), .ref (ad 16), .ref (ad 17), .ref (ad 18), .ref (ad 19), .ref (ad 20), .ref (ad 21), .ref (ad 23), .ref (ad 25)])) (pf15 : w 15 = .inl (cI, 7, .inl (fun _ => 0))) (pf16 : w 16 = .inl (cI, 7, .inl (fun _ => 0))) (pf17 : w 17 = .inl (cI, 7, .inl (fun _ => 0))) (pf18 : w 18 = .inl (cI, 4, .inl (fun _ => 0))) (pf19 : w 19 = .inl (cI, 4, .inl (fun _ => 0))) (pf20 : w 20 = .inl (cI, 4, .inl (fun _ => 0))) (pf21 : w 21 = .inr (4, [.ref (ad 22), .int 0])) (pf22 : w 22 = .inl (cI, 24, .inl (fun _ => 0))) (pf23 : w 23 = .inr (4, [.ref (ad 24), .int 0])) (pf24 : w 24 = .inl (cI, 24, .inl (fun _ => 0))) (pf25 : w 25 = .inr (2, [.ref (ad 26), .int 0])) (pf26 : w 26 = .inl (cI, 88, .inl (fun _ => 0))) : MV l G (tyq cI cB cZ cO) yX2_become cX2_become 2 2 61 74 ad w [.ref (ad 14), .ref (ad 1)] (fun w1 => w1 14 = .inr (1, [.int 0, .int 0, .int 0, .int 0, .int 0, .ref (ad 15), .ref (ad 16), .ref (ad 17), .ref (ad 18), .ref (ad 19), .ref (ad 20), .ref (ad 21), .ref (ad 23), .ref (ad 25)]) ∧ ∀ k, k < 14 ∨ 27 ≤ k → w1 k = w k) := by
  refine mk_v (own := "NoonShade$Isle") rfl (by decide) (Nat.le_of_ble_eq_true rfl) ?_
  intro p e s m below meth c ls X hD hN hr hlk h hl
  have hx := X.1.1
  have hb := X.1.2.1
  have hown := X.1.2.2.2.1
  have hts := X.1.2.2.2.2
  have hl : lv_has ls 2 [(0, .ref (ad 14)), (1, .ref (ad 1))] := hl
  refine lv_aload_n hx hb dX2_become_0 rfl (lv_at hl 0 rfl) ?_
  refine lv_aload_n hx hb dX2_become_1 rfl (lv_at hl 1 rfl) ?_
  refine r_get kc2 X h 1 0 (by decide) rfl pf1 (by decide) kw_22 rfl dX2_become_2 ?_
  refine r_put kc2 X hD h 14 0 (by decide) rfl pf14 (by decide) kw_22 rfl rfl rfl (Nat.le_of_ble_eq_true rfl) dX2_become_5 (fun H locs w1 e2 h => ?_)
  have f3 : w1 14 = .inr (1, [.int 0, .int 0, .int 0, .int 0, .int 0, .ref (ad 15), .ref (ad 16), .ref (ad 17), .ref (ad 18), .ref (ad 19), .ref (ad 20), .ref (ad 21), .ref (ad 23), .ref (ad 25)]) := (congrFun e2 _).trans (va_up_self _ _ _)
  refine lv_aload_n hx hb dX2_become_8 rfl (lv_at hl 0 rfl) ?_
  refine lv_aload_n hx hb dX2_become_9 rfl (lv_at hl 1 rfl) ?_
  have f4 : w1 1 = .inr (1, [.int 0, .int 0, .int 0, .int 0, .int 0, .ref (ad 2), .ref (ad 3), .ref (ad 4), .ref (ad 5), .ref (ad 6), .ref (ad 7), .ref (ad 8), .ref (ad 10), .ref (ad 12)]) := by rw [e2, va_up_ne _ _ (by decide)]; exact pf1
  refine r_get kc2 X h 1 1 (by decide) rfl f4 (by decide) kw_23 rfl dX2_become_10 ?_
  refine r_put kc2 X hD h 14 1 (by decide) rfl f3 (by decide) kw_23 rfl rfl rfl (Nat.le_of_ble_eq_true rfl) dX2_become_13 (fun H locs w5 e6 h => ?_)
  have f7 : w5 14 = .inr (1, [.int 0, .int 0, .int 0, .int 0, .int 0, .ref (ad 15), .ref (ad 16), .ref (ad 17), .ref (ad 18), .ref (ad 19), .ref (ad 20), .ref (ad 21), .ref (ad 23), .ref (ad 25)]) := (congrFun e6 _).trans (va_up_self _ _ _)
  refine lv_aload_n hx hb dX2_become_16 rfl (lv_at hl 0 rfl) ?_
  refine lv_aload_n hx hb dX2_become_17 rfl (lv_at hl 1 rfl) ?_
  have f8 : w5 1 = .inr (1, [.int 0, .int 0, .int 0, .int 0, .int 0, .ref (ad 2), .ref (ad 3), .ref (ad 4), .ref (ad 5), .ref (ad 6), .ref (ad 7), .ref (ad 8), .ref (ad 10), .ref (ad 12)]) := by rw [e6, va_up_ne _ _ (by decide)]; exact f4
  refine r_get kc2 X h 1 2 (by decide) rfl f8 (by decide) kw_24 rfl dX2_become_18 ?_
  refine r_put kc2 X hD h 14 2 (by decide) rfl f7 (by decide) kw_24 rfl rfl rfl (Nat.le_of_ble_eq_true rfl) dX2_become_21 (fun H locs w9 e10 h => ?_)
  have f11 : w9 14 = .inr (1, [.int 0, .int 0, .int 0, .int 0, .int 0, .ref (ad 15), .ref (ad 16), .ref (ad 17), .ref (ad 18), .ref (ad 19), .ref (ad 20), .ref (ad 21), .ref (ad 23), .ref (ad 25)]) := (congrFun e10 _).trans (va_up_self _ _ _)
  refine lv_aload_n hx hb dX2_become_24 rfl (lv_at hl 0 rfl) ?_
  refine lv_aload_n hx hb dX2_become_25 rfl (lv_at hl 1 rfl) ?_
  have f12 : w9 1 = .inr (1, [.int 0, .int 0, .int 0, .int 0, .int 0, .ref (ad 2), .ref (ad 3), .ref (ad 4), .ref (ad 5), .ref (ad 6), .ref (ad 7), .ref (ad 8), .ref (ad 10), .ref (ad 12)]) := by rw [e10, va_up_ne _ _ (by decide)]; exact f8
  refine r_get kc2 X h 1 3 (by decide) rfl f12 (by decide) kw_0 rfl dX2_become_26 ?_
  refine r_put kc2 X hD h 14 3 (by decide) rfl f11 (by decide) kw_0 rfl rfl rfl (Nat.le_of_ble_eq_true rfl) dX2_become_29 (fun H locs w13 e14 h => ?_)
  have f15 : w13 14 = .inr (1, [.int 0, .int 0, .int 0, .int 0, .int 0, .ref (ad 15), .ref (ad 16), .ref (ad 17), .ref (ad 18), .ref (ad 19), .ref (ad 20), .ref (ad 21), .ref (ad 23), .ref (ad 25)]) := (congrFun e14 _).trans (va_up_self _ _ _)
  refine lv_aload_n hx hb dX2_become_32 rfl (lv_at hl 0 rfl) ?_
  refine lv_aload_n hx hb dX2_become_33 rfl (lv_at hl 1 rfl) ?_
  have f16 : w13 1 = .inr (1, [.int 0, .int 0, .int 0, .int 0, .int 0, .ref (ad 2), .ref (ad 3), .ref (ad 4), .ref (ad 5), .ref (ad 6), .ref (ad 7), .ref (ad 8), .ref (ad 10), .ref (ad 12)]) := by rw [e14, va_up_ne _ _ (by decide)]; exact f12
  refine r_get kc2 X h 1 4 (by decide) rfl f16 (by decide) kw_1 rfl dX2_become_34 ?_
  refine r_put kc2 X hD h 14 4 (by decide) rfl f15 (by decide) kw_1 rfl rfl rfl (Nat.le_of_ble_eq_true rfl) dX2_become_37 (fun H locs w17 e18 h => ?_)
  have f19 : w17 14 = .inr (1, [.int 0, .int 0, .int 0, .int 0, .int 0, .ref (ad 15), .ref (ad 16), .ref (ad 17), .ref (ad 18), .ref (ad 19), .ref (ad 20), .ref (ad 21), .ref (ad 23), .ref (ad 25)]) := (congrFun e18 _).trans (va_up_self _ _ _)
  refine lv_aload_n hx hb dX2_become_40 rfl (lv_at hl 1 rfl) ?_
  have f20 : w17 1 = .inr (1, [.int 0, .int 0, .int 0, .int 0, .int 0, .ref (ad 2), .ref (ad 3), .ref (ad 4), .ref (ad 5), .ref (ad 6), .ref (ad 7), .ref (ad 8), .ref (ad 10), .ref (ad 12)]) := by rw [e18, va_up_ne _ _ (by decide)]; exact f16
  refine r_get kc2 X h 1 5 (by decide) rfl f20 (by decide) kw_46 rfl dX2_become_41 ?_
  refine lv_iconst (v := 0) hx hb dX2_become_44 (by decide) ?_
  refine lv_aload_n hx hb dX2_become_45 rfl (lv_at hl 0 rfl) ?_
  refine r_get kc2 X h 14 5 (by decide) rfl f19 (by decide) kw_46 rfl dX2_become_46 ?_
  refine lv_iconst (v := 0) hx hb dX2_become_49 (by decide) ?_
  refine lv_bipush (v := 7) hx hb dX2_become_50 (by decide) ?_
  have f21 : w1 2 = .inl (cI, 7, .inl (fun _ => 0)) := by rw [e2, va_up_ne _ _ (by decide)]; exact pf2
  have f22 : w5 2 = .inl (cI, 7, .inl (fun _ => 0)) := by rw [e6, va_up_ne _ _ (by decide)]; exact f21
  have f23 : w9 2 = .inl (cI, 7, .inl (fun _ => 0)) := by rw [e10, va_up_ne _ _ (by decide)]; exact f22
  have f24 : w13 2 = .inl (cI, 7, .inl (fun _ => 0)) := by rw [e14, va_up_ne _ _ (by decide)]; exact f23
  have f25 : w17 2 = .inl (cI, 7, .inl (fun _ => 0)) := by rw [e18, va_up_ne _ _ (by decide)]; exact f24
  have f26 : w1 15 = .inl (cI, 7, .inl (fun _ => 0)) := by rw [e2, va_up_ne _ _ (by decide)]; exact pf15
  have f27 : w5 15 = .inl (cI, 7, .inl (fun _ => 0)) := by rw [e6, va_up_ne _ _ (by decide)]; exact f26
  have f28 : w9 15 = .inl (cI, 7, .inl (fun _ => 0)) := by rw [e10, va_up_ne _ _ (by decide)]; exact f27
  have f29 : w13 15 = .inl (cI, 7, .inl (fun _ => 0)) := by rw [e14, va_up_ne _ _ (by decide)]; exact f28
  have f30 : w17 15 = .inl (cI, 7, .inl (fun _ => 0)) := by rw [e18, va_up_ne _ _ (by decide)]; exact f29
  refine r_copy (f1 := fun _ => 0) X hD h hl.1 kw_161 kw_144 kw_145 kw_146 2 15 0 (by decide) (by decide) rfl rfl f25 f30 rfl (by decide) (by decide) (by decide) (by decide) (by decide) (cpy0 _ _ _) ⟨Nat.le_of_ble_eq_true rfl, by decide⟩ dX2_become_52 (fun H locs w31 e32 h => ?_)
  have f33 : w31 15 = .inl (cI, 7, .inl (fun _ => 0)) := (congrFun e32 _).trans (va_up_self _ _ _)
  refine lv_aload_n hx hb dX2_become_55 rfl (lv_at hl 1 rfl) ?_
  have f34 : w31 1 = .inr (1, [.int 0, .int 0, .int 0, .int 0, .int 0, .ref (ad 2), .ref (ad 3), .ref (ad 4), .ref (ad 5), .ref (ad 6), .ref (ad 7), .ref (ad 8), .ref (ad 10), .ref (ad 12)]) := by rw [e32, va_up_ne _ _ (by decide)]; exact f20
  refine r_get kc2 X h 1 6 (by decide) rfl f34 (by decide) kw_47 rfl dX2_become_56 ?_
  refine lv_iconst (v := 0) hx hb dX2_become_59 (by decide) ?_
  refine lv_aload_n hx hb dX2_become_60 rfl (lv_at hl 0 rfl) ?_
  have f35 : w31 14 = .inr (1, [.int 0, .int 0, .int 0, .int 0, .int 0, .ref (ad 15), .ref (ad 16), .ref (ad 17), .ref (ad 18), .ref (ad 19), .ref (ad 20), .ref (ad 21), .ref (ad 23), .ref (ad 25)]) := by rw [e32, va_up_ne _ _ (by decide)]; exact f19
  refine r_get kc2 X h 14 6 (by decide) rfl f35 (by decide) kw_47 rfl dX2_become_61 ?_
  refine lv_iconst (v := 0) hx hb dX2_become_64 (by decide) ?_
  refine lv_bipush (v := 7) hx hb dX2_become_65 (by decide) ?_
  have f36 : w1 3 = .inl (cI, 7, .inl (fun _ => 0)) := by rw [e2, va_up_ne _ _ (by decide)]; exact pf3
  have f37 : w5 3 = .inl (cI, 7, .inl (fun _ => 0)) := by rw [e6, va_up_ne _ _ (by decide)]; exact f36
  have f38 : w9 3 = .inl (cI, 7, .inl (fun _ => 0)) := by rw [e10, va_up_ne _ _ (by decide)]; exact f37
  have f39 : w13 3 = .inl (cI, 7, .inl (fun _ => 0)) := by rw [e14, va_up_ne _ _ (by decide)]; exact f38
  have f40 : w17 3 = .inl (cI, 7, .inl (fun _ => 0)) := by rw [e18, va_up_ne _ _ (by decide)]; exact f39
  have f41 : w31 3 = .inl (cI, 7, .inl (fun _ => 0)) := by rw [e32, va_up_ne _ _ (by decide)]; exact f40
  have f42 : w1 16 = .inl (cI, 7, .inl (fun _ => 0)) := by rw [e2, va_up_ne _ _ (by decide)]; exact pf16
  have f43 : w5 16 = .inl (cI, 7, .inl (fun _ => 0)) := by rw [e6, va_up_ne _ _ (by decide)]; exact f42
  have f44 : w9 16 = .inl (cI, 7, .inl (fun _ => 0)) := by rw [e10, va_up_ne _ _ (by decide)]; exact f43
  have f45 : w13 16 = .inl (cI, 7, .inl (fun _ => 0)) := by rw [e14, va_up_ne _ _ (by decide)]; exact f44
  have f46 : w17 16 = .inl (cI, 7, .inl (fun _ => 0)) := by rw [e18, va_up_ne _ _ (by decide)]; exact f45
  have f47 : w31 16 = .inl (cI, 7, .inl (fun _ => 0)) := by rw [e32, va_up_ne _ _ (by decide)]; exact f46
  refine r_copy (f1 := fun _ => 0) X hD h hl.1 kw_161 kw_144 kw_145 kw_146 3 16 0 (by decide) (by decide) rfl rfl f41 f47 rfl (by decide) (by decide) (by decide) (by decide) (by decide) (cpy0 _ _ _) ⟨Nat.le_of_ble_eq_true rfl, by decide⟩ dX2_become_67 (fun H locs w48 e49 h => ?_)
  have f50 : w48 16 = .inl (cI, 7, .inl (fun _ => 0)) := (congrFun e49 _).trans (va_up_self _ _ _)
  refine lv_aload_n hx hb dX2_become_70 rfl (lv_at hl 1 rfl) ?_
  have f51 : w48 1 = .inr (1, [.int 0, .int 0, .int 0, .int 0, .int 0, .ref (ad 2), .ref (ad 3), .ref (ad 4), .ref (ad 5), .ref (ad 6), .ref (ad 7), .ref (ad 8), .ref (ad 10), .ref (ad 12)]) := by rw [e49, va_up_ne _ _ (by decide)]; exact f34
  refine r_get kc2 X h 1 7 (by decide) rfl f51 (by decide) kw_48 rfl dX2_become_71 ?_
  refine lv_iconst (v := 0) hx hb dX2_become_74 (by decide) ?_
  refine lv_aload_n hx hb dX2_become_75 rfl (lv_at hl 0 rfl) ?_
  have f52 : w48 14 = .inr (1, [.int 0, .int 0, .int 0, .int 0, .int 0, .ref (ad 15), .ref (ad 16), .ref (ad 17), .ref (ad 18), .ref (ad 19), .ref (ad 20), .ref (ad 21), .ref (ad 23), .ref (ad 25)]) := by rw [e49, va_up_ne _ _ (by decide)]; exact f35
  refine r_get kc2 X h 14 7 (by decide) rfl f52 (by decide) kw_48 rfl dX2_become_76 ?_
  refine lv_iconst (v := 0) hx hb dX2_become_79 (by decide) ?_
  refine lv_bipush (v := 7) hx hb dX2_become_80 (by decide) ?_
  have f53 : w1 4 = .inl (cI, 7, .inl (fun _ => 0)) := by rw [e2, va_up_ne _ _ (by decide)]; exact pf4
  have f54 : w5 4 = .inl (cI, 7, .inl (fun _ => 0)) := by rw [e6, va_up_ne _ _ (by decide)]; exact f53
  have f55 : w9 4 = .inl (cI, 7, .inl (fun _ => 0)) := by rw [e10, va_up_ne _ _ (by decide)]; exact f54
  have f56 : w13 4 = .inl (cI, 7, .inl (fun _ => 0)) := by rw [e14, va_up_ne _ _ (by decide)]; exact f55
  have f57 : w17 4 = .inl (cI, 7, .inl (fun _ => 0)) := by rw [e18, va_up_ne _ _ (by decide)]; exact f56
  have f58 : w31 4 = .inl (cI, 7, .inl (fun _ => 0)) := by rw [e32, va_up_ne _ _ (by decide)]; exact f57
  have f59 : w48 4 = .inl (cI, 7, .inl (fun _ => 0)) := by rw [e49, va_up_ne _ _ (by decide)]; exact f58
  have f60 : w1 17 = .inl (cI, 7, .inl (fun _ => 0)) := by rw [e2, va_up_ne _ _ (by decide)]; exact pf17
  have f61 : w5 17 = .inl (cI, 7, .inl (fun _ => 0)) := by rw [e6, va_up_ne _ _ (by decide)]; exact f60
  have f62 : w9 17 = .inl (cI, 7, .inl (fun _ => 0)) := by rw [e10, va_up_ne _ _ (by decide)]; exact f61
  have f63 : w13 17 = .inl (cI, 7, .inl (fun _ => 0)) := by rw [e14, va_up_ne _ _ (by decide)]; exact f62
  have f64 : w17 17 = .inl (cI, 7, .inl (fun _ => 0)) := by rw [e18, va_up_ne _ _ (by decide)]; exact f63
  have f65 : w31 17 = .inl (cI, 7, .inl (fun _ => 0)) := by rw [e32, va_up_ne _ _ (by decide)]; exact f64
  have f66 : w48 17 = .inl (cI, 7, .inl (fun _ => 0)) := by rw [e49, va_up_ne _ _ (by decide)]; exact f65
  refine r_copy (f1 := fun _ => 0) X hD h hl.1 kw_161 kw_144 kw_145 kw_146 4 17 0 (by decide) (by decide) rfl rfl f59 f66 rfl (by decide) (by decide) (by decide) (by decide) (by decide) (cpy0 _ _ _) ⟨Nat.le_of_ble_eq_true rfl, by decide⟩ dX2_become_82 (fun H locs w67 e68 h => ?_)
  have f69 : w67 17 = .inl (cI, 7, .inl (fun _ => 0)) := (congrFun e68 _).trans (va_up_self _ _ _)
  refine lv_aload_n hx hb dX2_become_85 rfl (lv_at hl 1 rfl) ?_
  have f70 : w67 1 = .inr (1, [.int 0, .int 0, .int 0, .int 0, .int 0, .ref (ad 2), .ref (ad 3), .ref (ad 4), .ref (ad 5), .ref (ad 6), .ref (ad 7), .ref (ad 8), .ref (ad 10), .ref (ad 12)]) := by rw [e68, va_up_ne _ _ (by decide)]; exact f51
  refine r_get kc2 X h 1 8 (by decide) rfl f70 (by decide) kw_49 rfl dX2_become_86 ?_
  refine lv_iconst (v := 0) hx hb dX2_become_89 (by decide) ?_
  refine lv_aload_n hx hb dX2_become_90 rfl (lv_at hl 0 rfl) ?_
  have f71 : w67 14 = .inr (1, [.int 0, .int 0, .int 0, .int 0, .int 0, .ref (ad 15), .ref (ad 16), .ref (ad 17), .ref (ad 18), .ref (ad 19), .ref (ad 20), .ref (ad 21), .ref (ad 23), .ref (ad 25)]) := by rw [e68, va_up_ne _ _ (by decide)]; exact f52
  refine r_get kc2 X h 14 8 (by decide) rfl f71 (by decide) kw_49 rfl dX2_become_91 ?_
  refine lv_iconst (v := 0) hx hb dX2_become_94 (by decide) ?_
  refine lv_iconst (v := 4) hx hb dX2_become_95 (by decide) ?_
  have f72 : w1 5 = .inl (cI, 4, .inl (fun _ => 0)) := by rw [e2, va_up_ne _ _ (by decide)]; exact pf5
  have f73 : w5 5 = .inl (cI, 4, .inl (fun _ => 0)) := by rw [e6, va_up_ne _ _ (by decide)]; exact f72
  have f74 : w9 5 = .inl (cI, 4, .inl (fun _ => 0)) := by rw [e10, va_up_ne _ _ (by decide)]; exact f73
  have f75 : w13 5 = .inl (cI, 4, .inl (fun _ => 0)) := by rw [e14, va_up_ne _ _ (by decide)]; exact f74
  have f76 : w17 5 = .inl (cI, 4, .inl (fun _ => 0)) := by rw [e18, va_up_ne _ _ (by decide)]; exact f75
  have f77 : w31 5 = .inl (cI, 4, .inl (fun _ => 0)) := by rw [e32, va_up_ne _ _ (by decide)]; exact f76
  have f78 : w48 5 = .inl (cI, 4, .inl (fun _ => 0)) := by rw [e49, va_up_ne _ _ (by decide)]; exact f77
  have f79 : w67 5 = .inl (cI, 4, .inl (fun _ => 0)) := by rw [e68, va_up_ne _ _ (by decide)]; exact f78
  have f80 : w1 18 = .inl (cI, 4, .inl (fun _ => 0)) := by rw [e2, va_up_ne _ _ (by decide)]; exact pf18
  have f81 : w5 18 = .inl (cI, 4, .inl (fun _ => 0)) := by rw [e6, va_up_ne _ _ (by decide)]; exact f80
  have f82 : w9 18 = .inl (cI, 4, .inl (fun _ => 0)) := by rw [e10, va_up_ne _ _ (by decide)]; exact f81
  have f83 : w13 18 = .inl (cI, 4, .inl (fun _ => 0)) := by rw [e14, va_up_ne _ _ (by decide)]; exact f82
  have f84 : w17 18 = .inl (cI, 4, .inl (fun _ => 0)) := by rw [e18, va_up_ne _ _ (by decide)]; exact f83
  have f85 : w31 18 = .inl (cI, 4, .inl (fun _ => 0)) := by rw [e32, va_up_ne _ _ (by decide)]; exact f84
  have f86 : w48 18 = .inl (cI, 4, .inl (fun _ => 0)) := by rw [e49, va_up_ne _ _ (by decide)]; exact f85
  have f87 : w67 18 = .inl (cI, 4, .inl (fun _ => 0)) := by rw [e68, va_up_ne _ _ (by decide)]; exact f86
  refine r_copy (f1 := fun _ => 0) X hD h hl.1 kw_161 kw_144 kw_145 kw_146 5 18 0 (by decide) (by decide) rfl rfl f79 f87 rfl (by decide) (by decide) (by decide) (by decide) (by decide) (cpy0 _ _ _) ⟨Nat.le_of_ble_eq_true rfl, by decide⟩ dX2_become_96 (fun H locs w88 e89 h => ?_)
  have f90 : w88 18 = .inl (cI, 4, .inl (fun _ => 0)) := (congrFun e89 _).trans (va_up_self _ _ _)
  refine lv_aload_n hx hb dX2_become_99 rfl (lv_at hl 1 rfl) ?_
  have f91 : w88 1 = .inr (1, [.int 0, .int 0, .int 0, .int 0, .int 0, .ref (ad 2), .ref (ad 3), .ref (ad 4), .ref (ad 5), .ref (ad 6), .ref (ad 7), .ref (ad 8), .ref (ad 10), .ref (ad 12)]) := by rw [e89, va_up_ne _ _ (by decide)]; exact f70
  refine r_get kc2 X h 1 9 (by decide) rfl f91 (by decide) kw_50 rfl dX2_become_100 ?_
  refine lv_iconst (v := 0) hx hb dX2_become_103 (by decide) ?_
  refine lv_aload_n hx hb dX2_become_104 rfl (lv_at hl 0 rfl) ?_
  have f92 : w88 14 = .inr (1, [.int 0, .int 0, .int 0, .int 0, .int 0, .ref (ad 15), .ref (ad 16), .ref (ad 17), .ref (ad 18), .ref (ad 19), .ref (ad 20), .ref (ad 21), .ref (ad 23), .ref (ad 25)]) := by rw [e89, va_up_ne _ _ (by decide)]; exact f71
  refine r_get kc2 X h 14 9 (by decide) rfl f92 (by decide) kw_50 rfl dX2_become_105 ?_
  refine lv_iconst (v := 0) hx hb dX2_become_108 (by decide) ?_
  refine lv_iconst (v := 4) hx hb dX2_become_109 (by decide) ?_
  have f93 : w1 6 = .inl (cI, 4, .inl (fun _ => 0)) := by rw [e2, va_up_ne _ _ (by decide)]; exact pf6
  have f94 : w5 6 = .inl (cI, 4, .inl (fun _ => 0)) := by rw [e6, va_up_ne _ _ (by decide)]; exact f93
  have f95 : w9 6 = .inl (cI, 4, .inl (fun _ => 0)) := by rw [e10, va_up_ne _ _ (by decide)]; exact f94
  have f96 : w13 6 = .inl (cI, 4, .inl (fun _ => 0)) := by rw [e14, va_up_ne _ _ (by decide)]; exact f95
  have f97 : w17 6 = .inl (cI, 4, .inl (fun _ => 0)) := by rw [e18, va_up_ne _ _ (by decide)]; exact f96
  have f98 : w31 6 = .inl (cI, 4, .inl (fun _ => 0)) := by rw [e32, va_up_ne _ _ (by decide)]; exact f97
  have f99 : w48 6 = .inl (cI, 4, .inl (fun _ => 0)) := by rw [e49, va_up_ne _ _ (by decide)]; exact f98
  have f100 : w67 6 = .inl (cI, 4, .inl (fun _ => 0)) := by rw [e68, va_up_ne _ _ (by decide)]; exact f99
  have f101 : w88 6 = .inl (cI, 4, .inl (fun _ => 0)) := by rw [e89, va_up_ne _ _ (by decide)]; exact f100
  have f102 : w1 19 = .inl (cI, 4, .inl (fun _ => 0)) := by rw [e2, va_up_ne _ _ (by decide)]; exact pf19
  have f103 : w5 19 = .inl (cI, 4, .inl (fun _ => 0)) := by rw [e6, va_up_ne _ _ (by decide)]; exact f102
  have f104 : w9 19 = .inl (cI, 4, .inl (fun _ => 0)) := by rw [e10, va_up_ne _ _ (by decide)]; exact f103
  have f105 : w13 19 = .inl (cI, 4, .inl (fun _ => 0)) := by rw [e14, va_up_ne _ _ (by decide)]; exact f104
  have f106 : w17 19 = .inl (cI, 4, .inl (fun _ => 0)) := by rw [e18, va_up_ne _ _ (by decide)]; exact f105
  have f107 : w31 19 = .inl (cI, 4, .inl (fun _ => 0)) := by rw [e32, va_up_ne _ _ (by decide)]; exact f106
  have f108 : w48 19 = .inl (cI, 4, .inl (fun _ => 0)) := by rw [e49, va_up_ne _ _ (by decide)]; exact f107
  have f109 : w67 19 = .inl (cI, 4, .inl (fun _ => 0)) := by rw [e68, va_up_ne _ _ (by decide)]; exact f108
  have f110 : w88 19 = .inl (cI, 4, .inl (fun _ => 0)) := by rw [e89, va_up_ne _ _ (by decide)]; exact f109
  refine r_copy (f1 := fun _ => 0) X hD h hl.1 kw_161 kw_144 kw_145 kw_146 6 19 0 (by decide) (by decide) rfl rfl f101 f110 rfl (by decide) (by decide) (by decide) (by decide) (by decide) (cpy0 _ _ _) ⟨Nat.le_of_ble_eq_true rfl, by decide⟩ dX2_become_110 (fun H locs w111 e112 h => ?_)
  have f113 : w111 19 = .inl (cI, 4, .inl (fun _ => 0)) := (congrFun e112 _).trans (va_up_self _ _ _)
  refine lv_aload_n hx hb dX2_become_113 rfl (lv_at hl 1 rfl) ?_
  have f114 : w111 1 = .inr (1, [.int 0, .int 0, .int 0, .int 0, .int 0, .ref (ad 2), .ref (ad 3), .ref (ad 4), .ref (ad 5), .ref (ad 6), .ref (ad 7), .ref (ad 8), .ref (ad 10), .ref (ad 12)]) := by rw [e112, va_up_ne _ _ (by decide)]; exact f91
  refine r_get kc2 X h 1 10 (by decide) rfl f114 (by decide) kw_51 rfl dX2_become_114 ?_
  refine lv_iconst (v := 0) hx hb dX2_become_117 (by decide) ?_
  refine lv_aload_n hx hb dX2_become_118 rfl (lv_at hl 0 rfl) ?_
  have f115 : w111 14 = .inr (1, [.int 0, .int 0, .int 0, .int 0, .int 0, .ref (ad 15), .ref (ad 16), .ref (ad 17), .ref (ad 18), .ref (ad 19), .ref (ad 20), .ref (ad 21), .ref (ad 23), .ref (ad 25)]) := by rw [e112, va_up_ne _ _ (by decide)]; exact f92
  refine r_get kc2 X h 14 10 (by decide) rfl f115 (by decide) kw_51 rfl dX2_become_119 ?_
  refine lv_iconst (v := 0) hx hb dX2_become_122 (by decide) ?_
  refine lv_iconst (v := 4) hx hb dX2_become_123 (by decide) ?_
  have f116 : w1 7 = .inl (cI, 4, .inl (fun _ => 0)) := by rw [e2, va_up_ne _ _ (by decide)]; exact pf7
  have f117 : w5 7 = .inl (cI, 4, .inl (fun _ => 0)) := by rw [e6, va_up_ne _ _ (by decide)]; exact f116
  have f118 : w9 7 = .inl (cI, 4, .inl (fun _ => 0)) := by rw [e10, va_up_ne _ _ (by decide)]; exact f117
  have f119 : w13 7 = .inl (cI, 4, .inl (fun _ => 0)) := by rw [e14, va_up_ne _ _ (by decide)]; exact f118
  have f120 : w17 7 = .inl (cI, 4, .inl (fun _ => 0)) := by rw [e18, va_up_ne _ _ (by decide)]; exact f119
  have f121 : w31 7 = .inl (cI, 4, .inl (fun _ => 0)) := by rw [e32, va_up_ne _ _ (by decide)]; exact f120
  have f122 : w48 7 = .inl (cI, 4, .inl (fun _ => 0)) := by rw [e49, va_up_ne _ _ (by decide)]; exact f121
  have f123 : w67 7 = .inl (cI, 4, .inl (fun _ => 0)) := by rw [e68, va_up_ne _ _ (by decide)]; exact f122
  have f124 : w88 7 = .inl (cI, 4, .inl (fun _ => 0)) := by rw [e89, va_up_ne _ _ (by decide)]; exact f123
  have f125 : w111 7 = .inl (cI, 4, .inl (fun _ => 0)) := by rw [e112, va_up_ne _ _ (by decide)]; exact f124
  have f126 : w1 20 = .inl (cI, 4, .inl (fun _ => 0)) := by rw [e2, va_up_ne _ _ (by decide)]; exact pf20
  have f127 : w5 20 = .inl (cI, 4, .inl (fun _ => 0)) := by rw [e6, va_up_ne _ _ (by decide)]; exact f126
  have f128 : w9 20 = .inl (cI, 4, .inl (fun _ => 0)) := by rw [e10, va_up_ne _ _ (by decide)]; exact f127
  have f129 : w13 20 = .inl (cI, 4, .inl (fun _ => 0)) := by rw [e14, va_up_ne _ _ (by decide)]; exact f128
  have f130 : w17 20 = .inl (cI, 4, .inl (fun _ => 0)) := by rw [e18, va_up_ne _ _ (by decide)]; exact f129
  have f131 : w31 20 = .inl (cI, 4, .inl (fun _ => 0)) := by rw [e32, va_up_ne _ _ (by decide)]; exact f130
  have f132 : w48 20 = .inl (cI, 4, .inl (fun _ => 0)) := by rw [e49, va_up_ne _ _ (by decide)]; exact f131
  have f133 : w67 20 = .inl (cI, 4, .inl (fun _ => 0)) := by rw [e68, va_up_ne _ _ (by decide)]; exact f132
  have f134 : w88 20 = .inl (cI, 4, .inl (fun _ => 0)) := by rw [e89, va_up_ne _ _ (by decide)]; exact f133
  have f135 : w111 20 = .inl (cI, 4, .inl (fun _ => 0)) := by rw [e112, va_up_ne _ _ (by decide)]; exact f134
  refine r_copy (f1 := fun _ => 0) X hD h hl.1 kw_161 kw_144 kw_145 kw_146 7 20 0 (by decide) (by decide) rfl rfl f125 f135 rfl (by decide) (by decide) (by decide) (by decide) (by decide) (cpy0 _ _ _) ⟨Nat.le_of_ble_eq_true rfl, by decide⟩ dX2_become_124 (fun H locs w136 e137 h => ?_)
  have f138 : w136 20 = .inl (cI, 4, .inl (fun _ => 0)) := (congrFun e137 _).trans (va_up_self _ _ _)
  refine lv_aload_n hx hb dX2_become_127 rfl (lv_at hl 0 rfl) ?_
  have f139 : w136 14 = .inr (1, [.int 0, .int 0, .int 0, .int 0, .int 0, .ref (ad 15), .ref (ad 16), .ref (ad 17), .ref (ad 18), .ref (ad 19), .ref (ad 20), .ref (ad 21), .ref (ad 23), .ref (ad 25)]) := by rw [e137, va_up_ne _ _ (by decide)]; exact f115
  refine r_get kc2 X h 14 11 (by decide) rfl f139 (by decide) kw_25 rfl dX2_become_128 ?_
  refine lv_aload_n hx hb dX2_become_131 rfl (lv_at hl 1 rfl) ?_
  have f140 : w136 1 = .inr (1, [.int 0, .int 0, .int 0, .int 0, .int 0, .ref (ad 2), .ref (ad 3), .ref (ad 4), .ref (ad 5), .ref (ad 6), .ref (ad 7), .ref (ad 8), .ref (ad 10), .ref (ad 12)]) := by rw [e137, va_up_ne _ _ (by decide)]; exact f114
  refine r_get kc2 X h 1 11 (by decide) rfl f140 (by decide) kw_25 rfl dX2_become_132 ?_
  have f141 : w1 21 = .inr (4, [.ref (ad 22), .int 0]) := by rw [e2, va_up_ne _ _ (by decide)]; exact pf21
  have f142 : w5 21 = .inr (4, [.ref (ad 22), .int 0]) := by rw [e6, va_up_ne _ _ (by decide)]; exact f141
  have f143 : w9 21 = .inr (4, [.ref (ad 22), .int 0]) := by rw [e10, va_up_ne _ _ (by decide)]; exact f142
  have f144 : w13 21 = .inr (4, [.ref (ad 22), .int 0]) := by rw [e14, va_up_ne _ _ (by decide)]; exact f143
  have f145 : w17 21 = .inr (4, [.ref (ad 22), .int 0]) := by rw [e18, va_up_ne _ _ (by decide)]; exact f144
  have f146 : w31 21 = .inr (4, [.ref (ad 22), .int 0]) := by rw [e32, va_up_ne _ _ (by decide)]; exact f145
  have f147 : w48 21 = .inr (4, [.ref (ad 22), .int 0]) := by rw [e49, va_up_ne _ _ (by decide)]; exact f146
  have f148 : w67 21 = .inr (4, [.ref (ad 22), .int 0]) := by rw [e68, va_up_ne _ _ (by decide)]; exact f147
  have f149 : w88 21 = .inr (4, [.ref (ad 22), .int 0]) := by rw [e89, va_up_ne _ _ (by decide)]; exact f148
  have f150 : w111 21 = .inr (4, [.ref (ad 22), .int 0]) := by rw [e112, va_up_ne _ _ (by decide)]; exact f149
  have f151 : w136 21 = .inr (4, [.ref (ad 22), .int 0]) := by rw [e137, va_up_ne _ _ (by decide)]; exact f150
  have f152 : w1 22 = .inl (cI, 24, .inl (fun _ => 0)) := by rw [e2, va_up_ne _ _ (by decide)]; exact pf22
  have f153 : w5 22 = .inl (cI, 24, .inl (fun _ => 0)) := by rw [e6, va_up_ne _ _ (by decide)]; exact f152
  have f154 : w9 22 = .inl (cI, 24, .inl (fun _ => 0)) := by rw [e10, va_up_ne _ _ (by decide)]; exact f153
  have f155 : w13 22 = .inl (cI, 24, .inl (fun _ => 0)) := by rw [e14, va_up_ne _ _ (by decide)]; exact f154
  have f156 : w17 22 = .inl (cI, 24, .inl (fun _ => 0)) := by rw [e18, va_up_ne _ _ (by decide)]; exact f155
  have f157 : w31 22 = .inl (cI, 24, .inl (fun _ => 0)) := by rw [e32, va_up_ne _ _ (by decide)]; exact f156
  have f158 : w48 22 = .inl (cI, 24, .inl (fun _ => 0)) := by rw [e49, va_up_ne _ _ (by decide)]; exact f157
  have f159 : w67 22 = .inl (cI, 24, .inl (fun _ => 0)) := by rw [e68, va_up_ne _ _ (by decide)]; exact f158
  have f160 : w88 22 = .inl (cI, 24, .inl (fun _ => 0)) := by rw [e89, va_up_ne _ _ (by decide)]; exact f159
  have f161 : w111 22 = .inl (cI, 24, .inl (fun _ => 0)) := by rw [e112, va_up_ne _ _ (by decide)]; exact f160
  have f162 : w136 22 = .inl (cI, 24, .inl (fun _ => 0)) := by rw [e137, va_up_ne _ _ (by decide)]; exact f161
  have f163 : w1 8 = .inr (4, [.ref (ad 9), .int 0]) := by rw [e2, va_up_ne _ _ (by decide)]; exact pf8
  have f164 : w5 8 = .inr (4, [.ref (ad 9), .int 0]) := by rw [e6, va_up_ne _ _ (by decide)]; exact f163
  have f165 : w9 8 = .inr (4, [.ref (ad 9), .int 0]) := by rw [e10, va_up_ne _ _ (by decide)]; exact f164
  have f166 : w13 8 = .inr (4, [.ref (ad 9), .int 0]) := by rw [e14, va_up_ne _ _ (by decide)]; exact f165
  have f167 : w17 8 = .inr (4, [.ref (ad 9), .int 0]) := by rw [e18, va_up_ne _ _ (by decide)]; exact f166
  have f168 : w31 8 = .inr (4, [.ref (ad 9), .int 0]) := by rw [e32, va_up_ne _ _ (by decide)]; exact f167
  have f169 : w48 8 = .inr (4, [.ref (ad 9), .int 0]) := by rw [e49, va_up_ne _ _ (by decide)]; exact f168
  have f170 : w67 8 = .inr (4, [.ref (ad 9), .int 0]) := by rw [e68, va_up_ne _ _ (by decide)]; exact f169
  have f171 : w88 8 = .inr (4, [.ref (ad 9), .int 0]) := by rw [e89, va_up_ne _ _ (by decide)]; exact f170
  have f172 : w111 8 = .inr (4, [.ref (ad 9), .int 0]) := by rw [e112, va_up_ne _ _ (by decide)]; exact f171
  have f173 : w136 8 = .inr (4, [.ref (ad 9), .int 0]) := by rw [e137, va_up_ne _ _ (by decide)]; exact f172
  have f174 : w1 9 = .inl (cI, 24, .inl (fun _ => 0)) := by rw [e2, va_up_ne _ _ (by decide)]; exact pf9
  have f175 : w5 9 = .inl (cI, 24, .inl (fun _ => 0)) := by rw [e6, va_up_ne _ _ (by decide)]; exact f174
  have f176 : w9 9 = .inl (cI, 24, .inl (fun _ => 0)) := by rw [e10, va_up_ne _ _ (by decide)]; exact f175
  have f177 : w13 9 = .inl (cI, 24, .inl (fun _ => 0)) := by rw [e14, va_up_ne _ _ (by decide)]; exact f176
  have f178 : w17 9 = .inl (cI, 24, .inl (fun _ => 0)) := by rw [e18, va_up_ne _ _ (by decide)]; exact f177
  have f179 : w31 9 = .inl (cI, 24, .inl (fun _ => 0)) := by rw [e32, va_up_ne _ _ (by decide)]; exact f178
  have f180 : w48 9 = .inl (cI, 24, .inl (fun _ => 0)) := by rw [e49, va_up_ne _ _ (by decide)]; exact f179
  have f181 : w67 9 = .inl (cI, 24, .inl (fun _ => 0)) := by rw [e68, va_up_ne _ _ (by decide)]; exact f180
  have f182 : w88 9 = .inl (cI, 24, .inl (fun _ => 0)) := by rw [e89, va_up_ne _ _ (by decide)]; exact f181
  have f183 : w111 9 = .inl (cI, 24, .inl (fun _ => 0)) := by rw [e112, va_up_ne _ _ (by decide)]; exact f182
  have f184 : w136 9 = .inl (cI, 24, .inl (fun _ => 0)) := by rw [e137, va_up_ne _ _ (by decide)]; exact f183
  refine q_Vv (na := 1) (As := [.ref (ad 8)]) (rest := []) X hD hN h rfl (c_R_become l G cI cB cZ cO ad w136 21 8 _ _ _ _ (by omega) (by omega) (by omega) f151 f162 f173 f184) ⟨kw_162, kw_163, kw_164, kw_29, kw_165⟩ rfl ⟨by decide, by decide, by decide⟩ ⟨Nat.le_of_ble_eq_true rfl, Nat.le_of_ble_eq_true rfl⟩ ⟨Nat.zero_le _, Nat.zero_le _⟩ (by decide) f151 rfl rfl hl.1 rfl (Nat.le_of_ble_eq_true rfl) dX2_become_135 (fun w186 H locs hp187 h => ?_)
  refine lv_aload_n hx hb dX2_become_138 rfl (lv_at hl 0 rfl) ?_
  have f188 : w186 14 = .inr (1, [.int 0, .int 0, .int 0, .int 0, .int 0, .ref (ad 15), .ref (ad 16), .ref (ad 17), .ref (ad 18), .ref (ad 19), .ref (ad 20), .ref (ad 21), .ref (ad 23), .ref (ad 25)]) := (hp187 14 (by decide) (by decide)).trans f139
  refine r_get kc2 X h 14 12 (by decide) rfl f188 (by decide) kw_31 rfl dX2_become_139 ?_
  refine lv_aload_n hx hb dX2_become_142 rfl (lv_at hl 1 rfl) ?_
  have f189 : w186 1 = .inr (1, [.int 0, .int 0, .int 0, .int 0, .int 0, .ref (ad 2), .ref (ad 3), .ref (ad 4), .ref (ad 5), .ref (ad 6), .ref (ad 7), .ref (ad 8), .ref (ad 10), .ref (ad 12)]) := (hp187 1 (by decide) (by decide)).trans f140
  refine r_get kc2 X h 1 12 (by decide) rfl f189 (by decide) kw_31 rfl dX2_become_143 ?_
  have f190 : w1 23 = .inr (4, [.ref (ad 24), .int 0]) := by rw [e2, va_up_ne _ _ (by decide)]; exact pf23
  have f191 : w5 23 = .inr (4, [.ref (ad 24), .int 0]) := by rw [e6, va_up_ne _ _ (by decide)]; exact f190
  have f192 : w9 23 = .inr (4, [.ref (ad 24), .int 0]) := by rw [e10, va_up_ne _ _ (by decide)]; exact f191
  have f193 : w13 23 = .inr (4, [.ref (ad 24), .int 0]) := by rw [e14, va_up_ne _ _ (by decide)]; exact f192
  have f194 : w17 23 = .inr (4, [.ref (ad 24), .int 0]) := by rw [e18, va_up_ne _ _ (by decide)]; exact f193
  have f195 : w31 23 = .inr (4, [.ref (ad 24), .int 0]) := by rw [e32, va_up_ne _ _ (by decide)]; exact f194
  have f196 : w48 23 = .inr (4, [.ref (ad 24), .int 0]) := by rw [e49, va_up_ne _ _ (by decide)]; exact f195
  have f197 : w67 23 = .inr (4, [.ref (ad 24), .int 0]) := by rw [e68, va_up_ne _ _ (by decide)]; exact f196
  have f198 : w88 23 = .inr (4, [.ref (ad 24), .int 0]) := by rw [e89, va_up_ne _ _ (by decide)]; exact f197
  have f199 : w111 23 = .inr (4, [.ref (ad 24), .int 0]) := by rw [e112, va_up_ne _ _ (by decide)]; exact f198
  have f200 : w136 23 = .inr (4, [.ref (ad 24), .int 0]) := by rw [e137, va_up_ne _ _ (by decide)]; exact f199
  have f201 : w186 23 = .inr (4, [.ref (ad 24), .int 0]) := (hp187 23 (by decide) (by decide)).trans f200
  have f202 : w1 24 = .inl (cI, 24, .inl (fun _ => 0)) := by rw [e2, va_up_ne _ _ (by decide)]; exact pf24
  have f203 : w5 24 = .inl (cI, 24, .inl (fun _ => 0)) := by rw [e6, va_up_ne _ _ (by decide)]; exact f202
  have f204 : w9 24 = .inl (cI, 24, .inl (fun _ => 0)) := by rw [e10, va_up_ne _ _ (by decide)]; exact f203
  have f205 : w13 24 = .inl (cI, 24, .inl (fun _ => 0)) := by rw [e14, va_up_ne _ _ (by decide)]; exact f204
  have f206 : w17 24 = .inl (cI, 24, .inl (fun _ => 0)) := by rw [e18, va_up_ne _ _ (by decide)]; exact f205
  have f207 : w31 24 = .inl (cI, 24, .inl (fun _ => 0)) := by rw [e32, va_up_ne _ _ (by decide)]; exact f206
  have f208 : w48 24 = .inl (cI, 24, .inl (fun _ => 0)) := by rw [e49, va_up_ne _ _ (by decide)]; exact f207
  have f209 : w67 24 = .inl (cI, 24, .inl (fun _ => 0)) := by rw [e68, va_up_ne _ _ (by decide)]; exact f208
  have f210 : w88 24 = .inl (cI, 24, .inl (fun _ => 0)) := by rw [e89, va_up_ne _ _ (by decide)]; exact f209
  have f211 : w111 24 = .inl (cI, 24, .inl (fun _ => 0)) := by rw [e112, va_up_ne _ _ (by decide)]; exact f210
  have f212 : w136 24 = .inl (cI, 24, .inl (fun _ => 0)) := by rw [e137, va_up_ne _ _ (by decide)]; exact f211
  have f213 : w186 24 = .inl (cI, 24, .inl (fun _ => 0)) := (hp187 24 (by decide) (by decide)).trans f212
  have f214 : w1 10 = .inr (4, [.ref (ad 11), .int 0]) := by rw [e2, va_up_ne _ _ (by decide)]; exact pf10
  have f215 : w5 10 = .inr (4, [.ref (ad 11), .int 0]) := by rw [e6, va_up_ne _ _ (by decide)]; exact f214
  have f216 : w9 10 = .inr (4, [.ref (ad 11), .int 0]) := by rw [e10, va_up_ne _ _ (by decide)]; exact f215
  have f217 : w13 10 = .inr (4, [.ref (ad 11), .int 0]) := by rw [e14, va_up_ne _ _ (by decide)]; exact f216
  have f218 : w17 10 = .inr (4, [.ref (ad 11), .int 0]) := by rw [e18, va_up_ne _ _ (by decide)]; exact f217
  have f219 : w31 10 = .inr (4, [.ref (ad 11), .int 0]) := by rw [e32, va_up_ne _ _ (by decide)]; exact f218
  have f220 : w48 10 = .inr (4, [.ref (ad 11), .int 0]) := by rw [e49, va_up_ne _ _ (by decide)]; exact f219
  have f221 : w67 10 = .inr (4, [.ref (ad 11), .int 0]) := by rw [e68, va_up_ne _ _ (by decide)]; exact f220
  have f222 : w88 10 = .inr (4, [.ref (ad 11), .int 0]) := by rw [e89, va_up_ne _ _ (by decide)]; exact f221
  have f223 : w111 10 = .inr (4, [.ref (ad 11), .int 0]) := by rw [e112, va_up_ne _ _ (by decide)]; exact f222
  have f224 : w136 10 = .inr (4, [.ref (ad 11), .int 0]) := by rw [e137, va_up_ne _ _ (by decide)]; exact f223
  have f225 : w186 10 = .inr (4, [.ref (ad 11), .int 0]) := (hp187 10 (by decide) (by decide)).trans f224
  have f226 : w1 11 = .inl (cI, 24, .inl (fun _ => 0)) := by rw [e2, va_up_ne _ _ (by decide)]; exact pf11
  have f227 : w5 11 = .inl (cI, 24, .inl (fun _ => 0)) := by rw [e6, va_up_ne _ _ (by decide)]; exact f226
  have f228 : w9 11 = .inl (cI, 24, .inl (fun _ => 0)) := by rw [e10, va_up_ne _ _ (by decide)]; exact f227
  have f229 : w13 11 = .inl (cI, 24, .inl (fun _ => 0)) := by rw [e14, va_up_ne _ _ (by decide)]; exact f228
  have f230 : w17 11 = .inl (cI, 24, .inl (fun _ => 0)) := by rw [e18, va_up_ne _ _ (by decide)]; exact f229
  have f231 : w31 11 = .inl (cI, 24, .inl (fun _ => 0)) := by rw [e32, va_up_ne _ _ (by decide)]; exact f230
  have f232 : w48 11 = .inl (cI, 24, .inl (fun _ => 0)) := by rw [e49, va_up_ne _ _ (by decide)]; exact f231
  have f233 : w67 11 = .inl (cI, 24, .inl (fun _ => 0)) := by rw [e68, va_up_ne _ _ (by decide)]; exact f232
  have f234 : w88 11 = .inl (cI, 24, .inl (fun _ => 0)) := by rw [e89, va_up_ne _ _ (by decide)]; exact f233
  have f235 : w111 11 = .inl (cI, 24, .inl (fun _ => 0)) := by rw [e112, va_up_ne _ _ (by decide)]; exact f234
  have f236 : w136 11 = .inl (cI, 24, .inl (fun _ => 0)) := by rw [e137, va_up_ne _ _ (by decide)]; exact f235
  have f237 : w186 11 = .inl (cI, 24, .inl (fun _ => 0)) := (hp187 11 (by decide) (by decide)).trans f236
  refine q_Vv (na := 1) (As := [.ref (ad 10)]) (rest := []) X hD hN h rfl (c_R_become l G cI cB cZ cO ad w186 23 10 _ _ _ _ (by omega) (by omega) (by omega) f201 f213 f225 f237) ⟨kw_162, kw_163, kw_164, kw_29, kw_165⟩ rfl ⟨by decide, by decide, by decide⟩ ⟨Nat.le_of_ble_eq_true rfl, Nat.le_of_ble_eq_true rfl⟩ ⟨Nat.zero_le _, Nat.zero_le _⟩ (by decide) f201 rfl rfl hl.1 rfl (Nat.le_of_ble_eq_true rfl) dX2_become_146 (fun w239 H locs hp240 h => ?_)
  refine lv_aload_n hx hb dX2_become_149 rfl (lv_at hl 0 rfl) ?_
  have f241 : w239 14 = .inr (1, [.int 0, .int 0, .int 0, .int 0, .int 0, .ref (ad 15), .ref (ad 16), .ref (ad 17), .ref (ad 18), .ref (ad 19), .ref (ad 20), .ref (ad 21), .ref (ad 23), .ref (ad 25)]) := (hp240 14 (by decide) (by decide)).trans f188
  refine r_get kc2 X h 14 13 (by decide) rfl f241 (by decide) kw_32 rfl dX2_become_150 ?_
  refine lv_aload_n hx hb dX2_become_153 rfl (lv_at hl 1 rfl) ?_
  have f242 : w239 1 = .inr (1, [.int 0, .int 0, .int 0, .int 0, .int 0, .ref (ad 2), .ref (ad 3), .ref (ad 4), .ref (ad 5), .ref (ad 6), .ref (ad 7), .ref (ad 8), .ref (ad 10), .ref (ad 12)]) := (hp240 1 (by decide) (by decide)).trans f189
  refine r_get kc2 X h 1 13 (by decide) rfl f242 (by decide) kw_32 rfl dX2_become_154 ?_
  have f243 : w1 25 = .inr (2, [.ref (ad 26), .int 0]) := by rw [e2, va_up_ne _ _ (by decide)]; exact pf25
  have f244 : w5 25 = .inr (2, [.ref (ad 26), .int 0]) := by rw [e6, va_up_ne _ _ (by decide)]; exact f243
  have f245 : w9 25 = .inr (2, [.ref (ad 26), .int 0]) := by rw [e10, va_up_ne _ _ (by decide)]; exact f244
  have f246 : w13 25 = .inr (2, [.ref (ad 26), .int 0]) := by rw [e14, va_up_ne _ _ (by decide)]; exact f245
  have f247 : w17 25 = .inr (2, [.ref (ad 26), .int 0]) := by rw [e18, va_up_ne _ _ (by decide)]; exact f246
  have f248 : w31 25 = .inr (2, [.ref (ad 26), .int 0]) := by rw [e32, va_up_ne _ _ (by decide)]; exact f247
  have f249 : w48 25 = .inr (2, [.ref (ad 26), .int 0]) := by rw [e49, va_up_ne _ _ (by decide)]; exact f248
  have f250 : w67 25 = .inr (2, [.ref (ad 26), .int 0]) := by rw [e68, va_up_ne _ _ (by decide)]; exact f249
  have f251 : w88 25 = .inr (2, [.ref (ad 26), .int 0]) := by rw [e89, va_up_ne _ _ (by decide)]; exact f250
  have f252 : w111 25 = .inr (2, [.ref (ad 26), .int 0]) := by rw [e112, va_up_ne _ _ (by decide)]; exact f251
  have f253 : w136 25 = .inr (2, [.ref (ad 26), .int 0]) := by rw [e137, va_up_ne _ _ (by decide)]; exact f252
  have f254 : w186 25 = .inr (2, [.ref (ad 26), .int 0]) := (hp187 25 (by decide) (by decide)).trans f253
  have f255 : w239 25 = .inr (2, [.ref (ad 26), .int 0]) := (hp240 25 (by decide) (by decide)).trans f254
  have f256 : w1 26 = .inl (cI, 88, .inl (fun _ => 0)) := by rw [e2, va_up_ne _ _ (by decide)]; exact pf26
  have f257 : w5 26 = .inl (cI, 88, .inl (fun _ => 0)) := by rw [e6, va_up_ne _ _ (by decide)]; exact f256
  have f258 : w9 26 = .inl (cI, 88, .inl (fun _ => 0)) := by rw [e10, va_up_ne _ _ (by decide)]; exact f257
  have f259 : w13 26 = .inl (cI, 88, .inl (fun _ => 0)) := by rw [e14, va_up_ne _ _ (by decide)]; exact f258
  have f260 : w17 26 = .inl (cI, 88, .inl (fun _ => 0)) := by rw [e18, va_up_ne _ _ (by decide)]; exact f259
  have f261 : w31 26 = .inl (cI, 88, .inl (fun _ => 0)) := by rw [e32, va_up_ne _ _ (by decide)]; exact f260
  have f262 : w48 26 = .inl (cI, 88, .inl (fun _ => 0)) := by rw [e49, va_up_ne _ _ (by decide)]; exact f261
  have f263 : w67 26 = .inl (cI, 88, .inl (fun _ => 0)) := by rw [e68, va_up_ne _ _ (by decide)]; exact f262
  have f264 : w88 26 = .inl (cI, 88, .inl (fun _ => 0)) := by rw [e89, va_up_ne _ _ (by decide)]; exact f263
  have f265 : w111 26 = .inl (cI, 88, .inl (fun _ => 0)) := by rw [e112, va_up_ne _ _ (by decide)]; exact f264
  have f266 : w136 26 = .inl (cI, 88, .inl (fun _ => 0)) := by rw [e137, va_up_ne _ _ (by decide)]; exact f265
  have f267 : w186 26 = .inl (cI, 88, .inl (fun _ => 0)) := (hp187 26 (by decide) (by decide)).trans f266
  have f268 : w239 26 = .inl (cI, 88, .inl (fun _ => 0)) := (hp240 26 (by decide) (by decide)).trans f267
  have f269 : w1 12 = .inr (2, [.ref (ad 13), .int 0]) := by rw [e2, va_up_ne _ _ (by decide)]; exact pf12
  have f270 : w5 12 = .inr (2, [.ref (ad 13), .int 0]) := by rw [e6, va_up_ne _ _ (by decide)]; exact f269
  have f271 : w9 12 = .inr (2, [.ref (ad 13), .int 0]) := by rw [e10, va_up_ne _ _ (by decide)]; exact f270
  have f272 : w13 12 = .inr (2, [.ref (ad 13), .int 0]) := by rw [e14, va_up_ne _ _ (by decide)]; exact f271
  have f273 : w17 12 = .inr (2, [.ref (ad 13), .int 0]) := by rw [e18, va_up_ne _ _ (by decide)]; exact f272
  have f274 : w31 12 = .inr (2, [.ref (ad 13), .int 0]) := by rw [e32, va_up_ne _ _ (by decide)]; exact f273
  have f275 : w48 12 = .inr (2, [.ref (ad 13), .int 0]) := by rw [e49, va_up_ne _ _ (by decide)]; exact f274
  have f276 : w67 12 = .inr (2, [.ref (ad 13), .int 0]) := by rw [e68, va_up_ne _ _ (by decide)]; exact f275
  have f277 : w88 12 = .inr (2, [.ref (ad 13), .int 0]) := by rw [e89, va_up_ne _ _ (by decide)]; exact f276
  have f278 : w111 12 = .inr (2, [.ref (ad 13), .int 0]) := by rw [e112, va_up_ne _ _ (by decide)]; exact f277
  have f279 : w136 12 = .inr (2, [.ref (ad 13), .int 0]) := by rw [e137, va_up_ne _ _ (by decide)]; exact f278
  have f280 : w186 12 = .inr (2, [.ref (ad 13), .int 0]) := (hp187 12 (by decide) (by decide)).trans f279
  have f281 : w239 12 = .inr (2, [.ref (ad 13), .int 0]) := (hp240 12 (by decide) (by decide)).trans f280
  have f282 : w1 13 = .inl (cI, 88, .inl (fun _ => 0)) := by rw [e2, va_up_ne _ _ (by decide)]; exact pf13
  have f283 : w5 13 = .inl (cI, 88, .inl (fun _ => 0)) := by rw [e6, va_up_ne _ _ (by decide)]; exact f282
  have f284 : w9 13 = .inl (cI, 88, .inl (fun _ => 0)) := by rw [e10, va_up_ne _ _ (by decide)]; exact f283
  have f285 : w13 13 = .inl (cI, 88, .inl (fun _ => 0)) := by rw [e14, va_up_ne _ _ (by decide)]; exact f284
  have f286 : w17 13 = .inl (cI, 88, .inl (fun _ => 0)) := by rw [e18, va_up_ne _ _ (by decide)]; exact f285
  have f287 : w31 13 = .inl (cI, 88, .inl (fun _ => 0)) := by rw [e32, va_up_ne _ _ (by decide)]; exact f286
  have f288 : w48 13 = .inl (cI, 88, .inl (fun _ => 0)) := by rw [e49, va_up_ne _ _ (by decide)]; exact f287
  have f289 : w67 13 = .inl (cI, 88, .inl (fun _ => 0)) := by rw [e68, va_up_ne _ _ (by decide)]; exact f288
  have f290 : w88 13 = .inl (cI, 88, .inl (fun _ => 0)) := by rw [e89, va_up_ne _ _ (by decide)]; exact f289
  have f291 : w111 13 = .inl (cI, 88, .inl (fun _ => 0)) := by rw [e112, va_up_ne _ _ (by decide)]; exact f290
  have f292 : w136 13 = .inl (cI, 88, .inl (fun _ => 0)) := by rw [e137, va_up_ne _ _ (by decide)]; exact f291
  have f293 : w186 13 = .inl (cI, 88, .inl (fun _ => 0)) := (hp187 13 (by decide) (by decide)).trans f292
  have f294 : w239 13 = .inl (cI, 88, .inl (fun _ => 0)) := (hp240 13 (by decide) (by decide)).trans f293
  refine q_Vv (na := 1) (As := [.ref (ad 12)]) (rest := []) X hD hN h rfl (c_P_become l G cI cB cZ cO ad w239 25 12 _ _ _ _ (by omega) (by omega) (by omega) f255 f268 f281 f294) ⟨kw_166, kw_167, kw_168, kw_36, kw_169⟩ rfl ⟨by decide, by decide, by decide⟩ ⟨Nat.le_of_ble_eq_true rfl, Nat.le_of_ble_eq_true rfl⟩ ⟨Nat.zero_le _, Nat.zero_le _⟩ (by decide) f255 rfl rfl hl.1 rfl (Nat.le_of_ble_eq_true rfl) dX2_become_157 (fun w296 H locs hp297 h => ?_)
  have f298 : w296 14 = .inr (1, [.int 0, .int 0, .int 0, .int 0, .int 0, .ref (ad 15), .ref (ad 16), .ref (ad 17), .ref (ad 18), .ref (ad 19), .ref (ad 20), .ref (ad 21), .ref (ad 23), .ref (ad 25)]) := (hp297 14 (by decide) (by decide)).trans f241
  exact e_v X h hr hlk dX2_become_160 ⟨f298, fun k h1 => (hp297 k (by omega) (by omega)).trans ((hp240 k (by omega) (by omega)).trans ((hp187 k (by omega) (by omega)).trans (((congrFun e137 k).trans (va_up_ne _ _ (by omega))).trans (((congrFun e112 k).trans (va_up_ne _ _ (by omega))).trans (((congrFun e89 k).trans (va_up_ne _ _ (by omega))).trans (((congrFun e68 k).trans (va_up_ne _ _ (by omega))).trans (((congrFun e49 k).trans (va_up_ne _ _ (by omega))).trans (((congrFun e32 k).trans (va_up_ne _ _ (by omega))).trans (((congrFun e18 k).trans (va_up_ne _ _ (by omega))).trans (((congrFun e14 k).trans (va_up_ne _ _ (by omega))).trans (((congrFun e10 k).trans (va_up_ne _ _ (by omega))).trans (((congrFun e6 k).trans (va_up_ne _ _ (by omega))).trans ((congrFun e2 k).trans (va_up_ne _ _ (by omega)))))))))))))))⟩

set_option maxHeartbeats 4000000 in
set_option maxRecDepth 100000 in
theorem c_become28 (l : Launch) (G : va_G) (cI cB cZ cO : ClassId) (ad : Nat → Nat) (w : Nat → va_E)  (pf1 : w 1 = .inr (1, [.int 0, .int 0, .int 0, .int 0, .int 0, .ref (ad 2), .ref (ad 3), .ref (ad 4), .ref (ad 5), .ref (ad 6), .ref (ad 7), .ref (ad 8), .ref (ad 10), .ref (ad 12)])) (pf2 : w 2 = .inl (cI, 7, .inl (fun _ => 0))) (pf3 : w 3 = .inl (cI, 7, .inl (fun _ => 0))) (pf4 : w 4 = .inl (cI, 7, .inl (fun _ => 0))) (pf5 : w 5 = .inl (cI, 4, .inl (fun _ => 0))) (pf6 : w 6 = .inl (cI, 4, .inl (fun _ => 0))) (pf7 : w 7 = .inl (cI, 4, .inl (fun _ => 0))) (pf8 : w 8 = .inr (4, [.ref (ad 9), .int 0])) (pf9 : w 9 = .inl (cI, 24, .inl (fun _ => 0))) (pf10 : w 10 = .inr (4, [.ref (ad 11), .int 0])) (pf11 : w 11 = .inl (cI, 24, .inl (fun _ => 0))) (pf12 : w 12 = .inr (2, [.ref (ad 13), .int 0])) (pf13 : w 13 = .inl (cI, 88, .inl (fun _ => 0))) (pf28 : w 28 = .inr (1, [.int 0, .int 0, .int 0, .int 0, .int 0, .ref (ad 29), .ref (ad 30), .ref (ad 31), .ref (ad 32), .ref (ad 33), .ref (ad 34), .ref (ad 35), .ref (ad 37), .ref (ad 39)])) (pf29 : w 29 = .inl (cI, 7, .inl (fun _ => 0))) (pf30 : w 30 = .inl (cI, 7, .inl (fun _ => 0))) (pf31 : w 31 = .inl (cI, 7, .inl (fun _ => 0))) (pf32 : w 32 = .inl (cI, 4, .inl (fun _ => 0))) (pf33 : w 33 = .inl (cI, 4, .inl (fun _ => 0))) (pf34 : w 34 = .inl (cI, 4, .inl (fun _ => 0))) (pf35 : w 35 = .inr (4, [.ref (ad 36), .int 0])) (pf36 : w 36 = .inl (cI, 24, .inl (fun _ => 0))) (pf37 : w 37 = .inr (4, [.ref (ad 38), .int 0])) (pf38 : w 38 = .inl (cI, 24, .inl (fun _ => 0))) (pf39 : w 39 = .inr (2, [.ref (ad 40), .int 0])) (pf40 : w 40 = .inl (cI, 88, .inl (fun _ => 0))) : MV l G (tyq cI cB cZ cO) yX2_become cX2_become 2 2 61 74 ad w [.ref (ad 28), .ref (ad 1)] (fun w1 => w1 28 = .inr (1, [.int 0, .int 0, .int 0, .int 0, .int 0, .ref (ad 29), .ref (ad 30), .ref (ad 31), .ref (ad 32), .ref (ad 33), .ref (ad 34), .ref (ad 35), .ref (ad 37), .ref (ad 39)]) ∧ ∀ k, k < 28 ∨ 41 ≤ k → w1 k = w k) := by
  refine mk_v (own := "NoonShade$Isle") rfl (by decide) (Nat.le_of_ble_eq_true rfl) ?_
  intro p e s m below meth c ls X hD hN hr hlk h hl
  have hx := X.1.1
  have hb := X.1.2.1
  have hown := X.1.2.2.2.1
  have hts := X.1.2.2.2.2
  have hl : lv_has ls 2 [(0, .ref (ad 28)), (1, .ref (ad 1))] := hl
  refine lv_aload_n hx hb dX2_become_0 rfl (lv_at hl 0 rfl) ?_
  refine lv_aload_n hx hb dX2_become_1 rfl (lv_at hl 1 rfl) ?_
  refine r_get kc2 X h 1 0 (by decide) rfl pf1 (by decide) kw_22 rfl dX2_become_2 ?_
  refine r_put kc2 X hD h 28 0 (by decide) rfl pf28 (by decide) kw_22 rfl rfl rfl (Nat.le_of_ble_eq_true rfl) dX2_become_5 (fun H locs w1 e2 h => ?_)
  have f3 : w1 28 = .inr (1, [.int 0, .int 0, .int 0, .int 0, .int 0, .ref (ad 29), .ref (ad 30), .ref (ad 31), .ref (ad 32), .ref (ad 33), .ref (ad 34), .ref (ad 35), .ref (ad 37), .ref (ad 39)]) := (congrFun e2 _).trans (va_up_self _ _ _)
  refine lv_aload_n hx hb dX2_become_8 rfl (lv_at hl 0 rfl) ?_
  refine lv_aload_n hx hb dX2_become_9 rfl (lv_at hl 1 rfl) ?_
  have f4 : w1 1 = .inr (1, [.int 0, .int 0, .int 0, .int 0, .int 0, .ref (ad 2), .ref (ad 3), .ref (ad 4), .ref (ad 5), .ref (ad 6), .ref (ad 7), .ref (ad 8), .ref (ad 10), .ref (ad 12)]) := by rw [e2, va_up_ne _ _ (by decide)]; exact pf1
  refine r_get kc2 X h 1 1 (by decide) rfl f4 (by decide) kw_23 rfl dX2_become_10 ?_
  refine r_put kc2 X hD h 28 1 (by decide) rfl f3 (by decide) kw_23 rfl rfl rfl (Nat.le_of_ble_eq_true rfl) dX2_become_13 (fun H locs w5 e6 h => ?_)
  have f7 : w5 28 = .inr (1, [.int 0, .int 0, .int 0, .int 0, .int 0, .ref (ad 29), .ref (ad 30), .ref (ad 31), .ref (ad 32), .ref (ad 33), .ref (ad 34), .ref (ad 35), .ref (ad 37), .ref (ad 39)]) := (congrFun e6 _).trans (va_up_self _ _ _)
  refine lv_aload_n hx hb dX2_become_16 rfl (lv_at hl 0 rfl) ?_
  refine lv_aload_n hx hb dX2_become_17 rfl (lv_at hl 1 rfl) ?_
  have f8 : w5 1 = .inr (1, [.int 0, .int 0, .int 0, .int 0, .int 0, .ref (ad 2), .ref (ad 3), .ref (ad 4), .ref (ad 5), .ref (ad 6), .ref (ad 7), .ref (ad 8), .ref (ad 10), .ref (ad 12)]) := by rw [e6, va_up_ne _ _ (by decide)]; exact f4
  refine r_get kc2 X h 1 2 (by decide) rfl f8 (by decide) kw_24 rfl dX2_become_18 ?_
  refine r_put kc2 X hD h 28 2 (by decide) rfl f7 (by decide) kw_24 rfl rfl rfl (Nat.le_of_ble_eq_true rfl) dX2_become_21 (fun H locs w9 e10 h => ?_)
  have f11 : w9 28 = .inr (1, [.int 0, .int 0, .int 0, .int 0, .int 0, .ref (ad 29), .ref (ad 30), .ref (ad 31), .ref (ad 32), .ref (ad 33), .ref (ad 34), .ref (ad 35), .ref (ad 37), .ref (ad 39)]) := (congrFun e10 _).trans (va_up_self _ _ _)
  refine lv_aload_n hx hb dX2_become_24 rfl (lv_at hl 0 rfl) ?_
  refine lv_aload_n hx hb dX2_become_25 rfl (lv_at hl 1 rfl) ?_
  have f12 : w9 1 = .inr (1, [.int 0, .int 0, .int 0, .int 0, .int 0, .ref (ad 2), .ref (ad 3), .ref (ad 4), .ref (ad 5), .ref (ad 6), .ref (ad 7), .ref (ad 8), .ref (ad 10), .ref (ad 12)]) := by rw [e10, va_up_ne _ _ (by decide)]; exact f8
  refine r_get kc2 X h 1 3 (by decide) rfl f12 (by decide) kw_0 rfl dX2_become_26 ?_
  refine r_put kc2 X hD h 28 3 (by decide) rfl f11 (by decide) kw_0 rfl rfl rfl (Nat.le_of_ble_eq_true rfl) dX2_become_29 (fun H locs w13 e14 h => ?_)
  have f15 : w13 28 = .inr (1, [.int 0, .int 0, .int 0, .int 0, .int 0, .ref (ad 29), .ref (ad 30), .ref (ad 31), .ref (ad 32), .ref (ad 33), .ref (ad 34), .ref (ad 35), .ref (ad 37), .ref (ad 39)]) := (congrFun e14 _).trans (va_up_self _ _ _)
  refine lv_aload_n hx hb dX2_become_32 rfl (lv_at hl 0 rfl) ?_
  refine lv_aload_n hx hb dX2_become_33 rfl (lv_at hl 1 rfl) ?_
  have f16 : w13 1 = .inr (1, [.int 0, .int 0, .int 0, .int 0, .int 0, .ref (ad 2), .ref (ad 3), .ref (ad 4), .ref (ad 5), .ref (ad 6), .ref (ad 7), .ref (ad 8), .ref (ad 10), .ref (ad 12)]) := by rw [e14, va_up_ne _ _ (by decide)]; exact f12
  refine r_get kc2 X h 1 4 (by decide) rfl f16 (by decide) kw_1 rfl dX2_become_34 ?_
  refine r_put kc2 X hD h 28 4 (by decide) rfl f15 (by decide) kw_1 rfl rfl rfl (Nat.le_of_ble_eq_true rfl) dX2_become_37 (fun H locs w17 e18 h => ?_)
  have f19 : w17 28 = .inr (1, [.int 0, .int 0, .int 0, .int 0, .int 0, .ref (ad 29), .ref (ad 30), .ref (ad 31), .ref (ad 32), .ref (ad 33), .ref (ad 34), .ref (ad 35), .ref (ad 37), .ref (ad 39)]) := (congrFun e18 _).trans (va_up_self _ _ _)
  refine lv_aload_n hx hb dX2_become_40 rfl (lv_at hl 1 rfl) ?_
  have f20 : w17 1 = .inr (1, [.int 0, .int 0, .int 0, .int 0, .int 0, .ref (ad 2), .ref (ad 3), .ref (ad 4), .ref (ad 5), .ref (ad 6), .ref (ad 7), .ref (ad 8), .ref (ad 10), .ref (ad 12)]) := by rw [e18, va_up_ne _ _ (by decide)]; exact f16
  refine r_get kc2 X h 1 5 (by decide) rfl f20 (by decide) kw_46 rfl dX2_become_41 ?_
  refine lv_iconst (v := 0) hx hb dX2_become_44 (by decide) ?_
  refine lv_aload_n hx hb dX2_become_45 rfl (lv_at hl 0 rfl) ?_
  refine r_get kc2 X h 28 5 (by decide) rfl f19 (by decide) kw_46 rfl dX2_become_46 ?_
  refine lv_iconst (v := 0) hx hb dX2_become_49 (by decide) ?_
  refine lv_bipush (v := 7) hx hb dX2_become_50 (by decide) ?_
  have f21 : w1 2 = .inl (cI, 7, .inl (fun _ => 0)) := by rw [e2, va_up_ne _ _ (by decide)]; exact pf2
  have f22 : w5 2 = .inl (cI, 7, .inl (fun _ => 0)) := by rw [e6, va_up_ne _ _ (by decide)]; exact f21
  have f23 : w9 2 = .inl (cI, 7, .inl (fun _ => 0)) := by rw [e10, va_up_ne _ _ (by decide)]; exact f22
  have f24 : w13 2 = .inl (cI, 7, .inl (fun _ => 0)) := by rw [e14, va_up_ne _ _ (by decide)]; exact f23
  have f25 : w17 2 = .inl (cI, 7, .inl (fun _ => 0)) := by rw [e18, va_up_ne _ _ (by decide)]; exact f24
  have f26 : w1 29 = .inl (cI, 7, .inl (fun _ => 0)) := by rw [e2, va_up_ne _ _ (by decide)]; exact pf29
  have f27 : w5 29 = .inl (cI, 7, .inl (fun _ => 0)) := by rw [e6, va_up_ne _ _ (by decide)]; exact f26
  have f28 : w9 29 = .inl (cI, 7, .inl (fun _ => 0)) := by rw [e10, va_up_ne _ _ (by decide)]; exact f27
  have f29 : w13 29 = .inl (cI, 7, .inl (fun _ => 0)) := by rw [e14, va_up_ne _ _ (by decide)]; exact f28
  have f30 : w17 29 = .inl (cI, 7, .inl (fun _ => 0)) := by rw [e18, va_up_ne _ _ (by decide)]; exact f29
  refine r_copy (f1 := fun _ => 0) X hD h hl.1 kw_161 kw_144 kw_145 kw_146 2 29 0 (by decide) (by decide) rfl rfl f25 f30 rfl (by decide) (by decide) (by decide) (by decide) (by decide) (cpy0 _ _ _) ⟨Nat.le_of_ble_eq_true rfl, by decide⟩ dX2_become_52 (fun H locs w31 e32 h => ?_)
  have f33 : w31 29 = .inl (cI, 7, .inl (fun _ => 0)) := (congrFun e32 _).trans (va_up_self _ _ _)
  refine lv_aload_n hx hb dX2_become_55 rfl (lv_at hl 1 rfl) ?_
  have f34 : w31 1 = .inr (1, [.int 0, .int 0, .int 0, .int 0, .int 0, .ref (ad 2), .ref (ad 3), .ref (ad 4), .ref (ad 5), .ref (ad 6), .ref (ad 7), .ref (ad 8), .ref (ad 10), .ref (ad 12)]) := by rw [e32, va_up_ne _ _ (by decide)]; exact f20
  refine r_get kc2 X h 1 6 (by decide) rfl f34 (by decide) kw_47 rfl dX2_become_56 ?_
  refine lv_iconst (v := 0) hx hb dX2_become_59 (by decide) ?_
  refine lv_aload_n hx hb dX2_become_60 rfl (lv_at hl 0 rfl) ?_
  have f35 : w31 28 = .inr (1, [.int 0, .int 0, .int 0, .int 0, .int 0, .ref (ad 29), .ref (ad 30), .ref (ad 31), .ref (ad 32), .ref (ad 33), .ref (ad 34), .ref (ad 35), .ref (ad 37), .ref (ad 39)]) := by rw [e32, va_up_ne _ _ (by decide)]; exact f19
  refine r_get kc2 X h 28 6 (by decide) rfl f35 (by decide) kw_47 rfl dX2_become_61 ?_
  refine lv_iconst (v := 0) hx hb dX2_become_64 (by decide) ?_
  refine lv_bipush (v := 7) hx hb dX2_become_65 (by decide) ?_
  have f36 : w1 3 = .inl (cI, 7, .inl (fun _ => 0)) := by rw [e2, va_up_ne _ _ (by decide)]; exact pf3
  have f37 : w5 3 = .inl (cI, 7, .inl (fun _ => 0)) := by rw [e6, va_up_ne _ _ (by decide)]; exact f36
  have f38 : w9 3 = .inl (cI, 7, .inl (fun _ => 0)) := by rw [e10, va_up_ne _ _ (by decide)]; exact f37
  have f39 : w13 3 = .inl (cI, 7, .inl (fun _ => 0)) := by rw [e14, va_up_ne _ _ (by decide)]; exact f38
  have f40 : w17 3 = .inl (cI, 7, .inl (fun _ => 0)) := by rw [e18, va_up_ne _ _ (by decide)]; exact f39
  have f41 : w31 3 = .inl (cI, 7, .inl (fun _ => 0)) := by rw [e32, va_up_ne _ _ (by decide)]; exact f40
  have f42 : w1 30 = .inl (cI, 7, .inl (fun _ => 0)) := by rw [e2, va_up_ne _ _ (by decide)]; exact pf30
  have f43 : w5 30 = .inl (cI, 7, .inl (fun _ => 0)) := by rw [e6, va_up_ne _ _ (by decide)]; exact f42
  have f44 : w9 30 = .inl (cI, 7, .inl (fun _ => 0)) := by rw [e10, va_up_ne _ _ (by decide)]; exact f43
  have f45 : w13 30 = .inl (cI, 7, .inl (fun _ => 0)) := by rw [e14, va_up_ne _ _ (by decide)]; exact f44
  have f46 : w17 30 = .inl (cI, 7, .inl (fun _ => 0)) := by rw [e18, va_up_ne _ _ (by decide)]; exact f45
  have f47 : w31 30 = .inl (cI, 7, .inl (fun _ => 0)) := by rw [e32, va_up_ne _ _ (by decide)]; exact f46
  refine r_copy (f1 := fun _ => 0) X hD h hl.1 kw_161 kw_144 kw_145 kw_146 3 30 0 (by decide) (by decide) rfl rfl f41 f47 rfl (by decide) (by decide) (by decide) (by decide) (by decide) (cpy0 _ _ _) ⟨Nat.le_of_ble_eq_true rfl, by decide⟩ dX2_become_67 (fun H locs w48 e49 h => ?_)
  have f50 : w48 30 = .inl (cI, 7, .inl (fun _ => 0)) := (congrFun e49 _).trans (va_up_self _ _ _)
  refine lv_aload_n hx hb dX2_become_70 rfl (lv_at hl 1 rfl) ?_
  have f51 : w48 1 = .inr (1, [.int 0, .int 0, .int 0, .int 0, .int 0, .ref (ad 2), .ref (ad 3), .ref (ad 4), .ref (ad 5), .ref (ad 6), .ref (ad 7), .ref (ad 8), .ref (ad 10), .ref (ad 12)]) := by rw [e49, va_up_ne _ _ (by decide)]; exact f34
  refine r_get kc2 X h 1 7 (by decide) rfl f51 (by decide) kw_48 rfl dX2_become_71 ?_
  refine lv_iconst (v := 0) hx hb dX2_become_74 (by decide) ?_
  refine lv_aload_n hx hb dX2_become_75 rfl (lv_at hl 0 rfl) ?_
  have f52 : w48 28 = .inr (1, [.int 0, .int 0, .int 0, .int 0, .int 0, .ref (ad 29), .ref (ad 30), .ref (ad 31), .ref (ad 32), .ref (ad 33), .ref (ad 34), .ref (ad 35), .ref (ad 37), .ref (ad 39)]) := by rw [e49, va_up_ne _ _ (by decide)]; exact f35
  refine r_get kc2 X h 28 7 (by decide) rfl f52 (by decide) kw_48 rfl dX2_become_76 ?_
  refine lv_iconst (v := 0) hx hb dX2_become_79 (by decide) ?_
  refine lv_bipush (v := 7) hx hb dX2_become_80 (by decide) ?_
  have f53 : w1 4 = .inl (cI, 7, .inl (fun _ => 0)) := by rw [e2, va_up_ne _ _ (by decide)]; exact pf4
  have f54 : w5 4 = .inl (cI, 7, .inl (fun _ => 0)) := by rw [e6, va_up_ne _ _ (by decide)]; exact f53
  have f55 : w9 4 = .inl (cI, 7, .inl (fun _ => 0)) := by rw [e10, va_up_ne _ _ (by decide)]; exact f54
  have f56 : w13 4 = .inl (cI, 7, .inl (fun _ => 0)) := by rw [e14, va_up_ne _ _ (by decide)]; exact f55
  have f57 : w17 4 = .inl (cI, 7, .inl (fun _ => 0)) := by rw [e18, va_up_ne _ _ (by decide)]; exact f56
  have f58 : w31 4 = .inl (cI, 7, .inl (fun _ => 0)) := by rw [e32, va_up_ne _ _ (by decide)]; exact f57
  have f59 : w48 4 = .inl (cI, 7, .inl (fun _ => 0)) := by rw [e49, va_up_ne _ _ (by decide)]; exact f58
  have f60 : w1 31 = .inl (cI, 7, .inl (fun _ => 0)) := by rw [e2, va_up_ne _ _ (by decide)]; exact pf31
  have f61 : w5 31 = .inl (cI, 7, .inl (fun _ => 0)) := by rw [e6, va_up_ne _ _ (by decide)]; exact f60
  have f62 : w9 31 = .inl (cI, 7, .inl (fun _ => 0)) := by rw [e10, va_up_ne _ _ (by decide)]; exact f61
  have f63 : w13 31 = .inl (cI, 7, .inl (fun _ => 0)) := by rw [e14, va_up_ne _ _ (by decide)]; exact f62
  have f64 : w17 31 = .inl (cI, 7, .inl (fun _ => 0)) := by rw [e18, va_up_ne _ _ (by decide)]; exact f63
  have f65 : w31 31 = .inl (cI, 7, .inl (fun _ => 0)) := by rw [e32, va_up_ne _ _ (by decide)]; exact f64
  have f66 : w48 31 = .inl (cI, 7, .inl (fun _ => 0)) := by rw [e49, va_up_ne _ _ (by decide)]; exact f65
  refine r_copy (f1 := fun _ => 0) X hD h hl.1 kw_161 kw_144 kw_145 kw_146 4 31 0 (by decide) (by decide) rfl rfl f59 f66 rfl (by decide) (by decide) (by decide) (by decide) (by decide) (cpy0 _ _ _) ⟨Nat.le_of_ble_eq_true rfl, by decide⟩ dX2_become_82 (fun H locs w67 e68 h => ?_)
  have f69 : w67 31 = .inl (cI, 7, .inl (fun _ => 0)) := (congrFun e68 _).trans (va_up_self _ _ _)
  refine lv_aload_n hx hb dX2_become_85 rfl (lv_at hl 1 rfl) ?_
  have f70 : w67 1 = .inr (1, [.int 0, .int 0, .int 0, .int 0, .int 0, .ref (ad 2), .ref (ad 3), .ref (ad 4), .ref (ad 5), .ref (ad 6), .ref (ad 7), .ref (ad 8), .ref (ad 10), .ref (ad 12)]) := by rw [e68, va_up_ne _ _ (by decide)]; exact f51
  refine r_get kc2 X h 1 8 (by decide) rfl f70 (by decide) kw_49 rfl dX2_become_86 ?_
  refine lv_iconst (v := 0) hx hb dX2_become_89 (by decide) ?_
  refine lv_aload_n hx hb dX2_become_90 rfl (lv_at hl 0 rfl) ?_
  have f71 : w67 28 = .inr (1, [.int 0, .int 0, .int 0, .int 0, .int 0, .ref (ad 29), .ref (ad 30), .ref (ad 31), .ref (ad 32), .ref (ad 33), .ref (ad 34), .ref (ad 35), .ref (ad 37), .ref (ad 39)]) := by rw [e68, va_up_ne _ _ (by decide)]; exact f52
  refine r_get kc2 X h 28 8 (by decide) rfl f71 (by decide) kw_49 rfl dX2_become_91 ?_
  refine lv_iconst (v := 0) hx hb dX2_become_94 (by decide) ?_
  refine lv_iconst (v := 4) hx hb dX2_become_95 (by decide) ?_
  have f72 : w1 5 = .inl (cI, 4, .inl (fun _ => 0)) := by rw [e2, va_up_ne _ _ (by decide)]; exact pf5
  have f73 : w5 5 = .inl (cI, 4, .inl (fun _ => 0)) := by rw [e6, va_up_ne _ _ (by decide)]; exact f72
  have f74 : w9 5 = .inl (cI, 4, .inl (fun _ => 0)) := by rw [e10, va_up_ne _ _ (by decide)]; exact f73
  have f75 : w13 5 = .inl (cI, 4, .inl (fun _ => 0)) := by rw [e14, va_up_ne _ _ (by decide)]; exact f74
  have f76 : w17 5 = .inl (cI, 4, .inl (fun _ => 0)) := by rw [e18, va_up_ne _ _ (by decide)]; exact f75
  have f77 : w31 5 = .inl (cI, 4, .inl (fun _ => 0)) := by rw [e32, va_up_ne _ _ (by decide)]; exact f76
  have f78 : w48 5 = .inl (cI, 4, .inl (fun _ => 0)) := by rw [e49, va_up_ne _ _ (by decide)]; exact f77
  have f79 : w67 5 = .inl (cI, 4, .inl (fun _ => 0)) := by rw [e68, va_up_ne _ _ (by decide)]; exact f78
  have f80 : w1 32 = .inl (cI, 4, .inl (fun _ => 0)) := by rw [e2, va_up_ne _ _ (by decide)]; exact pf32
  have f81 : w5 32 = .inl (cI, 4, .inl (fun _ => 0)) := by rw [e6, va_up_ne _ _ (by decide)]; exact f80
  have f82 : w9 32 = .inl (cI, 4, .inl (fun _ => 0)) := by rw [e10, va_up_ne _ _ (by decide)]; exact f81
  have f83 : w13 32 = .inl (cI, 4, .inl (fun _ => 0)) := by rw [e14, va_up_ne _ _ (by decide)]; exact f82
  have f84 : w17 32 = .inl (cI, 4, .inl (fun _ => 0)) := by rw [e18, va_up_ne _ _ (by decide)]; exact f83
  have f85 : w31 32 = .inl (cI, 4, .inl (fun _ => 0)) := by rw [e32, va_up_ne _ _ (by decide)]; exact f84
  have f86 : w48 32 = .inl (cI, 4, .inl (fun _ => 0)) := by rw [e49, va_up_ne _ _ (by decide)]; exact f85
  have f87 : w67 32 = .inl (cI, 4, .inl (fun _ => 0)) := by rw [e68, va_up_ne _ _ (by decide)]; exact f86
  refine r_copy (f1 := fun _ => 0) X hD h hl.1 kw_161 kw_144 kw_145 kw_146 5 32 0 (by decide) (by decide) rfl rfl f79 f87 rfl (by decide) (by decide) (by decide) (by decide) (by decide) (cpy0 _ _ _) ⟨Nat.le_of_ble_eq_true rfl, by decide⟩ dX2_become_96 (fun H locs w88 e89 h => ?_)
  have f90 : w88 32 = .inl (cI, 4, .inl (fun _ => 0)) := (congrFun e89 _).trans (va_up_self _ _ _)
  refine lv_aload_n hx hb dX2_become_99 rfl (lv_at hl 1 rfl) ?_
  have f91 : w88 1 = .inr (1, [.int 0, .int 0, .int 0, .int 0, .int 0, .ref (ad 2), .ref (ad 3), .ref (ad 4), .ref (ad 5), .ref (ad 6), .ref (ad 7), .ref (ad 8), .ref (ad 10), .ref (ad 12)]) := by rw [e89, va_up_ne _ _ (by decide)]; exact f70
  refine r_get kc2 X h 1 9 (by decide) rfl f91 (by decide) kw_50 rfl dX2_become_100 ?_
  refine lv_iconst (v := 0) hx hb dX2_become_103 (by decide) ?_
  refine lv_aload_n hx hb dX2_become_104 rfl (lv_at hl 0 rfl) ?_
  have f92 : w88 28 = .inr (1, [.int 0, .int 0, .int 0, .int 0, .int 0, .ref (ad 29), .ref (ad 30), .ref (ad 31), .ref (ad 32), .ref (ad 33), .ref (ad 34), .ref (ad 35), .ref (ad 37), .ref (ad 39)]) := by rw [e89, va_up_ne _ _ (by decide)]; exact f71
  refine r_get kc2 X h 28 9 (by decide) rfl f92 (by decide) kw_50 rfl dX2_become_105 ?_
  refine lv_iconst (v := 0) hx hb dX2_become_108 (by decide) ?_
  refine lv_iconst (v := 4) hx hb dX2_become_109 (by decide) ?_
  have f93 : w1 6 = .inl (cI, 4, .inl (fun _ => 0)) := by rw [e2, va_up_ne _ _ (by decide)]; exact pf6
  have f94 : w5 6 = .inl (cI, 4, .inl (fun _ => 0)) := by rw [e6, va_up_ne _ _ (by decide)]; exact f93
  have f95 : w9 6 = .inl (cI, 4, .inl (fun _ => 0)) := by rw [e10, va_up_ne _ _ (by decide)]; exact f94
  have f96 : w13 6 = .inl (cI, 4, .inl (fun _ => 0)) := by rw [e14, va_up_ne _ _ (by decide)]; exact f95
  have f97 : w17 6 = .inl (cI, 4, .inl (fun _ => 0)) := by rw [e18, va_up_ne _ _ (by decide)]; exact f96
  have f98 : w31 6 = .inl (cI, 4, .inl (fun _ => 0)) := by rw [e32, va_up_ne _ _ (by decide)]; exact f97
  have f99 : w48 6 = .inl (cI, 4, .inl (fun _ => 0)) := by rw [e49, va_up_ne _ _ (by decide)]; exact f98
  have f100 : w67 6 = .inl (cI, 4, .inl (fun _ => 0)) := by rw [e68, va_up_ne _ _ (by decide)]; exact f99
  have f101 : w88 6 = .inl (cI, 4, .inl (fun _ => 0)) := by rw [e89, va_up_ne _ _ (by decide)]; exact f100
  have f102 : w1 33 = .inl (cI, 4, .inl (fun _ => 0)) := by rw [e2, va_up_ne _ _ (by decide)]; exact pf33
  have f103 : w5 33 = .inl (cI, 4, .inl (fun _ => 0)) := by rw [e6, va_up_ne _ _ (by decide)]; exact f102
  have f104 : w9 33 = .inl (cI, 4, .inl (fun _ => 0)) := by rw [e10, va_up_ne _ _ (by decide)]; exact f103
  have f105 : w13 33 = .inl (cI, 4, .inl (fun _ => 0)) := by rw [e14, va_up_ne _ _ (by decide)]; exact f104
  have f106 : w17 33 = .inl (cI, 4, .inl (fun _ => 0)) := by rw [e18, va_up_ne _ _ (by decide)]; exact f105
  have f107 : w31 33 = .inl (cI, 4, .inl (fun _ => 0)) := by rw [e32, va_up_ne _ _ (by decide)]; exact f106
  have f108 : w48 33 = .inl (cI, 4, .inl (fun _ => 0)) := by rw [e49, va_up_ne _ _ (by decide)]; exact f107
  have f109 : w67 33 = .inl (cI, 4, .inl (fun _ => 0)) := by rw [e68, va_up_ne _ _ (by decide)]; exact f108
  have f110 : w88 33 = .inl (cI, 4, .inl (fun _ => 0)) := by rw [e89, va_up_ne _ _ (by decide)]; exact f109
  refine r_copy (f1 := fun _ => 0) X hD h hl.1 kw_161 kw_144 kw_145 kw_146 6 33 0 (by decide) (by decide) rfl rfl f101 f110 rfl (by decide) (by decide) (by decide) (by decide) (by decide) (cpy0 _ _ _) ⟨Nat.le_of_ble_eq_true rfl, by decide⟩ dX2_become_110 (fun H locs w111 e112 h => ?_)
  have f113 : w111 33 = .inl (cI, 4, .inl (fun _ => 0)) := (congrFun e112 _).trans (va_up_self _ _ _)
  refine lv_aload_n hx hb dX2_become_113 rfl (lv_at hl 1 rfl) ?_
  have f114 : w111 1 = .inr (1, [.int 0, .int 0, .int 0, .int 0, .int 0, .ref (ad 2), .ref (ad 3), .ref (ad 4), .ref (ad 5), .ref (ad 6), .ref (ad 7), .ref (ad 8), .ref (ad 10), .ref (ad 12)]) := by rw [e112, va_up_ne _ _ (by decide)]; exact f91
  refine r_get kc2 X h 1 10 (by decide) rfl f114 (by decide) kw_51 rfl dX2_become_114 ?_
  refine lv_iconst (v := 0) hx hb dX2_become_117 (by decide) ?_
  refine lv_aload_n hx hb dX2_become_118 rfl (lv_at hl 0 rfl) ?_
  have f115 : w111 28 = .inr (1, [.int 0, .int 0, .int 0, .int 0, .int 0, .ref (ad 29), .ref (ad 30), .ref (ad 31), .ref (ad 32), .ref (ad 33), .ref (ad 34), .ref (ad 35), .ref (ad 37), .ref (ad 39)]) := by rw [e112, va_up_ne _ _ (by decide)]; exact f92
  refine r_get kc2 X h 28 10 (by decide) rfl f115 (by decide) kw_51 rfl dX2_become_119 ?_
  refine lv_iconst (v := 0) hx hb dX2_become_122 (by decide) ?_
  refine lv_iconst (v := 4) hx hb dX2_become_123 (by decide) ?_
  have f116 : w1 7 = .inl (cI, 4, .inl (fun _ => 0)) := by rw [e2, va_up_ne _ _ (by decide)]; exact pf7
  have f117 : w5 7 = .inl (cI, 4, .inl (fun _ => 0)) := by rw [e6, va_up_ne _ _ (by decide)]; exact f116
  have f118 : w9 7 = .inl (cI, 4, .inl (fun _ => 0)) := by rw [e10, va_up_ne _ _ (by decide)]; exact f117
  have f119 : w13 7 = .inl (cI, 4, .inl (fun _ => 0)) := by rw [e14, va_up_ne _ _ (by decide)]; exact f118
  have f120 : w17 7 = .inl (cI, 4, .inl (fun _ => 0)) := by rw [e18, va_up_ne _ _ (by decide)]; exact f119
  have f121 : w31 7 = .inl (cI, 4, .inl (fun _ => 0)) := by rw [e32, va_up_ne _ _ (by decide)]; exact f120
  have f122 : w48 7 = .inl (cI, 4, .inl (fun _ => 0)) := by rw [e49, va_up_ne _ _ (by decide)]; exact f121
  have f123 : w67 7 = .inl (cI, 4, .inl (fun _ => 0)) := by rw [e68, va_up_ne _ _ (by decide)]; exact f122
  have f124 : w88 7 = .inl (cI, 4, .inl (fun _ => 0)) := by rw [e89, va_up_ne _ _ (by decide)]; exact f123
  have f125 : w111 7 = .inl (cI, 4, .inl (fun _ => 0)) := by rw [e112, va_up_ne _ _ (by decide)]; exact f124
  have f126 : w1 34 = .inl (cI, 4, .inl (fun _ => 0)) := by rw [e2, va_up_ne _ _ (by decide)]; exact pf34
  have f127 : w5 34 = .inl (cI, 4, .inl (fun _ => 0)) := by rw [e6, va_up_ne _ _ (by decide)]; exact f126
  have f128 : w9 34 = .inl (cI, 4, .inl (fun _ => 0)) := by rw [e10, va_up_ne _ _ (by decide)]; exact f127
  have f129 : w13 34 = .inl (cI, 4, .inl (fun _ => 0)) := by rw [e14, va_up_ne _ _ (by decide)]; exact f128
  have f130 : w17 34 = .inl (cI, 4, .inl (fun _ => 0)) := by rw [e18, va_up_ne _ _ (by decide)]; exact f129
  have f131 : w31 34 = .inl (cI, 4, .inl (fun _ => 0)) := by rw [e32, va_up_ne _ _ (by decide)]; exact f130
  have f132 : w48 34 = .inl (cI, 4, .inl (fun _ => 0)) := by rw [e49, va_up_ne _ _ (by decide)]; exact f131
  have f133 : w67 34 = .inl (cI, 4, .inl (fun _ => 0)) := by rw [e68, va_up_ne _ _ (by decide)]; exact f132
  have f134 : w88 34 = .inl (cI, 4, .inl (fun _ => 0)) := by rw [e89, va_up_ne _ _ (by decide)]; exact f133
  have f135 : w111 34 = .inl (cI, 4, .inl (fun _ => 0)) := by rw [e112, va_up_ne _ _ (by decide)]; exact f134
  refine r_copy (f1 := fun _ => 0) X hD h hl.1 kw_161 kw_144 kw_145 kw_146 7 34 0 (by decide) (by decide) rfl rfl f125 f135 rfl (by decide) (by decide) (by decide) (by decide) (by decide) (cpy0 _ _ _) ⟨Nat.le_of_ble_eq_true rfl, by decide⟩ dX2_become_124 (fun H locs w136 e137 h => ?_)
  have f138 : w136 34 = .inl (cI, 4, .inl (fun _ => 0)) := (congrFun e137 _).trans (va_up_self _ _ _)
  refine lv_aload_n hx hb dX2_become_127 rfl (lv_at hl 0 rfl) ?_
  have f139 : w136 28 = .inr (1, [.int 0, .int 0, .int 0, .int 0, .int 0, .ref (ad 29), .ref (ad 30), .ref (ad 31), .ref (ad 32), .ref (ad 33), .ref (ad 34), .ref (ad 35), .ref (ad 37), .ref (ad 39)]) := by rw [e137, va_up_ne _ _ (by decide)]; exact f115
  refine r_get kc2 X h 28 11 (by decide) rfl f139 (by decide) kw_25 rfl dX2_become_128 ?_
  refine lv_aload_n hx hb dX2_become_131 rfl (lv_at hl 1 rfl) ?_
  have f140 : w136 1 = .inr (1, [.int 0, .int 0, .int 0, .int 0, .int 0, .ref (ad 2), .ref (ad 3), .ref (ad 4), .ref (ad 5), .ref (ad 6), .ref (ad 7), .ref (ad 8), .ref (ad 10), .ref (ad 12)]) := by rw [e137, va_up_ne _ _ (by decide)]; exact f114
  refine r_get kc2 X h 1 11 (by decide) rfl f140 (by decide) kw_25 rfl dX2_become_132 ?_
  have f141 : w1 35 = .inr (4, [.ref (ad 36), .int 0]) := by rw [e2, va_up_ne _ _ (by decide)]; exact pf35
  have f142 : w5 35 = .inr (4, [.ref (ad 36), .int 0]) := by rw [e6, va_up_ne _ _ (by decide)]; exact f141
  have f143 : w9 35 = .inr (4, [.ref (ad 36), .int 0]) := by rw [e10, va_up_ne _ _ (by decide)]; exact f142
  have f144 : w13 35 = .inr (4, [.ref (ad 36), .int 0]) := by rw [e14, va_up_ne _ _ (by decide)]; exact f143
  have f145 : w17 35 = .inr (4, [.ref (ad 36), .int 0]) := by rw [e18, va_up_ne _ _ (by decide)]; exact f144
  have f146 : w31 35 = .inr (4, [.ref (ad 36), .int 0]) := by rw [e32, va_up_ne _ _ (by decide)]; exact f145
  have f147 : w48 35 = .inr (4, [.ref (ad 36), .int 0]) := by rw [e49, va_up_ne _ _ (by decide)]; exact f146
  have f148 : w67 35 = .inr (4, [.ref (ad 36), .int 0]) := by rw [e68, va_up_ne _ _ (by decide)]; exact f147
  have f149 : w88 35 = .inr (4, [.ref (ad 36), .int 0]) := by rw [e89, va_up_ne _ _ (by decide)]; exact f148
  have f150 : w111 35 = .inr (4, [.ref (ad 36), .int 0]) := by rw [e112, va_up_ne _ _ (by decide)]; exact f149
  have f151 : w136 35 = .inr (4, [.ref (ad 36), .int 0]) := by rw [e137, va_up_ne _ _ (by decide)]; exact f150
  have f152 : w1 36 = .inl (cI, 24, .inl (fun _ => 0)) := by rw [e2, va_up_ne _ _ (by decide)]; exact pf36
  have f153 : w5 36 = .inl (cI, 24, .inl (fun _ => 0)) := by rw [e6, va_up_ne _ _ (by decide)]; exact f152
  have f154 : w9 36 = .inl (cI, 24, .inl (fun _ => 0)) := by rw [e10, va_up_ne _ _ (by decide)]; exact f153
  have f155 : w13 36 = .inl (cI, 24, .inl (fun _ => 0)) := by rw [e14, va_up_ne _ _ (by decide)]; exact f154
  have f156 : w17 36 = .inl (cI, 24, .inl (fun _ => 0)) := by rw [e18, va_up_ne _ _ (by decide)]; exact f155
  have f157 : w31 36 = .inl (cI, 24, .inl (fun _ => 0)) := by rw [e32, va_up_ne _ _ (by decide)]; exact f156
  have f158 : w48 36 = .inl (cI, 24, .inl (fun _ => 0)) := by rw [e49, va_up_ne _ _ (by decide)]; exact f157
  have f159 : w67 36 = .inl (cI, 24, .inl (fun _ => 0)) := by rw [e68, va_up_ne _ _ (by decide)]; exact f158
  have f160 : w88 36 = .inl (cI, 24, .inl (fun _ => 0)) := by rw [e89, va_up_ne _ _ (by decide)]; exact f159
  have f161 : w111 36 = .inl (cI, 24, .inl (fun _ => 0)) := by rw [e112, va_up_ne _ _ (by decide)]; exact f160
  have f162 : w136 36 = .inl (cI, 24, .inl (fun _ => 0)) := by rw [e137, va_up_ne _ _ (by decide)]; exact f161
  have f163 : w1 8 = .inr (4, [.ref (ad 9), .int 0]) := by rw [e2, va_up_ne _ _ (by decide)]; exact pf8
  have f164 : w5 8 = .inr (4, [.ref (ad 9), .int 0]) := by rw [e6, va_up_ne _ _ (by decide)]; exact f163
  have f165 : w9 8 = .inr (4, [.ref (ad 9), .int 0]) := by rw [e10, va_up_ne _ _ (by decide)]; exact f164
  have f166 : w13 8 = .inr (4, [.ref (ad 9), .int 0]) := by rw [e14, va_up_ne _ _ (by decide)]; exact f165
  have f167 : w17 8 = .inr (4, [.ref (ad 9), .int 0]) := by rw [e18, va_up_ne _ _ (by decide)]; exact f166
  have f168 : w31 8 = .inr (4, [.ref (ad 9), .int 0]) := by rw [e32, va_up_ne _ _ (by decide)]; exact f167
  have f169 : w48 8 = .inr (4, [.ref (ad 9), .int 0]) := by rw [e49, va_up_ne _ _ (by decide)]; exact f168
  have f170 : w67 8 = .inr (4, [.ref (ad 9), .int 0]) := by rw [e68, va_up_ne _ _ (by decide)]; exact f169
  have f171 : w88 8 = .inr (4, [.ref (ad 9), .int 0]) := by rw [e89, va_up_ne _ _ (by decide)]; exact f170
  have f172 : w111 8 = .inr (4, [.ref (ad 9), .int 0]) := by rw [e112, va_up_ne _ _ (by decide)]; exact f171
  have f173 : w136 8 = .inr (4, [.ref (ad 9), .int 0]) := by rw [e137, va_up_ne _ _ (by decide)]; exact f172
  have f174 : w1 9 = .inl (cI, 24, .inl (fun _ => 0)) := by rw [e2, va_up_ne _ _ (by decide)]; exact pf9
  have f175 : w5 9 = .inl (cI, 24, .inl (fun _ => 0)) := by rw [e6, va_up_ne _ _ (by decide)]; exact f174
  have f176 : w9 9 = .inl (cI, 24, .inl (fun _ => 0)) := by rw [e10, va_up_ne _ _ (by decide)]; exact f175
  have f177 : w13 9 = .inl (cI, 24, .inl (fun _ => 0)) := by rw [e14, va_up_ne _ _ (by decide)]; exact f176
  have f178 : w17 9 = .inl (cI, 24, .inl (fun _ => 0)) := by rw [e18, va_up_ne _ _ (by decide)]; exact f177
  have f179 : w31 9 = .inl (cI, 24, .inl (fun _ => 0)) := by rw [e32, va_up_ne _ _ (by decide)]; exact f178
  have f180 : w48 9 = .inl (cI, 24, .inl (fun _ => 0)) := by rw [e49, va_up_ne _ _ (by decide)]; exact f179
  have f181 : w67 9 = .inl (cI, 24, .inl (fun _ => 0)) := by rw [e68, va_up_ne _ _ (by decide)]; exact f180
  have f182 : w88 9 = .inl (cI, 24, .inl (fun _ => 0)) := by rw [e89, va_up_ne _ _ (by decide)]; exact f181
  have f183 : w111 9 = .inl (cI, 24, .inl (fun _ => 0)) := by rw [e112, va_up_ne _ _ (by decide)]; exact f182
  have f184 : w136 9 = .inl (cI, 24, .inl (fun _ => 0)) := by rw [e137, va_up_ne _ _ (by decide)]; exact f183
  refine q_Vv (na := 1) (As := [.ref (ad 8)]) (rest := []) X hD hN h rfl (c_R_become l G cI cB cZ cO ad w136 35 8 _ _ _ _ (by omega) (by omega) (by omega) f151 f162 f173 f184) ⟨kw_162, kw_163, kw_164, kw_29, kw_165⟩ rfl ⟨by decide, by decide, by decide⟩ ⟨Nat.le_of_ble_eq_true rfl, Nat.le_of_ble_eq_true rfl⟩ ⟨Nat.zero_le _, Nat.zero_le _⟩ (by decide) f151 rfl rfl hl.1 rfl (Nat.le_of_ble_eq_true rfl) dX2_become_135 (fun w186 H locs hp187 h => ?_)
  refine lv_aload_n hx hb dX2_become_138 rfl (lv_at hl 0 rfl) ?_
  have f188 : w186 28 = .inr (1, [.int 0, .int 0, .int 0, .int 0, .int 0, .ref (ad 29), .ref (ad 30), .ref (ad 31), .ref (ad 32), .ref (ad 33), .ref (ad 34), .ref (ad 35), .ref (ad 37), .ref (ad 39)]) := (hp187 28 (by decide) (by decide)).trans f139
  refine r_get kc2 X h 28 12 (by decide) rfl f188 (by decide) kw_31 rfl dX2_become_139 ?_
  refine lv_aload_n hx hb dX2_become_142 rfl (lv_at hl 1 rfl) ?_
  have f189 : w186 1 = .inr (1, [.int 0, .int 0, .int 0, .int 0, .int 0, .ref (ad 2), .ref (ad 3), .ref (ad 4), .ref (ad 5), .ref (ad 6), .ref (ad 7), .ref (ad 8), .ref (ad 10), .ref (ad 12)]) := (hp187 1 (by decide) (by decide)).trans f140
  refine r_get kc2 X h 1 12 (by decide) rfl f189 (by decide) kw_31 rfl dX2_become_143 ?_
  have f190 : w1 37 = .inr (4, [.ref (ad 38), .int 0]) := by rw [e2, va_up_ne _ _ (by decide)]; exact pf37
  have f191 : w5 37 = .inr (4, [.ref (ad 38), .int 0]) := by rw [e6, va_up_ne _ _ (by decide)]; exact f190
  have f192 : w9 37 = .inr (4, [.ref (ad 38), .int 0]) := by rw [e10, va_up_ne _ _ (by decide)]; exact f191
  have f193 : w13 37 = .inr (4, [.ref (ad 38), .int 0]) := by rw [e14, va_up_ne _ _ (by decide)]; exact f192
  have f194 : w17 37 = .inr (4, [.ref (ad 38), .int 0]) := by rw [e18, va_up_ne _ _ (by decide)]; exact f193
  have f195 : w31 37 = .inr (4, [.ref (ad 38), .int 0]) := by rw [e32, va_up_ne _ _ (by decide)]; exact f194
  have f196 : w48 37 = .inr (4, [.ref (ad 38), .int 0]) := by rw [e49, va_up_ne _ _ (by decide)]; exact f195
  have f197 : w67 37 = .inr (4, [.ref (ad 38), .int 0]) := by rw [e68, va_up_ne _ _ (by decide)]; exact f196
  have f198 : w88 37 = .inr (4, [.ref (ad 38), .int 0]) := by rw [e89, va_up_ne _ _ (by decide)]; exact f197
  have f199 : w111 37 = .inr (4, [.ref (ad 38), .int 0]) := by rw [e112, va_up_ne _ _ (by decide)]; exact f198
  have f200 : w136 37 = .inr (4, [.ref (ad 38), .int 0]) := by rw [e137, va_up_ne _ _ (by decide)]; exact f199
  have f201 : w186 37 = .inr (4, [.ref (ad 38), .int 0]) := (hp187 37 (by decide) (by decide)).trans f200
  have f202 : w1 38 = .inl (cI, 24, .inl (fun _ => 0)) := by rw [e2, va_up_ne _ _ (by decide)]; exact pf38
  have f203 : w5 38 = .inl (cI, 24, .inl (fun _ => 0)) := by rw [e6, va_up_ne _ _ (by decide)]; exact f202
  have f204 : w9 38 = .inl (cI, 24, .inl (fun _ => 0)) := by rw [e10, va_up_ne _ _ (by decide)]; exact f203
  have f205 : w13 38 = .inl (cI, 24, .inl (fun _ => 0)) := by rw [e14, va_up_ne _ _ (by decide)]; exact f204
  have f206 : w17 38 = .inl (cI, 24, .inl (fun _ => 0)) := by rw [e18, va_up_ne _ _ (by decide)]; exact f205
  have f207 : w31 38 = .inl (cI, 24, .inl (fun _ => 0)) := by rw [e32, va_up_ne _ _ (by decide)]; exact f206
  have f208 : w48 38 = .inl (cI, 24, .inl (fun _ => 0)) := by rw [e49, va_up_ne _ _ (by decide)]; exact f207
  have f209 : w67 38 = .inl (cI, 24, .inl (fun _ => 0)) := by rw [e68, va_up_ne _ _ (by decide)]; exact f208
  have f210 : w88 38 = .inl (cI, 24, .inl (fun _ => 0)) := by rw [e89, va_up_ne _ _ (by decide)]; exact f209
  have f211 : w111 38 = .inl (cI, 24, .inl (fun _ => 0)) := by rw [e112, va_up_ne _ _ (by decide)]; exact f210
  have f212 : w136 38 = .inl (cI, 24, .inl (fun _ => 0)) := by rw [e137, va_up_ne _ _ (by decide)]; exact f211
  have f213 : w186 38 = .inl (cI, 24, .inl (fun _ => 0)) := (hp187 38 (by decide) (by decide)).trans f212
  have f214 : w1 10 = .inr (4, [.ref (ad 11), .int 0]) := by rw [e2, va_up_ne _ _ (by decide)]; exact pf10
  have f215 : w5 10 = .inr (4, [.ref (ad 11), .int 0]) := by rw [e6, va_up_ne _ _ (by decide)]; exact f214
  have f216 : w9 10 = .inr (4, [.ref (ad 11), .int 0]) := by rw [e10, va_up_ne _ _ (by decide)]; exact f215
  have f217 : w13 10 = .inr (4, [.ref (ad 11), .int 0]) := by rw [e14, va_up_ne _ _ (by decide)]; exact f216
  have f218 : w17 10 = .inr (4, [.ref (ad 11), .int 0]) := by rw [e18, va_up_ne _ _ (by decide)]; exact f217
  have f219 : w31 10 = .inr (4, [.ref (ad 11), .int 0]) := by rw [e32, va_up_ne _ _ (by decide)]; exact f218
  have f220 : w48 10 = .inr (4, [.ref (ad 11), .int 0]) := by rw [e49, va_up_ne _ _ (by decide)]; exact f219
  have f221 : w67 10 = .inr (4, [.ref (ad 11), .int 0]) := by rw [e68, va_up_ne _ _ (by decide)]; exact f220
  have f222 : w88 10 = .inr (4, [.ref (ad 11), .int 0]) := by rw [e89, va_up_ne _ _ (by decide)]; exact f221
  have f223 : w111 10 = .inr (4, [.ref (ad 11), .int 0]) := by rw [e112, va_up_ne _ _ (by decide)]; exact f222
  have f224 : w136 10 = .inr (4, [.ref (ad 11), .int 0]) := by rw [e137, va_up_ne _ _ (by decide)]; exact f223
  have f225 : w186 10 = .inr (4, [.ref (ad 11), .int 0]) := (hp187 10 (by decide) (by decide)).trans f224
  have f226 : w1 11 = .inl (cI, 24, .inl (fun _ => 0)) := by rw [e2, va_up_ne _ _ (by decide)]; exact pf11
  have f227 : w5 11 = .inl (cI, 24, .inl (fun _ => 0)) := by rw [e6, va_up_ne _ _ (by decide)]; exact f226
  have f228 : w9 11 = .inl (cI, 24, .inl (fun _ => 0)) := by rw [e10, va_up_ne _ _ (by decide)]; exact f227
  have f229 : w13 11 = .inl (cI, 24, .inl (fun _ => 0)) := by rw [e14, va_up_ne _ _ (by decide)]; exact f228
  have f230 : w17 11 = .inl (cI, 24, .inl (fun _ => 0)) := by rw [e18, va_up_ne _ _ (by decide)]; exact f229
  have f231 : w31 11 = .inl (cI, 24, .inl (fun _ => 0)) := by rw [e32, va_up_ne _ _ (by decide)]; exact f230
  have f232 : w48 11 = .inl (cI, 24, .inl (fun _ => 0)) := by rw [e49, va_up_ne _ _ (by decide)]; exact f231
  have f233 : w67 11 = .inl (cI, 24, .inl (fun _ => 0)) := by rw [e68, va_up_ne _ _ (by decide)]; exact f232
  have f234 : w88 11 = .inl (cI, 24, .inl (fun _ => 0)) := by rw [e89, va_up_ne _ _ (by decide)]; exact f233
  have f235 : w111 11 = .inl (cI, 24, .inl (fun _ => 0)) := by rw [e112, va_up_ne _ _ (by decide)]; exact f234
  have f236 : w136 11 = .inl (cI, 24, .inl (fun _ => 0)) := by rw [e137, va_up_ne _ _ (by decide)]; exact f235
  have f237 : w186 11 = .inl (cI, 24, .inl (fun _ => 0)) := (hp187 11 (by decide) (by decide)).trans f236
  refine q_Vv (na := 1) (As := [.ref (ad 10)]) (rest := []) X hD hN h rfl (c_R_become l G cI cB cZ cO ad w186 37 10 _ _ _ _ (by omega) (by omega) (by omega) f201 f213 f225 f237) ⟨kw_162, kw_163, kw_164, kw_29, kw_165⟩ rfl ⟨by decide, by decide, by decide⟩ ⟨Nat.le_of_ble_eq_true rfl, Nat.le_of_ble_eq_true rfl⟩ ⟨Nat.zero_le _, Nat.zero_le _⟩ (by decide) f201 rfl rfl hl.1 rfl (Nat.le_of_ble_eq_true rfl) dX2_become_146 (fun w239 H locs hp240 h => ?_)
  refine lv_aload_n hx hb dX2_become_149 rfl (lv_at hl 0 rfl) ?_
  have f241 : w239 28 = .inr (1, [.int 0, .int 0, .int 0, .int 0, .int 0, .ref (ad 29), .ref (ad 30), .ref (ad 31), .ref (ad 32), .ref (ad 33), .ref (ad 34), .ref (ad 35), .ref (ad 37), .ref (ad 39)]) := (hp240 28 (by decide) (by decide)).trans f188
  refine r_get kc2 X h 28 13 (by decide) rfl f241 (by decide) kw_32 rfl dX2_become_150 ?_
  refine lv_aload_n hx hb dX2_become_153 rfl (lv_at hl 1 rfl) ?_
  have f242 : w239 1 = .inr (1, [.int 0, .int 0, .int 0, .int 0, .int 0, .ref (ad 2), .ref (ad 3), .ref (ad 4), .ref (ad 5), .ref (ad 6), .ref (ad 7), .ref (ad 8), .ref (ad 10), .ref (ad 12)]) := (hp240 1 (by decide) (by decide)).trans f189
  refine r_get kc2 X h 1 13 (by decide) rfl f242 (by decide) kw_32 rfl dX2_become_154 ?_
  have f243 : w1 39 = .inr (2, [.ref (ad 40), .int 0]) := by rw [e2, va_up_ne _ _ (by decide)]; exact pf39
  have f244 : w5 39 = .inr (2, [.ref (ad 40), .int 0]) := by rw [e6, va_up_ne _ _ (by decide)]; exact f243
  have f245 : w9 39 = .inr (2, [.ref (ad 40), .int 0]) := by rw [e10, va_up_ne _ _ (by decide)]; exact f244
  have f246 : w13 39 = .inr (2, [.ref (ad 40), .int 0]) := by rw [e14, va_up_ne _ _ (by decide)]; exact f245
  have f247 : w17 39 = .inr (2, [.ref (ad 40), .int 0]) := by rw [e18, va_up_ne _ _ (by decide)]; exact f246
  have f248 : w31 39 = .inr (2, [.ref (ad 40), .int 0]) := by rw [e32, va_up_ne _ _ (by decide)]; exact f247
  have f249 : w48 39 = .inr (2, [.ref (ad 40), .int 0]) := by rw [e49, va_up_ne _ _ (by decide)]; exact f248
  have f250 : w67 39 = .inr (2, [.ref (ad 40), .int 0]) := by rw [e68, va_up_ne _ _ (by decide)]; exact f249
  have f251 : w88 39 = .inr (2, [.ref (ad 40), .int 0]) := by rw [e89, va_up_ne _ _ (by decide)]; exact f250
  have f252 : w111 39 = .inr (2, [.ref (ad 40), .int 0]) := by rw [e112, va_up_ne _ _ (by decide)]; exact f251
  have f253 : w136 39 = .inr (2, [.ref (ad 40), .int 0]) := by rw [e137, va_up_ne _ _ (by decide)]; exact f252
  have f254 : w186 39 = .inr (2, [.ref (ad 40), .int 0]) := (hp187 39 (by decide) (by decide)).trans f253
  have f255 : w239 39 = .inr (2, [.ref (ad 40), .int 0]) := (hp240 39 (by decide) (by decide)).trans f254
  have f256 : w1 40 = .inl (cI, 88, .inl (fun _ => 0)) := by rw [e2, va_up_ne _ _ (by decide)]; exact pf40
  have f257 : w5 40 = .inl (cI, 88, .inl (fun _ => 0)) := by rw [e6, va_up_ne _ _ (by decide)]; exact f256
  have f258 : w9 40 = .inl (cI, 88, .inl (fun _ => 0)) := by rw [e10, va_up_ne _ _ (by decide)]; exact f257
  have f259 : w13 40 = .inl (cI, 88, .inl (fun _ => 0)) := by rw [e14, va_up_ne _ _ (by decide)]; exact f258
  have f260 : w17 40 = .inl (cI, 88, .inl (fun _ => 0)) := by rw [e18, va_up_ne _ _ (by decide)]; exact f259
  have f261 : w31 40 = .inl (cI, 88, .inl (fun _ => 0)) := by rw [e32, va_up_ne _ _ (by decide)]; exact f260
  have f262 : w48 40 = .inl (cI, 88, .inl (fun _ => 0)) := by rw [e49, va_up_ne _ _ (by decide)]; exact f261
  have f263 : w67 40 = .inl (cI, 88, .inl (fun _ => 0)) := by rw [e68, va_up_ne _ _ (by decide)]; exact f262
  have f264 : w88 40 = .inl (cI, 88, .inl (fun _ => 0)) := by rw [e89, va_up_ne _ _ (by decide)]; exact f263
  have f265 : w111 40 = .inl (cI, 88, .inl (fun _ => 0)) := by rw [e112, va_up_ne _ _ (by decide)]; exact f264
  have f266 : w136 40 = .inl (cI, 88, .inl (fun _ => 0)) := by rw [e137, va_up_ne _ _ (by decide)]; exact f265
  have f267 : w186 40 = .inl (cI, 88, .inl (fun _ => 0)) := (hp187 40 (by decide) (by decide)).trans f266
  have f268 : w239 40 = .inl (cI, 88, .inl (fun _ => 0)) := (hp240 40 (by decide) (by decide)).trans f267
  have f269 : w1 12 = .inr (2, [.ref (ad 13), .int 0]) := by rw [e2, va_up_ne _ _ (by decide)]; exact pf12
  have f270 : w5 12 = .inr (2, [.ref (ad 13), .int 0]) := by rw [e6, va_up_ne _ _ (by decide)]; exact f269
  have f271 : w9 12 = .inr (2, [.ref (ad 13), .int 0]) := by rw [e10, va_up_ne _ _ (by decide)]; exact f270
  have f272 : w13 12 = .inr (2, [.ref (ad 13), .int 0]) := by rw [e14, va_up_ne _ _ (by decide)]; exact f271
  have f273 : w17 12 = .inr (2, [.ref (ad 13), .int 0]) := by rw [e18, va_up_ne _ _ (by decide)]; exact f272
  have f274 : w31 12 = .inr (2, [.ref (ad 13), .int 0]) := by rw [e32, va_up_ne _ _ (by decide)]; exact f273
  have f275 : w48 12 = .inr (2, [.ref (ad 13), .int 0]) := by rw [e49, va_up_ne _ _ (by decide)]; exact f274
  have f276 : w67 12 = .inr (2, [.ref (ad 13), .int 0]) := by rw [e68, va_up_ne _ _ (by decide)]; exact f275
  have f277 : w88 12 = .inr (2, [.ref (ad 13), .int 0]) := by rw [e89, va_up_ne _ _ (by decide)]; exact f276
  have f278 : w111 12 = .inr (2, [.ref (ad 13), .int 0]) := by rw [e112, va_up_ne _ _ (by decide)]; exact f277
  have f279 : w136 12 = .inr (2, [.ref (ad 13), .int 0]) := by rw [e137, va_up_ne _ _ (by decide)]; exact f278
  have f280 : w186 12 = .inr (2, [.ref (ad 13), .int 0]) := (hp187 12 (by decide) (by decide)).trans f279
  have f281 : w239 12 = .inr (2, [.ref (ad 13), .int 0]) := (hp240 12 (by decide) (by decide)).trans f280
  have f282 : w1 13 = .inl (cI, 88, .inl (fun _ => 0)) := by rw [e2, va_up_ne _ _ (by decide)]; exact pf13
  have f283 : w5 13 = .inl (cI, 88, .inl (fun _ => 0)) := by rw [e6, va_up_ne _ _ (by decide)]; exact f282
  have f284 : w9 13 = .inl (cI, 88, .inl (fun _ => 0)) := by rw [e10, va_up_ne _ _ (by decide)]; exact f283
  have f285 : w13 13 = .inl (cI, 88, .inl (fun _ => 0)) := by rw [e14, va_up_ne _ _ (by decide)]; exact f284
  have f286 : w17 13 = .inl (cI, 88, .inl (fun _ => 0)) := by rw [e18, va_up_ne _ _ (by decide)]; exact f285
  have f287 : w31 13 = .inl (cI, 88, .inl (fun _ => 0)) := by rw [e32, va_up_ne _ _ (by decide)]; exact f286
  have f288 : w48 13 = .inl (cI, 88, .inl (fun _ => 0)) := by rw [e49, va_up_ne _ _ (by decide)]; exact f287
  have f289 : w67 13 = .inl (cI, 88, .inl (fun _ => 0)) := by rw [e68, va_up_ne _ _ (by decide)]; exact f288
  have f290 : w88 13 = .inl (cI, 88, .inl (fun _ => 0)) := by rw [e89, va_up_ne _ _ (by decide)]; exact f289
  have f291 : w111 13 = .inl (cI, 88, .inl (fun _ => 0)) := by rw [e112, va_up_ne _ _ (by decide)]; exact f290
  have f292 : w136 13 = .inl (cI, 88, .inl (fun _ => 0)) := by rw [e137, va_up_ne _ _ (by decide)]; exact f291
  have f293 : w186 13 = .inl (cI, 88, .inl (fun _ => 0)) := (hp187 13 (by decide) (by decide)).trans f292
  have f294 : w239 13 = .inl (cI, 88, .inl (fun _ => 0)) := (hp240 13 (by decide) (by decide)).trans f293
  refine q_Vv (na := 1) (As := [.ref (ad 12)]) (rest := []) X hD hN h rfl (c_P_become l G cI cB cZ cO ad w239 39 12 _ _ _ _ (by omega) (by omega) (by omega) f255 f268 f281 f294) ⟨kw_166, kw_167, kw_168, kw_36, kw_169⟩ rfl ⟨by decide, by decide, by decide⟩ ⟨Nat.le_of_ble_eq_true rfl, Nat.le_of_ble_eq_true rfl⟩ ⟨Nat.zero_le _, Nat.zero_le _⟩ (by decide) f255 rfl rfl hl.1 rfl (Nat.le_of_ble_eq_true rfl) dX2_become_157 (fun w296 H locs hp297 h => ?_)
  have f298 : w296 28 = .inr (1, [.int 0, .int 0, .int 0, .int 0, .int 0, .ref (ad 29), .ref (ad 30), .ref (ad 31), .ref (ad 32), .ref (ad 33), .ref (ad 34), .ref (ad 35), .ref (ad 37), .ref (ad 39)]) := (hp297 28 (by decide) (by decide)).trans f241
  exact e_v X h hr hlk dX2_become_160 ⟨f298, fun k h1 => (hp297 k (by omega) (by omega)).trans ((hp240 k (by omega) (by omega)).trans ((hp187 k (by omega) (by omega)).trans (((congrFun e137 k).trans (va_up_ne _ _ (by omega))).trans (((congrFun e112 k).trans (va_up_ne _ _ (by omega))).trans (((congrFun e89 k).trans (va_up_ne _ _ (by omega))).trans (((congrFun e68 k).trans (va_up_ne _ _ (by omega))).trans (((congrFun e49 k).trans (va_up_ne _ _ (by omega))).trans (((congrFun e32 k).trans (va_up_ne _ _ (by omega))).trans (((congrFun e18 k).trans (va_up_ne _ _ (by omega))).trans (((congrFun e14 k).trans (va_up_ne _ _ (by omega))).trans (((congrFun e10 k).trans (va_up_ne _ _ (by omega))).trans (((congrFun e6 k).trans (va_up_ne _ _ (by omega))).trans ((congrFun e2 k).trans (va_up_ne _ _ (by omega)))))))))))))))⟩

set_option maxHeartbeats 4000000 in
set_option maxRecDepth 100000 in
theorem c_become41 (l : Launch) (G : va_G) (cI cB cZ cO : ClassId) (ad : Nat → Nat) (w : Nat → va_E)  (pf1 : w 1 = .inr (1, [.int 0, .int 0, .int 0, .int 0, .int 0, .ref (ad 2), .ref (ad 3), .ref (ad 4), .ref (ad 5), .ref (ad 6), .ref (ad 7), .ref (ad 8), .ref (ad 10), .ref (ad 12)])) (pf2 : w 2 = .inl (cI, 7, .inl (fun _ => 0))) (pf3 : w 3 = .inl (cI, 7, .inl (fun _ => 0))) (pf4 : w 4 = .inl (cI, 7, .inl (fun _ => 0))) (pf5 : w 5 = .inl (cI, 4, .inl (fun _ => 0))) (pf6 : w 6 = .inl (cI, 4, .inl (fun _ => 0))) (pf7 : w 7 = .inl (cI, 4, .inl (fun _ => 0))) (pf8 : w 8 = .inr (4, [.ref (ad 9), .int 0])) (pf9 : w 9 = .inl (cI, 24, .inl (fun _ => 0))) (pf10 : w 10 = .inr (4, [.ref (ad 11), .int 0])) (pf11 : w 11 = .inl (cI, 24, .inl (fun _ => 0))) (pf12 : w 12 = .inr (2, [.ref (ad 13), .int 0])) (pf13 : w 13 = .inl (cI, 88, .inl (fun _ => 0))) (pf41 : w 41 = .inr (1, [.int 0, .int 0, .int 0, .int 0, .int 0, .ref (ad 42), .ref (ad 43), .ref (ad 44), .ref (ad 45), .ref (ad 46), .ref (ad 47), .ref (ad 48), .ref (ad 50), .ref (ad 52)])) (pf42 : w 42 = .inl (cI, 7, .inl (fun _ => 0))) (pf43 : w 43 = .inl (cI, 7, .inl (fun _ => 0))) (pf44 : w 44 = .inl (cI, 7, .inl (fun _ => 0))) (pf45 : w 45 = .inl (cI, 4, .inl (fun _ => 0))) (pf46 : w 46 = .inl (cI, 4, .inl (fun _ => 0))) (pf47 : w 47 = .inl (cI, 4, .inl (fun _ => 0))) (pf48 : w 48 = .inr (4, [.ref (ad 49), .int 0])) (pf49 : w 49 = .inl (cI, 24, .inl (fun _ => 0))) (pf50 : w 50 = .inr (4, [.ref (ad 51), .int 0])) (pf51 : w 51 = .inl (cI, 24, .inl (fun _ => 0))) (pf52 : w 52 = .inr (2, [.ref (ad 53), .int 0])) (pf53 : w 53 = .inl (cI, 88, .inl (fun _ => 0))) : MV l G (tyq cI cB cZ cO) yX2_become cX2_become 2 2 61 74 ad w [.ref (ad 41), .ref (ad 1)] (fun w1 => w1 41 = .inr (1, [.int 0, .int 0, .int 0, .int 0, .int 0, .ref (ad 42), .ref (ad 43), .ref (ad 44), .ref (ad 45), .ref (ad 46), .ref (ad 47), .ref (ad 48), .ref (ad 50), .ref (ad 52)]) ∧ ∀ k, k < 41 ∨ 54 ≤ k → w1 k = w k) := by
  refine mk_v (own := "NoonShade$Isle") rfl (by decide) (Nat.le_of_ble_eq_true rfl) ?_
  intro p e s m below meth c ls X hD hN hr hlk h hl
  have hx := X.1.1
  have hb := X.1.2.1
  have hown := X.1.2.2.2.1
  have hts := X.1.2.2.2.2
  have hl : lv_has ls 2 [(0, .ref (ad 41)), (1, .ref (ad 1))] := hl
  refine lv_aload_n hx hb dX2_become_0 rfl (lv_at hl 0 rfl) ?_
  refine lv_aload_n hx hb dX2_become_1 rfl (lv_at hl 1 rfl) ?_
  refine r_get kc2 X h 1 0 (by decide) rfl pf1 (by decide) kw_22 rfl dX2_become_2 ?_
  refine r_put kc2 X hD h 41 0 (by decide) rfl pf41 (by decide) kw_22 rfl rfl rfl (Nat.le_of_ble_eq_true rfl) dX2_become_5 (fun H locs w1 e2 h => ?_)
  have f3 : w1 41 = .inr (1, [.int 0, .int 0, .int 0, .int 0, .int 0, .ref (ad 42), .ref (ad 43), .ref (ad 44), .ref (ad 45), .ref (ad 46), .ref (ad 47), .ref (ad 48), .ref (ad 50), .ref (ad 52)]) := (congrFun e2 _).trans (va_up_self _ _ _)
  refine lv_aload_n hx hb dX2_become_8 rfl (lv_at hl 0 rfl) ?_
  refine lv_aload_n hx hb dX2_become_9 rfl (lv_at hl 1 rfl) ?_
  have f4 : w1 1 = .inr (1, [.int 0, .int 0, .int 0, .int 0, .int 0, .ref (ad 2), .ref (ad 3), .ref (ad 4), .ref (ad 5), .ref (ad 6), .ref (ad 7), .ref (ad 8), .ref (ad 10), .ref (ad 12)]) := by rw [e2, va_up_ne _ _ (by decide)]; exact pf1
  refine r_get kc2 X h 1 1 (by decide) rfl f4 (by decide) kw_23 rfl dX2_become_10 ?_
  refine r_put kc2 X hD h 41 1 (by decide) rfl f3 (by decide) kw_23 rfl rfl rfl (Nat.le_of_ble_eq_true rfl) dX2_become_13 (fun H locs w5 e6 h => ?_)
  have f7 : w5 41 = .inr (1, [.int 0, .int 0, .int 0, .int 0, .int 0, .ref (ad 42), .ref (ad 43), .ref (ad 44), .ref (ad 45), .ref (ad 46), .ref (ad 47), .ref (ad 48), .ref (ad 50), .ref (ad 52)]) := (congrFun e6 _).trans (va_up_self _ _ _)
  refine lv_aload_n hx hb dX2_become_16 rfl (lv_at hl 0 rfl) ?_
  refine lv_aload_n hx hb dX2_become_17 rfl (lv_at hl 1 rfl) ?_
  have f8 : w5 1 = .inr (1, [.int 0, .int 0, .int 0, .int 0, .int 0, .ref (ad 2), .ref (ad 3), .ref (ad 4), .ref (ad 5), .ref (ad 6), .ref (ad 7), .ref (ad 8), .ref (ad 10), .ref (ad 12)]) := by rw [e6, va_up_ne _ _ (by decide)]; exact f4
  refine r_get kc2 X h 1 2 (by decide) rfl f8 (by decide) kw_24 rfl dX2_become_18 ?_
  refine r_put kc2 X hD h 41 2 (by decide) rfl f7 (by decide) kw_24 rfl rfl rfl (Nat.le_of_ble_eq_true rfl) dX2_become_21 (fun H locs w9 e10 h => ?_)
  have f11 : w9 41 = .inr (1, [.int 0, .int 0, .int 0, .int 0, .int 0, .ref (ad 42), .ref (ad 43), .ref (ad 44), .ref (ad 45), .ref (ad 46), .ref (ad 47), .ref (ad 48), .ref (ad 50), .ref (ad 52)]) := (congrFun e10 _).trans (va_up_self _ _ _)
  refine lv_aload_n hx hb dX2_become_24 rfl (lv_at hl 0 rfl) ?_
  refine lv_aload_n hx hb dX2_become_25 rfl (lv_at hl 1 rfl) ?_
  have f12 : w9 1 = .inr (1, [.int 0, .int 0, .int 0, .int 0, .int 0, .ref (ad 2), .ref (ad 3), .ref (ad 4), .ref (ad 5), .ref (ad 6), .ref (ad 7), .ref (ad 8), .ref (ad 10), .ref (ad 12)]) := by rw [e10, va_up_ne _ _ (by decide)]; exact f8
  refine r_get kc2 X h 1 3 (by decide) rfl f12 (by decide) kw_0 rfl dX2_become_26 ?_
  refine r_put kc2 X hD h 41 3 (by decide) rfl f11 (by decide) kw_0 rfl rfl rfl (Nat.le_of_ble_eq_true rfl) dX2_become_29 (fun H locs w13 e14 h => ?_)
  have f15 : w13 41 = .inr (1, [.int 0, .int 0, .int 0, .int 0, .int 0, .ref (ad 42), .ref (ad 43), .ref (ad 44), .ref (ad 45), .ref (ad 46), .ref (ad 47), .ref (ad 48), .ref (ad 50), .ref (ad 52)]) := (congrFun e14 _).trans (va_up_self _ _ _)
  refine lv_aload_n hx hb dX2_become_32 rfl (lv_at hl 0 rfl) ?_
  refine lv_aload_n hx hb dX2_become_33 rfl (lv_at hl 1 rfl) ?_
  have f16 : w13 1 = .inr (1, [.int 0, .int 0, .int 0, .int 0, .int 0, .ref (ad 2), .ref (ad 3), .ref (ad 4), .ref (ad 5), .ref (ad 6), .ref (ad 7), .ref (ad 8), .ref (ad 10), .ref (ad 12)]) := by rw [e14, va_up_ne _ _ (by decide)]; exact f12
  refine r_get kc2 X h 1 4 (by decide) rfl f16 (by decide) kw_1 rfl dX2_become_34 ?_
  refine r_put kc2 X hD h 41 4 (by decide) rfl f15 (by decide) kw_1 rfl rfl rfl (Nat.le_of_ble_eq_true rfl) dX2_become_37 (fun H locs w17 e18 h => ?_)
  have f19 : w17 41 = .inr (1, [.int 0, .int 0, .int 0, .int 0, .int 0, .ref (ad 42), .ref (ad 43), .ref (ad 44), .ref (ad 45), .ref (ad 46), .ref (ad 47), .ref (ad 48), .ref (ad 50), .ref (ad 52)]) := (congrFun e18 _).trans (va_up_self _ _ _)
  refine lv_aload_n hx hb dX2_become_40 rfl (lv_at hl 1 rfl) ?_
  have f20 : w17 1 = .inr (1, [.int 0, .int 0, .int 0, .int 0, .int 0, .ref (ad 2), .ref (ad 3), .ref (ad 4), .ref (ad 5), .ref (ad 6), .ref (ad 7), .ref (ad 8), .ref (ad 10), .ref (ad 12)]) := by rw [e18, va_up_ne _ _ (by decide)]; exact f16
  refine r_get kc2 X h 1 5 (by decide) rfl f20 (by decide) kw_46 rfl dX2_become_41 ?_
  refine lv_iconst (v := 0) hx hb dX2_become_44 (by decide) ?_
  refine lv_aload_n hx hb dX2_become_45 rfl (lv_at hl 0 rfl) ?_
  refine r_get kc2 X h 41 5 (by decide) rfl f19 (by decide) kw_46 rfl dX2_become_46 ?_
  refine lv_iconst (v := 0) hx hb dX2_become_49 (by decide) ?_
  refine lv_bipush (v := 7) hx hb dX2_become_50 (by decide) ?_
  have f21 : w1 2 = .inl (cI, 7, .inl (fun _ => 0)) := by rw [e2, va_up_ne _ _ (by decide)]; exact pf2
  have f22 : w5 2 = .inl (cI, 7, .inl (fun _ => 0)) := by rw [e6, va_up_ne _ _ (by decide)]; exact f21
  have f23 : w9 2 = .inl (cI, 7, .inl (fun _ => 0)) := by rw [e10, va_up_ne _ _ (by decide)]; exact f22
  have f24 : w13 2 = .inl (cI, 7, .inl (fun _ => 0)) := by rw [e14, va_up_ne _ _ (by decide)]; exact f23
  have f25 : w17 2 = .inl (cI, 7, .inl (fun _ => 0)) := by rw [e18, va_up_ne _ _ (by decide)]; exact f24
  have f26 : w1 42 = .inl (cI, 7, .inl (fun _ => 0)) := by rw [e2, va_up_ne _ _ (by decide)]; exact pf42
  have f27 : w5 42 = .inl (cI, 7, .inl (fun _ => 0)) := by rw [e6, va_up_ne _ _ (by decide)]; exact f26
  have f28 : w9 42 = .inl (cI, 7, .inl (fun _ => 0)) := by rw [e10, va_up_ne _ _ (by decide)]; exact f27
  have f29 : w13 42 = .inl (cI, 7, .inl (fun _ => 0)) := by rw [e14, va_up_ne _ _ (by decide)]; exact f28
  have f30 : w17 42 = .inl (cI, 7, .inl (fun _ => 0)) := by rw [e18, va_up_ne _ _ (by decide)]; exact f29
  refine r_copy (f1 := fun _ => 0) X hD h hl.1 kw_161 kw_144 kw_145 kw_146 2 42 0 (by decide) (by decide) rfl rfl f25 f30 rfl (by decide) (by decide) (by decide) (by decide) (by decide) (cpy0 _ _ _) ⟨Nat.le_of_ble_eq_true rfl, by decide⟩ dX2_become_52 (fun H locs w31 e32 h => ?_)
  have f33 : w31 42 = .inl (cI, 7, .inl (fun _ => 0)) := (congrFun e32 _).trans (va_up_self _ _ _)
  refine lv_aload_n hx hb dX2_become_55 rfl (lv_at hl 1 rfl) ?_
  have f34 : w31 1 = .inr (1, [.int 0, .int 0, .int 0, .int 0, .int 0, .ref (ad 2), .ref (ad 3), .ref (ad 4), .ref (ad 5), .ref (ad 6), .ref (ad 7), .ref (ad 8), .ref (ad 10), .ref (ad 12)]) := by rw [e32, va_up_ne _ _ (by decide)]; exact f20
  refine r_get kc2 X h 1 6 (by decide) rfl f34 (by decide) kw_47 rfl dX2_become_56 ?_
  refine lv_iconst (v := 0) hx hb dX2_become_59 (by decide) ?_
  refine lv_aload_n hx hb dX2_become_60 rfl (lv_at hl 0 rfl) ?_
  have f35 : w31 41 = .inr (1, [.int 0, .int 0, .int 0, .int 0, .int 0, .ref (ad 42), .ref (ad 43), .ref (ad 44), .ref (ad 45), .ref (ad 46), .ref (ad 47), .ref (ad 48), .ref (ad 50), .ref (ad 52)]) := by rw [e32, va_up_ne _ _ (by decide)]; exact f19
  refine r_get kc2 X h 41 6 (by decide) rfl f35 (by decide) kw_47 rfl dX2_become_61 ?_
  refine lv_iconst (v := 0) hx hb dX2_become_64 (by decide) ?_
  refine lv_bipush (v := 7) hx hb dX2_become_65 (by decide) ?_
  have f36 : w1 3 = .inl (cI, 7, .inl (fun _ => 0)) := by rw [e2, va_up_ne _ _ (by decide)]; exact pf3
  have f37 : w5 3 = .inl (cI, 7, .inl (fun _ => 0)) := by rw [e6, va_up_ne _ _ (by decide)]; exact f36
  have f38 : w9 3 = .inl (cI, 7, .inl (fun _ => 0)) := by rw [e10, va_up_ne _ _ (by decide)]; exact f37
  have f39 : w13 3 = .inl (cI, 7, .inl (fun _ => 0)) := by rw [e14, va_up_ne _ _ (by decide)]; exact f38
  have f40 : w17 3 = .inl (cI, 7, .inl (fun _ => 0)) := by rw [e18, va_up_ne _ _ (by decide)]; exact f39
  have f41 : w31 3 = .inl (cI, 7, .inl (fun _ => 0)) := by rw [e32, va_up_ne _ _ (by decide)]; exact f40
  have f42 : w1 43 = .inl (cI, 7, .inl (fun _ => 0)) := by rw [e2, va_up_ne _ _ (by decide)]; exact pf43
  have f43 : w5 43 = .inl (cI, 7, .inl (fun _ => 0)) := by rw [e6, va_up_ne _ _ (by decide)]; exact f42
  have f44 : w9 43 = .inl (cI, 7, .inl (fun _ => 0)) := by rw [e10, va_up_ne _ _ (by decide)]; exact f43
  have f45 : w13 43 = .inl (cI, 7, .inl (fun _ => 0)) := by rw [e14, va_up_ne _ _ (by decide)]; exact f44
  have f46 : w17 43 = .inl (cI, 7, .inl (fun _ => 0)) := by rw [e18, va_up_ne _ _ (by decide)]; exact f45
  have f47 : w31 43 = .inl (cI, 7, .inl (fun _ => 0)) := by rw [e32, va_up_ne _ _ (by decide)]; exact f46
  refine r_copy (f1 := fun _ => 0) X hD h hl.1 kw_161 kw_144 kw_145 kw_146 3 43 0 (by decide) (by decide) rfl rfl f41 f47 rfl (by decide) (by decide) (by decide) (by decide) (by decide) (cpy0 _ _ _) ⟨Nat.le_of_ble_eq_true rfl, by decide⟩ dX2_become_67 (fun H locs w48 e49 h => ?_)
  have f50 : w48 43 = .inl (cI, 7, .inl (fun _ => 0)) := (congrFun e49 _).trans (va_up_self _ _ _)
  refine lv_aload_n hx hb dX2_become_70 rfl (lv_at hl 1 rfl) ?_
  have f51 : w48 1 = .inr (1, [.int 0, .int 0, .int 0, .int 0, .int 0, .ref (ad 2), .ref (ad 3), .ref (ad 4), .ref (ad 5), .ref (ad 6), .ref (ad 7), .ref (ad 8), .ref (ad 10), .ref (ad 12)]) := by rw [e49, va_up_ne _ _ (by decide)]; exact f34
  refine r_get kc2 X h 1 7 (by decide) rfl f51 (by decide) kw_48 rfl dX2_become_71 ?_
  refine lv_iconst (v := 0) hx hb dX2_become_74 (by decide) ?_
  refine lv_aload_n hx hb dX2_become_75 rfl (lv_at hl 0 rfl) ?_
  have f52 : w48 41 = .inr (1, [.int 0, .int 0, .int 0, .int 0, .int 0, .ref (ad 42), .ref (ad 43), .ref (ad 44), .ref (ad 45), .ref (ad 46), .ref (ad 47), .ref (ad 48), .ref (ad 50), .ref (ad 52)]) := by rw [e49, va_up_ne _ _ (by decide)]; exact f35
  refine r_get kc2 X h 41 7 (by decide) rfl f52 (by decide) kw_48 rfl dX2_become_76 ?_
  refine lv_iconst (v := 0) hx hb dX2_become_79 (by decide) ?_
  refine lv_bipush (v := 7) hx hb dX2_become_80 (by decide) ?_
  have f53 : w1 4 = .inl (cI, 7, .inl (fun _ => 0)) := by rw [e2, va_up_ne _ _ (by decide)]; exact pf4
  have f54 : w5 4 = .inl (cI, 7, .inl (fun _ => 0)) := by rw [e6, va_up_ne _ _ (by decide)]; exact f53
  have f55 : w9 4 = .inl (cI, 7, .inl (fun _ => 0)) := by rw [e10, va_up_ne _ _ (by decide)]; exact f54
  have f56 : w13 4 = .inl (cI, 7, .inl (fun _ => 0)) := by rw [e14, va_up_ne _ _ (by decide)]; exact f55
  have f57 : w17 4 = .inl (cI, 7, .inl (fun _ => 0)) := by rw [e18, va_up_ne _ _ (by decide)]; exact f56
  have f58 : w31 4 = .inl (cI, 7, .inl (fun _ => 0)) := by rw [e32, va_up_ne _ _ (by decide)]; exact f57
  have f59 : w48 4 = .inl (cI, 7, .inl (fun _ => 0)) := by rw [e49, va_up_ne _ _ (by decide)]; exact f58
  have f60 : w1 44 = .inl (cI, 7, .inl (fun _ => 0)) := by rw [e2, va_up_ne _ _ (by decide)]; exact pf44
  have f61 : w5 44 = .inl (cI, 7, .inl (fun _ => 0)) := by rw [e6, va_up_ne _ _ (by decide)]; exact f60
  have f62 : w9 44 = .inl (cI, 7, .inl (fun _ => 0)) := by rw [e10, va_up_ne _ _ (by decide)]; exact f61
  have f63 : w13 44 = .inl (cI, 7, .inl (fun _ => 0)) := by rw [e14, va_up_ne _ _ (by decide)]; exact f62
  have f64 : w17 44 = .inl (cI, 7, .inl (fun _ => 0)) := by rw [e18, va_up_ne _ _ (by decide)]; exact f63
  have f65 : w31 44 = .inl (cI, 7, .inl (fun _ => 0)) := by rw [e32, va_up_ne _ _ (by decide)]; exact f64
  have f66 : w48 44 = .inl (cI, 7, .inl (fun _ => 0)) := by rw [e49, va_up_ne _ _ (by decide)]; exact f65
  refine r_copy (f1 := fun _ => 0) X hD h hl.1 kw_161 kw_144 kw_145 kw_146 4 44 0 (by decide) (by decide) rfl rfl f59 f66 rfl (by decide) (by decide) (by decide) (by decide) (by decide) (cpy0 _ _ _) ⟨Nat.le_of_ble_eq_true rfl, by decide⟩ dX2_become_82 (fun H locs w67 e68 h => ?_)
  have f69 : w67 44 = .inl (cI, 7, .inl (fun _ => 0)) := (congrFun e68 _).trans (va_up_self _ _ _)
  refine lv_aload_n hx hb dX2_become_85 rfl (lv_at hl 1 rfl) ?_
  have f70 : w67 1 = .inr (1, [.int 0, .int 0, .int 0, .int 0, .int 0, .ref (ad 2), .ref (ad 3), .ref (ad 4), .ref (ad 5), .ref (ad 6), .ref (ad 7), .ref (ad 8), .ref (ad 10), .ref (ad 12)]) := by rw [e68, va_up_ne _ _ (by decide)]; exact f51
  refine r_get kc2 X h 1 8 (by decide) rfl f70 (by decide) kw_49 rfl dX2_become_86 ?_
  refine lv_iconst (v := 0) hx hb dX2_become_89 (by decide) ?_
  refine lv_aload_n hx hb dX2_become_90 rfl (lv_at hl 0 rfl) ?_
  have f71 : w67 41 = .inr (1, [.int 0, .int 0, .int 0, .int 0, .int 0, .ref (ad 42), .ref (ad 43), .ref (ad 44), .ref (ad 45), .ref (ad 46), .ref (ad 47), .ref (ad 48), .ref (ad 50), .ref (ad 52)]) := by rw [e68, va_up_ne _ _ (by decide)]; exact f52
  refine r_get kc2 X h 41 8 (by decide) rfl f71 (by decide) kw_49 rfl dX2_become_91 ?_
  refine lv_iconst (v := 0) hx hb dX2_become_94 (by decide) ?_
  refine lv_iconst (v := 4) hx hb dX2_become_95 (by decide) ?_
  have f72 : w1 5 = .inl (cI, 4, .inl (fun _ => 0)) := by rw [e2, va_up_ne _ _ (by decide)]; exact pf5
  have f73 : w5 5 = .inl (cI, 4, .inl (fun _ => 0)) := by rw [e6, va_up_ne _ _ (by decide)]; exact f72
  have f74 : w9 5 = .inl (cI, 4, .inl (fun _ => 0)) := by rw [e10, va_up_ne _ _ (by decide)]; exact f73
  have f75 : w13 5 = .inl (cI, 4, .inl (fun _ => 0)) := by rw [e14, va_up_ne _ _ (by decide)]; exact f74
  have f76 : w17 5 = .inl (cI, 4, .inl (fun _ => 0)) := by rw [e18, va_up_ne _ _ (by decide)]; exact f75
  have f77 : w31 5 = .inl (cI, 4, .inl (fun _ => 0)) := by rw [e32, va_up_ne _ _ (by decide)]; exact f76
  have f78 : w48 5 = .inl (cI, 4, .inl (fun _ => 0)) := by rw [e49, va_up_ne _ _ (by decide)]; exact f77
  have f79 : w67 5 = .inl (cI, 4, .inl (fun _ => 0)) := by rw [e68, va_up_ne _ _ (by decide)]; exact f78
  have f80 : w1 45 = .inl (cI, 4, .inl (fun _ => 0)) := by rw [e2, va_up_ne _ _ (by decide)]; exact pf45
  have f81 : w5 45 = .inl (cI, 4, .inl (fun _ => 0)) := by rw [e6, va_up_ne _ _ (by decide)]; exact f80
  have f82 : w9 45 = .inl (cI, 4, .inl (fun _ => 0)) := by rw [e10, va_up_ne _ _ (by decide)]; exact f81
  have f83 : w13 45 = .inl (cI, 4, .inl (fun _ => 0)) := by rw [e14, va_up_ne _ _ (by decide)]; exact f82
  have f84 : w17 45 = .inl (cI, 4, .inl (fun _ => 0)) := by rw [e18, va_up_ne _ _ (by decide)]; exact f83
  have f85 : w31 45 = .inl (cI, 4, .inl (fun _ => 0)) := by rw [e32, va_up_ne _ _ (by decide)]; exact f84
  have f86 : w48 45 = .inl (cI, 4, .inl (fun _ => 0)) := by rw [e49, va_up_ne _ _ (by decide)]; exact f85
  have f87 : w67 45 = .inl (cI, 4, .inl (fun _ => 0)) := by rw [e68, va_up_ne _ _ (by decide)]; exact f86
  refine r_copy (f1 := fun _ => 0) X hD h hl.1 kw_161 kw_144 kw_145 kw_146 5 45 0 (by decide) (by decide) rfl rfl f79 f87 rfl (by decide) (by decide) (by decide) (by decide) (by decide) (cpy0 _ _ _) ⟨Nat.le_of_ble_eq_true rfl, by decide⟩ dX2_become_96 (fun H locs w88 e89 h => ?_)
  have f90 : w88 45 = .inl (cI, 4, .inl (fun _ => 0)) := (congrFun e89 _).trans (va_up_self _ _ _)
  refine lv_aload_n hx hb dX2_become_99 rfl (lv_at hl 1 rfl) ?_
  have f91 : w88 1 = .inr (1, [.int 0, .int 0, .int 0, .int 0, .int 0, .ref (ad 2), .ref (ad 3), .ref (ad 4), .ref (ad 5), .ref (ad 6), .ref (ad 7), .ref (ad 8), .ref (ad 10), .ref (ad 12)]) := by rw [e89, va_up_ne _ _ (by decide)]; exact f70
  refine r_get kc2 X h 1 9 (by decide) rfl f91 (by decide) kw_50 rfl dX2_become_100 ?_
  refine lv_iconst (v := 0) hx hb dX2_become_103 (by decide) ?_
  refine lv_aload_n hx hb dX2_become_104 rfl (lv_at hl 0 rfl) ?_
  have f92 : w88 41 = .inr (1, [.int 0, .int 0, .int 0, .int 0, .int 0, .ref (ad 42), .ref (ad 43), .ref (ad 44), .ref (ad 45), .ref (ad 46), .ref (ad 47), .ref (ad 48), .ref (ad 50), .ref (ad 52)]) := by rw [e89, va_up_ne _ _ (by decide)]; exact f71
  refine r_get kc2 X h 41 9 (by decide) rfl f92 (by decide) kw_50 rfl dX2_become_105 ?_
  refine lv_iconst (v := 0) hx hb dX2_become_108 (by decide) ?_
  refine lv_iconst (v := 4) hx hb dX2_become_109 (by decide) ?_
  have f93 : w1 6 = .inl (cI, 4, .inl (fun _ => 0)) := by rw [e2, va_up_ne _ _ (by decide)]; exact pf6
  have f94 : w5 6 = .inl (cI, 4, .inl (fun _ => 0)) := by rw [e6, va_up_ne _ _ (by decide)]; exact f93
  have f95 : w9 6 = .inl (cI, 4, .inl (fun _ => 0)) := by rw [e10, va_up_ne _ _ (by decide)]; exact f94
  have f96 : w13 6 = .inl (cI, 4, .inl (fun _ => 0)) := by rw [e14, va_up_ne _ _ (by decide)]; exact f95
  have f97 : w17 6 = .inl (cI, 4, .inl (fun _ => 0)) := by rw [e18, va_up_ne _ _ (by decide)]; exact f96
  have f98 : w31 6 = .inl (cI, 4, .inl (fun _ => 0)) := by rw [e32, va_up_ne _ _ (by decide)]; exact f97
  have f99 : w48 6 = .inl (cI, 4, .inl (fun _ => 0)) := by rw [e49, va_up_ne _ _ (by decide)]; exact f98
  have f100 : w67 6 = .inl (cI, 4, .inl (fun _ => 0)) := by rw [e68, va_up_ne _ _ (by decide)]; exact f99
  have f101 : w88 6 = .inl (cI, 4, .inl (fun _ => 0)) := by rw [e89, va_up_ne _ _ (by decide)]; exact f100
  have f102 : w1 46 = .inl (cI, 4, .inl (fun _ => 0)) := by rw [e2, va_up_ne _ _ (by decide)]; exact pf46
  have f103 : w5 46 = .inl (cI, 4, .inl (fun _ => 0)) := by rw [e6, va_up_ne _ _ (by decide)]; exact f102
  have f104 : w9 46 = .inl (cI, 4, .inl (fun _ => 0)) := by rw [e10, va_up_ne _ _ (by decide)]; exact f103
  have f105 : w13 46 = .inl (cI, 4, .inl (fun _ => 0)) := by rw [e14, va_up_ne _ _ (by decide)]; exact f104
  have f106 : w17 46 = .inl (cI, 4, .inl (fun _ => 0)) := by rw [e18, va_up_ne _ _ (by decide)]; exact f105
  have f107 : w31 46 = .inl (cI, 4, .inl (fun _ => 0)) := by rw [e32, va_up_ne _ _ (by decide)]; exact f106
  have f108 : w48 46 = .inl (cI, 4, .inl (fun _ => 0)) := by rw [e49, va_up_ne _ _ (by decide)]; exact f107
  have f109 : w67 46 = .inl (cI, 4, .inl (fun _ => 0)) := by rw [e68, va_up_ne _ _ (by decide)]; exact f108
  have f110 : w88 46 = .inl (cI, 4, .inl (fun _ => 0)) := by rw [e89, va_up_ne _ _ (by decide)]; exact f109
  refine r_copy (f1 := fun _ => 0) X hD h hl.1 kw_161 kw_144 kw_145 kw_146 6 46 0 (by decide) (by decide) rfl rfl f101 f110 rfl (by decide) (by decide) (by decide) (by decide) (by decide) (cpy0 _ _ _) ⟨Nat.le_of_ble_eq_true rfl, by decide⟩ dX2_become_110 (fun H locs w111 e112 h => ?_)
  have f113 : w111 46 = .inl (cI, 4, .inl (fun _ => 0)) := (congrFun e112 _).trans (va_up_self _ _ _)
  refine lv_aload_n hx hb dX2_become_113 rfl (lv_at hl 1 rfl) ?_
  have f114 : w111 1 = .inr (1, [.int 0, .int 0, .int 0, .int 0, .int 0, .ref (ad 2), .ref (ad 3), .ref (ad 4), .ref (ad 5), .ref (ad 6), .ref (ad 7), .ref (ad 8), .ref (ad 10), .ref (ad 12)]) := by rw [e112, va_up_ne _ _ (by decide)]; exact f91
  refine r_get kc2 X h 1 10 (by decide) rfl f114 (by decide) kw_51 rfl dX2_become_114 ?_
  refine lv_iconst (v := 0) hx hb dX2_become_117 (by decide) ?_
  refine lv_aload_n hx hb dX2_become_118 rfl (lv_at hl 0 rfl) ?_
  have f115 : w111 41 = .inr (1, [.int 0, .int 0, .int 0, .int 0, .int 0, .ref (ad 42), .ref (ad 43), .ref (ad 44), .ref (ad 45), .ref (ad 46), .ref (ad 47), .ref (ad 48), .ref (ad 50), .ref (ad 52)]) := by rw [e112, va_up_ne _ _ (by decide)]; exact f92
  refine r_get kc2 X h 41 10 (by decide) rfl f115 (by decide) kw_51 rfl dX2_become_119 ?_
  refine lv_iconst (v := 0) hx hb dX2_become_122 (by decide) ?_
  refine lv_iconst (v := 4) hx hb dX2_become_123 (by decide) ?_
  have f116 : w1 7 = .inl (cI, 4, .inl (fun _ => 0)) := by rw [e2, va_up_ne _ _ (by decide)]; exact pf7
  have f117 : w5 7 = .inl (cI, 4, .inl (fun _ => 0)) := by rw [e6, va_up_ne _ _ (by decide)]; exact f116
  have f118 : w9 7 = .inl (cI, 4, .inl (fun _ => 0)) := by rw [e10, va_up_ne _ _ (by decide)]; exact f117
  have f119 : w13 7 = .inl (cI, 4, .inl (fun _ => 0)) := by rw [e14, va_up_ne _ _ (by decide)]; exact f118
  have f120 : w17 7 = .inl (cI, 4, .inl (fun _ => 0)) := by rw [e18, va_up_ne _ _ (by decide)]; exact f119
  have f121 : w31 7 = .inl (cI, 4, .inl (fun _ => 0)) := by rw [e32, va_up_ne _ _ (by decide)]; exact f120
  have f122 : w48 7 = .inl (cI, 4, .inl (fun _ => 0)) := by rw [e49, va_up_ne _ _ (by decide)]; exact f121
  have f123 : w67 7 = .inl (cI, 4, .inl (fun _ => 0)) := by rw [e68, va_up_ne _ _ (by decide)]; exact f122
  have f124 : w88 7 = .inl (cI, 4, .inl (fun _ => 0)) := by rw [e89, va_up_ne _ _ (by decide)]; exact f123
  have f125 : w111 7 = .inl (cI, 4, .inl (fun _ => 0)) := by rw [e112, va_up_ne _ _ (by decide)]; exact f124
  have f126 : w1 47 = .inl (cI, 4, .inl (fun _ => 0)) := by rw [e2, va_up_ne _ _ (by decide)]; exact pf47
  have f127 : w5 47 = .inl (cI, 4, .inl (fun _ => 0)) := by rw [e6, va_up_ne _ _ (by decide)]; exact f126
  have f128 : w9 47 = .inl (cI, 4, .inl (fun _ => 0)) := by rw [e10, va_up_ne _ _ (by decide)]; exact f127
  have f129 : w13 47 = .inl (cI, 4, .inl (fun _ => 0)) := by rw [e14, va_up_ne _ _ (by decide)]; exact f128
  have f130 : w17 47 = .inl (cI, 4, .inl (fun _ => 0)) := by rw [e18, va_up_ne _ _ (by decide)]; exact f129
  have f131 : w31 47 = .inl (cI, 4, .inl (fun _ => 0)) := by rw [e32, va_up_ne _ _ (by decide)]; exact f130
  have f132 : w48 47 = .inl (cI, 4, .inl (fun _ => 0)) := by rw [e49, va_up_ne _ _ (by decide)]; exact f131
  have f133 : w67 47 = .inl (cI, 4, .inl (fun _ => 0)) := by rw [e68, va_up_ne _ _ (by decide)]; exact f132
  have f134 : w88 47 = .inl (cI, 4, .inl (fun _ => 0)) := by rw [e89, va_up_ne _ _ (by decide)]; exact f133
  have f135 : w111 47 = .inl (cI, 4, .inl (fun _ => 0)) := by rw [e112, va_up_ne _ _ (by decide)]; exact f134
  refine r_copy (f1 := fun _ => 0) X hD h hl.1 kw_161 kw_144 kw_145 kw_146 7 47 0 (by decide) (by decide) rfl rfl f125 f135 rfl (by decide) (by decide) (by decide) (by decide) (by decide) (cpy0 _ _ _) ⟨Nat.le_of_ble_eq_true rfl, by decide⟩ dX2_become_124 (fun H locs w136 e137 h => ?_)
  have f138 : w136 47 = .inl (cI, 4, .inl (fun _ => 0)) := (congrFun e137 _).trans (va_up_self _ _ _)
  refine lv_aload_n hx hb dX2_become_127 rfl (lv_at hl 0 rfl) ?_
  have f139 : w136 41 = .inr (1, [.int 0, .int 0, .int 0, .int 0, .int 0, .ref (ad 42), .ref (ad 43), .ref (ad 44), .ref (ad 45), .ref (ad 46), .ref (ad 47), .ref (ad 48), .ref (ad 50), .ref (ad 52)]) := by rw [e137, va_up_ne _ _ (by decide)]; exact f115
  refine r_get kc2 X h 41 11 (by decide) rfl f139 (by decide) kw_25 rfl dX2_become_128 ?_
  refine lv_aload_n hx hb dX2_become_131 rfl (lv_at hl 1 rfl) ?_
  have f140 : w136 1 = .inr (1, [.int 0, .int 0, .int 0, .int 0, .int 0, .ref (ad 2), .ref (ad 3), .ref (ad 4), .ref (ad 5), .ref (ad 6), .ref (ad 7), .ref (ad 8), .ref (ad 10), .ref (ad 12)]) := by rw [e137, va_up_ne _ _ (by decide)]; exact f114
  refine r_get kc2 X h 1 11 (by decide) rfl f140 (by decide) kw_25 rfl dX2_become_132 ?_
  have f141 : w1 48 = .inr (4, [.ref (ad 49), .int 0]) := by rw [e2, va_up_ne _ _ (by decide)]; exact pf48
  have f142 : w5 48 = .inr (4, [.ref (ad 49), .int 0]) := by rw [e6, va_up_ne _ _ (by decide)]; exact f141
  have f143 : w9 48 = .inr (4, [.ref (ad 49), .int 0]) := by rw [e10, va_up_ne _ _ (by decide)]; exact f142
  have f144 : w13 48 = .inr (4, [.ref (ad 49), .int 0]) := by rw [e14, va_up_ne _ _ (by decide)]; exact f143
  have f145 : w17 48 = .inr (4, [.ref (ad 49), .int 0]) := by rw [e18, va_up_ne _ _ (by decide)]; exact f144
  have f146 : w31 48 = .inr (4, [.ref (ad 49), .int 0]) := by rw [e32, va_up_ne _ _ (by decide)]; exact f145
  have f147 : w48 48 = .inr (4, [.ref (ad 49), .int 0]) := by rw [e49, va_up_ne _ _ (by decide)]; exact f146
  have f148 : w67 48 = .inr (4, [.ref (ad 49), .int 0]) := by rw [e68, va_up_ne _ _ (by decide)]; exact f147
  have f149 : w88 48 = .inr (4, [.ref (ad 49), .int 0]) := by rw [e89, va_up_ne _ _ (by decide)]; exact f148
  have f150 : w111 48 = .inr (4, [.ref (ad 49), .int 0]) := by rw [e112, va_up_ne _ _ (by decide)]; exact f149
  have f151 : w136 48 = .inr (4, [.ref (ad 49), .int 0]) := by rw [e137, va_up_ne _ _ (by decide)]; exact f150
  have f152 : w1 49 = .inl (cI, 24, .inl (fun _ => 0)) := by rw [e2, va_up_ne _ _ (by decide)]; exact pf49
  have f153 : w5 49 = .inl (cI, 24, .inl (fun _ => 0)) := by rw [e6, va_up_ne _ _ (by decide)]; exact f152
  have f154 : w9 49 = .inl (cI, 24, .inl (fun _ => 0)) := by rw [e10, va_up_ne _ _ (by decide)]; exact f153
  have f155 : w13 49 = .inl (cI, 24, .inl (fun _ => 0)) := by rw [e14, va_up_ne _ _ (by decide)]; exact f154
  have f156 : w17 49 = .inl (cI, 24, .inl (fun _ => 0)) := by rw [e18, va_up_ne _ _ (by decide)]; exact f155
  have f157 : w31 49 = .inl (cI, 24, .inl (fun _ => 0)) := by rw [e32, va_up_ne _ _ (by decide)]; exact f156
  have f158 : w48 49 = .inl (cI, 24, .inl (fun _ => 0)) := by rw [e49, va_up_ne _ _ (by decide)]; exact f157
  have f159 : w67 49 = .inl (cI, 24, .inl (fun _ => 0)) := by rw [e68, va_up_ne _ _ (by decide)]; exact f158
  have f160 : w88 49 = .inl (cI, 24, .inl (fun _ => 0)) := by rw [e89, va_up_ne _ _ (by decide)]; exact f159
  have f161 : w111 49 = .inl (cI, 24, .inl (fun _ => 0)) := by rw [e112, va_up_ne _ _ (by decide)]; exact f160
  have f162 : w136 49 = .inl (cI, 24, .inl (fun _ => 0)) := by rw [e137, va_up_ne _ _ (by decide)]; exact f161
  have f163 : w1 8 = .inr (4, [.ref (ad 9), .int 0]) := by rw [e2, va_up_ne _ _ (by decide)]; exact pf8
  have f164 : w5 8 = .inr (4, [.ref (ad 9), .int 0]) := by rw [e6, va_up_ne _ _ (by decide)]; exact f163
  have f165 : w9 8 = .inr (4, [.ref (ad 9), .int 0]) := by rw [e10, va_up_ne _ _ (by decide)]; exact f164
  have f166 : w13 8 = .inr (4, [.ref (ad 9), .int 0]) := by rw [e14, va_up_ne _ _ (by decide)]; exact f165
  have f167 : w17 8 = .inr (4, [.ref (ad 9), .int 0]) := by rw [e18, va_up_ne _ _ (by decide)]; exact f166
  have f168 : w31 8 = .inr (4, [.ref (ad 9), .int 0]) := by rw [e32, va_up_ne _ _ (by decide)]; exact f167
  have f169 : w48 8 = .inr (4, [.ref (ad 9), .int 0]) := by rw [e49, va_up_ne _ _ (by decide)]; exact f168
  have f170 : w67 8 = .inr (4, [.ref (ad 9), .int 0]) := by rw [e68, va_up_ne _ _ (by decide)]; exact f169
  have f171 : w88 8 = .inr (4, [.ref (ad 9), .int 0]) := by rw [e89, va_up_ne _ _ (by decide)]; exact f170
  have f172 : w111 8 = .inr (4, [.ref (ad 9), .int 0]) := by rw [e112, va_up_ne _ _ (by decide)]; exact f171
  have f173 : w136 8 = .inr (4, [.ref (ad 9), .int 0]) := by rw [e137, va_up_ne _ _ (by decide)]; exact f172
  have f174 : w1 9 = .inl (cI, 24, .inl (fun _ => 0)) := by rw [e2, va_up_ne _ _ (by decide)]; exact pf9
  have f175 : w5 9 = .inl (cI, 24, .inl (fun _ => 0)) := by rw [e6, va_up_ne _ _ (by decide)]; exact f174
  have f176 : w9 9 = .inl (cI, 24, .inl (fun _ => 0)) := by rw [e10, va_up_ne _ _ (by decide)]; exact f175
  have f177 : w13 9 = .inl (cI, 24, .inl (fun _ => 0)) := by rw [e14, va_up_ne _ _ (by decide)]; exact f176
  have f178 : w17 9 = .inl (cI, 24, .inl (fun _ => 0)) := by rw [e18, va_up_ne _ _ (by decide)]; exact f177
  have f179 : w31 9 = .inl (cI, 24, .inl (fun _ => 0)) := by rw [e32, va_up_ne _ _ (by decide)]; exact f178
  have f180 : w48 9 = .inl (cI, 24, .inl (fun _ => 0)) := by rw [e49, va_up_ne _ _ (by decide)]; exact f179
  have f181 : w67 9 = .inl (cI, 24, .inl (fun _ => 0)) := by rw [e68, va_up_ne _ _ (by decide)]; exact f180
  have f182 : w88 9 = .inl (cI, 24, .inl (fun _ => 0)) := by rw [e89, va_up_ne _ _ (by decide)]; exact f181
  have f183 : w111 9 = .inl (cI, 24, .inl (fun _ => 0)) := by rw [e112, va_up_ne _ _ (by decide)]; exact f182
  have f184 : w136 9 = .inl (cI, 24, .inl (fun _ => 0)) := by rw [e137, va_up_ne _ _ (by decide)]; exact f183
  refine q_Vv (na := 1) (As := [.ref (ad 8)]) (rest := []) X hD hN h rfl (c_R_become l G cI cB cZ cO ad w136 48 8 _ _ _ _ (by omega) (by omega) (by omega) f151 f162 f173 f184) ⟨kw_162, kw_163, kw_164, kw_29, kw_165⟩ rfl ⟨by decide, by decide, by decide⟩ ⟨Nat.le_of_ble_eq_true rfl, Nat.le_of_ble_eq_true rfl⟩ ⟨Nat.zero_le _, Nat.zero_le _⟩ (by decide) f151 rfl rfl hl.1 rfl (Nat.le_of_ble_eq_true rfl) dX2_become_135 (fun w186 H locs hp187 h => ?_)
  refine lv_aload_n hx hb dX2_become_138 rfl (lv_at hl 0 rfl) ?_
  have f188 : w186 41 = .inr (1, [.int 0, .int 0, .int 0, .int 0, .int 0, .ref (ad 42), .ref (ad 43), .ref (ad 44), .ref (ad 45), .ref (ad 46), .ref (ad 47), .ref (ad 48), .ref (ad 50), .ref (ad 52)]) := (hp187 41 (by decide) (by decide)).trans f139
  refine r_get kc2 X h 41 12 (by decide) rfl f188 (by decide) kw_31 rfl dX2_become_139 ?_
  refine lv_aload_n hx hb dX2_become_142 rfl (lv_at hl 1 rfl) ?_
  have f189 : w186 1 = .inr (1, [.int 0, .int 0, .int 0, .int 0, .int 0, .ref (ad 2), .ref (ad 3), .ref (ad 4), .ref (ad 5), .ref (ad 6), .ref (ad 7), .ref (ad 8), .ref (ad 10), .ref (ad 12)]) := (hp187 1 (by decide) (by decide)).trans f140
  refine r_get kc2 X h 1 12 (by decide) rfl f189 (by decide) kw_31 rfl dX2_become_143 ?_
  have f190 : w1 50 = .inr (4, [.ref (ad 51), .int 0]) := by rw [e2, va_up_ne _ _ (by decide)]; exact pf50
  have f191 : w5 50 = .inr (4, [.ref (ad 51), .int 0]) := by rw [e6, va_up_ne _ _ (by decide)]; exact f190
  have f192 : w9 50 = .inr (4, [.ref (ad 51), .int 0]) := by rw [e10, va_up_ne _ _ (by decide)]; exact f191
  have f193 : w13 50 = .inr (4, [.ref (ad 51), .int 0]) := by rw [e14, va_up_ne _ _ (by decide)]; exact f192
  have f194 : w17 50 = .inr (4, [.ref (ad 51), .int 0]) := by rw [e18, va_up_ne _ _ (by decide)]; exact f193
  have f195 : w31 50 = .inr (4, [.ref (ad 51), .int 0]) := by rw [e32, va_up_ne _ _ (by decide)]; exact f194
  have f196 : w48 50 = .inr (4, [.ref (ad 51), .int 0]) := by rw [e49, va_up_ne _ _ (by decide)]; exact f195
  have f197 : w67 50 = .inr (4, [.ref (ad 51), .int 0]) := by rw [e68, va_up_ne _ _ (by decide)]; exact f196
  have f198 : w88 50 = .inr (4, [.ref (ad 51), .int 0]) := by rw [e89, va_up_ne _ _ (by decide)]; exact f197
  have f199 : w111 50 = .inr (4, [.ref (ad 51), .int 0]) := by rw [e112, va_up_ne _ _ (by decide)]; exact f198
  have f200 : w136 50 = .inr (4, [.ref (ad 51), .int 0]) := by rw [e137, va_up_ne _ _ (by decide)]; exact f199
  have f201 : w186 50 = .inr (4, [.ref (ad 51), .int 0]) := (hp187 50 (by decide) (by decide)).trans f200
  have f202 : w1 51 = .inl (cI, 24, .inl (fun _ => 0)) := by rw [e2, va_up_ne _ _ (by decide)]; exact pf51
  have f203 : w5 51 = .inl (cI, 24, .inl (fun _ => 0)) := by rw [e6, va_up_ne _ _ (by decide)]; exact f202
  have f204 : w9 51 = .inl (cI, 24, .inl (fun _ => 0)) := by rw [e10, va_up_ne _ _ (by decide)]; exact f203
  have f205 : w13 51 = .inl (cI, 24, .inl (fun _ => 0)) := by rw [e14, va_up_ne _ _ (by decide)]; exact f204
  have f206 : w17 51 = .inl (cI, 24, .inl (fun _ => 0)) := by rw [e18, va_up_ne _ _ (by decide)]; exact f205
  have f207 : w31 51 = .inl (cI, 24, .inl (fun _ => 0)) := by rw [e32, va_up_ne _ _ (by decide)]; exact f206
  have f208 : w48 51 = .inl (cI, 24, .inl (fun _ => 0)) := by rw [e49, va_up_ne _ _ (by decide)]; exact f207
  have f209 : w67 51 = .inl (cI, 24, .inl (fun _ => 0)) := by rw [e68, va_up_ne _ _ (by decide)]; exact f208
  have f210 : w88 51 = .inl (cI, 24, .inl (fun _ => 0)) := by rw [e89, va_up_ne _ _ (by decide)]; exact f209
  have f211 : w111 51 = .inl (cI, 24, .inl (fun _ => 0)) := by rw [e112, va_up_ne _ _ (by decide)]; exact f210
  have f212 : w136 51 = .inl (cI, 24, .inl (fun _ => 0)) := by rw [e137, va_up_ne _ _ (by decide)]; exact f211
  have f213 : w186 51 = .inl (cI, 24, .inl (fun _ => 0)) := (hp187 51 (by decide) (by decide)).trans f212
  have f214 : w1 10 = .inr (4, [.ref (ad 11), .int 0]) := by rw [e2, va_up_ne _ _ (by decide)]; exact pf10
  have f215 : w5 10 = .inr (4, [.ref (ad 11), .int 0]) := by rw [e6, va_up_ne _ _ (by decide)]; exact f214
  have f216 : w9 10 = .inr (4, [.ref (ad 11), .int 0]) := by rw [e10, va_up_ne _ _ (by decide)]; exact f215
  have f217 : w13 10 = .inr (4, [.ref (ad 11), .int 0]) := by rw [e14, va_up_ne _ _ (by decide)]; exact f216
  have f218 : w17 10 = .inr (4, [.ref (ad 11), .int 0]) := by rw [e18, va_up_ne _ _ (by decide)]; exact f217
  have f219 : w31 10 = .inr (4, [.ref (ad 11), .int 0]) := by rw [e32, va_up_ne _ _ (by decide)]; exact f218
  have f220 : w48 10 = .inr (4, [.ref (ad 11), .int 0]) := by rw [e49, va_up_ne _ _ (by decide)]; exact f219
  have f221 : w67 10 = .inr (4, [.ref (ad 11), .int 0]) := by rw [e68, va_up_ne _ _ (by decide)]; exact f220
  have f222 : w88 10 = .inr (4, [.ref (ad 11), .int 0]) := by rw [e89, va_up_ne _ _ (by decide)]; exact f221
  have f223 : w111 10 = .inr (4, [.ref (ad 11), .int 0]) := by rw [e112, va_up_ne _ _ (by decide)]; exact f222
  have f224 : w136 10 = .inr (4, [.ref (ad 11), .int 0]) := by rw [e137, va_up_ne _ _ (by decide)]; exact f223
  have f225 : w186 10 = .inr (4, [.ref (ad 11), .int 0]) := (hp187 10 (by decide) (by decide)).trans f224
  have f226 : w1 11 = .inl (cI, 24, .inl (fun _ => 0)) := by rw [e2, va_up_ne _ _ (by decide)]; exact pf11
  have f227 : w5 11 = .inl (cI, 24, .inl (fun _ => 0)) := by rw [e6, va_up_ne _ _ (by decide)]; exact f226
  have f228 : w9 11 = .inl (cI, 24, .inl (fun _ => 0)) := by rw [e10, va_up_ne _ _ (by decide)]; exact f227
  have f229 : w13 11 = .inl (cI, 24, .inl (fun _ => 0)) := by rw [e14, va_up_ne _ _ (by decide)]; exact f228
  have f230 : w17 11 = .inl (cI, 24, .inl (fun _ => 0)) := by rw [e18, va_up_ne _ _ (by decide)]; exact f229
  have f231 : w31 11 = .inl (cI, 24, .inl (fun _ => 0)) := by rw [e32, va_up_ne _ _ (by decide)]; exact f230
  have f232 : w48 11 = .inl (cI, 24, .inl (fun _ => 0)) := by rw [e49, va_up_ne _ _ (by decide)]; exact f231
  have f233 : w67 11 = .inl (cI, 24, .inl (fun _ => 0)) := by rw [e68, va_up_ne _ _ (by decide)]; exact f232
  have f234 : w88 11 = .inl (cI, 24, .inl (fun _ => 0)) := by rw [e89, va_up_ne _ _ (by decide)]; exact f233
  have f235 : w111 11 = .inl (cI, 24, .inl (fun _ => 0)) := by rw [e112, va_up_ne _ _ (by decide)]; exact f234
  have f236 : w136 11 = .inl (cI, 24, .inl (fun _ => 0)) := by rw [e137, va_up_ne _ _ (by decide)]; exact f235
  have f237 : w186 11 = .inl (cI, 24, .inl (fun _ => 0)) := (hp187 11 (by decide) (by decide)).trans f236
  refine q_Vv (na := 1) (As := [.ref (ad 10)]) (rest := []) X hD hN h rfl (c_R_become l G cI cB cZ cO ad w186 50 10 _ _ _ _ (by omega) (by omega) (by omega) f201 f213 f225 f237) ⟨kw_162, kw_163, kw_164, kw_29, kw_165⟩ rfl ⟨by decide, by decide, by decide⟩ ⟨Nat.le_of_ble_eq_true rfl, Nat.le_of_ble_eq_true rfl⟩ ⟨Nat.zero_le _, Nat.zero_le _⟩ (by decide) f201 rfl rfl hl.1 rfl (Nat.le_of_ble_eq_true rfl) dX2_become_146 (fun w239 H locs hp240 h => ?_)
  refine lv_aload_n hx hb dX2_become_149 rfl (lv_at hl 0 rfl) ?_
  have f241 : w239 41 = .inr (1, [.int 0, .int 0, .int 0, .int 0, .int 0, .ref (ad 42), .ref (ad 43), .ref (ad 44), .ref (ad 45), .ref (ad 46), .ref (ad 47), .ref (ad 48), .ref (ad 50), .ref (ad 52)]) := (hp240 41 (by decide) (by decide)).trans f188
  refine r_get kc2 X h 41 13 (by decide) rfl f241 (by decide) kw_32 rfl dX2_become_150 ?_
  refine lv_aload_n hx hb dX2_become_153 rfl (lv_at hl 1 rfl) ?_
  have f242 : w239 1 = .inr (1, [.int 0, .int 0, .int 0, .int 0, .int 0, .ref (ad 2), .ref (ad 3), .ref (ad 4), .ref (ad 5), .ref (ad 6), .ref (ad 7), .ref (ad 8), .ref (ad 10), .ref (ad 12)]) := (hp240 1 (by decide) (by decide)).trans f189
  refine r_get kc2 X h 1 13 (by decide) rfl f242 (by decide) kw_32 rfl dX2_become_154 ?_
  have f243 : w1 52 = .inr (2, [.ref (ad 53), .int 0]) := by rw [e2, va_up_ne _ _ (by decide)]; exact pf52
  have f244 : w5 52 = .inr (2, [.ref (ad 53), .int 0]) := by rw [e6, va_up_ne _ _ (by decide)]; exact f243
  have f245 : w9 52 = .inr (2, [.ref (ad 53), .int 0]) := by rw [e10, va_up_ne _ _ (by decide)]; exact f244
  have f246 : w13 52 = .inr (2, [.ref (ad 53), .int 0]) := by rw [e14, va_up_ne _ _ (by decide)]; exact f245
  have f247 : w17 52 = .inr (2, [.ref (ad 53), .int 0]) := by rw [e18, va_up_ne _ _ (by decide)]; exact f246
  have f248 : w31 52 = .inr (2, [.ref (ad 53), .int 0]) := by rw [e32, va_up_ne _ _ (by decide)]; exact f247
  have f249 : w48 52 = .inr (2, [.ref (ad 53), .int 0]) := by rw [e49, va_up_ne _ _ (by decide)]; exact f248
  have f250 : w67 52 = .inr (2, [.ref (ad 53), .int 0]) := by rw [e68, va_up_ne _ _ (by decide)]; exact f249
  have f251 : w88 52 = .inr (2, [.ref (ad 53), .int 0]) := by rw [e89, va_up_ne _ _ (by decide)]; exact f250
  have f252 : w111 52 = .inr (2, [.ref (ad 53), .int 0]) := by rw [e112, va_up_ne _ _ (by decide)]; exact f251
  have f253 : w136 52 = .inr (2, [.ref (ad 53), .int 0]) := by rw [e137, va_up_ne _ _ (by decide)]; exact f252
  have f254 : w186 52 = .inr (2, [.ref (ad 53), .int 0]) := (hp187 52 (by decide) (by decide)).trans f253
  have f255 : w239 52 = .inr (2, [.ref (ad 53), .int 0]) := (hp240 52 (by decide) (by decide)).trans f254
  have f256 : w1 53 = .inl (cI, 88, .inl (fun _ => 0)) := by rw [e2, va_up_ne _ _ (by decide)]; exact pf53
  have f257 : w5 53 = .inl (cI, 88, .inl (fun _ => 0)) := by rw [e6, va_up_ne _ _ (by decide)]; exact f256
  have f258 : w9 53 = .inl (cI, 88, .inl (fun _ => 0)) := by rw [e10, va_up_ne _ _ (by decide)]; exact f257
  have f259 : w13 53 = .inl (cI, 88, .inl (fun _ => 0)) := by rw [e14, va_up_ne _ _ (by decide)]; exact f258
  have f260 : w17 53 = .inl (cI, 88, .inl (fun _ => 0)) := by rw [e18, va_up_ne _ _ (by decide)]; exact f259
  have f261 : w31 53 = .inl (cI, 88, .inl (fun _ => 0)) := by rw [e32, va_up_ne _ _ (by decide)]; exact f260
  have f262 : w48 53 = .inl (cI, 88, .inl (fun _ => 0)) := by rw [e49, va_up_ne _ _ (by decide)]; exact f261
  have f263 : w67 53 = .inl (cI, 88, .inl (fun _ => 0)) := by rw [e68, va_up_ne _ _ (by decide)]; exact f262
  have f264 : w88 53 = .inl (cI, 88, .inl (fun _ => 0)) := by rw [e89, va_up_ne _ _ (by decide)]; exact f263
  have f265 : w111 53 = .inl (cI, 88, .inl (fun _ => 0)) := by rw [e112, va_up_ne _ _ (by decide)]; exact f264
  have f266 : w136 53 = .inl (cI, 88, .inl (fun _ => 0)) := by rw [e137, va_up_ne _ _ (by decide)]; exact f265
  have f267 : w186 53 = .inl (cI, 88, .inl (fun _ => 0)) := (hp187 53 (by decide) (by decide)).trans f266
  have f268 : w239 53 = .inl (cI, 88, .inl (fun _ => 0)) := (hp240 53 (by decide) (by decide)).trans f267
  have f269 : w1 12 = .inr (2, [.ref (ad 13), .int 0]) := by rw [e2, va_up_ne _ _ (by decide)]; exact pf12
  have f270 : w5 12 = .inr (2, [.ref (ad 13), .int 0]) := by rw [e6, va_up_ne _ _ (by decide)]; exact f269
  have f271 : w9 12 = .inr (2, [.ref (ad 13), .int 0]) := by rw [e10, va_up_ne _ _ (by decide)]; exact f270
  have f272 : w13 12 = .inr (2, [.ref (ad 13), .int 0]) := by rw [e14, va_up_ne _ _ (by decide)]; exact f271
  have f273 : w17 12 = .inr (2, [.ref (ad 13), .int 0]) := by rw [e18, va_up_ne _ _ (by decide)]; exact f272
  have f274 : w31 12 = .inr (2, [.ref (ad 13), .int 0]) := by rw [e32, va_up_ne _ _ (by decide)]; exact f273
  have f275 : w48 12 = .inr (2, [.ref (ad 13), .int 0]) := by rw [e49, va_up_ne _ _ (by decide)]; exact f274
  have f276 : w67 12 = .inr (2, [.ref (ad 13), .int 0]) := by rw [e68, va_up_ne _ _ (by decide)]; exact f275
  have f277 : w88 12 = .inr (2, [.ref (ad 13), .int 0]) := by rw [e89, va_up_ne _ _ (by decide)]; exact f276
  have f278 : w111 12 = .inr (2, [.ref (ad 13), .int 0]) := by rw [e112, va_up_ne _ _ (by decide)]; exact f277
  have f279 : w136 12 = .inr (2, [.ref (ad 13), .int 0]) := by rw [e137, va_up_ne _ _ (by decide)]; exact f278
  have f280 : w186 12 = .inr (2, [.ref (ad 13), .int 0]) := (hp187 12 (by decide) (by decide)).trans f279
  have f281 : w239 12 = .inr (2, [.ref (ad 13), .int 0]) := (hp240 12 (by decide) (by decide)).trans f280
  have f282 : w1 13 = .inl (cI, 88, .inl (fun _ => 0)) := by rw [e2, va_up_ne _ _ (by decide)]; exact pf13
  have f283 : w5 13 = .inl (cI, 88, .inl (fun _ => 0)) := by rw [e6, va_up_ne _ _ (by decide)]; exact f282
  have f284 : w9 13 = .inl (cI, 88, .inl (fun _ => 0)) := by rw [e10, va_up_ne _ _ (by decide)]; exact f283
  have f285 : w13 13 = .inl (cI, 88, .inl (fun _ => 0)) := by rw [e14, va_up_ne _ _ (by decide)]; exact f284
  have f286 : w17 13 = .inl (cI, 88, .inl (fun _ => 0)) := by rw [e18, va_up_ne _ _ (by decide)]; exact f285
  have f287 : w31 13 = .inl (cI, 88, .inl (fun _ => 0)) := by rw [e32, va_up_ne _ _ (by decide)]; exact f286
  have f288 : w48 13 = .inl (cI, 88, .inl (fun _ => 0)) := by rw [e49, va_up_ne _ _ (by decide)]; exact f287
  have f289 : w67 13 = .inl (cI, 88, .inl (fun _ => 0)) := by rw [e68, va_up_ne _ _ (by decide)]; exact f288
  have f290 : w88 13 = .inl (cI, 88, .inl (fun _ => 0)) := by rw [e89, va_up_ne _ _ (by decide)]; exact f289
  have f291 : w111 13 = .inl (cI, 88, .inl (fun _ => 0)) := by rw [e112, va_up_ne _ _ (by decide)]; exact f290
  have f292 : w136 13 = .inl (cI, 88, .inl (fun _ => 0)) := by rw [e137, va_up_ne _ _ (by decide)]; exact f291
  have f293 : w186 13 = .inl (cI, 88, .inl (fun _ => 0)) := (hp187 13 (by decide) (by decide)).trans f292
  have f294 : w239 13 = .inl (cI, 88, .inl (fun _ => 0)) := (hp240 13 (by decide) (by decide)).trans f293
  refine q_Vv (na := 1) (As := [.ref (ad 12)]) (rest := []) X hD hN h rfl (c_P_become l G cI cB cZ cO ad w239 52 12 _ _ _ _ (by omega) (by omega) (by omega) f255 f268 f281 f294) ⟨kw_166, kw_167, kw_168, kw_36, kw_169⟩ rfl ⟨by decide, by decide, by decide⟩ ⟨Nat.le_of_ble_eq_true rfl, Nat.le_of_ble_eq_true rfl⟩ ⟨Nat.zero_le _, Nat.zero_le _⟩ (by decide) f255 rfl rfl hl.1 rfl (Nat.le_of_ble_eq_true rfl) dX2_become_157 (fun w296 H locs hp297 h => ?_)
  have f298 : w296 41 = .inr (1, [.int 0, .int 0, .int 0, .int 0, .int 0, .ref (ad 42), .ref (ad 43), .ref (ad 44), .ref (ad 45), .ref (ad 46), .ref (ad 47), .ref (ad 48), .ref (ad 50), .ref (ad 52)]) := (hp297 41 (by decide) (by decide)).trans f241
  exact e_v X h hr hlk dX2_become_160 ⟨f298, fun k h1 => (hp297 k (by omega) (by omega)).trans ((hp240 k (by omega) (by omega)).trans ((hp187 k (by omega) (by omega)).trans (((congrFun e137 k).trans (va_up_ne _ _ (by omega))).trans (((congrFun e112 k).trans (va_up_ne _ _ (by omega))).trans (((congrFun e89 k).trans (va_up_ne _ _ (by omega))).trans (((congrFun e68 k).trans (va_up_ne _ _ (by omega))).trans (((congrFun e49 k).trans (va_up_ne _ _ (by omega))).trans (((congrFun e32 k).trans (va_up_ne _ _ (by omega))).trans (((congrFun e18 k).trans (va_up_ne _ _ (by omega))).trans (((congrFun e14 k).trans (va_up_ne _ _ (by omega))).trans (((congrFun e10 k).trans (va_up_ne _ _ (by omega))).trans (((congrFun e6 k).trans (va_up_ne _ _ (by omega))).trans ((congrFun e2 k).trans (va_up_ne _ _ (by omega)))))))))))))))⟩

set_option maxHeartbeats 4000000 in
set_option maxRecDepth 100000 in
theorem c_coolInAll14 (l : Launch) (G : va_G) (cI cB cZ cO : ClassId) (ad : Nat → Nat) (w : Nat → va_E) (q0 : Int32) (pf14 : w 14 = .inr (1, [.int q0, .int 0, .int 0, .int 0, .int 0, .ref (ad 15), .ref (ad 16), .ref (ad 17), .ref (ad 18), .ref (ad 19), .ref (ad 20), .ref (ad 21), .ref (ad 23), .ref (ad 25)])) : MI l G (tyq cI cB cZ cO) yX2_coolInAll cX2_coolInAll 3 (some .int) 0 0 74 ad w [.ref (ad 14)] (fun r w1 => w1 = w ∧ r = 0) := by
  refine mk_i (own := "NoonShade$Isle") rfl (by decide) (Nat.le_of_ble_eq_true rfl) ?_
  intro p e s m below meth c ls X hD hN hr hlk h hl
  have hx := X.1.1
  have hb := X.1.2.1
  have hown := X.1.2.2.2.1
  have hts := X.1.2.2.2.2
  have hl : lv_has ls 3 [(0, .ref (ad 14))] := hl
  refine lv_iconst (v := 0) hx hb dX2_coolInAll_0 (by decide) ?_
  refine lv_istore_n (lv' := [(1, .int 0), (0, .ref (ad 14))]) hx hb dX2_coolInAll_1 rfl hl (by decide) rfl (fun ls hl => ?_)
  refine lv_iconst (v := 0) hx hb dX2_coolInAll_2 (by decide) ?_
  refine lv_istore_n (lv' := [(2, .int 0), (1, .int 0), (0, .ref (ad 14))]) hx hb dX2_coolInAll_3 rfl hl (by decide) rfl (fun ls hl => ?_)
  refine lv_iload_n hx hb dX2_coolInAll_4 rfl (lv_at hl 0 rfl) ?_
  refine lv_aload_n hx hb dX2_coolInAll_5 rfl (lv_at hl 2 rfl) ?_
  refine r_get kc2 X h 14 4 (by decide) rfl pf14 (by decide) kw_1 rfl dX2_coolInAll_6 ?_
  refine lv_icmp_ge (tgt := 27) hx hb dX2_coolInAll_9 (by decide) (fun _ => ?_) (fun hc => absurd (by decide) hc)
  refine lv_iload_n hx hb dX2_coolInAll_27 rfl (lv_at hl 1 rfl) ?_
  exact e_i X h hr hlk dX2_coolInAll_28 ⟨rfl, rfl⟩
end
section
set_option maxHeartbeats 4000000 in
set_option maxRecDepth 100000 in
theorem c_X_ladle (l : Launch) (G : va_G) (cI cB cZ cO : ClassId) (ad : Nat → Nat) (w : Nat → va_E) (F : ∀ k, k < 74 → w k = fr0 cI cB cZ cO ad k) (i j : Int32) : MI l G (tyq cI cB cZ cO) yX8_ladle cX8_ladle 3 (some .int) 1 21 74 ad w [.ref (ad 0), .int i, .int j] (fun r w1 => r = (-2) ∧ ∀ k, 64 ≤ k → w1 k = w k) := by
  refine mk_i (own := "NoonShade") rfl (by decide) (Nat.le_of_ble_eq_true rfl) ?_
  intro p e s m below meth c ls X hD hN hr hlk h hl
  have hx := X.1.1
  have hb := X.1.2.1
  have hown := X.1.2.2.2.1
  have hts := X.1.2.2.2.2
  have hl : lv_has ls 3 [(0, .ref (ad 0)), (1, .int i), (2, .int j)] := hl
  refine lv_aload_n hx hb dX8_ladle_0 rfl (lv_at hl 0 rfl) ?_
  have f1 : w 0 = .inr (6, [.ref (ad 1), .ref (ad 14), .ref (ad 27), .ref (ad 54), .ref (ad 55), .ref (ad 58), .ref (ad 62), .long 0, .long 1, .int 0, .int 0, .int 0]) := F 0 (by decide)
  refine r_get kc8 X h 0 0 (by decide) rfl f1 (by decide) kw_5 rfl dX8_ladle_1 ?_
  refine lv_iload_n hx hb dX8_ladle_4 rfl (lv_at hl 1 rfl) ?_
  have f2 : w 1 = .inr (1, [.int 0, .int 0, .int 0, .int 0, .int 0, .ref (ad 2), .ref (ad 3), .ref (ad 4), .ref (ad 5), .ref (ad 6), .ref (ad 7), .ref (ad 8), .ref (ad 10), .ref (ad 12)]) := F 1 (by decide)
  refine q_Vi (na := 1) (As := [.int i]) (rest := []) X hD hN h rfl (c_hasCaster l G cI cB cZ cO ad w 1 _ _ _ _ _ _ i 0 rfl (by decide) f2) ⟨kw_6, kw_7, kw_8, kw_9, kw_10⟩ rfl ⟨by decide, by decide, by decide⟩ ⟨Nat.le_of_ble_eq_true rfl, Nat.le_of_ble_eq_true rfl⟩ ⟨Nat.zero_le _, Nat.zero_le _⟩ (by decide) f2 rfl rfl hl.1 rfl (Nat.le_of_ble_eq_true rfl) dX8_ladle_5 (fun r3 w4 H locs hp5 h => ?_)
  obtain ⟨e6, hp5⟩ := hp5
  rcases hp5 with ⟨hq7a, hq7b, rfl⟩ | ⟨hq7, rfl⟩
  · exfalso; omega
  · refine lv_if_eq (tgt := 22) hx hb dX8_ladle_8 (by decide) (fun _ => ?_) (fun hc => absurd (by decide) hc)
    refine lv_aload_n hx hb dX8_ladle_22 rfl (lv_at hl 0 rfl) ?_
    refine lv_bipush (v := (-2)) hx hb dX8_ladle_23 (by decide) ?_
    have f8 : w4 0 = .inr (6, [.ref (ad 1), .ref (ad 14), .ref (ad 27), .ref (ad 54), .ref (ad 55), .ref (ad 58), .ref (ad 62), .long 0, .long 1, .int 0, .int 0, .int 0]) := by rw [e6]; exact f1
    refine q_Vi (na := 1) (As := [.int (-2)]) (rest := []) X hD hN h rfl (c_refused l G cI cB cZ cO ad w4 _ _ _ _ _ _ _ _ _ _ _ _ (-2) f8) ⟨kw_11, kw_12, kw_13, kw_14, kw_15⟩ rfl ⟨by decide, by decide, by decide⟩ ⟨Nat.le_of_ble_eq_true rfl, Nat.le_of_ble_eq_true rfl⟩ ⟨Nat.zero_le _, Nat.zero_le _⟩ (by decide) f8 rfl rfl hl.1 rfl (Nat.le_of_ble_eq_true rfl) dX8_ladle_25 (fun r9 w10 H locs hp11 h => ?_)
    obtain ⟨rfl, x12, y13, z14, e15⟩ := hp11
    have f16 : w10 0 = .inr (6, [.ref (ad 1), .ref (ad 14), .ref (ad 27), .ref (ad 54), .ref (ad 55), .ref (ad 58), .ref (ad 62), .long 0, .long 1, .int x12, .int y13, .int z14]) := (congrFun e15 _).trans (va_up_self _ _ _)
    exact e_i X h hr hlk dX8_ladle_28 ⟨rfl, fun k hk => ((congrFun e15 k).trans (va_up_ne _ _ (by omega))).trans (congrFun e6 k)⟩

set_option maxHeartbeats 4000000 in
set_option maxRecDepth 100000 in
theorem c_X_pours (l : Launch) (G : va_G) (cI cB cZ cO : ClassId) (ad : Nat → Nat) (w : Nat → va_E) (F : ∀ k, k < 74 → w k = fr0 cI cB cZ cO ad k) (j k : Int32) : MI l G (tyq cI cB cZ cO) yX8_pours cX8_pours 3 (some .int) 1 21 74 ad w [.ref (ad 0), .int j, .int k] (fun r w1 => r = (-2) ∧ ∀ k, 64 ≤ k → w1 k = w k) := by
  refine mk_i (own := "NoonShade") rfl (by decide) (Nat.le_of_ble_eq_true rfl) ?_
  intro p e s m below meth c ls X hD hN hr hlk h hl
  have hx := X.1.1
  have hb := X.1.2.1
  have hown := X.1.2.2.2.1
  have hts := X.1.2.2.2.2
  have hl : lv_has ls 3 [(0, .ref (ad 0)), (1, .int j), (2, .int k)] := hl
  refine lv_aload_n hx hb dX8_pours_0 rfl (lv_at hl 0 rfl) ?_
  have f1 : w 0 = .inr (6, [.ref (ad 1), .ref (ad 14), .ref (ad 27), .ref (ad 54), .ref (ad 55), .ref (ad 58), .ref (ad 62), .long 0, .long 1, .int 0, .int 0, .int 0]) := F 0 (by decide)
  refine r_get kc8 X h 0 0 (by decide) rfl f1 (by decide) kw_5 rfl dX8_pours_1 ?_
  refine lv_iload_n hx hb dX8_pours_4 rfl (lv_at hl 1 rfl) ?_
  have f2 : w 1 = .inr (1, [.int 0, .int 0, .int 0, .int 0, .int 0, .ref (ad 2), .ref (ad 3), .ref (ad 4), .ref (ad 5), .ref (ad 6), .ref (ad 7), .ref (ad 8), .ref (ad 10), .ref (ad 12)]) := F 1 (by decide)
  refine q_Vi (na := 1) (As := [.int j]) (rest := []) X hD hN h rfl (c_hasJar l G cI cB cZ cO ad w 1 _ _ _ _ _ _ j 0 rfl (by decide) f2) ⟨kw_16, kw_17, kw_18, kw_9, kw_19⟩ rfl ⟨by decide, by decide, by decide⟩ ⟨Nat.le_of_ble_eq_true rfl, Nat.le_of_ble_eq_true rfl⟩ ⟨Nat.zero_le _, Nat.zero_le _⟩ (by decide) f2 rfl rfl hl.1 rfl (Nat.le_of_ble_eq_true rfl) dX8_pours_5 (fun r3 w4 H locs hp5 h => ?_)
  obtain ⟨e6, hp5⟩ := hp5
  rcases hp5 with ⟨hq7a, hq7b, rfl⟩ | ⟨hq7, rfl⟩
  · exfalso; omega
  · refine lv_if_eq (tgt := 27) hx hb dX8_pours_8 (by decide) (fun _ => ?_) (fun hc => absurd (by decide) hc)
    refine lv_aload_n hx hb dX8_pours_27 rfl (lv_at hl 0 rfl) ?_
    refine lv_bipush (v := (-2)) hx hb dX8_pours_28 (by decide) ?_
    have f8 : w4 0 = .inr (6, [.ref (ad 1), .ref (ad 14), .ref (ad 27), .ref (ad 54), .ref (ad 55), .ref (ad 58), .ref (ad 62), .long 0, .long 1, .int 0, .int 0, .int 0]) := by rw [e6]; exact f1
    refine q_Vi (na := 1) (As := [.int (-2)]) (rest := []) X hD hN h rfl (c_refused l G cI cB cZ cO ad w4 _ _ _ _ _ _ _ _ _ _ _ _ (-2) f8) ⟨kw_11, kw_12, kw_13, kw_14, kw_15⟩ rfl ⟨by decide, by decide, by decide⟩ ⟨Nat.le_of_ble_eq_true rfl, Nat.le_of_ble_eq_true rfl⟩ ⟨Nat.zero_le _, Nat.zero_le _⟩ (by decide) f8 rfl rfl hl.1 rfl (Nat.le_of_ble_eq_true rfl) dX8_pours_30 (fun r9 w10 H locs hp11 h => ?_)
    obtain ⟨rfl, x12, y13, z14, e15⟩ := hp11
    have f16 : w10 0 = .inr (6, [.ref (ad 1), .ref (ad 14), .ref (ad 27), .ref (ad 54), .ref (ad 55), .ref (ad 58), .ref (ad 62), .long 0, .long 1, .int x12, .int y13, .int z14]) := (congrFun e15 _).trans (va_up_self _ _ _)
    exact e_i X h hr hlk dX8_pours_33 ⟨rfl, fun k hk => ((congrFun e15 k).trans (va_up_ne _ _ (by omega))).trans (congrFun e6 k)⟩

set_option maxHeartbeats 4000000 in
set_option maxRecDepth 100000 in
theorem c_X_sells (l : Launch) (G : va_G) (cI cB cZ cO : ClassId) (ad : Nat → Nat) (w : Nat → va_E) (F : ∀ k, k < 74 → w k = fr0 cI cB cZ cO ad k) (j : Int32) : MI l G (tyq cI cB cZ cO) yX8_sells cX8_sells 2 (some .int) 1 21 74 ad w [.ref (ad 0), .int j] (fun r w1 => r = (-2) ∧ ∀ k, 64 ≤ k → w1 k = w k) := by
  refine mk_i (own := "NoonShade") rfl (by decide) (Nat.le_of_ble_eq_true rfl) ?_
  intro p e s m below meth c ls X hD hN hr hlk h hl
  have hx := X.1.1
  have hb := X.1.2.1
  have hown := X.1.2.2.2.1
  have hts := X.1.2.2.2.2
  have hl : lv_has ls 2 [(0, .ref (ad 0)), (1, .int j)] := hl
  refine lv_aload_n hx hb dX8_sells_0 rfl (lv_at hl 0 rfl) ?_
  have f1 : w 0 = .inr (6, [.ref (ad 1), .ref (ad 14), .ref (ad 27), .ref (ad 54), .ref (ad 55), .ref (ad 58), .ref (ad 62), .long 0, .long 1, .int 0, .int 0, .int 0]) := F 0 (by decide)
  refine r_get kc8 X h 0 0 (by decide) rfl f1 (by decide) kw_5 rfl dX8_sells_1 ?_
  refine lv_iload_n hx hb dX8_sells_4 rfl (lv_at hl 1 rfl) ?_
  have f2 : w 1 = .inr (1, [.int 0, .int 0, .int 0, .int 0, .int 0, .ref (ad 2), .ref (ad 3), .ref (ad 4), .ref (ad 5), .ref (ad 6), .ref (ad 7), .ref (ad 8), .ref (ad 10), .ref (ad 12)]) := F 1 (by decide)
  refine q_Vi (na := 1) (As := [.int j]) (rest := []) X hD hN h rfl (c_hasJar l G cI cB cZ cO ad w 1 _ _ _ _ _ _ j 0 rfl (by decide) f2) ⟨kw_16, kw_17, kw_18, kw_9, kw_19⟩ rfl ⟨by decide, by decide, by decide⟩ ⟨Nat.le_of_ble_eq_true rfl, Nat.le_of_ble_eq_true rfl⟩ ⟨Nat.zero_le _, Nat.zero_le _⟩ (by decide) f2 rfl rfl hl.1 rfl (Nat.le_of_ble_eq_true rfl) dX8_sells_5 (fun r3 w4 H locs hp5 h => ?_)
  obtain ⟨e6, hp5⟩ := hp5
  rcases hp5 with ⟨hq7a, hq7b, rfl⟩ | ⟨hq7, rfl⟩
  · exfalso; omega
  · refine lv_if_ne (tgt := 18) hx hb dX8_sells_8 (by decide) (fun hc => absurd (by decide) hc) (fun _ => ?_)
    refine lv_aload_n hx hb dX8_sells_11 rfl (lv_at hl 0 rfl) ?_
    refine lv_bipush (v := (-2)) hx hb dX8_sells_12 (by decide) ?_
    have f8 : w4 0 = .inr (6, [.ref (ad 1), .ref (ad 14), .ref (ad 27), .ref (ad 54), .ref (ad 55), .ref (ad 58), .ref (ad 62), .long 0, .long 1, .int 0, .int 0, .int 0]) := by rw [e6]; exact f1
    refine q_Vi (na := 1) (As := [.int (-2)]) (rest := []) X hD hN h rfl (c_refused l G cI cB cZ cO ad w4 _ _ _ _ _ _ _ _ _ _ _ _ (-2) f8) ⟨kw_11, kw_12, kw_13, kw_14, kw_15⟩ rfl ⟨by decide, by decide, by decide⟩ ⟨Nat.le_of_ble_eq_true rfl, Nat.le_of_ble_eq_true rfl⟩ ⟨Nat.zero_le _, Nat.zero_le _⟩ (by decide) f8 rfl rfl hl.1 rfl (Nat.le_of_ble_eq_true rfl) dX8_sells_14 (fun r9 w10 H locs hp11 h => ?_)
    obtain ⟨rfl, x12, y13, z14, e15⟩ := hp11
    have f16 : w10 0 = .inr (6, [.ref (ad 1), .ref (ad 14), .ref (ad 27), .ref (ad 54), .ref (ad 55), .ref (ad 58), .ref (ad 62), .long 0, .long 1, .int x12, .int y13, .int z14]) := (congrFun e15 _).trans (va_up_self _ _ _)
    exact e_i X h hr hlk dX8_sells_17 ⟨rfl, fun k hk => ((congrFun e15 k).trans (va_up_ne _ _ (by omega))).trans (congrFun e6 k)⟩

set_option maxHeartbeats 4000000 in
set_option maxRecDepth 100000 in
theorem c_X_of (l : Launch) (G : va_G) (cI cB cZ cO : ClassId) (ad : Nat → Nat) (w : Nat → va_E) (F : ∀ k, k < 74 → w k = fr0 cI cB cZ cO ad k) (i u : Int32) : MI l G (tyq cI cB cZ cO) yX8_of cX8_of 3 (some .int) 1 21 74 ad w [.ref (ad 0), .int i, .int u] (fun r w1 => r = (-2) ∧ ∀ k, 64 ≤ k → w1 k = w k) := by
  refine mk_i (own := "NoonShade") rfl (by decide) (Nat.le_of_ble_eq_true rfl) ?_
  intro p e s m below meth c ls X hD hN hr hlk h hl
  have hx := X.1.1
  have hb := X.1.2.1
  have hown := X.1.2.2.2.1
  have hts := X.1.2.2.2.2
  have hl : lv_has ls 3 [(0, .ref (ad 0)), (1, .int i), (2, .int u)] := hl
  refine lv_aload_n hx hb dX8_of_0 rfl (lv_at hl 0 rfl) ?_
  have f1 : w 0 = .inr (6, [.ref (ad 1), .ref (ad 14), .ref (ad 27), .ref (ad 54), .ref (ad 55), .ref (ad 58), .ref (ad 62), .long 0, .long 1, .int 0, .int 0, .int 0]) := F 0 (by decide)
  refine r_get kc8 X h 0 0 (by decide) rfl f1 (by decide) kw_5 rfl dX8_of_1 ?_
  refine lv_iload_n hx hb dX8_of_4 rfl (lv_at hl 1 rfl) ?_
  have f2 : w 1 = .inr (1, [.int 0, .int 0, .int 0, .int 0, .int 0, .ref (ad 2), .ref (ad 3), .ref (ad 4), .ref (ad 5), .ref (ad 6), .ref (ad 7), .ref (ad 8), .ref (ad 10), .ref (ad 12)]) := F 1 (by decide)
  refine q_Vi (na := 1) (As := [.int i]) (rest := []) X hD hN h rfl (c_hasCaster l G cI cB cZ cO ad w 1 _ _ _ _ _ _ i 0 rfl (by decide) f2) ⟨kw_6, kw_7, kw_8, kw_9, kw_10⟩ rfl ⟨by decide, by decide, by decide⟩ ⟨Nat.le_of_ble_eq_true rfl, Nat.le_of_ble_eq_true rfl⟩ ⟨Nat.zero_le _, Nat.zero_le _⟩ (by decide) f2 rfl rfl hl.1 rfl (Nat.le_of_ble_eq_true rfl) dX8_of_5 (fun r3 w4 H locs hp5 h => ?_)
  obtain ⟨e6, hp5⟩ := hp5
  rcases hp5 with ⟨hq7a, hq7b, rfl⟩ | ⟨hq7, rfl⟩
  · exfalso; omega
  · refine lv_if_ne (tgt := 18) hx hb dX8_of_8 (by decide) (fun hc => absurd (by decide) hc) (fun _ => ?_)
    refine lv_aload_n hx hb dX8_of_11 rfl (lv_at hl 0 rfl) ?_
    refine lv_bipush (v := (-2)) hx hb dX8_of_12 (by decide) ?_
    have f8 : w4 0 = .inr (6, [.ref (ad 1), .ref (ad 14), .ref (ad 27), .ref (ad 54), .ref (ad 55), .ref (ad 58), .ref (ad 62), .long 0, .long 1, .int 0, .int 0, .int 0]) := by rw [e6]; exact f1
    refine q_Vi (na := 1) (As := [.int (-2)]) (rest := []) X hD hN h rfl (c_refused l G cI cB cZ cO ad w4 _ _ _ _ _ _ _ _ _ _ _ _ (-2) f8) ⟨kw_11, kw_12, kw_13, kw_14, kw_15⟩ rfl ⟨by decide, by decide, by decide⟩ ⟨Nat.le_of_ble_eq_true rfl, Nat.le_of_ble_eq_true rfl⟩ ⟨Nat.zero_le _, Nat.zero_le _⟩ (by decide) f8 rfl rfl hl.1 rfl (Nat.le_of_ble_eq_true rfl) dX8_of_14 (fun r9 w10 H locs hp11 h => ?_)
    obtain ⟨rfl, x12, y13, z14, e15⟩ := hp11
    have f16 : w10 0 = .inr (6, [.ref (ad 1), .ref (ad 14), .ref (ad 27), .ref (ad 54), .ref (ad 55), .ref (ad 58), .ref (ad 62), .long 0, .long 1, .int x12, .int y13, .int z14]) := (congrFun e15 _).trans (va_up_self _ _ _)
    exact e_i X h hr hlk dX8_of_17 ⟨rfl, fun k hk => ((congrFun e15 k).trans (va_up_ne _ _ (by omega))).trans (congrFun e6 k)⟩

set_option maxHeartbeats 4000000 in
set_option maxRecDepth 100000 in
theorem c_X_about (l : Launch) (G : va_G) (cI cB cZ cO : ClassId) (ad : Nat → Nat) (w : Nat → va_E) (F : ∀ k, k < 74 → w k = fr0 cI cB cZ cO ad k) (j u : Int32) : MI l G (tyq cI cB cZ cO) yX8_about cX8_about 3 (some .int) 1 21 74 ad w [.ref (ad 0), .int j, .int u] (fun r w1 => r = (-2) ∧ ∀ k, 64 ≤ k → w1 k = w k) := by
  refine mk_i (own := "NoonShade") rfl (by decide) (Nat.le_of_ble_eq_true rfl) ?_
  intro p e s m below meth c ls X hD hN hr hlk h hl
  have hx := X.1.1
  have hb := X.1.2.1
  have hown := X.1.2.2.2.1
  have hts := X.1.2.2.2.2
  have hl : lv_has ls 3 [(0, .ref (ad 0)), (1, .int j), (2, .int u)] := hl
  refine lv_aload_n hx hb dX8_about_0 rfl (lv_at hl 0 rfl) ?_
  have f1 : w 0 = .inr (6, [.ref (ad 1), .ref (ad 14), .ref (ad 27), .ref (ad 54), .ref (ad 55), .ref (ad 58), .ref (ad 62), .long 0, .long 1, .int 0, .int 0, .int 0]) := F 0 (by decide)
  refine r_get kc8 X h 0 0 (by decide) rfl f1 (by decide) kw_5 rfl dX8_about_1 ?_
  refine lv_iload_n hx hb dX8_about_4 rfl (lv_at hl 1 rfl) ?_
  have f2 : w 1 = .inr (1, [.int 0, .int 0, .int 0, .int 0, .int 0, .ref (ad 2), .ref (ad 3), .ref (ad 4), .ref (ad 5), .ref (ad 6), .ref (ad 7), .ref (ad 8), .ref (ad 10), .ref (ad 12)]) := F 1 (by decide)
  refine q_Vi (na := 1) (As := [.int j]) (rest := []) X hD hN h rfl (c_hasJar l G cI cB cZ cO ad w 1 _ _ _ _ _ _ j 0 rfl (by decide) f2) ⟨kw_16, kw_17, kw_18, kw_9, kw_19⟩ rfl ⟨by decide, by decide, by decide⟩ ⟨Nat.le_of_ble_eq_true rfl, Nat.le_of_ble_eq_true rfl⟩ ⟨Nat.zero_le _, Nat.zero_le _⟩ (by decide) f2 rfl rfl hl.1 rfl (Nat.le_of_ble_eq_true rfl) dX8_about_5 (fun r3 w4 H locs hp5 h => ?_)
  obtain ⟨e6, hp5⟩ := hp5
  rcases hp5 with ⟨hq7a, hq7b, rfl⟩ | ⟨hq7, rfl⟩
  · exfalso; omega
  · refine lv_if_ne (tgt := 18) hx hb dX8_about_8 (by decide) (fun hc => absurd (by decide) hc) (fun _ => ?_)
    refine lv_aload_n hx hb dX8_about_11 rfl (lv_at hl 0 rfl) ?_
    refine lv_bipush (v := (-2)) hx hb dX8_about_12 (by decide) ?_
    have f8 : w4 0 = .inr (6, [.ref (ad 1), .ref (ad 14), .ref (ad 27), .ref (ad 54), .ref (ad 55), .ref (ad 58), .ref (ad 62), .long 0, .long 1, .int 0, .int 0, .int 0]) := by rw [e6]; exact f1
    refine q_Vi (na := 1) (As := [.int (-2)]) (rest := []) X hD hN h rfl (c_refused l G cI cB cZ cO ad w4 _ _ _ _ _ _ _ _ _ _ _ _ (-2) f8) ⟨kw_11, kw_12, kw_13, kw_14, kw_15⟩ rfl ⟨by decide, by decide, by decide⟩ ⟨Nat.le_of_ble_eq_true rfl, Nat.le_of_ble_eq_true rfl⟩ ⟨Nat.zero_le _, Nat.zero_le _⟩ (by decide) f8 rfl rfl hl.1 rfl (Nat.le_of_ble_eq_true rfl) dX8_about_14 (fun r9 w10 H locs hp11 h => ?_)
    obtain ⟨rfl, x12, y13, z14, e15⟩ := hp11
    have f16 : w10 0 = .inr (6, [.ref (ad 1), .ref (ad 14), .ref (ad 27), .ref (ad 54), .ref (ad 55), .ref (ad 58), .ref (ad 62), .long 0, .long 1, .int x12, .int y13, .int z14]) := (congrFun e15 _).trans (va_up_self _ _ _)
    exact e_i X h hr hlk dX8_about_17 ⟨rfl, fun k hk => ((congrFun e15 k).trans (va_up_ne _ _ (by omega))).trans (congrFun e6 k)⟩

set_option maxHeartbeats 4000000 in
set_option maxRecDepth 100000 in
theorem c_X_gives (l : Launch) (G : va_G) (cI cB cZ cO : ClassId) (ad : Nat → Nat) (w : Nat → va_E) (F : ∀ k, k < 74 → w k = fr0 cI cB cZ cO ad k) (i u : Int32) : MI l G (tyq cI cB cZ cO) yX8_gives cX8_gives 3 (some .int) 1 21 74 ad w [.ref (ad 0), .int i, .int u] (fun r w1 => r = (-2) ∧ ∀ k, 64 ≤ k → w1 k = w k) := by
  refine mk_i (own := "NoonShade") rfl (by decide) (Nat.le_of_ble_eq_true rfl) ?_
  intro p e s m below meth c ls X hD hN hr hlk h hl
  have hx := X.1.1
  have hb := X.1.2.1
  have hown := X.1.2.2.2.1
  have hts := X.1.2.2.2.2
  have hl : lv_has ls 3 [(0, .ref (ad 0)), (1, .int i), (2, .int u)] := hl
  refine lv_aload_n hx hb dX8_gives_0 rfl (lv_at hl 0 rfl) ?_
  have f1 : w 0 = .inr (6, [.ref (ad 1), .ref (ad 14), .ref (ad 27), .ref (ad 54), .ref (ad 55), .ref (ad 58), .ref (ad 62), .long 0, .long 1, .int 0, .int 0, .int 0]) := F 0 (by decide)
  refine r_get kc8 X h 0 0 (by decide) rfl f1 (by decide) kw_5 rfl dX8_gives_1 ?_
  refine lv_iload_n hx hb dX8_gives_4 rfl (lv_at hl 1 rfl) ?_
  have f2 : w 1 = .inr (1, [.int 0, .int 0, .int 0, .int 0, .int 0, .ref (ad 2), .ref (ad 3), .ref (ad 4), .ref (ad 5), .ref (ad 6), .ref (ad 7), .ref (ad 8), .ref (ad 10), .ref (ad 12)]) := F 1 (by decide)
  refine q_Vi (na := 1) (As := [.int i]) (rest := []) X hD hN h rfl (c_hasCaster l G cI cB cZ cO ad w 1 _ _ _ _ _ _ i 0 rfl (by decide) f2) ⟨kw_6, kw_7, kw_8, kw_9, kw_10⟩ rfl ⟨by decide, by decide, by decide⟩ ⟨Nat.le_of_ble_eq_true rfl, Nat.le_of_ble_eq_true rfl⟩ ⟨Nat.zero_le _, Nat.zero_le _⟩ (by decide) f2 rfl rfl hl.1 rfl (Nat.le_of_ble_eq_true rfl) dX8_gives_5 (fun r3 w4 H locs hp5 h => ?_)
  obtain ⟨e6, hp5⟩ := hp5
  rcases hp5 with ⟨hq7a, hq7b, rfl⟩ | ⟨hq7, rfl⟩
  · exfalso; omega
  · refine lv_if_eq (tgt := 21) hx hb dX8_gives_8 (by decide) (fun _ => ?_) (fun hc => absurd (by decide) hc)
    refine lv_aload_n hx hb dX8_gives_21 rfl (lv_at hl 0 rfl) ?_
    refine lv_bipush (v := (-2)) hx hb dX8_gives_22 (by decide) ?_
    have f8 : w4 0 = .inr (6, [.ref (ad 1), .ref (ad 14), .ref (ad 27), .ref (ad 54), .ref (ad 55), .ref (ad 58), .ref (ad 62), .long 0, .long 1, .int 0, .int 0, .int 0]) := by rw [e6]; exact f1
    refine q_Vi (na := 1) (As := [.int (-2)]) (rest := []) X hD hN h rfl (c_refused l G cI cB cZ cO ad w4 _ _ _ _ _ _ _ _ _ _ _ _ (-2) f8) ⟨kw_11, kw_12, kw_13, kw_14, kw_15⟩ rfl ⟨by decide, by decide, by decide⟩ ⟨Nat.le_of_ble_eq_true rfl, Nat.le_of_ble_eq_true rfl⟩ ⟨Nat.zero_le _, Nat.zero_le _⟩ (by decide) f8 rfl rfl hl.1 rfl (Nat.le_of_ble_eq_true rfl) dX8_gives_24 (fun r9 w10 H locs hp11 h => ?_)
    obtain ⟨rfl, x12, y13, z14, e15⟩ := hp11
    have f16 : w10 0 = .inr (6, [.ref (ad 1), .ref (ad 14), .ref (ad 27), .ref (ad 54), .ref (ad 55), .ref (ad 58), .ref (ad 62), .long 0, .long 1, .int x12, .int y13, .int z14]) := (congrFun e15 _).trans (va_up_self _ _ _)
    exact e_i X h hr hlk dX8_gives_27 ⟨rfl, fun k hk => ((congrFun e15 k).trans (va_up_ne _ _ (by omega))).trans (congrFun e6 k)⟩

set_option maxHeartbeats 4000000 in
set_option maxRecDepth 100000 in
theorem c_X_keeps (l : Launch) (G : va_G) (cI cB cZ cO : ClassId) (ad : Nat → Nat) (w : Nat → va_E) (F : ∀ k, k < 74 → w k = fr0 cI cB cZ cO ad k) (j u : Int32) : MI l G (tyq cI cB cZ cO) yX8_keeps cX8_keeps 3 (some .int) 1 21 74 ad w [.ref (ad 0), .int j, .int u] (fun r w1 => r = (-2) ∧ ∀ k, 64 ≤ k → w1 k = w k) := by
  refine mk_i (own := "NoonShade") rfl (by decide) (Nat.le_of_ble_eq_true rfl) ?_
  intro p e s m below meth c ls X hD hN hr hlk h hl
  have hx := X.1.1
  have hb := X.1.2.1
  have hown := X.1.2.2.2.1
  have hts := X.1.2.2.2.2
  have hl : lv_has ls 3 [(0, .ref (ad 0)), (1, .int j), (2, .int u)] := hl
  refine lv_aload_n hx hb dX8_keeps_0 rfl (lv_at hl 0 rfl) ?_
  have f1 : w 0 = .inr (6, [.ref (ad 1), .ref (ad 14), .ref (ad 27), .ref (ad 54), .ref (ad 55), .ref (ad 58), .ref (ad 62), .long 0, .long 1, .int 0, .int 0, .int 0]) := F 0 (by decide)
  refine r_get kc8 X h 0 0 (by decide) rfl f1 (by decide) kw_5 rfl dX8_keeps_1 ?_
  refine lv_iload_n hx hb dX8_keeps_4 rfl (lv_at hl 1 rfl) ?_
  have f2 : w 1 = .inr (1, [.int 0, .int 0, .int 0, .int 0, .int 0, .ref (ad 2), .ref (ad 3), .ref (ad 4), .ref (ad 5), .ref (ad 6), .ref (ad 7), .ref (ad 8), .ref (ad 10), .ref (ad 12)]) := F 1 (by decide)
  refine q_Vi (na := 1) (As := [.int j]) (rest := []) X hD hN h rfl (c_hasJar l G cI cB cZ cO ad w 1 _ _ _ _ _ _ j 0 rfl (by decide) f2) ⟨kw_16, kw_17, kw_18, kw_9, kw_19⟩ rfl ⟨by decide, by decide, by decide⟩ ⟨Nat.le_of_ble_eq_true rfl, Nat.le_of_ble_eq_true rfl⟩ ⟨Nat.zero_le _, Nat.zero_le _⟩ (by decide) f2 rfl rfl hl.1 rfl (Nat.le_of_ble_eq_true rfl) dX8_keeps_5 (fun r3 w4 H locs hp5 h => ?_)
  obtain ⟨e6, hp5⟩ := hp5
  rcases hp5 with ⟨hq7a, hq7b, rfl⟩ | ⟨hq7, rfl⟩
  · exfalso; omega
  · refine lv_if_eq (tgt := 21) hx hb dX8_keeps_8 (by decide) (fun _ => ?_) (fun hc => absurd (by decide) hc)
    refine lv_aload_n hx hb dX8_keeps_21 rfl (lv_at hl 0 rfl) ?_
    refine lv_bipush (v := (-2)) hx hb dX8_keeps_22 (by decide) ?_
    have f8 : w4 0 = .inr (6, [.ref (ad 1), .ref (ad 14), .ref (ad 27), .ref (ad 54), .ref (ad 55), .ref (ad 58), .ref (ad 62), .long 0, .long 1, .int 0, .int 0, .int 0]) := by rw [e6]; exact f1
    refine q_Vi (na := 1) (As := [.int (-2)]) (rest := []) X hD hN h rfl (c_refused l G cI cB cZ cO ad w4 _ _ _ _ _ _ _ _ _ _ _ _ (-2) f8) ⟨kw_11, kw_12, kw_13, kw_14, kw_15⟩ rfl ⟨by decide, by decide, by decide⟩ ⟨Nat.le_of_ble_eq_true rfl, Nat.le_of_ble_eq_true rfl⟩ ⟨Nat.zero_le _, Nat.zero_le _⟩ (by decide) f8 rfl rfl hl.1 rfl (Nat.le_of_ble_eq_true rfl) dX8_keeps_24 (fun r9 w10 H locs hp11 h => ?_)
    obtain ⟨rfl, x12, y13, z14, e15⟩ := hp11
    have f16 : w10 0 = .inr (6, [.ref (ad 1), .ref (ad 14), .ref (ad 27), .ref (ad 54), .ref (ad 55), .ref (ad 58), .ref (ad 62), .long 0, .long 1, .int x12, .int y13, .int z14]) := (congrFun e15 _).trans (va_up_self _ _ _)
    exact e_i X h hr hlk dX8_keeps_27 ⟨rfl, fun k hk => ((congrFun e15 k).trans (va_up_ne _ _ (by omega))).trans (congrFun e6 k)⟩

set_option maxHeartbeats 4000000 in
set_option maxRecDepth 100000 in
theorem c_X_when (l : Launch) (G : va_G) (cI cB cZ cO : ClassId) (ad : Nat → Nat) (w : Nat → va_E) (F : ∀ k, k < 74 → w k = fr0 cI cB cZ cO ad k) (i : Int32) : MI l G (tyq cI cB cZ cO) yX8_when cX8_when 4 (some .int) 1 21 74 ad w [.ref (ad 0), .int i] (fun r w1 => r = (-2) ∧ ∀ k, 64 ≤ k → w1 k = w k) := by
  refine mk_i (own := "NoonShade") rfl (by decide) (Nat.le_of_ble_eq_true rfl) ?_
  intro p e s m below meth c ls X hD hN hr hlk h hl
  have hx := X.1.1
  have hb := X.1.2.1
  have hown := X.1.2.2.2.1
  have hts := X.1.2.2.2.2
  have hl : lv_has ls 4 [(0, .ref (ad 0)), (1, .int i)] := hl
  refine lv_aload_n hx hb dX8_when_0 rfl (lv_at hl 0 rfl) ?_
  have f1 : w 0 = .inr (6, [.ref (ad 1), .ref (ad 14), .ref (ad 27), .ref (ad 54), .ref (ad 55), .ref (ad 58), .ref (ad 62), .long 0, .long 1, .int 0, .int 0, .int 0]) := F 0 (by decide)
  refine r_get kc8 X h 0 0 (by decide) rfl f1 (by decide) kw_5 rfl dX8_when_1 ?_
  refine lv_iload_n hx hb dX8_when_4 rfl (lv_at hl 1 rfl) ?_
  have f2 : w 1 = .inr (1, [.int 0, .int 0, .int 0, .int 0, .int 0, .ref (ad 2), .ref (ad 3), .ref (ad 4), .ref (ad 5), .ref (ad 6), .ref (ad 7), .ref (ad 8), .ref (ad 10), .ref (ad 12)]) := F 1 (by decide)
  refine q_Vi (na := 1) (As := [.int i]) (rest := []) X hD hN h rfl (c_hasCaster l G cI cB cZ cO ad w 1 _ _ _ _ _ _ i 0 rfl (by decide) f2) ⟨kw_6, kw_7, kw_8, kw_9, kw_10⟩ rfl ⟨by decide, by decide, by decide⟩ ⟨Nat.le_of_ble_eq_true rfl, Nat.le_of_ble_eq_true rfl⟩ ⟨Nat.zero_le _, Nat.zero_le _⟩ (by decide) f2 rfl rfl hl.1 rfl (Nat.le_of_ble_eq_true rfl) dX8_when_5 (fun r3 w4 H locs hp5 h => ?_)
  obtain ⟨e6, hp5⟩ := hp5
  rcases hp5 with ⟨hq7a, hq7b, rfl⟩ | ⟨hq7, rfl⟩
  · exfalso; omega
  · refine lv_if_ne (tgt := 18) hx hb dX8_when_8 (by decide) (fun hc => absurd (by decide) hc) (fun _ => ?_)
    refine lv_aload_n hx hb dX8_when_11 rfl (lv_at hl 0 rfl) ?_
    refine lv_bipush (v := (-2)) hx hb dX8_when_12 (by decide) ?_
    have f8 : w4 0 = .inr (6, [.ref (ad 1), .ref (ad 14), .ref (ad 27), .ref (ad 54), .ref (ad 55), .ref (ad 58), .ref (ad 62), .long 0, .long 1, .int 0, .int 0, .int 0]) := by rw [e6]; exact f1
    refine q_Vi (na := 1) (As := [.int (-2)]) (rest := []) X hD hN h rfl (c_refused l G cI cB cZ cO ad w4 _ _ _ _ _ _ _ _ _ _ _ _ (-2) f8) ⟨kw_11, kw_12, kw_13, kw_14, kw_15⟩ rfl ⟨by decide, by decide, by decide⟩ ⟨Nat.le_of_ble_eq_true rfl, Nat.le_of_ble_eq_true rfl⟩ ⟨Nat.zero_le _, Nat.zero_le _⟩ (by decide) f8 rfl rfl hl.1 rfl (Nat.le_of_ble_eq_true rfl) dX8_when_14 (fun r9 w10 H locs hp11 h => ?_)
    obtain ⟨rfl, x12, y13, z14, e15⟩ := hp11
    have f16 : w10 0 = .inr (6, [.ref (ad 1), .ref (ad 14), .ref (ad 27), .ref (ad 54), .ref (ad 55), .ref (ad 58), .ref (ad 62), .long 0, .long 1, .int x12, .int y13, .int z14]) := (congrFun e15 _).trans (va_up_self _ _ _)
    exact e_i X h hr hlk dX8_when_17 ⟨rfl, fun k hk => ((congrFun e15 k).trans (va_up_ne _ _ (by omega))).trans (congrFun e6 k)⟩

set_option maxHeartbeats 4000000 in
set_option maxRecDepth 100000 in
theorem c_X_gone (l : Launch) (G : va_G) (cI cB cZ cO : ClassId) (ad : Nat → Nat) (w : Nat → va_E) (F : ∀ k, k < 74 → w k = fr0 cI cB cZ cO ad k) (j : Int32) : MI l G (tyq cI cB cZ cO) yX8_gone cX8_gone 4 (some .int) 1 21 74 ad w [.ref (ad 0), .int j] (fun r w1 => r = (-2) ∧ ∀ k, 64 ≤ k → w1 k = w k) := by
  refine mk_i (own := "NoonShade") rfl (by decide) (Nat.le_of_ble_eq_true rfl) ?_
  intro p e s m below meth c ls X hD hN hr hlk h hl
  have hx := X.1.1
  have hb := X.1.2.1
  have hown := X.1.2.2.2.1
  have hts := X.1.2.2.2.2
  have hl : lv_has ls 4 [(0, .ref (ad 0)), (1, .int j)] := hl
  refine lv_aload_n hx hb dX8_gone_0 rfl (lv_at hl 0 rfl) ?_
  have f1 : w 0 = .inr (6, [.ref (ad 1), .ref (ad 14), .ref (ad 27), .ref (ad 54), .ref (ad 55), .ref (ad 58), .ref (ad 62), .long 0, .long 1, .int 0, .int 0, .int 0]) := F 0 (by decide)
  refine r_get kc8 X h 0 0 (by decide) rfl f1 (by decide) kw_5 rfl dX8_gone_1 ?_
  refine lv_iload_n hx hb dX8_gone_4 rfl (lv_at hl 1 rfl) ?_
  have f2 : w 1 = .inr (1, [.int 0, .int 0, .int 0, .int 0, .int 0, .ref (ad 2), .ref (ad 3), .ref (ad 4), .ref (ad 5), .ref (ad 6), .ref (ad 7), .ref (ad 8), .ref (ad 10), .ref (ad 12)]) := F 1 (by decide)
  refine q_Vi (na := 1) (As := [.int j]) (rest := []) X hD hN h rfl (c_hasJar l G cI cB cZ cO ad w 1 _ _ _ _ _ _ j 0 rfl (by decide) f2) ⟨kw_16, kw_17, kw_18, kw_9, kw_19⟩ rfl ⟨by decide, by decide, by decide⟩ ⟨Nat.le_of_ble_eq_true rfl, Nat.le_of_ble_eq_true rfl⟩ ⟨Nat.zero_le _, Nat.zero_le _⟩ (by decide) f2 rfl rfl hl.1 rfl (Nat.le_of_ble_eq_true rfl) dX8_gone_5 (fun r3 w4 H locs hp5 h => ?_)
  obtain ⟨e6, hp5⟩ := hp5
  rcases hp5 with ⟨hq7a, hq7b, rfl⟩ | ⟨hq7, rfl⟩
  · exfalso; omega
  · refine lv_if_ne (tgt := 18) hx hb dX8_gone_8 (by decide) (fun hc => absurd (by decide) hc) (fun _ => ?_)
    refine lv_aload_n hx hb dX8_gone_11 rfl (lv_at hl 0 rfl) ?_
    refine lv_bipush (v := (-2)) hx hb dX8_gone_12 (by decide) ?_
    have f8 : w4 0 = .inr (6, [.ref (ad 1), .ref (ad 14), .ref (ad 27), .ref (ad 54), .ref (ad 55), .ref (ad 58), .ref (ad 62), .long 0, .long 1, .int 0, .int 0, .int 0]) := by rw [e6]; exact f1
    refine q_Vi (na := 1) (As := [.int (-2)]) (rest := []) X hD hN h rfl (c_refused l G cI cB cZ cO ad w4 _ _ _ _ _ _ _ _ _ _ _ _ (-2) f8) ⟨kw_11, kw_12, kw_13, kw_14, kw_15⟩ rfl ⟨by decide, by decide, by decide⟩ ⟨Nat.le_of_ble_eq_true rfl, Nat.le_of_ble_eq_true rfl⟩ ⟨Nat.zero_le _, Nat.zero_le _⟩ (by decide) f8 rfl rfl hl.1 rfl (Nat.le_of_ble_eq_true rfl) dX8_gone_14 (fun r9 w10 H locs hp11 h => ?_)
    obtain ⟨rfl, x12, y13, z14, e15⟩ := hp11
    have f16 : w10 0 = .inr (6, [.ref (ad 1), .ref (ad 14), .ref (ad 27), .ref (ad 54), .ref (ad 55), .ref (ad 58), .ref (ad 62), .long 0, .long 1, .int x12, .int y13, .int z14]) := (congrFun e15 _).trans (va_up_self _ _ _)
    exact e_i X h hr hlk dX8_gone_17 ⟨rfl, fun k hk => ((congrFun e15 k).trans (va_up_ne _ _ (by omega))).trans (congrFun e6 k)⟩

set_option maxHeartbeats 4000000 in
set_option maxRecDepth 100000 in
theorem c_X_round (l : Launch) (G : va_G) (cI cB cZ cO : ClassId) (ad : Nat → Nat) (w : Nat → va_E) (F : ∀ k, k < 74 → w k = fr0 cI cB cZ cO ad k) (j n k : Int32) : MI l G (tyq cI cB cZ cO) yX8_round cX8_round 4 (some .int) 1 21 74 ad w [.ref (ad 0), .int j, .int n, .int k] (fun r w1 => r = (-10) ∧ ∀ k, 64 ≤ k → w1 k = w k) := by
  refine mk_i (own := "NoonShade") rfl (by decide) (Nat.le_of_ble_eq_true rfl) ?_
  intro p e s m below meth c ls X hD hN hr hlk h hl
  have hx := X.1.1
  have hb := X.1.2.1
  have hown := X.1.2.2.2.1
  have hts := X.1.2.2.2.2
  have hl : lv_has ls 4 [(0, .ref (ad 0)), (1, .int j), (2, .int n), (3, .int k)] := hl
  refine lv_aload_n hx hb dX8_round_0 rfl (lv_at hl 0 rfl) ?_
  have f1 : w 0 = .inr (6, [.ref (ad 1), .ref (ad 14), .ref (ad 27), .ref (ad 54), .ref (ad 55), .ref (ad 58), .ref (ad 62), .long 0, .long 1, .int 0, .int 0, .int 0]) := F 0 (by decide)
  refine r_get kc8 X h 0 0 (by decide) rfl f1 (by decide) kw_5 rfl dX8_round_1 ?_
  refine lv_iload_n hx hb dX8_round_4 rfl (lv_at hl 1 rfl) ?_
  have f2 : w 1 = .inr (1, [.int 0, .int 0, .int 0, .int 0, .int 0, .ref (ad 2), .ref (ad 3), .ref (ad 4), .ref (ad 5), .ref (ad 6), .ref (ad 7), .ref (ad 8), .ref (ad 10), .ref (ad 12)]) := F 1 (by decide)
  refine q_Vi (na := 1) (As := [.int j]) (rest := []) X hD hN h rfl (c_hasJar l G cI cB cZ cO ad w 1 _ _ _ _ _ _ j 0 rfl (by decide) f2) ⟨kw_16, kw_17, kw_18, kw_9, kw_19⟩ rfl ⟨by decide, by decide, by decide⟩ ⟨Nat.le_of_ble_eq_true rfl, Nat.le_of_ble_eq_true rfl⟩ ⟨Nat.zero_le _, Nat.zero_le _⟩ (by decide) f2 rfl rfl hl.1 rfl (Nat.le_of_ble_eq_true rfl) dX8_round_5 (fun r3 w4 H locs hp5 h => ?_)
  obtain ⟨e6, hp5⟩ := hp5
  rcases hp5 with ⟨hq7a, hq7b, rfl⟩ | ⟨hq7, rfl⟩
  · exfalso; omega
  · refine lv_if_eq (tgt := 30) hx hb dX8_round_8 (by decide) (fun _ => ?_) (fun hc => absurd (by decide) hc)
    refine lv_aload_n hx hb dX8_round_30 rfl (lv_at hl 0 rfl) ?_
    refine lv_bipush (v := (-2)) hx hb dX8_round_31 (by decide) ?_
    have f8 : w4 0 = .inr (6, [.ref (ad 1), .ref (ad 14), .ref (ad 27), .ref (ad 54), .ref (ad 55), .ref (ad 58), .ref (ad 62), .long 0, .long 1, .int 0, .int 0, .int 0]) := by rw [e6]; exact f1
    refine q_Vi (na := 1) (As := [.int (-2)]) (rest := []) X hD hN h rfl (c_refused l G cI cB cZ cO ad w4 _ _ _ _ _ _ _ _ _ _ _ _ (-2) f8) ⟨kw_11, kw_12, kw_13, kw_14, kw_15⟩ rfl ⟨by decide, by decide, by decide⟩ ⟨Nat.le_of_ble_eq_true rfl, Nat.le_of_ble_eq_true rfl⟩ ⟨Nat.zero_le _, Nat.zero_le _⟩ (by decide) f8 rfl rfl hl.1 rfl (Nat.le_of_ble_eq_true rfl) dX8_round_33 (fun r9 w10 H locs hp11 h => ?_)
    obtain ⟨rfl, x12, y13, z14, e15⟩ := hp11
    have f16 : w10 0 = .inr (6, [.ref (ad 1), .ref (ad 14), .ref (ad 27), .ref (ad 54), .ref (ad 55), .ref (ad 58), .ref (ad 62), .long 0, .long 1, .int x12, .int y13, .int z14]) := (congrFun e15 _).trans (va_up_self _ _ _)
    refine lv_pop hx hb dX8_round_36 rfl ?_
    refine lv_bipush (v := (-10)) hx hb dX8_round_37 (by decide) ?_
    exact e_i X h hr hlk dX8_round_39 ⟨rfl, fun k hk => ((congrFun e15 k).trans (va_up_ne _ _ (by omega))).trans (congrFun e6 k)⟩

set_option maxHeartbeats 4000000 in
set_option maxRecDepth 100000 in
theorem c_X_few (l : Launch) (G : va_G) (cI cB cZ cO : ClassId) (ad : Nat → Nat) (w : Nat → va_E) (F : ∀ k, k < 74 → w k = fr0 cI cB cZ cO ad k) (j t x u : Int32) : MI l G (tyq cI cB cZ cO) yX8_few cX8_few 6 (some .int) 1 21 74 ad w [.ref (ad 0), .int j, .int t, .int x, .int u] (fun r w1 => r = (-2) ∧ ∀ k, 64 ≤ k → w1 k = w k) := by
  refine mk_i (own := "NoonShade") rfl (by decide) (Nat.le_of_ble_eq_true rfl) ?_
  intro p e s m below meth c ls X hD hN hr hlk h hl
  have hx := X.1.1
  have hb := X.1.2.1
  have hown := X.1.2.2.2.1
  have hts := X.1.2.2.2.2
  have hl : lv_has ls 6 [(0, .ref (ad 0)), (1, .int j), (2, .int t), (3, .int x), (4, .int u)] := hl
  refine lv_aload_n hx hb dX8_few_0 rfl (lv_at hl 0 rfl) ?_
  have f1 : w 0 = .inr (6, [.ref (ad 1), .ref (ad 14), .ref (ad 27), .ref (ad 54), .ref (ad 55), .ref (ad 58), .ref (ad 62), .long 0, .long 1, .int 0, .int 0, .int 0]) := F 0 (by decide)
  refine r_get kc8 X h 0 0 (by decide) rfl f1 (by decide) kw_5 rfl dX8_few_1 ?_
  refine lv_iload_n hx hb dX8_few_4 rfl (lv_at hl 1 rfl) ?_
  have f2 : w 1 = .inr (1, [.int 0, .int 0, .int 0, .int 0, .int 0, .ref (ad 2), .ref (ad 3), .ref (ad 4), .ref (ad 5), .ref (ad 6), .ref (ad 7), .ref (ad 8), .ref (ad 10), .ref (ad 12)]) := F 1 (by decide)
  refine q_Vi (na := 1) (As := [.int j]) (rest := []) X hD hN h rfl (c_hasJar l G cI cB cZ cO ad w 1 _ _ _ _ _ _ j 0 rfl (by decide) f2) ⟨kw_16, kw_17, kw_18, kw_9, kw_19⟩ rfl ⟨by decide, by decide, by decide⟩ ⟨Nat.le_of_ble_eq_true rfl, Nat.le_of_ble_eq_true rfl⟩ ⟨Nat.zero_le _, Nat.zero_le _⟩ (by decide) f2 rfl rfl hl.1 rfl (Nat.le_of_ble_eq_true rfl) dX8_few_5 (fun r3 w4 H locs hp5 h => ?_)
  obtain ⟨e6, hp5⟩ := hp5
  rcases hp5 with ⟨hq7a, hq7b, rfl⟩ | ⟨hq7, rfl⟩
  · exfalso; omega
  · refine lv_if_eq (tgt := 40) hx hb dX8_few_8 (by decide) (fun _ => ?_) (fun hc => absurd (by decide) hc)
    refine lv_aload_n hx hb dX8_few_40 rfl (lv_at hl 0 rfl) ?_
    refine lv_bipush (v := (-2)) hx hb dX8_few_41 (by decide) ?_
    have f8 : w4 0 = .inr (6, [.ref (ad 1), .ref (ad 14), .ref (ad 27), .ref (ad 54), .ref (ad 55), .ref (ad 58), .ref (ad 62), .long 0, .long 1, .int 0, .int 0, .int 0]) := by rw [e6]; exact f1
    refine q_Vi (na := 1) (As := [.int (-2)]) (rest := []) X hD hN h rfl (c_refused l G cI cB cZ cO ad w4 _ _ _ _ _ _ _ _ _ _ _ _ (-2) f8) ⟨kw_11, kw_12, kw_13, kw_14, kw_15⟩ rfl ⟨by decide, by decide, by decide⟩ ⟨Nat.le_of_ble_eq_true rfl, Nat.le_of_ble_eq_true rfl⟩ ⟨Nat.zero_le _, Nat.zero_le _⟩ (by decide) f8 rfl rfl hl.1 rfl (Nat.le_of_ble_eq_true rfl) dX8_few_43 (fun r9 w10 H locs hp11 h => ?_)
    obtain ⟨rfl, x12, y13, z14, e15⟩ := hp11
    have f16 : w10 0 = .inr (6, [.ref (ad 1), .ref (ad 14), .ref (ad 27), .ref (ad 54), .ref (ad 55), .ref (ad 58), .ref (ad 62), .long 0, .long 1, .int x12, .int y13, .int z14]) := (congrFun e15 _).trans (va_up_self _ _ _)
    exact e_i X h hr hlk dX8_few_46 ⟨rfl, fun k hk => ((congrFun e15 k).trans (va_up_ne _ _ (by omega))).trans (congrFun e6 k)⟩

set_option maxHeartbeats 4000000 in
set_option maxRecDepth 100000 in
theorem c_X_into (l : Launch) (G : va_G) (cI cB cZ cO : ClassId) (ad : Nat → Nat) (w : Nat → va_E) (F : ∀ k, k < 74 → w k = fr0 cI cB cZ cO ad k) (j u x : Int32) : MI l G (tyq cI cB cZ cO) yX8_into cX8_into 8 (some .int) 1 21 74 ad w [.ref (ad 0), .int j, .int u, .int x] (fun r w1 => r = (-2) ∧ ∀ k, 64 ≤ k → w1 k = w k) := by
  refine mk_i (own := "NoonShade") rfl (by decide) (Nat.le_of_ble_eq_true rfl) ?_
  intro p e s m below meth c ls X hD hN hr hlk h hl
  have hx := X.1.1
  have hb := X.1.2.1
  have hown := X.1.2.2.2.1
  have hts := X.1.2.2.2.2
  have hl : lv_has ls 8 [(0, .ref (ad 0)), (1, .int j), (2, .int u), (3, .int x)] := hl
  refine lv_aload_n hx hb dX8_into_0 rfl (lv_at hl 0 rfl) ?_
  have f1 : w 0 = .inr (6, [.ref (ad 1), .ref (ad 14), .ref (ad 27), .ref (ad 54), .ref (ad 55), .ref (ad 58), .ref (ad 62), .long 0, .long 1, .int 0, .int 0, .int 0]) := F 0 (by decide)
  refine r_get kc8 X h 0 0 (by decide) rfl f1 (by decide) kw_5 rfl dX8_into_1 ?_
  refine lv_iload_n hx hb dX8_into_4 rfl (lv_at hl 1 rfl) ?_
  have f2 : w 1 = .inr (1, [.int 0, .int 0, .int 0, .int 0, .int 0, .ref (ad 2), .ref (ad 3), .ref (ad 4), .ref (ad 5), .ref (ad 6), .ref (ad 7), .ref (ad 8), .ref (ad 10), .ref (ad 12)]) := F 1 (by decide)
  refine q_Vi (na := 1) (As := [.int j]) (rest := []) X hD hN h rfl (c_hasJar l G cI cB cZ cO ad w 1 _ _ _ _ _ _ j 0 rfl (by decide) f2) ⟨kw_16, kw_17, kw_18, kw_9, kw_19⟩ rfl ⟨by decide, by decide, by decide⟩ ⟨Nat.le_of_ble_eq_true rfl, Nat.le_of_ble_eq_true rfl⟩ ⟨Nat.zero_le _, Nat.zero_le _⟩ (by decide) f2 rfl rfl hl.1 rfl (Nat.le_of_ble_eq_true rfl) dX8_into_5 (fun r3 w4 H locs hp5 h => ?_)
  obtain ⟨e6, hp5⟩ := hp5
  rcases hp5 with ⟨hq7a, hq7b, rfl⟩ | ⟨hq7, rfl⟩
  · exfalso; omega
  · refine lv_if_eq (tgt := 30) hx hb dX8_into_8 (by decide) (fun _ => ?_) (fun hc => absurd (by decide) hc)
    refine lv_aload_n hx hb dX8_into_30 rfl (lv_at hl 0 rfl) ?_
    refine lv_bipush (v := (-2)) hx hb dX8_into_31 (by decide) ?_
    have f8 : w4 0 = .inr (6, [.ref (ad 1), .ref (ad 14), .ref (ad 27), .ref (ad 54), .ref (ad 55), .ref (ad 58), .ref (ad 62), .long 0, .long 1, .int 0, .int 0, .int 0]) := by rw [e6]; exact f1
    refine q_Vi (na := 1) (As := [.int (-2)]) (rest := []) X hD hN h rfl (c_refused l G cI cB cZ cO ad w4 _ _ _ _ _ _ _ _ _ _ _ _ (-2) f8) ⟨kw_11, kw_12, kw_13, kw_14, kw_15⟩ rfl ⟨by decide, by decide, by decide⟩ ⟨Nat.le_of_ble_eq_true rfl, Nat.le_of_ble_eq_true rfl⟩ ⟨Nat.zero_le _, Nat.zero_le _⟩ (by decide) f8 rfl rfl hl.1 rfl (Nat.le_of_ble_eq_true rfl) dX8_into_33 (fun r9 w10 H locs hp11 h => ?_)
    obtain ⟨rfl, x12, y13, z14, e15⟩ := hp11
    have f16 : w10 0 = .inr (6, [.ref (ad 1), .ref (ad 14), .ref (ad 27), .ref (ad 54), .ref (ad 55), .ref (ad 58), .ref (ad 62), .long 0, .long 1, .int x12, .int y13, .int z14]) := (congrFun e15 _).trans (va_up_self _ _ _)
    exact e_i X h hr hlk dX8_into_36 ⟨rfl, fun k hk => ((congrFun e15 k).trans (va_up_ne _ _ (by omega))).trans (congrFun e6 k)⟩

set_option maxHeartbeats 4000000 in
set_option maxRecDepth 100000 in
theorem c_X_note (l : Launch) (G : va_G) (cI cB cZ cO : ClassId) (ad : Nat → Nat) (w : Nat → va_E) (F : ∀ k, k < 74 → w k = fr0 cI cB cZ cO ad k) (i u t x : Int32) : MI l G (tyq cI cB cZ cO) yX8_note cX8_note 5 (some .int) 1 21 74 ad w [.ref (ad 0), .int i, .int u, .int t, .int x] (fun r w1 => r = (-2) ∧ ∀ k, 64 ≤ k → w1 k = w k) := by
  refine mk_i (own := "NoonShade") rfl (by decide) (Nat.le_of_ble_eq_true rfl) ?_
  intro p e s m below meth c ls X hD hN hr hlk h hl
  have hx := X.1.1
  have hb := X.1.2.1
  have hown := X.1.2.2.2.1
  have hts := X.1.2.2.2.2
  have hl : lv_has ls 5 [(0, .ref (ad 0)), (1, .int i), (2, .int u), (3, .int t), (4, .int x)] := hl
  refine lv_aload_n hx hb dX8_note_0 rfl (lv_at hl 0 rfl) ?_
  have f1 : w 0 = .inr (6, [.ref (ad 1), .ref (ad 14), .ref (ad 27), .ref (ad 54), .ref (ad 55), .ref (ad 58), .ref (ad 62), .long 0, .long 1, .int 0, .int 0, .int 0]) := F 0 (by decide)
  refine r_get kc8 X h 0 0 (by decide) rfl f1 (by decide) kw_5 rfl dX8_note_1 ?_
  refine lv_iload_n hx hb dX8_note_4 rfl (lv_at hl 1 rfl) ?_
  have f2 : w 1 = .inr (1, [.int 0, .int 0, .int 0, .int 0, .int 0, .ref (ad 2), .ref (ad 3), .ref (ad 4), .ref (ad 5), .ref (ad 6), .ref (ad 7), .ref (ad 8), .ref (ad 10), .ref (ad 12)]) := F 1 (by decide)
  refine q_Vi (na := 1) (As := [.int i]) (rest := []) X hD hN h rfl (c_hasCaster l G cI cB cZ cO ad w 1 _ _ _ _ _ _ i 0 rfl (by decide) f2) ⟨kw_6, kw_7, kw_8, kw_9, kw_10⟩ rfl ⟨by decide, by decide, by decide⟩ ⟨Nat.le_of_ble_eq_true rfl, Nat.le_of_ble_eq_true rfl⟩ ⟨Nat.zero_le _, Nat.zero_le _⟩ (by decide) f2 rfl rfl hl.1 rfl (Nat.le_of_ble_eq_true rfl) dX8_note_5 (fun r3 w4 H locs hp5 h => ?_)
  obtain ⟨e6, hp5⟩ := hp5
  rcases hp5 with ⟨hq7a, hq7b, rfl⟩ | ⟨hq7, rfl⟩
  · exfalso; omega
  · refine lv_if_eq (tgt := 42) hx hb dX8_note_8 (by decide) (fun _ => ?_) (fun hc => absurd (by decide) hc)
    refine lv_aload_n hx hb dX8_note_42 rfl (lv_at hl 0 rfl) ?_
    refine lv_bipush (v := (-2)) hx hb dX8_note_43 (by decide) ?_
    have f8 : w4 0 = .inr (6, [.ref (ad 1), .ref (ad 14), .ref (ad 27), .ref (ad 54), .ref (ad 55), .ref (ad 58), .ref (ad 62), .long 0, .long 1, .int 0, .int 0, .int 0]) := by rw [e6]; exact f1
    refine q_Vi (na := 1) (As := [.int (-2)]) (rest := []) X hD hN h rfl (c_refused l G cI cB cZ cO ad w4 _ _ _ _ _ _ _ _ _ _ _ _ (-2) f8) ⟨kw_11, kw_12, kw_13, kw_14, kw_15⟩ rfl ⟨by decide, by decide, by decide⟩ ⟨Nat.le_of_ble_eq_true rfl, Nat.le_of_ble_eq_true rfl⟩ ⟨Nat.zero_le _, Nat.zero_le _⟩ (by decide) f8 rfl rfl hl.1 rfl (Nat.le_of_ble_eq_true rfl) dX8_note_45 (fun r9 w10 H locs hp11 h => ?_)
    obtain ⟨rfl, x12, y13, z14, e15⟩ := hp11
    have f16 : w10 0 = .inr (6, [.ref (ad 1), .ref (ad 14), .ref (ad 27), .ref (ad 54), .ref (ad 55), .ref (ad 58), .ref (ad 62), .long 0, .long 1, .int x12, .int y13, .int z14]) := (congrFun e15 _).trans (va_up_self _ _ _)
    exact e_i X h hr hlk dX8_note_48 ⟨rfl, fun k hk => ((congrFun e15 k).trans (va_up_ne _ _ (by omega))).trans (congrFun e6 k)⟩

set_option maxHeartbeats 4000000 in
set_option maxRecDepth 100000 in
theorem c_X_mark (l : Launch) (G : va_G) (cI cB cZ cO : ClassId) (ad : Nat → Nat) (w : Nat → va_E) (F : ∀ k, k < 74 → w k = fr0 cI cB cZ cO ad k) (j u t x : Int32) : MI l G (tyq cI cB cZ cO) yX8_mark cX8_mark 5 (some .int) 1 21 74 ad w [.ref (ad 0), .int j, .int u, .int t, .int x] (fun r w1 => r = (-2) ∧ ∀ k, 64 ≤ k → w1 k = w k) := by
  refine mk_i (own := "NoonShade") rfl (by decide) (Nat.le_of_ble_eq_true rfl) ?_
  intro p e s m below meth c ls X hD hN hr hlk h hl
  have hx := X.1.1
  have hb := X.1.2.1
  have hown := X.1.2.2.2.1
  have hts := X.1.2.2.2.2
  have hl : lv_has ls 5 [(0, .ref (ad 0)), (1, .int j), (2, .int u), (3, .int t), (4, .int x)] := hl
  refine lv_aload_n hx hb dX8_mark_0 rfl (lv_at hl 0 rfl) ?_
  have f1 : w 0 = .inr (6, [.ref (ad 1), .ref (ad 14), .ref (ad 27), .ref (ad 54), .ref (ad 55), .ref (ad 58), .ref (ad 62), .long 0, .long 1, .int 0, .int 0, .int 0]) := F 0 (by decide)
  refine r_get kc8 X h 0 0 (by decide) rfl f1 (by decide) kw_5 rfl dX8_mark_1 ?_
  refine lv_iload_n hx hb dX8_mark_4 rfl (lv_at hl 1 rfl) ?_
  have f2 : w 1 = .inr (1, [.int 0, .int 0, .int 0, .int 0, .int 0, .ref (ad 2), .ref (ad 3), .ref (ad 4), .ref (ad 5), .ref (ad 6), .ref (ad 7), .ref (ad 8), .ref (ad 10), .ref (ad 12)]) := F 1 (by decide)
  refine q_Vi (na := 1) (As := [.int j]) (rest := []) X hD hN h rfl (c_hasJar l G cI cB cZ cO ad w 1 _ _ _ _ _ _ j 0 rfl (by decide) f2) ⟨kw_16, kw_17, kw_18, kw_9, kw_19⟩ rfl ⟨by decide, by decide, by decide⟩ ⟨Nat.le_of_ble_eq_true rfl, Nat.le_of_ble_eq_true rfl⟩ ⟨Nat.zero_le _, Nat.zero_le _⟩ (by decide) f2 rfl rfl hl.1 rfl (Nat.le_of_ble_eq_true rfl) dX8_mark_5 (fun r3 w4 H locs hp5 h => ?_)
  obtain ⟨e6, hp5⟩ := hp5
  rcases hp5 with ⟨hq7a, hq7b, rfl⟩ | ⟨hq7, rfl⟩
  · exfalso; omega
  · refine lv_if_eq (tgt := 42) hx hb dX8_mark_8 (by decide) (fun _ => ?_) (fun hc => absurd (by decide) hc)
    refine lv_aload_n hx hb dX8_mark_42 rfl (lv_at hl 0 rfl) ?_
    refine lv_bipush (v := (-2)) hx hb dX8_mark_43 (by decide) ?_
    have f8 : w4 0 = .inr (6, [.ref (ad 1), .ref (ad 14), .ref (ad 27), .ref (ad 54), .ref (ad 55), .ref (ad 58), .ref (ad 62), .long 0, .long 1, .int 0, .int 0, .int 0]) := by rw [e6]; exact f1
    refine q_Vi (na := 1) (As := [.int (-2)]) (rest := []) X hD hN h rfl (c_refused l G cI cB cZ cO ad w4 _ _ _ _ _ _ _ _ _ _ _ _ (-2) f8) ⟨kw_11, kw_12, kw_13, kw_14, kw_15⟩ rfl ⟨by decide, by decide, by decide⟩ ⟨Nat.le_of_ble_eq_true rfl, Nat.le_of_ble_eq_true rfl⟩ ⟨Nat.zero_le _, Nat.zero_le _⟩ (by decide) f8 rfl rfl hl.1 rfl (Nat.le_of_ble_eq_true rfl) dX8_mark_45 (fun r9 w10 H locs hp11 h => ?_)
    obtain ⟨rfl, x12, y13, z14, e15⟩ := hp11
    have f16 : w10 0 = .inr (6, [.ref (ad 1), .ref (ad 14), .ref (ad 27), .ref (ad 54), .ref (ad 55), .ref (ad 58), .ref (ad 62), .long 0, .long 1, .int x12, .int y13, .int z14]) := (congrFun e15 _).trans (va_up_self _ _ _)
    exact e_i X h hr hlk dX8_mark_48 ⟨rfl, fun k hk => ((congrFun e15 k).trans (va_up_ne _ _ (by omega))).trans (congrFun e6 k)⟩

set_option maxHeartbeats 4000000 in
set_option maxRecDepth 100000 in
theorem c_X_is (l : Launch) (G : va_G) (cI cB cZ cO : ClassId) (ad : Nat → Nat) (w : Nat → va_E) (F : ∀ k, k < 74 → w k = fr0 cI cB cZ cO ad k) (i : Int32) : MI l G (tyq cI cB cZ cO) yX8_is cX8_is 2 (some .int) 1 21 74 ad w [.ref (ad 0), .int i] (fun r w1 => r = (-2) ∧ ∀ k, 64 ≤ k → w1 k = w k) := by
  refine mk_i (own := "NoonShade") rfl (by decide) (Nat.le_of_ble_eq_true rfl) ?_
  intro p e s m below meth c ls X hD hN hr hlk h hl
  have hx := X.1.1
  have hb := X.1.2.1
  have hown := X.1.2.2.2.1
  have hts := X.1.2.2.2.2
  have hl : lv_has ls 2 [(0, .ref (ad 0)), (1, .int i)] := hl
  refine lv_aload_n hx hb dX8_is_0 rfl (lv_at hl 0 rfl) ?_
  have f1 : w 0 = .inr (6, [.ref (ad 1), .ref (ad 14), .ref (ad 27), .ref (ad 54), .ref (ad 55), .ref (ad 58), .ref (ad 62), .long 0, .long 1, .int 0, .int 0, .int 0]) := F 0 (by decide)
  refine r_get kc8 X h 0 0 (by decide) rfl f1 (by decide) kw_5 rfl dX8_is_1 ?_
  refine lv_iload_n hx hb dX8_is_4 rfl (lv_at hl 1 rfl) ?_
  have f2 : w 1 = .inr (1, [.int 0, .int 0, .int 0, .int 0, .int 0, .ref (ad 2), .ref (ad 3), .ref (ad 4), .ref (ad 5), .ref (ad 6), .ref (ad 7), .ref (ad 8), .ref (ad 10), .ref (ad 12)]) := F 1 (by decide)
  refine q_Vi (na := 1) (As := [.int i]) (rest := []) X hD hN h rfl (c_hasCaster l G cI cB cZ cO ad w 1 _ _ _ _ _ _ i 0 rfl (by decide) f2) ⟨kw_6, kw_7, kw_8, kw_9, kw_10⟩ rfl ⟨by decide, by decide, by decide⟩ ⟨Nat.le_of_ble_eq_true rfl, Nat.le_of_ble_eq_true rfl⟩ ⟨Nat.zero_le _, Nat.zero_le _⟩ (by decide) f2 rfl rfl hl.1 rfl (Nat.le_of_ble_eq_true rfl) dX8_is_5 (fun r3 w4 H locs hp5 h => ?_)
  obtain ⟨e6, hp5⟩ := hp5
  rcases hp5 with ⟨hq7a, hq7b, rfl⟩ | ⟨hq7, rfl⟩
  · exfalso; omega
  · refine lv_if_ne (tgt := 18) hx hb dX8_is_8 (by decide) (fun hc => absurd (by decide) hc) (fun _ => ?_)
    refine lv_aload_n hx hb dX8_is_11 rfl (lv_at hl 0 rfl) ?_
    refine lv_bipush (v := (-2)) hx hb dX8_is_12 (by decide) ?_
    have f8 : w4 0 = .inr (6, [.ref (ad 1), .ref (ad 14), .ref (ad 27), .ref (ad 54), .ref (ad 55), .ref (ad 58), .ref (ad 62), .long 0, .long 1, .int 0, .int 0, .int 0]) := by rw [e6]; exact f1
    refine q_Vi (na := 1) (As := [.int (-2)]) (rest := []) X hD hN h rfl (c_refused l G cI cB cZ cO ad w4 _ _ _ _ _ _ _ _ _ _ _ _ (-2) f8) ⟨kw_11, kw_12, kw_13, kw_14, kw_15⟩ rfl ⟨by decide, by decide, by decide⟩ ⟨Nat.le_of_ble_eq_true rfl, Nat.le_of_ble_eq_true rfl⟩ ⟨Nat.zero_le _, Nat.zero_le _⟩ (by decide) f8 rfl rfl hl.1 rfl (Nat.le_of_ble_eq_true rfl) dX8_is_14 (fun r9 w10 H locs hp11 h => ?_)
    obtain ⟨rfl, x12, y13, z14, e15⟩ := hp11
    have f16 : w10 0 = .inr (6, [.ref (ad 1), .ref (ad 14), .ref (ad 27), .ref (ad 54), .ref (ad 55), .ref (ad 58), .ref (ad 62), .long 0, .long 1, .int x12, .int y13, .int z14]) := (congrFun e15 _).trans (va_up_self _ _ _)
    exact e_i X h hr hlk dX8_is_17 ⟨rfl, fun k hk => ((congrFun e15 k).trans (va_up_ne _ _ (by omega))).trans (congrFun e6 k)⟩

set_option maxHeartbeats 4000000 in
set_option maxRecDepth 100000 in
theorem c_X_look (l : Launch) (G : va_G) (cI cB cZ cO : ClassId) (ad : Nat → Nat) (w : Nat → va_E) (F : ∀ k, k < 74 → w k = fr0 cI cB cZ cO ad k) (i : Int32) : MI l G (tyq cI cB cZ cO) yX8_look cX8_look 4 (some .int) 1 21 74 ad w [.ref (ad 0), .int i] (fun r w1 => r = (-2) ∧ ∀ k, 64 ≤ k → w1 k = w k) := by
  refine mk_i (own := "NoonShade") rfl (by decide) (Nat.le_of_ble_eq_true rfl) ?_
  intro p e s m below meth c ls X hD hN hr hlk h hl
  have hx := X.1.1
  have hb := X.1.2.1
  have hown := X.1.2.2.2.1
  have hts := X.1.2.2.2.2
  have hl : lv_has ls 4 [(0, .ref (ad 0)), (1, .int i)] := hl
  refine lv_aload_n hx hb dX8_look_0 rfl (lv_at hl 0 rfl) ?_
  have f1 : w 0 = .inr (6, [.ref (ad 1), .ref (ad 14), .ref (ad 27), .ref (ad 54), .ref (ad 55), .ref (ad 58), .ref (ad 62), .long 0, .long 1, .int 0, .int 0, .int 0]) := F 0 (by decide)
  refine r_get kc8 X h 0 0 (by decide) rfl f1 (by decide) kw_5 rfl dX8_look_1 ?_
  refine lv_iload_n hx hb dX8_look_4 rfl (lv_at hl 1 rfl) ?_
  have f2 : w 1 = .inr (1, [.int 0, .int 0, .int 0, .int 0, .int 0, .ref (ad 2), .ref (ad 3), .ref (ad 4), .ref (ad 5), .ref (ad 6), .ref (ad 7), .ref (ad 8), .ref (ad 10), .ref (ad 12)]) := F 1 (by decide)
  refine q_Vi (na := 1) (As := [.int i]) (rest := []) X hD hN h rfl (c_hasCaster l G cI cB cZ cO ad w 1 _ _ _ _ _ _ i 0 rfl (by decide) f2) ⟨kw_6, kw_7, kw_8, kw_9, kw_10⟩ rfl ⟨by decide, by decide, by decide⟩ ⟨Nat.le_of_ble_eq_true rfl, Nat.le_of_ble_eq_true rfl⟩ ⟨Nat.zero_le _, Nat.zero_le _⟩ (by decide) f2 rfl rfl hl.1 rfl (Nat.le_of_ble_eq_true rfl) dX8_look_5 (fun r3 w4 H locs hp5 h => ?_)
  obtain ⟨e6, hp5⟩ := hp5
  rcases hp5 with ⟨hq7a, hq7b, rfl⟩ | ⟨hq7, rfl⟩
  · exfalso; omega
  · refine lv_if_ne (tgt := 18) hx hb dX8_look_8 (by decide) (fun hc => absurd (by decide) hc) (fun _ => ?_)
    refine lv_aload_n hx hb dX8_look_11 rfl (lv_at hl 0 rfl) ?_
    refine lv_bipush (v := (-2)) hx hb dX8_look_12 (by decide) ?_
    have f8 : w4 0 = .inr (6, [.ref (ad 1), .ref (ad 14), .ref (ad 27), .ref (ad 54), .ref (ad 55), .ref (ad 58), .ref (ad 62), .long 0, .long 1, .int 0, .int 0, .int 0]) := by rw [e6]; exact f1
    refine q_Vi (na := 1) (As := [.int (-2)]) (rest := []) X hD hN h rfl (c_refused l G cI cB cZ cO ad w4 _ _ _ _ _ _ _ _ _ _ _ _ (-2) f8) ⟨kw_11, kw_12, kw_13, kw_14, kw_15⟩ rfl ⟨by decide, by decide, by decide⟩ ⟨Nat.le_of_ble_eq_true rfl, Nat.le_of_ble_eq_true rfl⟩ ⟨Nat.zero_le _, Nat.zero_le _⟩ (by decide) f8 rfl rfl hl.1 rfl (Nat.le_of_ble_eq_true rfl) dX8_look_14 (fun r9 w10 H locs hp11 h => ?_)
    obtain ⟨rfl, x12, y13, z14, e15⟩ := hp11
    have f16 : w10 0 = .inr (6, [.ref (ad 1), .ref (ad 14), .ref (ad 27), .ref (ad 54), .ref (ad 55), .ref (ad 58), .ref (ad 62), .long 0, .long 1, .int x12, .int y13, .int z14]) := (congrFun e15 _).trans (va_up_self _ _ _)
    exact e_i X h hr hlk dX8_look_17 ⟨rfl, fun k hk => ((congrFun e15 k).trans (va_up_ne _ _ (by omega))).trans (congrFun e6 k)⟩

set_option maxHeartbeats 4000000 in
set_option maxRecDepth 100000 in
theorem c_X_kinds (l : Launch) (G : va_G) (cI cB cZ cO : ClassId) (ad : Nat → Nat) (w : Nat → va_E) (F : ∀ k, k < 74 → w k = fr0 cI cB cZ cO ad k) (j : Int32) : MI l G (tyq cI cB cZ cO) yX8_kinds cX8_kinds 2 (some .int) 1 21 74 ad w [.ref (ad 0), .int j] (fun r w1 => r = (-2) ∧ ∀ k, 64 ≤ k → w1 k = w k) := by
  refine mk_i (own := "NoonShade") rfl (by decide) (Nat.le_of_ble_eq_true rfl) ?_
  intro p e s m below meth c ls X hD hN hr hlk h hl
  have hx := X.1.1
  have hb := X.1.2.1
  have hown := X.1.2.2.2.1
  have hts := X.1.2.2.2.2
  have hl : lv_has ls 2 [(0, .ref (ad 0)), (1, .int j)] := hl
  refine lv_aload_n hx hb dX8_kinds_0 rfl (lv_at hl 0 rfl) ?_
  have f1 : w 0 = .inr (6, [.ref (ad 1), .ref (ad 14), .ref (ad 27), .ref (ad 54), .ref (ad 55), .ref (ad 58), .ref (ad 62), .long 0, .long 1, .int 0, .int 0, .int 0]) := F 0 (by decide)
  refine r_get kc8 X h 0 0 (by decide) rfl f1 (by decide) kw_5 rfl dX8_kinds_1 ?_
  refine lv_iload_n hx hb dX8_kinds_4 rfl (lv_at hl 1 rfl) ?_
  have f2 : w 1 = .inr (1, [.int 0, .int 0, .int 0, .int 0, .int 0, .ref (ad 2), .ref (ad 3), .ref (ad 4), .ref (ad 5), .ref (ad 6), .ref (ad 7), .ref (ad 8), .ref (ad 10), .ref (ad 12)]) := F 1 (by decide)
  refine q_Vi (na := 1) (As := [.int j]) (rest := []) X hD hN h rfl (c_hasJar l G cI cB cZ cO ad w 1 _ _ _ _ _ _ j 0 rfl (by decide) f2) ⟨kw_16, kw_17, kw_18, kw_9, kw_19⟩ rfl ⟨by decide, by decide, by decide⟩ ⟨Nat.le_of_ble_eq_true rfl, Nat.le_of_ble_eq_true rfl⟩ ⟨Nat.zero_le _, Nat.zero_le _⟩ (by decide) f2 rfl rfl hl.1 rfl (Nat.le_of_ble_eq_true rfl) dX8_kinds_5 (fun r3 w4 H locs hp5 h => ?_)
  obtain ⟨e6, hp5⟩ := hp5
  rcases hp5 with ⟨hq7a, hq7b, rfl⟩ | ⟨hq7, rfl⟩
  · exfalso; omega
  · refine lv_if_ne (tgt := 18) hx hb dX8_kinds_8 (by decide) (fun hc => absurd (by decide) hc) (fun _ => ?_)
    refine lv_aload_n hx hb dX8_kinds_11 rfl (lv_at hl 0 rfl) ?_
    refine lv_bipush (v := (-2)) hx hb dX8_kinds_12 (by decide) ?_
    have f8 : w4 0 = .inr (6, [.ref (ad 1), .ref (ad 14), .ref (ad 27), .ref (ad 54), .ref (ad 55), .ref (ad 58), .ref (ad 62), .long 0, .long 1, .int 0, .int 0, .int 0]) := by rw [e6]; exact f1
    refine q_Vi (na := 1) (As := [.int (-2)]) (rest := []) X hD hN h rfl (c_refused l G cI cB cZ cO ad w4 _ _ _ _ _ _ _ _ _ _ _ _ (-2) f8) ⟨kw_11, kw_12, kw_13, kw_14, kw_15⟩ rfl ⟨by decide, by decide, by decide⟩ ⟨Nat.le_of_ble_eq_true rfl, Nat.le_of_ble_eq_true rfl⟩ ⟨Nat.zero_le _, Nat.zero_le _⟩ (by decide) f8 rfl rfl hl.1 rfl (Nat.le_of_ble_eq_true rfl) dX8_kinds_14 (fun r9 w10 H locs hp11 h => ?_)
    obtain ⟨rfl, x12, y13, z14, e15⟩ := hp11
    have f16 : w10 0 = .inr (6, [.ref (ad 1), .ref (ad 14), .ref (ad 27), .ref (ad 54), .ref (ad 55), .ref (ad 58), .ref (ad 62), .long 0, .long 1, .int x12, .int y13, .int z14]) := (congrFun e15 _).trans (va_up_self _ _ _)
    exact e_i X h hr hlk dX8_kinds_17 ⟨rfl, fun k hk => ((congrFun e15 k).trans (va_up_ne _ _ (by omega))).trans (congrFun e6 k)⟩

set_option maxHeartbeats 4000000 in
set_option maxRecDepth 100000 in
theorem c_X_ask (l : Launch) (G : va_G) (cI cB cZ cO : ClassId) (ad : Nat → Nat) (w : Nat → va_E) (F : ∀ k, k < 74 → w k = fr0 cI cB cZ cO ad k) (j : Int32) : MI l G (tyq cI cB cZ cO) yX8_ask cX8_ask 3 (some .int) 1 21 74 ad w [.ref (ad 0), .int j] (fun r w1 => r = (-2) ∧ ∀ k, 64 ≤ k → w1 k = w k) := by
  refine mk_i (own := "NoonShade") rfl (by decide) (Nat.le_of_ble_eq_true rfl) ?_
  intro p e s m below meth c ls X hD hN hr hlk h hl
  have hx := X.1.1
  have hb := X.1.2.1
  have hown := X.1.2.2.2.1
  have hts := X.1.2.2.2.2
  have hl : lv_has ls 3 [(0, .ref (ad 0)), (1, .int j)] := hl
  refine lv_aload_n hx hb dX8_ask_0 rfl (lv_at hl 0 rfl) ?_
  have f1 : w 0 = .inr (6, [.ref (ad 1), .ref (ad 14), .ref (ad 27), .ref (ad 54), .ref (ad 55), .ref (ad 58), .ref (ad 62), .long 0, .long 1, .int 0, .int 0, .int 0]) := F 0 (by decide)
  refine r_get kc8 X h 0 0 (by decide) rfl f1 (by decide) kw_5 rfl dX8_ask_1 ?_
  refine lv_iload_n hx hb dX8_ask_4 rfl (lv_at hl 1 rfl) ?_
  have f2 : w 1 = .inr (1, [.int 0, .int 0, .int 0, .int 0, .int 0, .ref (ad 2), .ref (ad 3), .ref (ad 4), .ref (ad 5), .ref (ad 6), .ref (ad 7), .ref (ad 8), .ref (ad 10), .ref (ad 12)]) := F 1 (by decide)
  refine q_Vi (na := 1) (As := [.int j]) (rest := []) X hD hN h rfl (c_hasJar l G cI cB cZ cO ad w 1 _ _ _ _ _ _ j 0 rfl (by decide) f2) ⟨kw_16, kw_17, kw_18, kw_9, kw_19⟩ rfl ⟨by decide, by decide, by decide⟩ ⟨Nat.le_of_ble_eq_true rfl, Nat.le_of_ble_eq_true rfl⟩ ⟨Nat.zero_le _, Nat.zero_le _⟩ (by decide) f2 rfl rfl hl.1 rfl (Nat.le_of_ble_eq_true rfl) dX8_ask_5 (fun r3 w4 H locs hp5 h => ?_)
  obtain ⟨e6, hp5⟩ := hp5
  rcases hp5 with ⟨hq7a, hq7b, rfl⟩ | ⟨hq7, rfl⟩
  · exfalso; omega
  · refine lv_if_ne (tgt := 18) hx hb dX8_ask_8 (by decide) (fun hc => absurd (by decide) hc) (fun _ => ?_)
    refine lv_aload_n hx hb dX8_ask_11 rfl (lv_at hl 0 rfl) ?_
    refine lv_bipush (v := (-2)) hx hb dX8_ask_12 (by decide) ?_
    have f8 : w4 0 = .inr (6, [.ref (ad 1), .ref (ad 14), .ref (ad 27), .ref (ad 54), .ref (ad 55), .ref (ad 58), .ref (ad 62), .long 0, .long 1, .int 0, .int 0, .int 0]) := by rw [e6]; exact f1
    refine q_Vi (na := 1) (As := [.int (-2)]) (rest := []) X hD hN h rfl (c_refused l G cI cB cZ cO ad w4 _ _ _ _ _ _ _ _ _ _ _ _ (-2) f8) ⟨kw_11, kw_12, kw_13, kw_14, kw_15⟩ rfl ⟨by decide, by decide, by decide⟩ ⟨Nat.le_of_ble_eq_true rfl, Nat.le_of_ble_eq_true rfl⟩ ⟨Nat.zero_le _, Nat.zero_le _⟩ (by decide) f8 rfl rfl hl.1 rfl (Nat.le_of_ble_eq_true rfl) dX8_ask_14 (fun r9 w10 H locs hp11 h => ?_)
    obtain ⟨rfl, x12, y13, z14, e15⟩ := hp11
    have f16 : w10 0 = .inr (6, [.ref (ad 1), .ref (ad 14), .ref (ad 27), .ref (ad 54), .ref (ad 55), .ref (ad 58), .ref (ad 62), .long 0, .long 1, .int x12, .int y13, .int z14]) := (congrFun e15 _).trans (va_up_self _ _ _)
    exact e_i X h hr hlk dX8_ask_17 ⟨rfl, fun k hk => ((congrFun e15 k).trans (va_up_ne _ _ (by omega))).trans (congrFun e6 k)⟩

set_option maxHeartbeats 4000000 in
set_option maxRecDepth 100000 in
theorem c_X_spilt (l : Launch) (G : va_G) (cI cB cZ cO : ClassId) (ad : Nat → Nat) (w : Nat → va_E) (F : ∀ k, k < 74 → w k = fr0 cI cB cZ cO ad k) (j u x t : Int32) : MI l G (tyq cI cB cZ cO) yX8_spilt cX8_spilt 5 (some .int) 1 21 74 ad w [.ref (ad 0), .int j, .int u, .int x, .int t] (fun r w1 => r = (-2) ∧ ∀ k, 64 ≤ k → w1 k = w k) := by
  refine mk_i (own := "NoonShade") rfl (by decide) (Nat.le_of_ble_eq_true rfl) ?_
  intro p e s m below meth c ls X hD hN hr hlk h hl
  have hx := X.1.1
  have hb := X.1.2.1
  have hown := X.1.2.2.2.1
  have hts := X.1.2.2.2.2
  have hl : lv_has ls 5 [(0, .ref (ad 0)), (1, .int j), (2, .int u), (3, .int x), (4, .int t)] := hl
  refine lv_aload_n hx hb dX8_spilt_0 rfl (lv_at hl 0 rfl) ?_
  have f1 : w 0 = .inr (6, [.ref (ad 1), .ref (ad 14), .ref (ad 27), .ref (ad 54), .ref (ad 55), .ref (ad 58), .ref (ad 62), .long 0, .long 1, .int 0, .int 0, .int 0]) := F 0 (by decide)
  refine r_get kc8 X h 0 0 (by decide) rfl f1 (by decide) kw_5 rfl dX8_spilt_1 ?_
  refine lv_iload_n hx hb dX8_spilt_4 rfl (lv_at hl 1 rfl) ?_
  have f2 : w 1 = .inr (1, [.int 0, .int 0, .int 0, .int 0, .int 0, .ref (ad 2), .ref (ad 3), .ref (ad 4), .ref (ad 5), .ref (ad 6), .ref (ad 7), .ref (ad 8), .ref (ad 10), .ref (ad 12)]) := F 1 (by decide)
  refine q_Vi (na := 1) (As := [.int j]) (rest := []) X hD hN h rfl (c_hasJar l G cI cB cZ cO ad w 1 _ _ _ _ _ _ j 0 rfl (by decide) f2) ⟨kw_16, kw_17, kw_18, kw_9, kw_19⟩ rfl ⟨by decide, by decide, by decide⟩ ⟨Nat.le_of_ble_eq_true rfl, Nat.le_of_ble_eq_true rfl⟩ ⟨Nat.zero_le _, Nat.zero_le _⟩ (by decide) f2 rfl rfl hl.1 rfl (Nat.le_of_ble_eq_true rfl) dX8_spilt_5 (fun r3 w4 H locs hp5 h => ?_)
  obtain ⟨e6, hp5⟩ := hp5
  rcases hp5 with ⟨hq7a, hq7b, rfl⟩ | ⟨hq7, rfl⟩
  · exfalso; omega
  · refine lv_if_eq (tgt := 41) hx hb dX8_spilt_8 (by decide) (fun _ => ?_) (fun hc => absurd (by decide) hc)
    refine lv_aload_n hx hb dX8_spilt_41 rfl (lv_at hl 0 rfl) ?_
    refine lv_bipush (v := (-2)) hx hb dX8_spilt_42 (by decide) ?_
    have f8 : w4 0 = .inr (6, [.ref (ad 1), .ref (ad 14), .ref (ad 27), .ref (ad 54), .ref (ad 55), .ref (ad 58), .ref (ad 62), .long 0, .long 1, .int 0, .int 0, .int 0]) := by rw [e6]; exact f1
    refine q_Vi (na := 1) (As := [.int (-2)]) (rest := []) X hD hN h rfl (c_refused l G cI cB cZ cO ad w4 _ _ _ _ _ _ _ _ _ _ _ _ (-2) f8) ⟨kw_11, kw_12, kw_13, kw_14, kw_15⟩ rfl ⟨by decide, by decide, by decide⟩ ⟨Nat.le_of_ble_eq_true rfl, Nat.le_of_ble_eq_true rfl⟩ ⟨Nat.zero_le _, Nat.zero_le _⟩ (by decide) f8 rfl rfl hl.1 rfl (Nat.le_of_ble_eq_true rfl) dX8_spilt_44 (fun r9 w10 H locs hp11 h => ?_)
    obtain ⟨rfl, x12, y13, z14, e15⟩ := hp11
    have f16 : w10 0 = .inr (6, [.ref (ad 1), .ref (ad 14), .ref (ad 27), .ref (ad 54), .ref (ad 55), .ref (ad 58), .ref (ad 62), .long 0, .long 1, .int x12, .int y13, .int z14]) := (congrFun e15 _).trans (va_up_self _ _ _)
    exact e_i X h hr hlk dX8_spilt_47 ⟨rfl, fun k hk => ((congrFun e15 k).trans (va_up_ne _ _ (by omega))).trans (congrFun e6 k)⟩

set_option maxHeartbeats 4000000 in
set_option maxRecDepth 100000 in
theorem c_X_island (l : Launch) (G : va_G) (cI cB cZ cO : ClassId) (ad : Nat → Nat) (w : Nat → va_E) (F : ∀ k, k < 74 → w k = fr0 cI cB cZ cO ad k) (t : Int32) : MI l G (tyq cI cB cZ cO) yX8_island cX8_island 3 (some .int) 2 42 74 ad w [.ref (ad 0), .int t] (fun r w1 => (0 ≤ t.toInt ∧ t.toInt ≤ 99 → r = 0) ∧ (¬ (0 ≤ t.toInt ∧ t.toInt ≤ 99) → r = -2) ∧ ∀ k, 64 ≤ k → w1 k = w k) := by
  refine mk_i (own := "NoonShade") rfl (by decide) (Nat.le_of_ble_eq_true rfl) ?_
  intro p e s m below meth c ls X hD hN hr hlk h hl
  have hx := X.1.1
  have hb := X.1.2.1
  have hown := X.1.2.2.2.1
  have hts := X.1.2.2.2.2
  have hl : lv_has ls 3 [(0, .ref (ad 0)), (1, .int t)] := hl
  refine lv_iload_n hx hb dX8_island_0 rfl (lv_at hl 1 rfl) ?_
  refine lv_iconst (v := 0) hx hb dX8_island_1 (by decide) ?_
  refine lv_bipush (v := 99) hx hb dX8_island_2 (by decide) ?_
  refine q_Si (na := 3) (As := [.int t, .int 0, .int 99]) (rest := []) X hD hN h (c_within l G cI cB cZ cO ad w t 0 99 ((t).toInt) 0 99 rfl rfl rfl) ⟨kw_38, kw_39, kw_14, kw_40⟩ ⟨by decide, by decide, by decide⟩ ⟨Nat.le_of_ble_eq_true rfl, Nat.le_of_ble_eq_true rfl⟩ ⟨Nat.zero_le _, Nat.zero_le _⟩ rfl hl.1 rfl (Nat.le_of_ble_eq_true rfl) dX8_island_4 (fun r1 w2 H locs hp3 h => ?_)
  obtain ⟨e4, hp3⟩ := hp3
  rcases hp3 with ⟨hq5a, hq5b, rfl⟩ | ⟨hq5, rfl⟩
  · refine lv_if_ne (tgt := 17) hx hb dX8_island_7 (by decide) (fun _ => ?_) (fun hc => absurd hc (by decide))
    refine lv_aload_n hx hb dX8_island_17 rfl (lv_at hl 0 rfl) ?_
    have f6 : w 0 = .inr (6, [.ref (ad 1), .ref (ad 14), .ref (ad 27), .ref (ad 54), .ref (ad 55), .ref (ad 58), .ref (ad 62), .long 0, .long 1, .int 0, .int 0, .int 0]) := F 0 (by decide)
    have f7 : w2 0 = .inr (6, [.ref (ad 1), .ref (ad 14), .ref (ad 27), .ref (ad 54), .ref (ad 55), .ref (ad 58), .ref (ad 62), .long 0, .long 1, .int 0, .int 0, .int 0]) := by rw [e4]; exact f6
    refine r_get kc8 X h 0 0 (by decide) rfl f7 (by decide) kw_5 rfl dX8_island_18 ?_
    have f8 : w 1 = .inr (1, [.int 0, .int 0, .int 0, .int 0, .int 0, .ref (ad 2), .ref (ad 3), .ref (ad 4), .ref (ad 5), .ref (ad 6), .ref (ad 7), .ref (ad 8), .ref (ad 10), .ref (ad 12)]) := F 1 (by decide)
    have f9 : w2 1 = .inr (1, [.int 0, .int 0, .int 0, .int 0, .int 0, .ref (ad 2), .ref (ad 3), .ref (ad 4), .ref (ad 5), .ref (ad 6), .ref (ad 7), .ref (ad 8), .ref (ad 10), .ref (ad 12)]) := by rw [e4]; exact f8
    refine r_get kc2 X h 1 3 (by decide) rfl f9 (by decide) kw_41 rfl dX8_island_21 ?_
    refine lv_istore_n (lv' := [(2, .int 0), (0, .ref (ad 0)), (1, .int t)]) hx hb dX8_island_24 rfl hl (by decide) rfl (fun ls hl => ?_)
    refine lv_aload_n hx hb dX8_island_25 rfl (lv_at hl 1 rfl) ?_
    refine r_get kc8 X h 0 0 (by decide) rfl f7 (by decide) kw_5 rfl dX8_island_26 ?_
    refine lv_iload_n hx hb dX8_island_29 rfl (lv_at hl 2 rfl) ?_
    have f10 : w 8 = .inr (4, [.ref (ad 9), .int 0]) := F 8 (by decide)
    have f11 : w2 8 = .inr (4, [.ref (ad 9), .int 0]) := by rw [e4]; exact f10
    have f12 : w 10 = .inr (4, [.ref (ad 11), .int 0]) := F 10 (by decide)
    have f13 : w2 10 = .inr (4, [.ref (ad 11), .int 0]) := by rw [e4]; exact f12
    have f14 : w 12 = .inr (2, [.ref (ad 13), .int 0]) := F 12 (by decide)
    have f15 : w2 12 = .inr (2, [.ref (ad 13), .int 0]) := by rw [e4]; exact f14
    refine q_Vv (na := 1) (As := [.int t]) (rest := []) X hD hN h rfl (c_begin l G cI cB cZ cO ad w2 1 _ _ _ _ _ _ _ _ t (by decide) f9 f11 f13 f15) ⟨kw_42, kw_43, kw_44, kw_9, kw_45⟩ rfl ⟨by decide, by decide, by decide⟩ ⟨Nat.le_of_ble_eq_true rfl, Nat.le_of_ble_eq_true rfl⟩ ⟨Nat.zero_le _, Nat.zero_le _⟩ (by decide) f9 rfl rfl hl.1 rfl (Nat.le_of_ble_eq_true rfl) dX8_island_30 (fun w17 H locs hp18 h => ?_)
    obtain ⟨f19, f20, f21, f22, hf23⟩ := hp18
    refine lv_iload_n hx hb dX8_island_33 rfl (lv_at hl 0 rfl) ?_
    exact e_i X h hr hlk dX8_island_34 ⟨fun _ => by first | rfl | omega, fun _ => by first | rfl | omega, fun k hk => (hf23 k (by omega) (by omega) (by omega) (by omega)).trans (congrFun e4 k)⟩
  · refine lv_if_ne (tgt := 17) hx hb dX8_island_7 (by decide) (fun hc => absurd (by decide) hc) (fun _ => ?_)
    refine lv_aload_n hx hb dX8_island_10 rfl (lv_at hl 0 rfl) ?_
    refine lv_bipush (v := (-2)) hx hb dX8_island_11 (by decide) ?_
    have f24 : w 0 = .inr (6, [.ref (ad 1), .ref (ad 14), .ref (ad 27), .ref (ad 54), .ref (ad 55), .ref (ad 58), .ref (ad 62), .long 0, .long 1, .int 0, .int 0, .int 0]) := F 0 (by decide)
    have f25 : w2 0 = .inr (6, [.ref (ad 1), .ref (ad 14), .ref (ad 27), .ref (ad 54), .ref (ad 55), .ref (ad 58), .ref (ad 62), .long 0, .long 1, .int 0, .int 0, .int 0]) := by rw [e4]; exact f24
    refine q_Vi (na := 1) (As := [.int (-2)]) (rest := []) X hD hN h rfl (c_refused l G cI cB cZ cO ad w2 _ _ _ _ _ _ _ _ _ _ _ _ (-2) f25) ⟨kw_11, kw_12, kw_13, kw_14, kw_15⟩ rfl ⟨by decide, by decide, by decide⟩ ⟨Nat.le_of_ble_eq_true rfl, Nat.le_of_ble_eq_true rfl⟩ ⟨Nat.zero_le _, Nat.zero_le _⟩ (by decide) f25 rfl rfl hl.1 rfl (Nat.le_of_ble_eq_true rfl) dX8_island_13 (fun r26 w27 H locs hp28 h => ?_)
    obtain ⟨rfl, x29, y30, z31, e32⟩ := hp28
    have f33 : w27 0 = .inr (6, [.ref (ad 1), .ref (ad 14), .ref (ad 27), .ref (ad 54), .ref (ad 55), .ref (ad 58), .ref (ad 62), .long 0, .long 1, .int x29, .int y30, .int z31]) := (congrFun e32 _).trans (va_up_self _ _ _)
    exact e_i X h hr hlk dX8_island_16 ⟨fun _ => by first | rfl | omega, fun _ => by first | rfl | omega, fun k hk => ((congrFun e32 k).trans (va_up_ne _ _ (by omega))).trans (congrFun e4 k)⟩

set_option maxHeartbeats 4000000 in
set_option maxRecDepth 100000 in
theorem c_X_caster (l : Launch) (G : va_G) (cI cB cZ cO : ClassId) (ad : Nat → Nat) (w : Nat → va_E) (F : ∀ k, k < 74 → w k = fr0 cI cB cZ cO ad k) (i j t : Int32) : MI l G (tyq cI cB cZ cO) yX8_caster cX8_caster 4 (some .int) 1 23 74 ad w [.ref (ad 0), .int i, .int j, .int t] (fun r w1 => (0 ≤ i.toInt ∧ i.toInt ≤ 5 ∧ 1 ≤ j.toInt ∧ j.toInt ≤ 9 ∧ 0 ≤ t.toInt ∧ t.toInt ≤ 3 → r = 0) ∧ (¬ (0 ≤ i.toInt ∧ i.toInt ≤ 5 ∧ 1 ≤ j.toInt ∧ j.toInt ≤ 9 ∧ 0 ≤ t.toInt ∧ t.toInt ≤ 3) → r = -2) ∧ ∀ k, 64 ≤ k → w1 k = w k) := by
  refine mk_i (own := "NoonShade") rfl (by decide) (Nat.le_of_ble_eq_true rfl) ?_
  intro p e s m below meth c ls X hD hN hr hlk h hl
  have hx := X.1.1
  have hb := X.1.2.1
  have hown := X.1.2.2.2.1
  have hts := X.1.2.2.2.2
  have hl : lv_has ls 4 [(0, .ref (ad 0)), (1, .int i), (2, .int j), (3, .int t)] := hl
  refine lv_iload_n hx hb dX8_caster_0 rfl (lv_at hl 1 rfl) ?_
  refine lv_iconst (v := 0) hx hb dX8_caster_1 (by decide) ?_
  refine lv_iconst (v := 5) hx hb dX8_caster_2 (by decide) ?_
  refine q_Si (na := 3) (As := [.int i, .int 0, .int 5]) (rest := []) X hD hN h (c_within l G cI cB cZ cO ad w i 0 5 ((i).toInt) 0 5 rfl rfl rfl) ⟨kw_38, kw_39, kw_14, kw_40⟩ ⟨by decide, by decide, by decide⟩ ⟨Nat.le_of_ble_eq_true rfl, Nat.le_of_ble_eq_true rfl⟩ ⟨Nat.zero_le _, Nat.zero_le _⟩ rfl hl.1 rfl (Nat.le_of_ble_eq_true rfl) dX8_caster_3 (fun r1 w2 H locs hp3 h => ?_)
  obtain ⟨e4, hp3⟩ := hp3
  rcases hp3 with ⟨hq5a, hq5b, rfl⟩ | ⟨hq5, rfl⟩
  · refine lv_if_eq (tgt := 28) hx hb dX8_caster_6 (by decide) (fun hc => absurd hc (by decide)) (fun _ => ?_)
    refine lv_iload_n hx hb dX8_caster_9 rfl (lv_at hl 2 rfl) ?_
    refine lv_iconst (v := 1) hx hb dX8_caster_10 (by decide) ?_
    refine lv_bipush (v := 9) hx hb dX8_caster_11 (by decide) ?_
    refine q_Si (na := 3) (As := [.int j, .int 1, .int 9]) (rest := []) X hD hN h (c_within l G cI cB cZ cO ad w2 j 1 9 ((j).toInt) 1 9 rfl rfl rfl) ⟨kw_38, kw_39, kw_14, kw_40⟩ ⟨by decide, by decide, by decide⟩ ⟨Nat.le_of_ble_eq_true rfl, Nat.le_of_ble_eq_true rfl⟩ ⟨Nat.zero_le _, Nat.zero_le _⟩ rfl hl.1 rfl (Nat.le_of_ble_eq_true rfl) dX8_caster_13 (fun r6 w7 H locs hp8 h => ?_)
    obtain ⟨e9, hp8⟩ := hp8
    rcases hp8 with ⟨hq10a, hq10b, rfl⟩ | ⟨hq10, rfl⟩
    · refine lv_if_eq (tgt := 28) hx hb dX8_caster_16 (by decide) (fun hc => absurd hc (by decide)) (fun _ => ?_)
      refine lv_iload_n hx hb dX8_caster_19 rfl (lv_at hl 3 rfl) ?_
      refine lv_iconst (v := 0) hx hb dX8_caster_20 (by decide) ?_
      refine lv_iconst (v := 3) hx hb dX8_caster_21 (by decide) ?_
      refine q_Si (na := 3) (As := [.int t, .int 0, .int 3]) (rest := []) X hD hN h (c_within l G cI cB cZ cO ad w7 t 0 3 ((t).toInt) 0 3 rfl rfl rfl) ⟨kw_38, kw_39, kw_14, kw_40⟩ ⟨by decide, by decide, by decide⟩ ⟨Nat.le_of_ble_eq_true rfl, Nat.le_of_ble_eq_true rfl⟩ ⟨Nat.zero_le _, Nat.zero_le _⟩ rfl hl.1 rfl (Nat.le_of_ble_eq_true rfl) dX8_caster_22 (fun r11 w12 H locs hp13 h => ?_)
      obtain ⟨e14, hp13⟩ := hp13
      rcases hp13 with ⟨hq15a, hq15b, rfl⟩ | ⟨hq15, rfl⟩
      · refine lv_if_ne (tgt := 35) hx hb dX8_caster_25 (by decide) (fun _ => ?_) (fun hc => absurd hc (by decide))
        refine lv_aload_n hx hb dX8_caster_35 rfl (lv_at hl 0 rfl) ?_
        have f16 : w 0 = .inr (6, [.ref (ad 1), .ref (ad 14), .ref (ad 27), .ref (ad 54), .ref (ad 55), .ref (ad 58), .ref (ad 62), .long 0, .long 1, .int 0, .int 0, .int 0]) := F 0 (by decide)
        have f17 : w2 0 = .inr (6, [.ref (ad 1), .ref (ad 14), .ref (ad 27), .ref (ad 54), .ref (ad 55), .ref (ad 58), .ref (ad 62), .long 0, .long 1, .int 0, .int 0, .int 0]) := by rw [e4]; exact f16
        have f18 : w7 0 = .inr (6, [.ref (ad 1), .ref (ad 14), .ref (ad 27), .ref (ad 54), .ref (ad 55), .ref (ad 58), .ref (ad 62), .long 0, .long 1, .int 0, .int 0, .int 0]) := by rw [e9]; exact f17
        have f19 : w12 0 = .inr (6, [.ref (ad 1), .ref (ad 14), .ref (ad 27), .ref (ad 54), .ref (ad 55), .ref (ad 58), .ref (ad 62), .long 0, .long 1, .int 0, .int 0, .int 0]) := by rw [e14]; exact f18
        refine r_get kc8 X h 0 0 (by decide) rfl f19 (by decide) kw_5 rfl dX8_caster_36 ?_
        have f20 : w 1 = .inr (1, [.int 0, .int 0, .int 0, .int 0, .int 0, .ref (ad 2), .ref (ad 3), .ref (ad 4), .ref (ad 5), .ref (ad 6), .ref (ad 7), .ref (ad 8), .ref (ad 10), .ref (ad 12)]) := F 1 (by decide)
        have f21 : w2 1 = .inr (1, [.int 0, .int 0, .int 0, .int 0, .int 0, .ref (ad 2), .ref (ad 3), .ref (ad 4), .ref (ad 5), .ref (ad 6), .ref (ad 7), .ref (ad 8), .ref (ad 10), .ref (ad 12)]) := by rw [e4]; exact f20
        have f22 : w7 1 = .inr (1, [.int 0, .int 0, .int 0, .int 0, .int 0, .ref (ad 2), .ref (ad 3), .ref (ad 4), .ref (ad 5), .ref (ad 6), .ref (ad 7), .ref (ad 8), .ref (ad 10), .ref (ad 12)]) := by rw [e9]; exact f21
        have f23 : w12 1 = .inr (1, [.int 0, .int 0, .int 0, .int 0, .int 0, .ref (ad 2), .ref (ad 3), .ref (ad 4), .ref (ad 5), .ref (ad 6), .ref (ad 7), .ref (ad 8), .ref (ad 10), .ref (ad 12)]) := by rw [e14]; exact f22
        refine r_get kc2 X h 1 3 (by decide) rfl f23 (by decide) kw_41 rfl dX8_caster_39 ?_
        refine lv_bipush (v := 7) hx hb dX8_caster_42 (by decide) ?_
        refine lv_icmp_lt (tgt := 54) hx hb dX8_caster_44 (by decide) (fun _ => ?_) (fun hc => absurd (by decide) hc)
        refine lv_aload_n hx hb dX8_caster_54 rfl (lv_at hl 0 rfl) ?_
        refine r_get kc8 X h 0 0 (by decide) rfl f19 (by decide) kw_5 rfl dX8_caster_55 ?_
        refine r_get kc2 X h 1 13 (by decide) rfl f23 (by decide) kw_52 rfl dX8_caster_58 ?_
        have f24 : w 12 = .inr (2, [.ref (ad 13), .int 0]) := F 12 (by decide)
        have f25 : w2 12 = .inr (2, [.ref (ad 13), .int 0]) := by rw [e4]; exact f24
        have f26 : w7 12 = .inr (2, [.ref (ad 13), .int 0]) := by rw [e9]; exact f25
        have f27 : w12 12 = .inr (2, [.ref (ad 13), .int 0]) := by rw [e14]; exact f26
        refine q_Vv (na := 0) (As := []) (rest := []) X hD hN h rfl (c_P_empty l G cI cB cZ cO ad w12 12 _ _ (by decide) f27) ⟨kw_53, kw_34, kw_35, kw_36, kw_37⟩ rfl ⟨by decide, by decide, by decide⟩ ⟨Nat.le_of_ble_eq_true rfl, Nat.le_of_ble_eq_true rfl⟩ ⟨Nat.zero_le _, Nat.zero_le _⟩ (by decide) f27 rfl rfl hl.1 rfl (Nat.le_of_ble_eq_true rfl) dX8_caster_61 (fun w29 H locs hp30 h => ?_)
        have e31 := hp30
        have f32 : w29 12 = .inr (2, [.ref (ad 13), .int 0]) := (congrFun e31 _).trans (va_up_self _ _ _)
        refine lv_aload_n hx hb dX8_caster_64 rfl (lv_at hl 0 rfl) ?_
        have f33 : w29 0 = .inr (6, [.ref (ad 1), .ref (ad 14), .ref (ad 27), .ref (ad 54), .ref (ad 55), .ref (ad 58), .ref (ad 62), .long 0, .long 1, .int 0, .int 0, .int 0]) := by rw [e31, va_up_ne _ _ (by decide)]; exact f19
        refine r_get kc8 X h 0 0 (by decide) rfl f33 (by decide) kw_5 rfl dX8_caster_65 ?_
        refine lv_iload_n hx hb dX8_caster_68 rfl (lv_at hl 1 rfl) ?_
        refine lv_iload_n hx hb dX8_caster_69 rfl (lv_at hl 2 rfl) ?_
        refine lv_iload_n hx hb dX8_caster_70 rfl (lv_at hl 3 rfl) ?_
        have f34 : w29 1 = .inr (1, [.int 0, .int 0, .int 0, .int 0, .int 0, .ref (ad 2), .ref (ad 3), .ref (ad 4), .ref (ad 5), .ref (ad 6), .ref (ad 7), .ref (ad 8), .ref (ad 10), .ref (ad 12)]) := by rw [e31, va_up_ne _ _ (by decide)]; exact f23
        have f35 : w 2 = .inl (cI, 7, .inl (fun _ => 0)) := F 2 (by decide)
        have f36 : w2 2 = .inl (cI, 7, .inl (fun _ => 0)) := by rw [e4]; exact f35
        have f37 : w7 2 = .inl (cI, 7, .inl (fun _ => 0)) := by rw [e9]; exact f36
        have f38 : w12 2 = .inl (cI, 7, .inl (fun _ => 0)) := by rw [e14]; exact f37
        have f39 : w29 2 = .inl (cI, 7, .inl (fun _ => 0)) := by rw [e31, va_up_ne _ _ (by decide)]; exact f38
        have f40 : w 3 = .inl (cI, 7, .inl (fun _ => 0)) := F 3 (by decide)
        have f41 : w2 3 = .inl (cI, 7, .inl (fun _ => 0)) := by rw [e4]; exact f40
        have f42 : w7 3 = .inl (cI, 7, .inl (fun _ => 0)) := by rw [e9]; exact f41
        have f43 : w12 3 = .inl (cI, 7, .inl (fun _ => 0)) := by rw [e14]; exact f42
        have f44 : w29 3 = .inl (cI, 7, .inl (fun _ => 0)) := by rw [e31, va_up_ne _ _ (by decide)]; exact f43
        have f45 : w 4 = .inl (cI, 7, .inl (fun _ => 0)) := F 4 (by decide)
        have f46 : w2 4 = .inl (cI, 7, .inl (fun _ => 0)) := by rw [e4]; exact f45
        have f47 : w7 4 = .inl (cI, 7, .inl (fun _ => 0)) := by rw [e9]; exact f46
        have f48 : w12 4 = .inl (cI, 7, .inl (fun _ => 0)) := by rw [e14]; exact f47
        have f49 : w29 4 = .inl (cI, 7, .inl (fun _ => 0)) := by rw [e31, va_up_ne _ _ (by decide)]; exact f48
        refine q_Vi (na := 3) (As := [.int i, .int j, .int t]) (rest := []) X hD hN h rfl (c_addCaster l G cI cB cZ cO ad w29 i j t f34 f39 f44 f49) ⟨kw_54, kw_55, kw_56, kw_9, kw_57⟩ rfl ⟨by decide, by decide, by decide⟩ ⟨Nat.le_of_ble_eq_true rfl, Nat.le_of_ble_eq_true rfl⟩ ⟨Nat.zero_le _, Nat.zero_le _⟩ (by decide) f34 rfl rfl hl.1 rfl (Nat.le_of_ble_eq_true rfl) dX8_caster_71 (fun r50 w51 H locs hp52 h => ?_)
        obtain ⟨rfl, hk53⟩ := hp52
        exact e_i X h hr hlk dX8_caster_74 ⟨fun _ => by first | rfl | omega, fun _ => by first | rfl | omega, fun k hk => (hk53 k (by omega)).trans (((congrFun e31 k).trans (va_up_ne _ _ (by omega))).trans ((congrFun e14 k).trans ((congrFun e9 k).trans (congrFun e4 k))))⟩
      · refine lv_if_ne (tgt := 35) hx hb dX8_caster_25 (by decide) (fun hc => absurd (by decide) hc) (fun _ => ?_)
        refine lv_aload_n hx hb dX8_caster_28 rfl (lv_at hl 0 rfl) ?_
        refine lv_bipush (v := (-2)) hx hb dX8_caster_29 (by decide) ?_
        have f54 : w 0 = .inr (6, [.ref (ad 1), .ref (ad 14), .ref (ad 27), .ref (ad 54), .ref (ad 55), .ref (ad 58), .ref (ad 62), .long 0, .long 1, .int 0, .int 0, .int 0]) := F 0 (by decide)
        have f55 : w2 0 = .inr (6, [.ref (ad 1), .ref (ad 14), .ref (ad 27), .ref (ad 54), .ref (ad 55), .ref (ad 58), .ref (ad 62), .long 0, .long 1, .int 0, .int 0, .int 0]) := by rw [e4]; exact f54
        have f56 : w7 0 = .inr (6, [.ref (ad 1), .ref (ad 14), .ref (ad 27), .ref (ad 54), .ref (ad 55), .ref (ad 58), .ref (ad 62), .long 0, .long 1, .int 0, .int 0, .int 0]) := by rw [e9]; exact f55
        have f57 : w12 0 = .inr (6, [.ref (ad 1), .ref (ad 14), .ref (ad 27), .ref (ad 54), .ref (ad 55), .ref (ad 58), .ref (ad 62), .long 0, .long 1, .int 0, .int 0, .int 0]) := by rw [e14]; exact f56
        refine q_Vi (na := 1) (As := [.int (-2)]) (rest := []) X hD hN h rfl (c_refused l G cI cB cZ cO ad w12 _ _ _ _ _ _ _ _ _ _ _ _ (-2) f57) ⟨kw_11, kw_12, kw_13, kw_14, kw_15⟩ rfl ⟨by decide, by decide, by decide⟩ ⟨Nat.le_of_ble_eq_true rfl, Nat.le_of_ble_eq_true rfl⟩ ⟨Nat.zero_le _, Nat.zero_le _⟩ (by decide) f57 rfl rfl hl.1 rfl (Nat.le_of_ble_eq_true rfl) dX8_caster_31 (fun r58 w59 H locs hp60 h => ?_)
        obtain ⟨rfl, x61, y62, z63, e64⟩ := hp60
        have f65 : w59 0 = .inr (6, [.ref (ad 1), .ref (ad 14), .ref (ad 27), .ref (ad 54), .ref (ad 55), .ref (ad 58), .ref (ad 62), .long 0, .long 1, .int x61, .int y62, .int z63]) := (congrFun e64 _).trans (va_up_self _ _ _)
        exact e_i X h hr hlk dX8_caster_34 ⟨fun _ => by first | rfl | omega, fun _ => by first | rfl | omega, fun k hk => ((congrFun e64 k).trans (va_up_ne _ _ (by omega))).trans ((congrFun e14 k).trans ((congrFun e9 k).trans (congrFun e4 k)))⟩
    · refine lv_if_eq (tgt := 28) hx hb dX8_caster_16 (by decide) (fun _ => ?_) (fun hc => absurd (by decide) hc)
      refine lv_aload_n hx hb dX8_caster_28 rfl (lv_at hl 0 rfl) ?_
      refine lv_bipush (v := (-2)) hx hb dX8_caster_29 (by decide) ?_
      have f66 : w 0 = .inr (6, [.ref (ad 1), .ref (ad 14), .ref (ad 27), .ref (ad 54), .ref (ad 55), .ref (ad 58), .ref (ad 62), .long 0, .long 1, .int 0, .int 0, .int 0]) := F 0 (by decide)
      have f67 : w2 0 = .inr (6, [.ref (ad 1), .ref (ad 14), .ref (ad 27), .ref (ad 54), .ref (ad 55), .ref (ad 58), .ref (ad 62), .long 0, .long 1, .int 0, .int 0, .int 0]) := by rw [e4]; exact f66
      have f68 : w7 0 = .inr (6, [.ref (ad 1), .ref (ad 14), .ref (ad 27), .ref (ad 54), .ref (ad 55), .ref (ad 58), .ref (ad 62), .long 0, .long 1, .int 0, .int 0, .int 0]) := by rw [e9]; exact f67
      refine q_Vi (na := 1) (As := [.int (-2)]) (rest := []) X hD hN h rfl (c_refused l G cI cB cZ cO ad w7 _ _ _ _ _ _ _ _ _ _ _ _ (-2) f68) ⟨kw_11, kw_12, kw_13, kw_14, kw_15⟩ rfl ⟨by decide, by decide, by decide⟩ ⟨Nat.le_of_ble_eq_true rfl, Nat.le_of_ble_eq_true rfl⟩ ⟨Nat.zero_le _, Nat.zero_le _⟩ (by decide) f68 rfl rfl hl.1 rfl (Nat.le_of_ble_eq_true rfl) dX8_caster_31 (fun r69 w70 H locs hp71 h => ?_)
      obtain ⟨rfl, x72, y73, z74, e75⟩ := hp71
      have f76 : w70 0 = .inr (6, [.ref (ad 1), .ref (ad 14), .ref (ad 27), .ref (ad 54), .ref (ad 55), .ref (ad 58), .ref (ad 62), .long 0, .long 1, .int x72, .int y73, .int z74]) := (congrFun e75 _).trans (va_up_self _ _ _)
      exact e_i X h hr hlk dX8_caster_34 ⟨fun _ => by first | rfl | omega, fun _ => by first | rfl | omega, fun k hk => ((congrFun e75 k).trans (va_up_ne _ _ (by omega))).trans ((congrFun e9 k).trans (congrFun e4 k))⟩
  · refine lv_if_eq (tgt := 28) hx hb dX8_caster_6 (by decide) (fun _ => ?_) (fun hc => absurd (by decide) hc)
    refine lv_aload_n hx hb dX8_caster_28 rfl (lv_at hl 0 rfl) ?_
    refine lv_bipush (v := (-2)) hx hb dX8_caster_29 (by decide) ?_
    have f77 : w 0 = .inr (6, [.ref (ad 1), .ref (ad 14), .ref (ad 27), .ref (ad 54), .ref (ad 55), .ref (ad 58), .ref (ad 62), .long 0, .long 1, .int 0, .int 0, .int 0]) := F 0 (by decide)
    have f78 : w2 0 = .inr (6, [.ref (ad 1), .ref (ad 14), .ref (ad 27), .ref (ad 54), .ref (ad 55), .ref (ad 58), .ref (ad 62), .long 0, .long 1, .int 0, .int 0, .int 0]) := by rw [e4]; exact f77
    refine q_Vi (na := 1) (As := [.int (-2)]) (rest := []) X hD hN h rfl (c_refused l G cI cB cZ cO ad w2 _ _ _ _ _ _ _ _ _ _ _ _ (-2) f78) ⟨kw_11, kw_12, kw_13, kw_14, kw_15⟩ rfl ⟨by decide, by decide, by decide⟩ ⟨Nat.le_of_ble_eq_true rfl, Nat.le_of_ble_eq_true rfl⟩ ⟨Nat.zero_le _, Nat.zero_le _⟩ (by decide) f78 rfl rfl hl.1 rfl (Nat.le_of_ble_eq_true rfl) dX8_caster_31 (fun r79 w80 H locs hp81 h => ?_)
    obtain ⟨rfl, x82, y83, z84, e85⟩ := hp81
    have f86 : w80 0 = .inr (6, [.ref (ad 1), .ref (ad 14), .ref (ad 27), .ref (ad 54), .ref (ad 55), .ref (ad 58), .ref (ad 62), .long 0, .long 1, .int x82, .int y83, .int z84]) := (congrFun e85 _).trans (va_up_self _ _ _)
    exact e_i X h hr hlk dX8_caster_34 ⟨fun _ => by first | rfl | omega, fun _ => by first | rfl | omega, fun k hk => ((congrFun e85 k).trans (va_up_ne _ _ (by omega))).trans (congrFun e4 k)⟩

set_option maxHeartbeats 4000000 in
set_option maxRecDepth 100000 in
theorem c_X_jar (l : Launch) (G : va_G) (cI cB cZ cO : ClassId) (ad : Nat → Nat) (w : Nat → va_E) (F : ∀ k, k < 74 → w k = fr0 cI cB cZ cO ad k) (i : Int32) : MI l G (tyq cI cB cZ cO) yX8_jar cX8_jar 2 (some .int) 1 22 74 ad w [.ref (ad 0), .int i] (fun r w1 => (0 ≤ i.toInt ∧ i.toInt ≤ 5 → r = 0) ∧ (¬ (0 ≤ i.toInt ∧ i.toInt ≤ 5) → r = -2) ∧ ∀ k, 64 ≤ k → w1 k = w k) := by
  refine mk_i (own := "NoonShade") rfl (by decide) (Nat.le_of_ble_eq_true rfl) ?_
  intro p e s m below meth c ls X hD hN hr hlk h hl
  have hx := X.1.1
  have hb := X.1.2.1
  have hown := X.1.2.2.2.1
  have hts := X.1.2.2.2.2
  have hl : lv_has ls 2 [(0, .ref (ad 0)), (1, .int i)] := hl
  refine lv_iload_n hx hb dX8_jar_0 rfl (lv_at hl 1 rfl) ?_
  refine lv_iconst (v := 0) hx hb dX8_jar_1 (by decide) ?_
  refine lv_iconst (v := 5) hx hb dX8_jar_2 (by decide) ?_
  refine q_Si (na := 3) (As := [.int i, .int 0, .int 5]) (rest := []) X hD hN h (c_within l G cI cB cZ cO ad w i 0 5 ((i).toInt) 0 5 rfl rfl rfl) ⟨kw_38, kw_39, kw_14, kw_40⟩ ⟨by decide, by decide, by decide⟩ ⟨Nat.le_of_ble_eq_true rfl, Nat.le_of_ble_eq_true rfl⟩ ⟨Nat.zero_le _, Nat.zero_le _⟩ rfl hl.1 rfl (Nat.le_of_ble_eq_true rfl) dX8_jar_3 (fun r1 w2 H locs hp3 h => ?_)
  obtain ⟨e4, hp3⟩ := hp3
  rcases hp3 with ⟨hq5a, hq5b, rfl⟩ | ⟨hq5, rfl⟩
  · refine lv_if_ne (tgt := 16) hx hb dX8_jar_6 (by decide) (fun _ => ?_) (fun hc => absurd hc (by decide))
    refine lv_aload_n hx hb dX8_jar_16 rfl (lv_at hl 0 rfl) ?_
    have f6 : w 0 = .inr (6, [.ref (ad 1), .ref (ad 14), .ref (ad 27), .ref (ad 54), .ref (ad 55), .ref (ad 58), .ref (ad 62), .long 0, .long 1, .int 0, .int 0, .int 0]) := F 0 (by decide)
    have f7 : w2 0 = .inr (6, [.ref (ad 1), .ref (ad 14), .ref (ad 27), .ref (ad 54), .ref (ad 55), .ref (ad 58), .ref (ad 62), .long 0, .long 1, .int 0, .int 0, .int 0]) := by rw [e4]; exact f6
    refine r_get kc8 X h 0 0 (by decide) rfl f7 (by decide) kw_5 rfl dX8_jar_17 ?_
    have f8 : w 1 = .inr (1, [.int 0, .int 0, .int 0, .int 0, .int 0, .ref (ad 2), .ref (ad 3), .ref (ad 4), .ref (ad 5), .ref (ad 6), .ref (ad 7), .ref (ad 8), .ref (ad 10), .ref (ad 12)]) := F 1 (by decide)
    have f9 : w2 1 = .inr (1, [.int 0, .int 0, .int 0, .int 0, .int 0, .ref (ad 2), .ref (ad 3), .ref (ad 4), .ref (ad 5), .ref (ad 6), .ref (ad 7), .ref (ad 8), .ref (ad 10), .ref (ad 12)]) := by rw [e4]; exact f8
    refine r_get kc2 X h 1 4 (by decide) rfl f9 (by decide) kw_58 rfl dX8_jar_20 ?_
    refine lv_iconst (v := 4) hx hb dX8_jar_23 (by decide) ?_
    refine lv_icmp_lt (tgt := 34) hx hb dX8_jar_24 (by decide) (fun _ => ?_) (fun hc => absurd (by decide) hc)
    refine lv_aload_n hx hb dX8_jar_34 rfl (lv_at hl 0 rfl) ?_
    refine r_get kc8 X h 0 0 (by decide) rfl f7 (by decide) kw_5 rfl dX8_jar_35 ?_
    refine r_get kc2 X h 1 13 (by decide) rfl f9 (by decide) kw_52 rfl dX8_jar_38 ?_
    have f10 : w 12 = .inr (2, [.ref (ad 13), .int 0]) := F 12 (by decide)
    have f11 : w2 12 = .inr (2, [.ref (ad 13), .int 0]) := by rw [e4]; exact f10
    refine q_Vv (na := 0) (As := []) (rest := []) X hD hN h rfl (c_P_empty l G cI cB cZ cO ad w2 12 _ _ (by decide) f11) ⟨kw_53, kw_34, kw_35, kw_36, kw_37⟩ rfl ⟨by decide, by decide, by decide⟩ ⟨Nat.le_of_ble_eq_true rfl, Nat.le_of_ble_eq_true rfl⟩ ⟨Nat.zero_le _, Nat.zero_le _⟩ (by decide) f11 rfl rfl hl.1 rfl (Nat.le_of_ble_eq_true rfl) dX8_jar_41 (fun w13 H locs hp14 h => ?_)
    have e15 := hp14
    have f16 : w13 12 = .inr (2, [.ref (ad 13), .int 0]) := (congrFun e15 _).trans (va_up_self _ _ _)
    refine lv_aload_n hx hb dX8_jar_44 rfl (lv_at hl 0 rfl) ?_
    have f17 : w13 0 = .inr (6, [.ref (ad 1), .ref (ad 14), .ref (ad 27), .ref (ad 54), .ref (ad 55), .ref (ad 58), .ref (ad 62), .long 0, .long 1, .int 0, .int 0, .int 0]) := by rw [e15, va_up_ne _ _ (by decide)]; exact f7
    refine r_get kc8 X h 0 0 (by decide) rfl f17 (by decide) kw_5 rfl dX8_jar_45 ?_
    refine lv_iload_n hx hb dX8_jar_48 rfl (lv_at hl 1 rfl) ?_
    have f18 : w13 1 = .inr (1, [.int 0, .int 0, .int 0, .int 0, .int 0, .ref (ad 2), .ref (ad 3), .ref (ad 4), .ref (ad 5), .ref (ad 6), .ref (ad 7), .ref (ad 8), .ref (ad 10), .ref (ad 12)]) := by rw [e15, va_up_ne _ _ (by decide)]; exact f9
    have f19 : w 5 = .inl (cI, 4, .inl (fun _ => 0)) := F 5 (by decide)
    have f20 : w2 5 = .inl (cI, 4, .inl (fun _ => 0)) := by rw [e4]; exact f19
    have f21 : w13 5 = .inl (cI, 4, .inl (fun _ => 0)) := by rw [e15, va_up_ne _ _ (by decide)]; exact f20
    have f22 : w 6 = .inl (cI, 4, .inl (fun _ => 0)) := F 6 (by decide)
    have f23 : w2 6 = .inl (cI, 4, .inl (fun _ => 0)) := by rw [e4]; exact f22
    have f24 : w13 6 = .inl (cI, 4, .inl (fun _ => 0)) := by rw [e15, va_up_ne _ _ (by decide)]; exact f23
    have f25 : w 7 = .inl (cI, 4, .inl (fun _ => 0)) := F 7 (by decide)
    have f26 : w2 7 = .inl (cI, 4, .inl (fun _ => 0)) := by rw [e4]; exact f25
    have f27 : w13 7 = .inl (cI, 4, .inl (fun _ => 0)) := by rw [e15, va_up_ne _ _ (by decide)]; exact f26
    refine q_Vi (na := 1) (As := [.int i]) (rest := []) X hD hN h rfl (c_addJar l G cI cB cZ cO ad w13 i f18 f21 f24 f27) ⟨kw_59, kw_60, kw_61, kw_9, kw_62⟩ rfl ⟨by decide, by decide, by decide⟩ ⟨Nat.le_of_ble_eq_true rfl, Nat.le_of_ble_eq_true rfl⟩ ⟨Nat.zero_le _, Nat.zero_le _⟩ (by decide) f18 rfl rfl hl.1 rfl (Nat.le_of_ble_eq_true rfl) dX8_jar_49 (fun r28 w29 H locs hp30 h => ?_)
    obtain ⟨rfl, hk31⟩ := hp30
    exact e_i X h hr hlk dX8_jar_52 ⟨fun _ => by first | rfl | omega, fun _ => by first | rfl | omega, fun k hk => (hk31 k (by omega)).trans (((congrFun e15 k).trans (va_up_ne _ _ (by omega))).trans (congrFun e4 k))⟩
  · refine lv_if_ne (tgt := 16) hx hb dX8_jar_6 (by decide) (fun hc => absurd (by decide) hc) (fun _ => ?_)
    refine lv_aload_n hx hb dX8_jar_9 rfl (lv_at hl 0 rfl) ?_
    refine lv_bipush (v := (-2)) hx hb dX8_jar_10 (by decide) ?_
    have f32 : w 0 = .inr (6, [.ref (ad 1), .ref (ad 14), .ref (ad 27), .ref (ad 54), .ref (ad 55), .ref (ad 58), .ref (ad 62), .long 0, .long 1, .int 0, .int 0, .int 0]) := F 0 (by decide)
    have f33 : w2 0 = .inr (6, [.ref (ad 1), .ref (ad 14), .ref (ad 27), .ref (ad 54), .ref (ad 55), .ref (ad 58), .ref (ad 62), .long 0, .long 1, .int 0, .int 0, .int 0]) := by rw [e4]; exact f32
    refine q_Vi (na := 1) (As := [.int (-2)]) (rest := []) X hD hN h rfl (c_refused l G cI cB cZ cO ad w2 _ _ _ _ _ _ _ _ _ _ _ _ (-2) f33) ⟨kw_11, kw_12, kw_13, kw_14, kw_15⟩ rfl ⟨by decide, by decide, by decide⟩ ⟨Nat.le_of_ble_eq_true rfl, Nat.le_of_ble_eq_true rfl⟩ ⟨Nat.zero_le _, Nat.zero_le _⟩ (by decide) f33 rfl rfl hl.1 rfl (Nat.le_of_ble_eq_true rfl) dX8_jar_12 (fun r34 w35 H locs hp36 h => ?_)
    obtain ⟨rfl, x37, y38, z39, e40⟩ := hp36
    have f41 : w35 0 = .inr (6, [.ref (ad 1), .ref (ad 14), .ref (ad 27), .ref (ad 54), .ref (ad 55), .ref (ad 58), .ref (ad 62), .long 0, .long 1, .int x37, .int y38, .int z39]) := (congrFun e40 _).trans (va_up_self _ _ _)
    exact e_i X h hr hlk dX8_jar_15 ⟨fun _ => by first | rfl | omega, fun _ => by first | rfl | omega, fun k hk => ((congrFun e40 k).trans (va_up_ne _ _ (by omega))).trans (congrFun e4 k)⟩

set_option maxHeartbeats 4000000 in
set_option maxRecDepth 100000 in
theorem c_X_type (l : Launch) (G : va_G) (cI cB cZ cO : ClassId) (ad : Nat → Nat) (w : Nat → va_E) (F : ∀ k, k < 74 → w k = fr0 cI cB cZ cO ad k) (i : Int32) : MI l G (tyq cI cB cZ cO) yX8_type cX8_type 2 (some .int) 2 41 74 ad w [.ref (ad 0), .int i] (fun r w1 => (0 ≤ i.toInt ∧ i.toInt ≤ 127 → r = 1) ∧ (¬ (0 ≤ i.toInt ∧ i.toInt ≤ 127) → r = -2) ∧ ∀ k, 64 ≤ k → w1 k = w k) := by
  refine mk_i (own := "NoonShade") rfl (by decide) (Nat.le_of_ble_eq_true rfl) ?_
  intro p e s m below meth c ls X hD hN hr hlk h hl
  have hx := X.1.1
  have hb := X.1.2.1
  have hown := X.1.2.2.2.1
  have hts := X.1.2.2.2.2
  have hl : lv_has ls 2 [(0, .ref (ad 0)), (1, .int i)] := hl
  refine lv_iload_n hx hb dX8_type_0 rfl (lv_at hl 1 rfl) ?_
  refine lv_iconst (v := 0) hx hb dX8_type_1 (by decide) ?_
  refine lv_bipush (v := 127) hx hb dX8_type_2 (by decide) ?_
  refine q_Si (na := 3) (As := [.int i, .int 0, .int 127]) (rest := []) X hD hN h (c_within l G cI cB cZ cO ad w i 0 127 ((i).toInt) 0 127 rfl rfl rfl) ⟨kw_38, kw_39, kw_14, kw_40⟩ ⟨by decide, by decide, by decide⟩ ⟨Nat.le_of_ble_eq_true rfl, Nat.le_of_ble_eq_true rfl⟩ ⟨Nat.zero_le _, Nat.zero_le _⟩ rfl hl.1 rfl (Nat.le_of_ble_eq_true rfl) dX8_type_4 (fun r1 w2 H locs hp3 h => ?_)
  obtain ⟨e4, hp3⟩ := hp3
  rcases hp3 with ⟨hq5a, hq5b, rfl⟩ | ⟨hq5, rfl⟩
  · refine lv_if_ne (tgt := 17) hx hb dX8_type_7 (by decide) (fun _ => ?_) (fun hc => absurd hc (by decide))
    refine lv_aload_n hx hb dX8_type_17 rfl (lv_at hl 0 rfl) ?_
    have f6 : w 0 = .inr (6, [.ref (ad 1), .ref (ad 14), .ref (ad 27), .ref (ad 54), .ref (ad 55), .ref (ad 58), .ref (ad 62), .long 0, .long 1, .int 0, .int 0, .int 0]) := F 0 (by decide)
    have f7 : w2 0 = .inr (6, [.ref (ad 1), .ref (ad 14), .ref (ad 27), .ref (ad 54), .ref (ad 55), .ref (ad 58), .ref (ad 62), .long 0, .long 1, .int 0, .int 0, .int 0]) := by rw [e4]; exact f6
    refine r_get kc8 X h 0 4 (by decide) rfl f7 (by decide) kw_70 rfl dX8_type_18 ?_
    have f8 : w 55 = .inr (5, [.ref (ad 56), .ref (ad 57), .int 0, .int 0, .int 0, .int 0, .int 0]) := F 55 (by decide)
    have f9 : w2 55 = .inr (5, [.ref (ad 56), .ref (ad 57), .int 0, .int 0, .int 0, .int 0, .int 0]) := by rw [e4]; exact f8
    refine q_Vi (na := 0) (As := []) (rest := []) X hD hN h rfl (c_T_isFull l G cI cB cZ cO ad w2  f9) ⟨kw_71, kw_65, kw_66, kw_67, kw_68⟩ rfl ⟨by decide, by decide, by decide⟩ ⟨Nat.le_of_ble_eq_true rfl, Nat.le_of_ble_eq_true rfl⟩ ⟨Nat.zero_le _, Nat.zero_le _⟩ (by decide) f9 rfl rfl hl.1 rfl (Nat.le_of_ble_eq_true rfl) dX8_type_21 (fun r10 w11 H locs hp12 h => ?_)
    obtain ⟨e13, rfl⟩ := hp12
    refine lv_if_eq (tgt := 34) hx hb dX8_type_24 (by decide) (fun _ => ?_) (fun hc => absurd (by decide) hc)
    refine lv_aload_n hx hb dX8_type_34 rfl (lv_at hl 0 rfl) ?_
    have f14 : w11 0 = .inr (6, [.ref (ad 1), .ref (ad 14), .ref (ad 27), .ref (ad 54), .ref (ad 55), .ref (ad 58), .ref (ad 62), .long 0, .long 1, .int 0, .int 0, .int 0]) := by rw [e13]; exact f7
    refine r_get kc8 X h 0 4 (by decide) rfl f14 (by decide) kw_70 rfl dX8_type_35 ?_
    refine lv_iload_n hx hb dX8_type_38 rfl (lv_at hl 1 rfl) ?_
    have f15 : w11 55 = .inr (5, [.ref (ad 56), .ref (ad 57), .int 0, .int 0, .int 0, .int 0, .int 0]) := by rw [e13]; exact f9
    have f16 : w 56 = .inl (cB, 150, .inl (fun _ => 0)) := F 56 (by decide)
    have f17 : w2 56 = .inl (cB, 150, .inl (fun _ => 0)) := by rw [e4]; exact f16
    have f18 : w11 56 = .inl (cB, 150, .inl (fun _ => 0)) := by rw [e13]; exact f17
    refine q_Vi (na := 1) (As := [.int i]) (rest := []) X hD hN h rfl (c_T_add l G cI cB cZ cO ad w11 i f15 f18) ⟨kw_72, kw_73, kw_74, kw_67, kw_75⟩ rfl ⟨by decide, by decide, by decide⟩ ⟨Nat.le_of_ble_eq_true rfl, Nat.le_of_ble_eq_true rfl⟩ ⟨Nat.zero_le _, Nat.zero_le _⟩ (by decide) f15 rfl rfl hl.1 rfl (Nat.le_of_ble_eq_true rfl) dX8_type_39 (fun r19 w20 H locs hp21 h => ?_)
    obtain ⟨rfl, hk22⟩ := hp21
    exact e_i X h hr hlk dX8_type_42 ⟨fun _ => by first | rfl | omega, fun _ => by first | rfl | omega, fun k hk => (hk22 k (by omega)).trans ((congrFun e13 k).trans (congrFun e4 k))⟩
  · refine lv_if_ne (tgt := 17) hx hb dX8_type_7 (by decide) (fun hc => absurd (by decide) hc) (fun _ => ?_)
    refine lv_aload_n hx hb dX8_type_10 rfl (lv_at hl 0 rfl) ?_
    refine lv_bipush (v := (-2)) hx hb dX8_type_11 (by decide) ?_
    have f23 : w 0 = .inr (6, [.ref (ad 1), .ref (ad 14), .ref (ad 27), .ref (ad 54), .ref (ad 55), .ref (ad 58), .ref (ad 62), .long 0, .long 1, .int 0, .int 0, .int 0]) := F 0 (by decide)
    have f24 : w2 0 = .inr (6, [.ref (ad 1), .ref (ad 14), .ref (ad 27), .ref (ad 54), .ref (ad 55), .ref (ad 58), .ref (ad 62), .long 0, .long 1, .int 0, .int 0, .int 0]) := by rw [e4]; exact f23
    refine q_Vi (na := 1) (As := [.int (-2)]) (rest := []) X hD hN h rfl (c_refused l G cI cB cZ cO ad w2 _ _ _ _ _ _ _ _ _ _ _ _ (-2) f24) ⟨kw_11, kw_12, kw_13, kw_14, kw_15⟩ rfl ⟨by decide, by decide, by decide⟩ ⟨Nat.le_of_ble_eq_true rfl, Nat.le_of_ble_eq_true rfl⟩ ⟨Nat.zero_le _, Nat.zero_le _⟩ (by decide) f24 rfl rfl hl.1 rfl (Nat.le_of_ble_eq_true rfl) dX8_type_13 (fun r25 w26 H locs hp27 h => ?_)
    obtain ⟨rfl, x28, y29, z30, e31⟩ := hp27
    have f32 : w26 0 = .inr (6, [.ref (ad 1), .ref (ad 14), .ref (ad 27), .ref (ad 54), .ref (ad 55), .ref (ad 58), .ref (ad 62), .long 0, .long 1, .int x28, .int y29, .int z30]) := (congrFun e31 _).trans (va_up_self _ _ _)
    exact e_i X h hr hlk dX8_type_16 ⟨fun _ => by first | rfl | omega, fun _ => by first | rfl | omega, fun k hk => ((congrFun e31 k).trans (va_up_ne _ _ (by omega))).trans (congrFun e4 k)⟩

set_option maxHeartbeats 4000000 in
set_option maxRecDepth 100000 in
theorem c_X_clear (l : Launch) (G : va_G) (cI cB cZ cO : ClassId) (ad : Nat → Nat) (w : Nat → va_E) (F : ∀ k, k < 74 → w k = fr0 cI cB cZ cO ad k)  : MI l G (tyq cI cB cZ cO) yX8_clear cX8_clear 1 (some .int) 1 21 74 ad w [.ref (ad 0)] (fun r w1 => r = 0 ∧ ∀ k, 64 ≤ k → w1 k = w k) := by
  refine mk_i (own := "NoonShade") rfl (by decide) (Nat.le_of_ble_eq_true rfl) ?_
  intro p e s m below meth c ls X hD hN hr hlk h hl
  have hx := X.1.1
  have hb := X.1.2.1
  have hown := X.1.2.2.2.1
  have hts := X.1.2.2.2.2
  have hl : lv_has ls 1 [(0, .ref (ad 0))] := hl
  refine lv_aload_n hx hb dX8_clear_0 rfl (lv_at hl 0 rfl) ?_
  have f1 : w 0 = .inr (6, [.ref (ad 1), .ref (ad 14), .ref (ad 27), .ref (ad 54), .ref (ad 55), .ref (ad 58), .ref (ad 62), .long 0, .long 1, .int 0, .int 0, .int 0]) := F 0 (by decide)
  refine r_get kc8 X h 0 4 (by decide) rfl f1 (by decide) kw_70 rfl dX8_clear_1 ?_
  have f2 : w 55 = .inr (5, [.ref (ad 56), .ref (ad 57), .int 0, .int 0, .int 0, .int 0, .int 0]) := F 55 (by decide)
  refine q_Vi (na := 0) (As := []) (rest := []) X hD hN h rfl (c_T_empty l G cI cB cZ cO ad w  f2) ⟨kw_76, kw_77, kw_78, kw_67, kw_79⟩ rfl ⟨by decide, by decide, by decide⟩ ⟨Nat.le_of_ble_eq_true rfl, Nat.le_of_ble_eq_true rfl⟩ ⟨Nat.zero_le _, Nat.zero_le _⟩ (by decide) f2 rfl rfl hl.1 rfl (Nat.le_of_ble_eq_true rfl) dX8_clear_4 (fun r3 w4 H locs hp5 h => ?_)
  obtain ⟨rfl, hk6⟩ := hp5
  exact e_i X h hr hlk dX8_clear_7 ⟨rfl, fun k hk => hk6 k (by omega)⟩

set_option maxHeartbeats 4000000 in
set_option maxRecDepth 100000 in
theorem c_X_read (l : Launch) (G : va_G) (cI cB cZ cO : ClassId) (ad : Nat → Nat) (w : Nat → va_E) (F : ∀ k, k < 74 → w k = fr0 cI cB cZ cO ad k)  : MI l G (tyq cI cB cZ cO) yX8_read cX8_read 2 (some .int) 3 65 74 ad w [.ref (ad 0)] (fun r w1 => r = (-10) ∧ ∀ k, 64 ≤ k → w1 k = w k) := by
  refine mk_i (own := "NoonShade") rfl (by decide) (Nat.le_of_ble_eq_true rfl) ?_
  intro p e s m below meth c ls X hD hN hr hlk h hl
  have hx := X.1.1
  have hb := X.1.2.1
  have hown := X.1.2.2.2.1
  have hts := X.1.2.2.2.2
  have hl : lv_has ls 2 [(0, .ref (ad 0))] := hl
  refine lv_aload_n hx hb dX8_read_0 rfl (lv_at hl 0 rfl) ?_
  have f1 : w 0 = .inr (6, [.ref (ad 1), .ref (ad 14), .ref (ad 27), .ref (ad 54), .ref (ad 55), .ref (ad 58), .ref (ad 62), .long 0, .long 1, .int 0, .int 0, .int 0]) := F 0 (by decide)
  refine r_get kc8 X h 0 4 (by decide) rfl f1 (by decide) kw_70 rfl dX8_read_1 ?_
  refine lv_aload_n hx hb dX8_read_4 rfl (lv_at hl 0 rfl) ?_
  refine r_get kc8 X h 0 1 (by decide) rfl f1 (by decide) kw_91 rfl dX8_read_5 ?_
  have f2 : w 55 = .inr (5, [.ref (ad 56), .ref (ad 57), .int 0, .int 0, .int 0, .int 0, .int 0]) := F 55 (by decide)
  have f3 : w 14 = .inr (1, [.int 0, .int 0, .int 0, .int 0, .int 0, .ref (ad 15), .ref (ad 16), .ref (ad 17), .ref (ad 18), .ref (ad 19), .ref (ad 20), .ref (ad 21), .ref (ad 23), .ref (ad 25)]) := F 14 (by decide)
  have f4 : w 21 = .inr (4, [.ref (ad 22), .int 0]) := F 21 (by decide)
  have f5 : w 23 = .inr (4, [.ref (ad 24), .int 0]) := F 23 (by decide)
  have f6 : w 25 = .inr (2, [.ref (ad 26), .int 0]) := F 25 (by decide)
  refine q_Vi (na := 1) (As := [.ref (ad 14)]) (rest := []) X hD hN h rfl (c_T_tell l G cI cB cZ cO ad w  f2 f3 f4 f5 f6) ⟨kw_92, kw_93, kw_94, kw_67, kw_95⟩ rfl ⟨by decide, by decide, by decide⟩ ⟨Nat.le_of_ble_eq_true rfl, Nat.le_of_ble_eq_true rfl⟩ ⟨Nat.zero_le _, Nat.zero_le _⟩ (by decide) f2 rfl rfl hl.1 rfl (Nat.le_of_ble_eq_true rfl) dX8_read_8 (fun r7 w8 H locs hp9 h => ?_)
  obtain ⟨rfl, hk10⟩ := hp9
  refine lv_istore_n (lv' := [(1, .int (-10)), (0, .ref (ad 0))]) hx hb dX8_read_11 rfl hl (by decide) rfl (fun ls hl => ?_)
  refine lv_iload_n hx hb dX8_read_12 rfl (lv_at hl 0 rfl) ?_
  refine lv_if_le (tgt := 27) hx hb dX8_read_13 (by decide) (fun _ => ?_) (fun hc => absurd (by decide) hc)
  refine lv_iload_n hx hb dX8_read_27 rfl (lv_at hl 0 rfl) ?_
  exact e_i X h hr hlk dX8_read_28 ⟨rfl, fun k hk => hk10 k (by omega)⟩

set_option maxHeartbeats 4000000 in
set_option maxRecDepth 100000 in
theorem c_X_undo (l : Launch) (G : va_G) (cI cB cZ cO : ClassId) (ad : Nat → Nat) (w : Nat → va_E) (F : ∀ k, k < 74 → w k = fr0 cI cB cZ cO ad k)  : MI l G (tyq cI cB cZ cO) yX8_undo cX8_undo 1 (some .int) 1 22 74 ad w [.ref (ad 0)] (fun r w1 => r = (-3) ∧ ∀ k, 64 ≤ k → w1 k = w k) := by
  refine mk_i (own := "NoonShade") rfl (by decide) (Nat.le_of_ble_eq_true rfl) ?_
  intro p e s m below meth c ls X hD hN hr hlk h hl
  have hx := X.1.1
  have hb := X.1.2.1
  have hown := X.1.2.2.2.1
  have hts := X.1.2.2.2.2
  have hl : lv_has ls 1 [(0, .ref (ad 0))] := hl
  refine lv_aload_n hx hb dX8_undo_0 rfl (lv_at hl 0 rfl) ?_
  have f1 : w 0 = .inr (6, [.ref (ad 1), .ref (ad 14), .ref (ad 27), .ref (ad 54), .ref (ad 55), .ref (ad 58), .ref (ad 62), .long 0, .long 1, .int 0, .int 0, .int 0]) := F 0 (by decide)
  refine r_get kc8 X h 0 0 (by decide) rfl f1 (by decide) kw_5 rfl dX8_undo_1 ?_
  have f2 : w 1 = .inr (1, [.int 0, .int 0, .int 0, .int 0, .int 0, .ref (ad 2), .ref (ad 3), .ref (ad 4), .ref (ad 5), .ref (ad 6), .ref (ad 7), .ref (ad 8), .ref (ad 10), .ref (ad 12)]) := F 1 (by decide)
  refine r_get kc2 X h 1 13 (by decide) rfl f2 (by decide) kw_52 rfl dX8_undo_4 ?_
  refine lv_aload_n hx hb dX8_undo_7 rfl (lv_at hl 0 rfl) ?_
  refine r_get kc8 X h 0 0 (by decide) rfl f1 (by decide) kw_5 rfl dX8_undo_8 ?_
  have f3 : w 12 = .inr (2, [.ref (ad 13), .int 0]) := F 12 (by decide)
  refine q_Vi (na := 1) (As := [.ref (ad 1)]) (rest := []) X hD hN h rfl (c_bringBack l G cI cB cZ cO ad w  f3) ⟨kw_96, kw_97, kw_98, kw_36, kw_99⟩ rfl ⟨by decide, by decide, by decide⟩ ⟨Nat.le_of_ble_eq_true rfl, Nat.le_of_ble_eq_true rfl⟩ ⟨Nat.zero_le _, Nat.zero_le _⟩ (by decide) f3 rfl rfl hl.1 rfl (Nat.le_of_ble_eq_true rfl) dX8_undo_11 (fun r4 w5 H locs hp6 h => ?_)
  obtain ⟨e7, rfl⟩ := hp6
  refine lv_if_ne (tgt := 24) hx hb dX8_undo_14 (by decide) (fun hc => absurd (by decide) hc) (fun _ => ?_)
  refine lv_aload_n hx hb dX8_undo_17 rfl (lv_at hl 0 rfl) ?_
  refine lv_bipush (v := (-3)) hx hb dX8_undo_18 (by decide) ?_
  have f8 : w5 0 = .inr (6, [.ref (ad 1), .ref (ad 14), .ref (ad 27), .ref (ad 54), .ref (ad 55), .ref (ad 58), .ref (ad 62), .long 0, .long 1, .int 0, .int 0, .int 0]) := by rw [e7]; exact f1
  refine q_Vi (na := 1) (As := [.int (-3)]) (rest := []) X hD hN h rfl (c_refused l G cI cB cZ cO ad w5 _ _ _ _ _ _ _ _ _ _ _ _ (-3) f8) ⟨kw_11, kw_12, kw_13, kw_14, kw_15⟩ rfl ⟨by decide, by decide, by decide⟩ ⟨Nat.le_of_ble_eq_true rfl, Nat.le_of_ble_eq_true rfl⟩ ⟨Nat.zero_le _, Nat.zero_le _⟩ (by decide) f8 rfl rfl hl.1 rfl (Nat.le_of_ble_eq_true rfl) dX8_undo_20 (fun r9 w10 H locs hp11 h => ?_)
  obtain ⟨rfl, x12, y13, z14, e15⟩ := hp11
  have f16 : w10 0 = .inr (6, [.ref (ad 1), .ref (ad 14), .ref (ad 27), .ref (ad 54), .ref (ad 55), .ref (ad 58), .ref (ad 62), .long 0, .long 1, .int x12, .int y13, .int z14]) := (congrFun e15 _).trans (va_up_self _ _ _)
  exact e_i X h hr hlk dX8_undo_23 ⟨rfl, fun k hk => ((congrFun e15 k).trans (va_up_ne _ _ (by omega))).trans (congrFun e7 k)⟩

set_option maxHeartbeats 4000000 in
set_option maxRecDepth 100000 in
theorem c_X_forget (l : Launch) (G : va_G) (cI cB cZ cO : ClassId) (ad : Nat → Nat) (w : Nat → va_E) (F : ∀ k, k < 74 → w k = fr0 cI cB cZ cO ad k) (u : Int32) : MI l G (tyq cI cB cZ cO) yX8_forget cX8_forget 2 (some .int) 1 21 74 ad w [.ref (ad 0), .int u] (fun r w1 => (u.toInt = 0 ∨ u.toInt = 1 → r = 0) ∧ (¬ (u.toInt = 0 ∨ u.toInt = 1) → r = -2) ∧ ∀ k, 64 ≤ k → w1 k = w k) := by
  refine mk_i (own := "NoonShade") rfl (by decide) (Nat.le_of_ble_eq_true rfl) ?_
  intro p e s m below meth c ls X hD hN hr hlk h hl
  have hx := X.1.1
  have hb := X.1.2.1
  have hown := X.1.2.2.2.1
  have hts := X.1.2.2.2.2
  have hl : lv_has ls 2 [(0, .ref (ad 0)), (1, .int u)] := hl
  refine lv_iload_n hx hb dX8_forget_0 rfl (lv_at hl 1 rfl) ?_
  by_cases hq1 : (u).toInt = 0
  · refine lv_lookup (tgt := 28) (off := 27) hx hb dX8_forget_1 (by decide) (by rw [hq1]; rfl) (by decide) ?_
    refine lv_aload_n hx hb dX8_forget_28 rfl (lv_at hl 0 rfl) ?_
    have f2 : w 0 = .inr (6, [.ref (ad 1), .ref (ad 14), .ref (ad 27), .ref (ad 54), .ref (ad 55), .ref (ad 58), .ref (ad 62), .long 0, .long 1, .int 0, .int 0, .int 0]) := F 0 (by decide)
    refine r_get kc8 X h 0 0 (by decide) rfl f2 (by decide) kw_5 rfl dX8_forget_29 ?_
    have f3 : w 1 = .inr (1, [.int 0, .int 0, .int 0, .int 0, .int 0, .ref (ad 2), .ref (ad 3), .ref (ad 4), .ref (ad 5), .ref (ad 6), .ref (ad 7), .ref (ad 8), .ref (ad 10), .ref (ad 12)]) := F 1 (by decide)
    refine r_get kc2 X h 1 11 (by decide) rfl f3 (by decide) kw_100 rfl dX8_forget_32 ?_
    have f4 : w 8 = .inr (4, [.ref (ad 9), .int 0]) := F 8 (by decide)
    refine q_Vi (na := 0) (As := []) (rest := []) X hD hN h rfl (c_R_empty l G cI cB cZ cO ad w 8 _ _ (by decide) f4) ⟨kw_101, kw_27, kw_28, kw_29, kw_30⟩ rfl ⟨by decide, by decide, by decide⟩ ⟨Nat.le_of_ble_eq_true rfl, Nat.le_of_ble_eq_true rfl⟩ ⟨Nat.zero_le _, Nat.zero_le _⟩ (by decide) f4 rfl rfl hl.1 rfl (Nat.le_of_ble_eq_true rfl) dX8_forget_35 (fun r5 w6 H locs hp7 h => ?_)
    obtain ⟨hr10, e8⟩ := hp7
    subst hr10
    have f9 : w6 8 = .inr (4, [.ref (ad 9), .int 0]) := (congrFun e8 _).trans (va_up_self _ _ _)
    exact e_i X h hr hlk dX8_forget_38 ⟨fun _ => by first | rfl | omega, fun _ => by first | rfl | omega, fun k hk => (congrFun e8 k).trans (va_up_ne _ _ (by omega))⟩
  by_cases hq11 : (u).toInt = 1
  · refine lv_lookup (tgt := 39) (off := 38) hx hb dX8_forget_1 (by decide) (by rw [hq11]; rfl) (by decide) ?_
    refine lv_aload_n hx hb dX8_forget_39 rfl (lv_at hl 0 rfl) ?_
    have f12 : w 0 = .inr (6, [.ref (ad 1), .ref (ad 14), .ref (ad 27), .ref (ad 54), .ref (ad 55), .ref (ad 58), .ref (ad 62), .long 0, .long 1, .int 0, .int 0, .int 0]) := F 0 (by decide)
    refine r_get kc8 X h 0 0 (by decide) rfl f12 (by decide) kw_5 rfl dX8_forget_40 ?_
    have f13 : w 1 = .inr (1, [.int 0, .int 0, .int 0, .int 0, .int 0, .ref (ad 2), .ref (ad 3), .ref (ad 4), .ref (ad 5), .ref (ad 6), .ref (ad 7), .ref (ad 8), .ref (ad 10), .ref (ad 12)]) := F 1 (by decide)
    refine r_get kc2 X h 1 12 (by decide) rfl f13 (by decide) kw_102 rfl dX8_forget_43 ?_
    have f14 : w 10 = .inr (4, [.ref (ad 11), .int 0]) := F 10 (by decide)
    refine q_Vi (na := 0) (As := []) (rest := []) X hD hN h rfl (c_R_empty l G cI cB cZ cO ad w 10 _ _ (by decide) f14) ⟨kw_101, kw_27, kw_28, kw_29, kw_30⟩ rfl ⟨by decide, by decide, by decide⟩ ⟨Nat.le_of_ble_eq_true rfl, Nat.le_of_ble_eq_true rfl⟩ ⟨Nat.zero_le _, Nat.zero_le _⟩ (by decide) f14 rfl rfl hl.1 rfl (Nat.le_of_ble_eq_true rfl) dX8_forget_46 (fun r15 w16 H locs hp17 h => ?_)
    obtain ⟨hr20, e18⟩ := hp17
    subst hr20
    have f19 : w16 10 = .inr (4, [.ref (ad 11), .int 0]) := (congrFun e18 _).trans (va_up_self _ _ _)
    exact e_i X h hr hlk dX8_forget_49 ⟨fun _ => by first | rfl | omega, fun _ => by first | rfl | omega, fun k hk => (congrFun e18 k).trans (va_up_ne _ _ (by omega))⟩
  refine lv_lookup (tgt := 50) (off := 49) hx hb dX8_forget_1 (by decide) (by show (if (0 : Int) = _ then _ else if (1 : Int) = _ then _ else _) = _; rw [if_neg (by omega), if_neg (by omega)]) (by decide) ?_
  refine lv_aload_n hx hb dX8_forget_50 rfl (lv_at hl 0 rfl) ?_
  refine lv_bipush (v := (-2)) hx hb dX8_forget_51 (by decide) ?_
  have f21 : w 0 = .inr (6, [.ref (ad 1), .ref (ad 14), .ref (ad 27), .ref (ad 54), .ref (ad 55), .ref (ad 58), .ref (ad 62), .long 0, .long 1, .int 0, .int 0, .int 0]) := F 0 (by decide)
  refine q_Vi (na := 1) (As := [.int (-2)]) (rest := []) X hD hN h rfl (c_refused l G cI cB cZ cO ad w _ _ _ _ _ _ _ _ _ _ _ _ (-2) f21) ⟨kw_11, kw_12, kw_13, kw_14, kw_15⟩ rfl ⟨by decide, by decide, by decide⟩ ⟨Nat.le_of_ble_eq_true rfl, Nat.le_of_ble_eq_true rfl⟩ ⟨Nat.zero_le _, Nat.zero_le _⟩ (by decide) f21 rfl rfl hl.1 rfl (Nat.le_of_ble_eq_true rfl) dX8_forget_53 (fun r22 w23 H locs hp24 h => ?_)
  obtain ⟨rfl, x25, y26, z27, e28⟩ := hp24
  have f29 : w23 0 = .inr (6, [.ref (ad 1), .ref (ad 14), .ref (ad 27), .ref (ad 54), .ref (ad 55), .ref (ad 58), .ref (ad 62), .long 0, .long 1, .int x25, .int y26, .int z27]) := (congrFun e28 _).trans (va_up_self _ _ _)
  exact e_i X h hr hlk dX8_forget_56 ⟨fun _ => by first | rfl | omega, fun _ => by first | rfl | omega, fun k hk => (congrFun e28 k).trans (va_up_ne _ _ (by omega))⟩

set_option maxHeartbeats 4000000 in
set_option maxRecDepth 100000 in
theorem c_X_two (l : Launch) (G : va_G) (cI cB cZ cO : ClassId) (ad : Nat → Nat) (w : Nat → va_E) (F : ∀ k, k < 74 → w k = fr0 cI cB cZ cO ad k) (k : Int32) : MI l G (tyq cI cB cZ cO) yX8_two cX8_two 5 (some .int) 1 21 74 ad w [.ref (ad 0), .int k] (fun r w1 => (k.toInt < -1 → r = -10) ∧ (k.toInt = -1 → r = 0) ∧ (-1 < k.toInt → r = -5) ∧ ∀ k, 64 ≤ k → w1 k = w k) := by
  refine mk_i (own := "NoonShade") rfl (by decide) (Nat.le_of_ble_eq_true rfl) ?_
  intro p e s m below meth c ls X hD hN hr hlk h hl
  have hx := X.1.1
  have hb := X.1.2.1
  have hown := X.1.2.2.2.1
  have hts := X.1.2.2.2.2
  have hl : lv_has ls 5 [(0, .ref (ad 0)), (1, .int k)] := hl
  refine lv_iload_n hx hb dX8_two_0 rfl (lv_at hl 1 rfl) ?_
  refine lv_iconst (v := (-1)) hx hb dX8_two_1 (by decide) ?_
  refine lv_icmp_ge (tgt := 15) hx hb dX8_two_2 (by decide) (fun hc1 => ?_) (fun hc1 => ?_)
  · have hc1 : (-1) ≤ (k).toInt := i_le hc1 rfl rfl
    refine lv_iconst (v := 0) hx hb dX8_two_15 (by decide) ?_
    refine lv_istore_n (lv' := [(2, .int 0), (0, .ref (ad 0)), (1, .int k)]) hx hb dX8_two_16 rfl hl (by decide) rfl (fun ls hl => ?_)
    refine lv_iconst (v := 0) hx hb dX8_two_17 (by decide) ?_
    refine lv_istore_n (lv' := [(3, .int 0), (2, .int 0), (0, .ref (ad 0)), (1, .int k)]) hx hb dX8_two_18 rfl hl (by decide) rfl (fun ls hl => ?_)
    refine lv_iload_n hx hb dX8_two_19 rfl (lv_at hl 0 rfl) ?_
    refine lv_aload_n hx hb dX8_two_20 rfl (lv_at hl 2 rfl) ?_
    have f2 : w 0 = .inr (6, [.ref (ad 1), .ref (ad 14), .ref (ad 27), .ref (ad 54), .ref (ad 55), .ref (ad 58), .ref (ad 62), .long 0, .long 1, .int 0, .int 0, .int 0]) := F 0 (by decide)
    refine r_get kc8 X h 0 0 (by decide) rfl f2 (by decide) kw_5 rfl dX8_two_21 ?_
    have f3 : w 1 = .inr (1, [.int 0, .int 0, .int 0, .int 0, .int 0, .ref (ad 2), .ref (ad 3), .ref (ad 4), .ref (ad 5), .ref (ad 6), .ref (ad 7), .ref (ad 8), .ref (ad 10), .ref (ad 12)]) := F 1 (by decide)
    refine r_get kc2 X h 1 3 (by decide) rfl f3 (by decide) kw_41 rfl dX8_two_24 ?_
    refine lv_icmp_ge (tgt := 83) hx hb dX8_two_27 (by decide) (fun _ => ?_) (fun hc => absurd (by decide) hc)
    refine lv_iload_n hx hb dX8_two_83 rfl (lv_at hl 3 rfl) ?_
    refine lv_iconst (v := (-1)) hx hb dX8_two_84 (by decide) ?_
    refine lv_icmp_ne (tgt := 92) hx hb dX8_two_85 (by decide) (fun hc4 => ?_) (fun hc4 => ?_)
    · have hc4 : ¬ (k).toInt = (-1) := i_ne hc4 rfl rfl
      refine lv_bipush (v := (-5)) hx hb dX8_two_92 (by decide) ?_
      exact e_i X h hr hlk dX8_two_94 ⟨fun _ => by first | rfl | omega, fun _ => by first | rfl | omega, fun _ => by first | rfl | omega, fun k hk => rfl⟩
    · have hc4 : (k).toInt = (-1) := i_eq hc4 rfl rfl
      refine lv_iload_n hx hb dX8_two_88 rfl (lv_at hl 1 rfl) ?_
      refine lv_goto (tgt := 94) hx hb dX8_two_89 (by decide) ?_
      exact e_i X h hr hlk dX8_two_94 ⟨fun _ => by first | rfl | omega, fun _ => by first | rfl | omega, fun _ => by first | rfl | omega, fun k hk => rfl⟩
  · have hc1 : ¬ (-1) ≤ (k).toInt := i_nle hc1 rfl rfl
    refine lv_aload_n hx hb dX8_two_5 rfl (lv_at hl 0 rfl) ?_
    refine lv_bipush (v := (-2)) hx hb dX8_two_6 (by decide) ?_
    have f5 : w 0 = .inr (6, [.ref (ad 1), .ref (ad 14), .ref (ad 27), .ref (ad 54), .ref (ad 55), .ref (ad 58), .ref (ad 62), .long 0, .long 1, .int 0, .int 0, .int 0]) := F 0 (by decide)
    refine q_Vi (na := 1) (As := [.int (-2)]) (rest := []) X hD hN h rfl (c_refused l G cI cB cZ cO ad w _ _ _ _ _ _ _ _ _ _ _ _ (-2) f5) ⟨kw_11, kw_12, kw_13, kw_14, kw_15⟩ rfl ⟨by decide, by decide, by decide⟩ ⟨Nat.le_of_ble_eq_true rfl, Nat.le_of_ble_eq_true rfl⟩ ⟨Nat.zero_le _, Nat.zero_le _⟩ (by decide) f5 rfl rfl hl.1 rfl (Nat.le_of_ble_eq_true rfl) dX8_two_8 (fun r6 w7 H locs hp8 h => ?_)
    obtain ⟨rfl, x9, y10, z11, e12⟩ := hp8
    have f13 : w7 0 = .inr (6, [.ref (ad 1), .ref (ad 14), .ref (ad 27), .ref (ad 54), .ref (ad 55), .ref (ad 58), .ref (ad 62), .long 0, .long 1, .int x9, .int y10, .int z11]) := (congrFun e12 _).trans (va_up_self _ _ _)
    refine lv_pop hx hb dX8_two_11 rfl ?_
    refine lv_bipush (v := (-10)) hx hb dX8_two_12 (by decide) ?_
    exact e_i X h hr hlk dX8_two_14 ⟨fun _ => by first | rfl | omega, fun _ => by first | rfl | omega, fun _ => by first | rfl | omega, fun k hk => (congrFun e12 k).trans (va_up_ne _ _ (by omega))⟩

set_option maxHeartbeats 4000000 in
set_option maxRecDepth 100000 in
theorem c_X_part (l : Launch) (G : va_G) (cI cB cZ cO : ClassId) (ad : Nat → Nat) (w : Nat → va_E) (F : ∀ k, k < 74 → w k = fr0 cI cB cZ cO ad k) (u : Int32) : ML l G (tyq cI cB cZ cO) yX8_part cX8_part 2 (some .long) 1 21 74 ad w [.ref (ad 0), .int u] (fun r w1 => (u.toInt = 0 → r = 0) ∧ (u.toInt = 1 → r = 1) ∧ (¬ u.toInt = 0 ∧ ¬ u.toInt = 1 → r = -2) ∧ ∀ k, 64 ≤ k → w1 k = w k) := by
  refine mk_l (own := "NoonShade") rfl (by decide) (Nat.le_of_ble_eq_true rfl) ?_
  intro p e s m below meth c ls X hD hN hr hlk h hl
  have hx := X.1.1
  have hb := X.1.2.1
  have hown := X.1.2.2.2.1
  have hts := X.1.2.2.2.2
  have hl : lv_has ls 2 [(0, .ref (ad 0)), (1, .int u)] := hl
  refine lv_iload_n hx hb dX8_part_0 rfl (lv_at hl 1 rfl) ?_
  by_cases hq1 : (u).toInt = 0
  · refine lv_lookup (tgt := 28) (off := 27) hx hb dX8_part_1 (by decide) (by rw [hq1]; rfl) (by decide) ?_
    refine lv_aload_n hx hb dX8_part_28 rfl (lv_at hl 0 rfl) ?_
    have f2 : w 0 = .inr (6, [.ref (ad 1), .ref (ad 14), .ref (ad 27), .ref (ad 54), .ref (ad 55), .ref (ad 58), .ref (ad 62), .long 0, .long 1, .int 0, .int 0, .int 0]) := F 0 (by decide)
    refine r_get kc8 X h 0 7 (by decide) rfl f2 (by decide) kw_103 rfl dX8_part_29 ?_
    exact e_l X h hr hlk dX8_part_32 ⟨fun _ => by first | rfl | omega, fun _ => by first | rfl | omega, fun _ => by first | rfl | omega, fun k hk => rfl⟩
  by_cases hq3 : (u).toInt = 1
  · refine lv_lookup (tgt := 33) (off := 32) hx hb dX8_part_1 (by decide) (by rw [hq3]; rfl) (by decide) ?_
    refine lv_aload_n hx hb dX8_part_33 rfl (lv_at hl 0 rfl) ?_
    have f4 : w 0 = .inr (6, [.ref (ad 1), .ref (ad 14), .ref (ad 27), .ref (ad 54), .ref (ad 55), .ref (ad 58), .ref (ad 62), .long 0, .long 1, .int 0, .int 0, .int 0]) := F 0 (by decide)
    refine r_get kc8 X h 0 8 (by decide) rfl f4 (by decide) kw_104 rfl dX8_part_34 ?_
    exact e_l X h hr hlk dX8_part_37 ⟨fun _ => by first | rfl | omega, fun _ => by first | rfl | omega, fun _ => by first | rfl | omega, fun k hk => rfl⟩
  refine lv_lookup (tgt := 38) (off := 37) hx hb dX8_part_1 (by decide) (by show (if (0 : Int) = _ then _ else if (1 : Int) = _ then _ else _) = _; rw [if_neg (by omega), if_neg (by omega)]) (by decide) ?_
  refine lv_aload_n hx hb dX8_part_38 rfl (lv_at hl 0 rfl) ?_
  refine lv_bipush (v := (-2)) hx hb dX8_part_39 (by decide) ?_
  have f5 : w 0 = .inr (6, [.ref (ad 1), .ref (ad 14), .ref (ad 27), .ref (ad 54), .ref (ad 55), .ref (ad 58), .ref (ad 62), .long 0, .long 1, .int 0, .int 0, .int 0]) := F 0 (by decide)
  refine q_Vi (na := 1) (As := [.int (-2)]) (rest := []) X hD hN h rfl (c_refused l G cI cB cZ cO ad w _ _ _ _ _ _ _ _ _ _ _ _ (-2) f5) ⟨kw_11, kw_12, kw_13, kw_14, kw_15⟩ rfl ⟨by decide, by decide, by decide⟩ ⟨Nat.le_of_ble_eq_true rfl, Nat.le_of_ble_eq_true rfl⟩ ⟨Nat.zero_le _, Nat.zero_le _⟩ (by decide) f5 rfl rfl hl.1 rfl (Nat.le_of_ble_eq_true rfl) dX8_part_41 (fun r6 w7 H locs hp8 h => ?_)
  obtain ⟨rfl, x9, y10, z11, e12⟩ := hp8
  have f13 : w7 0 = .inr (6, [.ref (ad 1), .ref (ad 14), .ref (ad 27), .ref (ad 54), .ref (ad 55), .ref (ad 58), .ref (ad 62), .long 0, .long 1, .int x9, .int y10, .int z11]) := (congrFun e12 _).trans (va_up_self _ _ _)
  refine lv_i2l (v := (-2)) hx hb dX8_part_44 rfl ?_
  exact e_l X h hr hlk dX8_part_45 ⟨fun _ => by first | rfl | omega, fun _ => by first | rfl | omega, fun _ => by first | rfl | omega, fun k hk => (congrFun e12 k).trans (va_up_ne _ _ (by omega))⟩

set_option maxHeartbeats 4000000 in
set_option maxRecDepth 100000 in
theorem c_X_status (l : Launch) (G : va_G) (cI cB cZ cO : ClassId) (ad : Nat → Nat) (w : Nat → va_E) (F : ∀ k, k < 74 → w k = fr0 cI cB cZ cO ad k) (u : Int32) : MI l G (tyq cI cB cZ cO) yX8_status cX8_status 2 (some .int) 1 21 74 ad w [.ref (ad 0), .int u] (fun r w1 => (0 ≤ u.toInt ∧ u.toInt ≤ 2 → r = 0) ∧ (¬ (0 ≤ u.toInt ∧ u.toInt ≤ 2) → r = -1) ∧ ∀ k, 64 ≤ k → w1 k = w k) := by
  refine mk_i (own := "NoonShade") rfl (by decide) (Nat.le_of_ble_eq_true rfl) ?_
  intro p e s m below meth c ls X hD hN hr hlk h hl
  have hx := X.1.1
  have hb := X.1.2.1
  have hown := X.1.2.2.2.1
  have hts := X.1.2.2.2.2
  have hl : lv_has ls 2 [(0, .ref (ad 0)), (1, .int u)] := hl
  refine lv_iload_n hx hb dX8_status_0 rfl (lv_at hl 1 rfl) ?_
  by_cases hs1 : 0 ≤ (u).toInt ∧ (u).toInt ≤ 2
  · have ha2 : u = 0 ∨ u = 1 ∨ u = 2 := by simp only [fa_eq]; have := hs1; simp only [show ((0 : Int32).toInt = 0) from rfl, show ((1 : Int32).toInt = 1) from rfl, show ((2 : Int32).toInt = 2) from rfl]; omega
    rcases ha2 with hq | hq | hq
    · refine lv_tableIn (tgt := 28) (off := 27) hx hb dX8_status_1 (by rw [hq]; decide) (by rw [hq]; decide) (by rw [hq]; decide) (by decide) ?_
      refine lv_aload_n hx hb dX8_status_28 rfl (lv_at hl 0 rfl) ?_
      have f3 : w 0 = .inr (6, [.ref (ad 1), .ref (ad 14), .ref (ad 27), .ref (ad 54), .ref (ad 55), .ref (ad 58), .ref (ad 62), .long 0, .long 1, .int 0, .int 0, .int 0]) := F 0 (by decide)
      refine r_get kc8 X h 0 9 (by decide) rfl f3 (by decide) kw_4 rfl dX8_status_29 ?_
      exact e_i X h hr hlk dX8_status_32 ⟨fun _ => by first | rfl | omega, fun _ => by first | rfl | omega, fun k hk => rfl⟩
    · refine lv_tableIn (tgt := 33) (off := 32) hx hb dX8_status_1 (by rw [hq]; decide) (by rw [hq]; decide) (by rw [hq]; decide) (by decide) ?_
      refine lv_aload_n hx hb dX8_status_33 rfl (lv_at hl 0 rfl) ?_
      have f4 : w 0 = .inr (6, [.ref (ad 1), .ref (ad 14), .ref (ad 27), .ref (ad 54), .ref (ad 55), .ref (ad 58), .ref (ad 62), .long 0, .long 1, .int 0, .int 0, .int 0]) := F 0 (by decide)
      refine r_get kc8 X h 0 10 (by decide) rfl f4 (by decide) kw_3 rfl dX8_status_34 ?_
      exact e_i X h hr hlk dX8_status_37 ⟨fun _ => by first | rfl | omega, fun _ => by first | rfl | omega, fun k hk => rfl⟩
    · refine lv_tableIn (tgt := 38) (off := 37) hx hb dX8_status_1 (by rw [hq]; decide) (by rw [hq]; decide) (by rw [hq]; decide) (by decide) ?_
      refine lv_aload_n hx hb dX8_status_38 rfl (lv_at hl 0 rfl) ?_
      have f5 : w 0 = .inr (6, [.ref (ad 1), .ref (ad 14), .ref (ad 27), .ref (ad 54), .ref (ad 55), .ref (ad 58), .ref (ad 62), .long 0, .long 1, .int 0, .int 0, .int 0]) := F 0 (by decide)
      refine r_get kc8 X h 0 11 (by decide) rfl f5 (by decide) kw_2 rfl dX8_status_39 ?_
      exact e_i X h hr hlk dX8_status_42 ⟨fun _ => by first | rfl | omega, fun _ => by first | rfl | omega, fun k hk => rfl⟩
  · refine lv_tableOut (tgt := 43) hx hb dX8_status_1 (by omega) (by decide) ?_
    refine lv_aload_n hx hb dX8_status_43 rfl (lv_at hl 0 rfl) ?_
    refine lv_bipush (v := (-2)) hx hb dX8_status_44 (by decide) ?_
    have f6 : w 0 = .inr (6, [.ref (ad 1), .ref (ad 14), .ref (ad 27), .ref (ad 54), .ref (ad 55), .ref (ad 58), .ref (ad 62), .long 0, .long 1, .int 0, .int 0, .int 0]) := F 0 (by decide)
    refine q_Vi (na := 1) (As := [.int (-2)]) (rest := []) X hD hN h rfl (c_refused l G cI cB cZ cO ad w _ _ _ _ _ _ _ _ _ _ _ _ (-2) f6) ⟨kw_11, kw_12, kw_13, kw_14, kw_15⟩ rfl ⟨by decide, by decide, by decide⟩ ⟨Nat.le_of_ble_eq_true rfl, Nat.le_of_ble_eq_true rfl⟩ ⟨Nat.zero_le _, Nat.zero_le _⟩ (by decide) f6 rfl rfl hl.1 rfl (Nat.le_of_ble_eq_true rfl) dX8_status_46 (fun r7 w8 H locs hp9 h => ?_)
    obtain ⟨rfl, x10, y11, z12, e13⟩ := hp9
    have f14 : w8 0 = .inr (6, [.ref (ad 1), .ref (ad 14), .ref (ad 27), .ref (ad 54), .ref (ad 55), .ref (ad 58), .ref (ad 62), .long 0, .long 1, .int x10, .int y11, .int z12]) := (congrFun e13 _).trans (va_up_self _ _ _)
    refine lv_pop hx hb dX8_status_49 rfl ?_
    refine lv_iconst (v := (-1)) hx hb dX8_status_50 (by decide) ?_
    exact e_i X h hr hlk dX8_status_51 ⟨fun _ => by first | rfl | omega, fun _ => by first | rfl | omega, fun k hk => (congrFun e13 k).trans (va_up_ne _ _ (by omega))⟩

set_option maxHeartbeats 4000000 in
set_option maxRecDepth 100000 in
theorem c_X_from (l : Launch) (G : va_G) (cI cB cZ cO : ClassId) (ad : Nat → Nat) (w : Nat → va_E) (F : ∀ k, k < 74 → w k = fr0 cI cB cZ cO ad k) (i : Int32) : MI l G (tyq cI cB cZ cO) yX8_from cX8_from 2 (some .int) 1 22 74 ad w [.ref (ad 0), .int i] (fun r w1 => (0 ≤ i.toInt ∧ i.toInt ≤ 1 → r = -3) ∧ (¬ (0 ≤ i.toInt ∧ i.toInt ≤ 1) → r = -2) ∧ ∀ k, 64 ≤ k → w1 k = w k) := by
  refine mk_i (own := "NoonShade") rfl (by decide) (Nat.le_of_ble_eq_true rfl) ?_
  intro p e s m below meth c ls X hD hN hr hlk h hl
  have hx := X.1.1
  have hb := X.1.2.1
  have hown := X.1.2.2.2.1
  have hts := X.1.2.2.2.2
  have hl : lv_has ls 2 [(0, .ref (ad 0)), (1, .int i)] := hl
  refine lv_iload_n hx hb dX8_from_0 rfl (lv_at hl 1 rfl) ?_
  refine lv_iconst (v := 0) hx hb dX8_from_1 (by decide) ?_
  refine lv_iconst (v := 1) hx hb dX8_from_2 (by decide) ?_
  refine q_Si (na := 3) (As := [.int i, .int 0, .int 1]) (rest := []) X hD hN h (c_within l G cI cB cZ cO ad w i 0 1 ((i).toInt) 0 1 rfl rfl rfl) ⟨kw_38, kw_39, kw_14, kw_40⟩ ⟨by decide, by decide, by decide⟩ ⟨Nat.le_of_ble_eq_true rfl, Nat.le_of_ble_eq_true rfl⟩ ⟨Nat.zero_le _, Nat.zero_le _⟩ rfl hl.1 rfl (Nat.le_of_ble_eq_true rfl) dX8_from_3 (fun r1 w2 H locs hp3 h => ?_)
  obtain ⟨e4, hp3⟩ := hp3
  rcases hp3 with ⟨hq5a, hq5b, rfl⟩ | ⟨hq5, rfl⟩
  · refine lv_if_ne (tgt := 16) hx hb dX8_from_6 (by decide) (fun _ => ?_) (fun hc => absurd hc (by decide))
    refine lv_aload_n hx hb dX8_from_16 rfl (lv_at hl 0 rfl) ?_
    have f6 : w 0 = .inr (6, [.ref (ad 1), .ref (ad 14), .ref (ad 27), .ref (ad 54), .ref (ad 55), .ref (ad 58), .ref (ad 62), .long 0, .long 1, .int 0, .int 0, .int 0]) := F 0 (by decide)
    have f7 : w2 0 = .inr (6, [.ref (ad 1), .ref (ad 14), .ref (ad 27), .ref (ad 54), .ref (ad 55), .ref (ad 58), .ref (ad 62), .long 0, .long 1, .int 0, .int 0, .int 0]) := by rw [e4]; exact f6
    refine r_get kc8 X h 0 3 (by decide) rfl f7 (by decide) kw_105 rfl dX8_from_17 ?_
    refine lv_iload_n hx hb dX8_from_20 rfl (lv_at hl 1 rfl) ?_
    have f8 : w 54 = .inl (cZ, 2, .inl (fun _ => 0)) := F 54 (by decide)
    have f9 : w2 54 = .inl (cZ, 2, .inl (fun _ => 0)) := by rw [e4]; exact f8
    refine o_zald (v := 0) X h 54 2 (by decide) rfl f9 rfl (in_of (by omega) (by omega)) rfl dX8_from_21 ?_
    refine lv_if_ne (tgt := 32) hx hb dX8_from_22 (by decide) (fun hc => absurd (by decide) hc) (fun _ => ?_)
    refine lv_aload_n hx hb dX8_from_25 rfl (lv_at hl 0 rfl) ?_
    refine lv_bipush (v := (-3)) hx hb dX8_from_26 (by decide) ?_
    refine q_Vi (na := 1) (As := [.int (-3)]) (rest := []) X hD hN h rfl (c_refused l G cI cB cZ cO ad w2 _ _ _ _ _ _ _ _ _ _ _ _ (-3) f7) ⟨kw_11, kw_12, kw_13, kw_14, kw_15⟩ rfl ⟨by decide, by decide, by decide⟩ ⟨Nat.le_of_ble_eq_true rfl, Nat.le_of_ble_eq_true rfl⟩ ⟨Nat.zero_le _, Nat.zero_le _⟩ (by decide) f7 rfl rfl hl.1 rfl (Nat.le_of_ble_eq_true rfl) dX8_from_28 (fun r10 w11 H locs hp12 h => ?_)
    obtain ⟨rfl, x13, y14, z15, e16⟩ := hp12
    have f17 : w11 0 = .inr (6, [.ref (ad 1), .ref (ad 14), .ref (ad 27), .ref (ad 54), .ref (ad 55), .ref (ad 58), .ref (ad 62), .long 0, .long 1, .int x13, .int y14, .int z15]) := (congrFun e16 _).trans (va_up_self _ _ _)
    exact e_i X h hr hlk dX8_from_31 ⟨fun _ => by first | rfl | omega, fun _ => by first | rfl | omega, fun k hk => ((congrFun e16 k).trans (va_up_ne _ _ (by omega))).trans (congrFun e4 k)⟩
  · refine lv_if_ne (tgt := 16) hx hb dX8_from_6 (by decide) (fun hc => absurd (by decide) hc) (fun _ => ?_)
    refine lv_aload_n hx hb dX8_from_9 rfl (lv_at hl 0 rfl) ?_
    refine lv_bipush (v := (-2)) hx hb dX8_from_10 (by decide) ?_
    have f18 : w 0 = .inr (6, [.ref (ad 1), .ref (ad 14), .ref (ad 27), .ref (ad 54), .ref (ad 55), .ref (ad 58), .ref (ad 62), .long 0, .long 1, .int 0, .int 0, .int 0]) := F 0 (by decide)
    have f19 : w2 0 = .inr (6, [.ref (ad 1), .ref (ad 14), .ref (ad 27), .ref (ad 54), .ref (ad 55), .ref (ad 58), .ref (ad 62), .long 0, .long 1, .int 0, .int 0, .int 0]) := by rw [e4]; exact f18
    refine q_Vi (na := 1) (As := [.int (-2)]) (rest := []) X hD hN h rfl (c_refused l G cI cB cZ cO ad w2 _ _ _ _ _ _ _ _ _ _ _ _ (-2) f19) ⟨kw_11, kw_12, kw_13, kw_14, kw_15⟩ rfl ⟨by decide, by decide, by decide⟩ ⟨Nat.le_of_ble_eq_true rfl, Nat.le_of_ble_eq_true rfl⟩ ⟨Nat.zero_le _, Nat.zero_le _⟩ (by decide) f19 rfl rfl hl.1 rfl (Nat.le_of_ble_eq_true rfl) dX8_from_12 (fun r20 w21 H locs hp22 h => ?_)
    obtain ⟨rfl, x23, y24, z25, e26⟩ := hp22
    have f27 : w21 0 = .inr (6, [.ref (ad 1), .ref (ad 14), .ref (ad 27), .ref (ad 54), .ref (ad 55), .ref (ad 58), .ref (ad 62), .long 0, .long 1, .int x23, .int y24, .int z25]) := (congrFun e26 _).trans (va_up_self _ _ _)
    exact e_i X h hr hlk dX8_from_15 ⟨fun _ => by first | rfl | omega, fun _ => by first | rfl | omega, fun k hk => ((congrFun e26 k).trans (va_up_ne _ _ (by omega))).trans (congrFun e4 k)⟩

set_option maxHeartbeats 4000000 in
set_option maxRecDepth 100000 in
theorem c_X_counted (l : Launch) (G : va_G) (cI cB cZ cO : ClassId) (ad : Nat → Nat) (w : Nat → va_E) (u : Int32) (pf0 : w 0 = .inr (6, [.ref (ad 1), .ref (ad 14), .ref (ad 27), .ref (ad 54), .ref (ad 55), .ref (ad 58), .ref (ad 62), .long 0, .long 1, .int 0, .int 0, .int 0])) (pf1 : w 1 = .inr (1, [.int 0, .int 0, .int 0, .int 0, .int 0, .ref (ad 2), .ref (ad 3), .ref (ad 4), .ref (ad 5), .ref (ad 6), .ref (ad 7), .ref (ad 8), .ref (ad 10), .ref (ad 12)])) (pf8 : w 8 = .inr (4, [.ref (ad 9), .int 0])) (pf10 : w 10 = .inr (4, [.ref (ad 11), .int 0])) (pf12 : w 12 = .inr (2, [.ref (ad 13), .int 0])) (pf55 : w 55 = .inr (5, [.ref (ad 56), .ref (ad 57), .int 0, .int 0, .int 0, .int 0, .int 0])) : MI l G (tyq cI cB cZ cO) yX8_counted cX8_counted 2 (some .int) 1 22 74 ad w [.ref (ad 0), .int u] (fun r w1 => w1 = w ∧ r = 0) := by
  refine mk_i (own := "NoonShade") rfl (by decide) (Nat.le_of_ble_eq_true rfl) ?_
  intro p e s m below meth c ls X hD hN hr hlk h hl
  have hx := X.1.1
  have hb := X.1.2.1
  have hown := X.1.2.2.2.1
  have hts := X.1.2.2.2.2
  have hl : lv_has ls 2 [(0, .ref (ad 0)), (1, .int u)] := hl
  refine lv_iload_n hx hb dX8_counted_0 rfl (lv_at hl 1 rfl) ?_
  by_cases hs1 : 0 ≤ (u).toInt ∧ (u).toInt ≤ 8
  · have ha2 : u = 0 ∨ u = 1 ∨ u = 2 ∨ u = 3 ∨ u = 4 ∨ u = 5 ∨ u = 6 ∨ u = 7 ∨ u = 8 := by simp only [fa_eq]; have := hs1; simp only [show ((0 : Int32).toInt = 0) from rfl, show ((1 : Int32).toInt = 1) from rfl, show ((2 : Int32).toInt = 2) from rfl, show ((3 : Int32).toInt = 3) from rfl, show ((4 : Int32).toInt = 4) from rfl, show ((5 : Int32).toInt = 5) from rfl, show ((6 : Int32).toInt = 6) from rfl, show ((7 : Int32).toInt = 7) from rfl, show ((8 : Int32).toInt = 8) from rfl]; omega
    rcases ha2 with hq | hq | hq | hq | hq | hq | hq | hq | hq
    · refine lv_tableIn (tgt := 52) (off := 51) hx hb dX8_counted_1 (by rw [hq]; decide) (by rw [hq]; decide) (by rw [hq]; decide) (by decide) ?_
      refine lv_aload_n hx hb dX8_counted_52 rfl (lv_at hl 0 rfl) ?_
      refine r_get kc8 X h 0 0 (by decide) rfl pf0 (by decide) kw_5 rfl dX8_counted_53 ?_
      refine r_get kc2 X h 1 3 (by decide) rfl pf1 (by decide) kw_41 rfl dX8_counted_56 ?_
      exact e_i X h hr hlk dX8_counted_59 ⟨rfl, rfl⟩
    · refine lv_tableIn (tgt := 60) (off := 59) hx hb dX8_counted_1 (by rw [hq]; decide) (by rw [hq]; decide) (by rw [hq]; decide) (by decide) ?_
      refine lv_aload_n hx hb dX8_counted_60 rfl (lv_at hl 0 rfl) ?_
      refine r_get kc8 X h 0 0 (by decide) rfl pf0 (by decide) kw_5 rfl dX8_counted_61 ?_
      refine r_get kc2 X h 1 4 (by decide) rfl pf1 (by decide) kw_58 rfl dX8_counted_64 ?_
      exact e_i X h hr hlk dX8_counted_67 ⟨rfl, rfl⟩
    · refine lv_tableIn (tgt := 68) (off := 67) hx hb dX8_counted_1 (by rw [hq]; decide) (by rw [hq]; decide) (by rw [hq]; decide) (by decide) ?_
      refine lv_aload_n hx hb dX8_counted_68 rfl (lv_at hl 0 rfl) ?_
      refine r_get kc8 X h 0 0 (by decide) rfl pf0 (by decide) kw_5 rfl dX8_counted_69 ?_
      refine q_Vi (na := 0) (As := []) (rest := []) X hD hN h rfl (c_coolInAll l G cI cB cZ cO ad w pf1) ⟨kw_109, kw_110, kw_111, kw_9, kw_112⟩ rfl ⟨by decide, by decide, by decide⟩ ⟨Nat.le_of_ble_eq_true rfl, Nat.le_of_ble_eq_true rfl⟩ ⟨Nat.zero_le _, Nat.zero_le _⟩ (by decide) pf1 rfl rfl hl.1 rfl (Nat.le_of_ble_eq_true rfl) dX8_counted_72 (fun r3 w4 H locs hp5 h => ?_)
      obtain ⟨e6, rfl⟩ := hp5
      exact e_i X h hr hlk dX8_counted_75 ⟨funext fun k => congrFun e6 k, rfl⟩
    · refine lv_tableIn (tgt := 76) (off := 75) hx hb dX8_counted_1 (by rw [hq]; decide) (by rw [hq]; decide) (by rw [hq]; decide) (by decide) ?_
      refine lv_aload_n hx hb dX8_counted_76 rfl (lv_at hl 0 rfl) ?_
      refine r_get kc8 X h 0 0 (by decide) rfl pf0 (by decide) kw_5 rfl dX8_counted_77 ?_
      refine r_get kc2 X h 1 0 (by decide) rfl pf1 (by decide) kw_113 rfl dX8_counted_80 ?_
      exact e_i X h hr hlk dX8_counted_83 ⟨rfl, rfl⟩
    · refine lv_tableIn (tgt := 84) (off := 83) hx hb dX8_counted_1 (by rw [hq]; decide) (by rw [hq]; decide) (by rw [hq]; decide) (by decide) ?_
      refine lv_aload_n hx hb dX8_counted_84 rfl (lv_at hl 0 rfl) ?_
      refine r_get kc8 X h 0 0 (by decide) rfl pf0 (by decide) kw_5 rfl dX8_counted_85 ?_
      refine r_get kc2 X h 1 2 (by decide) rfl pf1 (by decide) kw_114 rfl dX8_counted_88 ?_
      refine q_Si (na := 1) (As := [.int 0]) (rest := []) X hD hN h (c_bitCount l G cI cB cZ cO ad w) ⟨kw_115, kw_116, kw_117, kw_118⟩ ⟨by decide, by decide, by decide⟩ ⟨Nat.le_of_ble_eq_true rfl, Nat.le_of_ble_eq_true rfl⟩ ⟨Nat.zero_le _, Nat.zero_le _⟩ rfl hl.1 rfl (Nat.le_of_ble_eq_true rfl) dX8_counted_91 (fun r7 w8 H locs hp9 h => ?_)
      obtain ⟨e10, rfl⟩ := hp9
      exact e_i X h hr hlk dX8_counted_94 ⟨funext fun k => congrFun e10 k, rfl⟩
    · refine lv_tableIn (tgt := 95) (off := 94) hx hb dX8_counted_1 (by rw [hq]; decide) (by rw [hq]; decide) (by rw [hq]; decide) (by decide) ?_
      refine lv_aload_n hx hb dX8_counted_95 rfl (lv_at hl 0 rfl) ?_
      refine r_get kc8 X h 0 0 (by decide) rfl pf0 (by decide) kw_5 rfl dX8_counted_96 ?_
      refine r_get kc2 X h 1 1 (by decide) rfl pf1 (by decide) kw_119 rfl dX8_counted_99 ?_
      exact e_i X h hr hlk dX8_counted_102 ⟨rfl, rfl⟩
    · refine lv_tableIn (tgt := 103) (off := 102) hx hb dX8_counted_1 (by rw [hq]; decide) (by rw [hq]; decide) (by rw [hq]; decide) (by decide) ?_
      refine lv_aload_n hx hb dX8_counted_103 rfl (lv_at hl 0 rfl) ?_
      refine r_get kc8 X h 0 0 (by decide) rfl pf0 (by decide) kw_5 rfl dX8_counted_104 ?_
      refine r_get kc2 X h 1 11 (by decide) rfl pf1 (by decide) kw_100 rfl dX8_counted_107 ?_
      refine r_get kc6 X h 8 1 (by decide) rfl pf8 (by decide) kw_120 rfl dX8_counted_110 ?_
      exact e_i X h hr hlk dX8_counted_113 ⟨rfl, rfl⟩
    · refine lv_tableIn (tgt := 114) (off := 113) hx hb dX8_counted_1 (by rw [hq]; decide) (by rw [hq]; decide) (by rw [hq]; decide) (by decide) ?_
      refine lv_aload_n hx hb dX8_counted_114 rfl (lv_at hl 0 rfl) ?_
      refine r_get kc8 X h 0 0 (by decide) rfl pf0 (by decide) kw_5 rfl dX8_counted_115 ?_
      refine r_get kc2 X h 1 12 (by decide) rfl pf1 (by decide) kw_102 rfl dX8_counted_118 ?_
      refine r_get kc6 X h 10 1 (by decide) rfl pf10 (by decide) kw_120 rfl dX8_counted_121 ?_
      exact e_i X h hr hlk dX8_counted_124 ⟨rfl, rfl⟩
    · refine lv_tableIn (tgt := 125) (off := 124) hx hb dX8_counted_1 (by rw [hq]; decide) (by rw [hq]; decide) (by rw [hq]; decide) (by decide) ?_
      refine lv_aload_n hx hb dX8_counted_125 rfl (lv_at hl 0 rfl) ?_
      refine r_get kc8 X h 0 0 (by decide) rfl pf0 (by decide) kw_5 rfl dX8_counted_126 ?_
      refine r_get kc2 X h 1 13 (by decide) rfl pf1 (by decide) kw_52 rfl dX8_counted_129 ?_
      refine r_get kc4 X h 12 1 (by decide) rfl pf12 (by decide) kw_121 rfl dX8_counted_132 ?_
      exact e_i X h hr hlk dX8_counted_135 ⟨rfl, rfl⟩
  · refine lv_tableOut (tgt := 136) hx hb dX8_counted_1 (by omega) (by decide) ?_
    refine lv_aload_n hx hb dX8_counted_136 rfl (lv_at hl 0 rfl) ?_
    refine r_get kc8 X h 0 4 (by decide) rfl pf0 (by decide) kw_70 rfl dX8_counted_137 ?_
    refine r_get kc7 X h 55 2 (by decide) rfl pf55 (by decide) kw_122 rfl dX8_counted_140 ?_
    exact e_i X h hr hlk dX8_counted_143 ⟨rfl, rfl⟩

set_option maxHeartbeats 4000000 in
set_option maxRecDepth 100000 in
theorem c_X_count (l : Launch) (G : va_G) (cI cB cZ cO : ClassId) (ad : Nat → Nat) (w : Nat → va_E) (F : ∀ k, k < 74 → w k = fr0 cI cB cZ cO ad k) (u : Int32) : MI l G (tyq cI cB cZ cO) yX8_count cX8_count 2 (some .int) 2 43 74 ad w [.ref (ad 0), .int u] (fun r w1 => (0 ≤ u.toInt ∧ u.toInt ≤ 9 → r = 0) ∧ (¬ (0 ≤ u.toInt ∧ u.toInt ≤ 9) → r = -2) ∧ ∀ k, 64 ≤ k → w1 k = w k) := by
  refine mk_i (own := "NoonShade") rfl (by decide) (Nat.le_of_ble_eq_true rfl) ?_
  intro p e s m below meth c ls X hD hN hr hlk h hl
  have hx := X.1.1
  have hb := X.1.2.1
  have hown := X.1.2.2.2.1
  have hts := X.1.2.2.2.2
  have hl : lv_has ls 2 [(0, .ref (ad 0)), (1, .int u)] := hl
  refine lv_iload_n hx hb dX8_count_0 rfl (lv_at hl 1 rfl) ?_
  refine lv_iconst (v := 0) hx hb dX8_count_1 (by decide) ?_
  refine lv_bipush (v := 9) hx hb dX8_count_2 (by decide) ?_
  refine q_Si (na := 3) (As := [.int u, .int 0, .int 9]) (rest := []) X hD hN h (c_within l G cI cB cZ cO ad w u 0 9 ((u).toInt) 0 9 rfl rfl rfl) ⟨kw_38, kw_39, kw_14, kw_40⟩ ⟨by decide, by decide, by decide⟩ ⟨Nat.le_of_ble_eq_true rfl, Nat.le_of_ble_eq_true rfl⟩ ⟨Nat.zero_le _, Nat.zero_le _⟩ rfl hl.1 rfl (Nat.le_of_ble_eq_true rfl) dX8_count_4 (fun r1 w2 H locs hp3 h => ?_)
  obtain ⟨e4, hp3⟩ := hp3
  rcases hp3 with ⟨hq5a, hq5b, rfl⟩ | ⟨hq5, rfl⟩
  · refine lv_if_ne (tgt := 17) hx hb dX8_count_7 (by decide) (fun _ => ?_) (fun hc => absurd hc (by decide))
    refine lv_aload_n hx hb dX8_count_17 rfl (lv_at hl 0 rfl) ?_
    refine lv_iload_n hx hb dX8_count_18 rfl (lv_at hl 1 rfl) ?_
    have f6 : w 0 = .inr (6, [.ref (ad 1), .ref (ad 14), .ref (ad 27), .ref (ad 54), .ref (ad 55), .ref (ad 58), .ref (ad 62), .long 0, .long 1, .int 0, .int 0, .int 0]) := F 0 (by decide)
    have f7 : w2 0 = .inr (6, [.ref (ad 1), .ref (ad 14), .ref (ad 27), .ref (ad 54), .ref (ad 55), .ref (ad 58), .ref (ad 62), .long 0, .long 1, .int 0, .int 0, .int 0]) := by rw [e4]; exact f6
    have f8 : w 1 = .inr (1, [.int 0, .int 0, .int 0, .int 0, .int 0, .ref (ad 2), .ref (ad 3), .ref (ad 4), .ref (ad 5), .ref (ad 6), .ref (ad 7), .ref (ad 8), .ref (ad 10), .ref (ad 12)]) := F 1 (by decide)
    have f9 : w2 1 = .inr (1, [.int 0, .int 0, .int 0, .int 0, .int 0, .ref (ad 2), .ref (ad 3), .ref (ad 4), .ref (ad 5), .ref (ad 6), .ref (ad 7), .ref (ad 8), .ref (ad 10), .ref (ad 12)]) := by rw [e4]; exact f8
    have f10 : w 8 = .inr (4, [.ref (ad 9), .int 0]) := F 8 (by decide)
    have f11 : w2 8 = .inr (4, [.ref (ad 9), .int 0]) := by rw [e4]; exact f10
    have f12 : w 10 = .inr (4, [.ref (ad 11), .int 0]) := F 10 (by decide)
    have f13 : w2 10 = .inr (4, [.ref (ad 11), .int 0]) := by rw [e4]; exact f12
    have f14 : w 12 = .inr (2, [.ref (ad 13), .int 0]) := F 12 (by decide)
    have f15 : w2 12 = .inr (2, [.ref (ad 13), .int 0]) := by rw [e4]; exact f14
    have f16 : w 55 = .inr (5, [.ref (ad 56), .ref (ad 57), .int 0, .int 0, .int 0, .int 0, .int 0]) := F 55 (by decide)
    have f17 : w2 55 = .inr (5, [.ref (ad 56), .ref (ad 57), .int 0, .int 0, .int 0, .int 0, .int 0]) := by rw [e4]; exact f16
    refine q_Vi (na := 1) (As := [.int u]) (rest := []) X hD hN h rfl (c_X_counted l G cI cB cZ cO ad w2 u f7 f9 f11 f13 f15 f17) ⟨kw_123, kw_124, kw_125, kw_14, kw_126⟩ rfl ⟨by decide, by decide, by decide⟩ ⟨Nat.le_of_ble_eq_true rfl, Nat.le_of_ble_eq_true rfl⟩ ⟨Nat.zero_le _, Nat.zero_le _⟩ (by decide) f7 rfl rfl hl.1 rfl (Nat.le_of_ble_eq_true rfl) dX8_count_19 (fun r18 w19 H locs hp20 h => ?_)
    obtain ⟨e21, rfl⟩ := hp20
    exact e_i X h hr hlk dX8_count_22 ⟨fun _ => by first | rfl | omega, fun _ => by first | rfl | omega, fun k hk => (congrFun e21 k).trans (congrFun e4 k)⟩
  · refine lv_if_ne (tgt := 17) hx hb dX8_count_7 (by decide) (fun hc => absurd (by decide) hc) (fun _ => ?_)
    refine lv_aload_n hx hb dX8_count_10 rfl (lv_at hl 0 rfl) ?_
    refine lv_bipush (v := (-2)) hx hb dX8_count_11 (by decide) ?_
    have f22 : w 0 = .inr (6, [.ref (ad 1), .ref (ad 14), .ref (ad 27), .ref (ad 54), .ref (ad 55), .ref (ad 58), .ref (ad 62), .long 0, .long 1, .int 0, .int 0, .int 0]) := F 0 (by decide)
    have f23 : w2 0 = .inr (6, [.ref (ad 1), .ref (ad 14), .ref (ad 27), .ref (ad 54), .ref (ad 55), .ref (ad 58), .ref (ad 62), .long 0, .long 1, .int 0, .int 0, .int 0]) := by rw [e4]; exact f22
    refine q_Vi (na := 1) (As := [.int (-2)]) (rest := []) X hD hN h rfl (c_refused l G cI cB cZ cO ad w2 _ _ _ _ _ _ _ _ _ _ _ _ (-2) f23) ⟨kw_11, kw_12, kw_13, kw_14, kw_15⟩ rfl ⟨by decide, by decide, by decide⟩ ⟨Nat.le_of_ble_eq_true rfl, Nat.le_of_ble_eq_true rfl⟩ ⟨Nat.zero_le _, Nat.zero_le _⟩ (by decide) f23 rfl rfl hl.1 rfl (Nat.le_of_ble_eq_true rfl) dX8_count_13 (fun r24 w25 H locs hp26 h => ?_)
    obtain ⟨rfl, x27, y28, z29, e30⟩ := hp26
    have f31 : w25 0 = .inr (6, [.ref (ad 1), .ref (ad 14), .ref (ad 27), .ref (ad 54), .ref (ad 55), .ref (ad 58), .ref (ad 62), .long 0, .long 1, .int x27, .int y28, .int z29]) := (congrFun e30 _).trans (va_up_self _ _ _)
    exact e_i X h hr hlk dX8_count_16 ⟨fun _ => by first | rfl | omega, fun _ => by first | rfl | omega, fun k hk => ((congrFun e30 k).trans (va_up_ne _ _ (by omega))).trans (congrFun e4 k)⟩

set_option maxHeartbeats 4000000 in
set_option maxRecDepth 100000 in
theorem c_X_digest (l : Launch) (G : va_G) (cI cB cZ cO : ClassId) (ad : Nat → Nat) (w : Nat → va_E) (F : ∀ k, k < 74 → w k = fr0 cI cB cZ cO ad k)  : ML l G (tyq cI cB cZ cO) yX8_digest cX8_digest 4 (some .long) 2 50 74 ad w [.ref (ad 0)] (fun r w1 => r = 4278844841920871640 ∧ ∀ k, 64 ≤ k → w1 k = w k) := by
  refine mk_l (own := "NoonShade") rfl (by decide) (Nat.le_of_ble_eq_true rfl) ?_
  intro p e s m below meth c ls X hD hN hr hlk h hl
  have hx := X.1.1
  have hb := X.1.2.1
  have hown := X.1.2.2.2.1
  have hts := X.1.2.2.2.2
  have hl : lv_has ls 4 [(0, .ref (ad 0))] := hl
  refine lv_ldc2 (v := 1879) hx hb hown (hts _ kw_131) dX8_digest_0 ?_
  refine lv_lstore_n (lv' := [(1, .long 1879), (0, .ref (ad 0))]) hx hb dX8_digest_3 rfl hl (by decide) rfl (fun ls hl => ?_)
  refine lv_iconst (v := 0) hx hb dX8_digest_4 (by decide) ?_
  refine lv_istore_n (lv' := [(3, .int 0), (1, .long 1879), (0, .ref (ad 0))]) hx hb dX8_digest_5 rfl hl (by decide) rfl (fun ls hl => ?_)
  refine lv_iload_n hx hb dX8_digest_6 rfl (lv_at hl 0 rfl) ?_
  refine lv_bipush (v := 9) hx hb dX8_digest_7 (by decide) ?_
  refine lv_icmp_gt (tgt := 31) hx hb dX8_digest_9 (by decide) (fun hc => absurd hc (by decide)) (fun _ => ?_)
  refine lv_ldc2 (v := 31) hx hb hown (hts _ kw_132) dX8_digest_12 ?_
  refine lv_lload_n hx hb dX8_digest_15 rfl (lv_at hl 1 rfl) ?_
  refine o_lmul (z := 58249) hx hb dX8_digest_16 rfl ?_
  refine lv_aload_n hx hb dX8_digest_17 rfl (lv_at hl 2 rfl) ?_
  refine lv_iload_n hx hb dX8_digest_18 rfl (lv_at hl 0 rfl) ?_
  have f1 : w 0 = .inr (6, [.ref (ad 1), .ref (ad 14), .ref (ad 27), .ref (ad 54), .ref (ad 55), .ref (ad 58), .ref (ad 62), .long 0, .long 1, .int 0, .int 0, .int 0]) := F 0 (by decide)
  have f2 : w 1 = .inr (1, [.int 0, .int 0, .int 0, .int 0, .int 0, .ref (ad 2), .ref (ad 3), .ref (ad 4), .ref (ad 5), .ref (ad 6), .ref (ad 7), .ref (ad 8), .ref (ad 10), .ref (ad 12)]) := F 1 (by decide)
  have f3 : w 8 = .inr (4, [.ref (ad 9), .int 0]) := F 8 (by decide)
  have f4 : w 10 = .inr (4, [.ref (ad 11), .int 0]) := F 10 (by decide)
  have f5 : w 12 = .inr (2, [.ref (ad 13), .int 0]) := F 12 (by decide)
  have f6 : w 55 = .inr (5, [.ref (ad 56), .ref (ad 57), .int 0, .int 0, .int 0, .int 0, .int 0]) := F 55 (by decide)
  refine q_Vi (na := 1) (As := [.int 0]) (rest := [.long 58249]) X hD hN h rfl (c_X_counted l G cI cB cZ cO ad w 0 f1 f2 f3 f4 f5 f6) ⟨kw_123, kw_124, kw_125, kw_14, kw_126⟩ rfl ⟨by decide, by decide, by decide⟩ ⟨Nat.le_of_ble_eq_true rfl, Nat.le_of_ble_eq_true rfl⟩ ⟨Nat.zero_le _, Nat.zero_le _⟩ (by decide) f1 rfl rfl hl.1 rfl (Nat.le_of_ble_eq_true rfl) dX8_digest_19 (fun r7 w8 H locs hp9 h => ?_)
  obtain ⟨e10, rfl⟩ := hp9
  refine lv_i2l (v := 0) hx hb dX8_digest_22 rfl ?_
  refine o_ladd (z := 58249) hx hb dX8_digest_23 rfl ?_
  refine lv_lstore_n (lv' := [(1, .long 58249), (3, .int 0), (0, .ref (ad 0))]) hx hb dX8_digest_24 rfl hl (by decide) rfl (fun ls hl => ?_)
  refine lv_iinc (v := 1) (lv' := [(3, .int 1), (1, .long 58249), (0, .ref (ad 0))]) hx hb dX8_digest_25 hl (k := 1) rfl rfl (by decide) rfl (fun ls hl => ?_)
  refine lv_goto (tgt := 6) hx hb dX8_digest_28 (by decide) ?_
  refine lv_iload_n hx hb dX8_digest_6 rfl (lv_at hl 0 rfl) ?_
  refine lv_bipush (v := 9) hx hb dX8_digest_7 (by decide) ?_
  refine lv_icmp_gt (tgt := 31) hx hb dX8_digest_9 (by decide) (fun hc => absurd hc (by decide)) (fun _ => ?_)
  refine lv_ldc2 (v := 31) hx hb hown (hts _ kw_132) dX8_digest_12 ?_
  refine lv_lload_n hx hb dX8_digest_15 rfl (lv_at hl 1 rfl) ?_
  refine o_lmul (z := 1805719) hx hb dX8_digest_16 rfl ?_
  refine lv_aload_n hx hb dX8_digest_17 rfl (lv_at hl 2 rfl) ?_
  refine lv_iload_n hx hb dX8_digest_18 rfl (lv_at hl 0 rfl) ?_
  have f11 : w8 0 = .inr (6, [.ref (ad 1), .ref (ad 14), .ref (ad 27), .ref (ad 54), .ref (ad 55), .ref (ad 58), .ref (ad 62), .long 0, .long 1, .int 0, .int 0, .int 0]) := by rw [e10]; exact f1
  have f12 : w8 1 = .inr (1, [.int 0, .int 0, .int 0, .int 0, .int 0, .ref (ad 2), .ref (ad 3), .ref (ad 4), .ref (ad 5), .ref (ad 6), .ref (ad 7), .ref (ad 8), .ref (ad 10), .ref (ad 12)]) := by rw [e10]; exact f2
  have f13 : w8 8 = .inr (4, [.ref (ad 9), .int 0]) := by rw [e10]; exact f3
  have f14 : w8 10 = .inr (4, [.ref (ad 11), .int 0]) := by rw [e10]; exact f4
  have f15 : w8 12 = .inr (2, [.ref (ad 13), .int 0]) := by rw [e10]; exact f5
  have f16 : w8 55 = .inr (5, [.ref (ad 56), .ref (ad 57), .int 0, .int 0, .int 0, .int 0, .int 0]) := by rw [e10]; exact f6
  refine q_Vi (na := 1) (As := [.int 1]) (rest := [.long 1805719]) X hD hN h rfl (c_X_counted l G cI cB cZ cO ad w8 1 f11 f12 f13 f14 f15 f16) ⟨kw_123, kw_124, kw_125, kw_14, kw_126⟩ rfl ⟨by decide, by decide, by decide⟩ ⟨Nat.le_of_ble_eq_true rfl, Nat.le_of_ble_eq_true rfl⟩ ⟨Nat.zero_le _, Nat.zero_le _⟩ (by decide) f11 rfl rfl hl.1 rfl (Nat.le_of_ble_eq_true rfl) dX8_digest_19 (fun r17 w18 H locs hp19 h => ?_)
  obtain ⟨e20, rfl⟩ := hp19
  refine lv_i2l (v := 0) hx hb dX8_digest_22 rfl ?_
  refine o_ladd (z := 1805719) hx hb dX8_digest_23 rfl ?_
  refine lv_lstore_n (lv' := [(1, .long 1805719), (3, .int 1), (0, .ref (ad 0))]) hx hb dX8_digest_24 rfl hl (by decide) rfl (fun ls hl => ?_)
  refine lv_iinc (v := 2) (lv' := [(3, .int 2), (1, .long 1805719), (0, .ref (ad 0))]) hx hb dX8_digest_25 hl (k := 1) rfl rfl (by decide) rfl (fun ls hl => ?_)
  refine lv_goto (tgt := 6) hx hb dX8_digest_28 (by decide) ?_
  refine lv_iload_n hx hb dX8_digest_6 rfl (lv_at hl 0 rfl) ?_
  refine lv_bipush (v := 9) hx hb dX8_digest_7 (by decide) ?_
  refine lv_icmp_gt (tgt := 31) hx hb dX8_digest_9 (by decide) (fun hc => absurd hc (by decide)) (fun _ => ?_)
  refine lv_ldc2 (v := 31) hx hb hown (hts _ kw_132) dX8_digest_12 ?_
  refine lv_lload_n hx hb dX8_digest_15 rfl (lv_at hl 1 rfl) ?_
  refine o_lmul (z := 55977289) hx hb dX8_digest_16 rfl ?_
  refine lv_aload_n hx hb dX8_digest_17 rfl (lv_at hl 2 rfl) ?_
  refine lv_iload_n hx hb dX8_digest_18 rfl (lv_at hl 0 rfl) ?_
  have f21 : w18 0 = .inr (6, [.ref (ad 1), .ref (ad 14), .ref (ad 27), .ref (ad 54), .ref (ad 55), .ref (ad 58), .ref (ad 62), .long 0, .long 1, .int 0, .int 0, .int 0]) := by rw [e20]; exact f11
  have f22 : w18 1 = .inr (1, [.int 0, .int 0, .int 0, .int 0, .int 0, .ref (ad 2), .ref (ad 3), .ref (ad 4), .ref (ad 5), .ref (ad 6), .ref (ad 7), .ref (ad 8), .ref (ad 10), .ref (ad 12)]) := by rw [e20]; exact f12
  have f23 : w18 8 = .inr (4, [.ref (ad 9), .int 0]) := by rw [e20]; exact f13
  have f24 : w18 10 = .inr (4, [.ref (ad 11), .int 0]) := by rw [e20]; exact f14
  have f25 : w18 12 = .inr (2, [.ref (ad 13), .int 0]) := by rw [e20]; exact f15
  have f26 : w18 55 = .inr (5, [.ref (ad 56), .ref (ad 57), .int 0, .int 0, .int 0, .int 0, .int 0]) := by rw [e20]; exact f16
  refine q_Vi (na := 1) (As := [.int 2]) (rest := [.long 55977289]) X hD hN h rfl (c_X_counted l G cI cB cZ cO ad w18 2 f21 f22 f23 f24 f25 f26) ⟨kw_123, kw_124, kw_125, kw_14, kw_126⟩ rfl ⟨by decide, by decide, by decide⟩ ⟨Nat.le_of_ble_eq_true rfl, Nat.le_of_ble_eq_true rfl⟩ ⟨Nat.zero_le _, Nat.zero_le _⟩ (by decide) f21 rfl rfl hl.1 rfl (Nat.le_of_ble_eq_true rfl) dX8_digest_19 (fun r27 w28 H locs hp29 h => ?_)
  obtain ⟨e30, rfl⟩ := hp29
  refine lv_i2l (v := 0) hx hb dX8_digest_22 rfl ?_
  refine o_ladd (z := 55977289) hx hb dX8_digest_23 rfl ?_
  refine lv_lstore_n (lv' := [(1, .long 55977289), (3, .int 2), (0, .ref (ad 0))]) hx hb dX8_digest_24 rfl hl (by decide) rfl (fun ls hl => ?_)
  refine lv_iinc (v := 3) (lv' := [(3, .int 3), (1, .long 55977289), (0, .ref (ad 0))]) hx hb dX8_digest_25 hl (k := 1) rfl rfl (by decide) rfl (fun ls hl => ?_)
  refine lv_goto (tgt := 6) hx hb dX8_digest_28 (by decide) ?_
  refine lv_iload_n hx hb dX8_digest_6 rfl (lv_at hl 0 rfl) ?_
  refine lv_bipush (v := 9) hx hb dX8_digest_7 (by decide) ?_
  refine lv_icmp_gt (tgt := 31) hx hb dX8_digest_9 (by decide) (fun hc => absurd hc (by decide)) (fun _ => ?_)
  refine lv_ldc2 (v := 31) hx hb hown (hts _ kw_132) dX8_digest_12 ?_
  refine lv_lload_n hx hb dX8_digest_15 rfl (lv_at hl 1 rfl) ?_
  refine o_lmul (z := 1735295959) hx hb dX8_digest_16 rfl ?_
  refine lv_aload_n hx hb dX8_digest_17 rfl (lv_at hl 2 rfl) ?_
  refine lv_iload_n hx hb dX8_digest_18 rfl (lv_at hl 0 rfl) ?_
  have f31 : w28 0 = .inr (6, [.ref (ad 1), .ref (ad 14), .ref (ad 27), .ref (ad 54), .ref (ad 55), .ref (ad 58), .ref (ad 62), .long 0, .long 1, .int 0, .int 0, .int 0]) := by rw [e30]; exact f21
  have f32 : w28 1 = .inr (1, [.int 0, .int 0, .int 0, .int 0, .int 0, .ref (ad 2), .ref (ad 3), .ref (ad 4), .ref (ad 5), .ref (ad 6), .ref (ad 7), .ref (ad 8), .ref (ad 10), .ref (ad 12)]) := by rw [e30]; exact f22
  have f33 : w28 8 = .inr (4, [.ref (ad 9), .int 0]) := by rw [e30]; exact f23
  have f34 : w28 10 = .inr (4, [.ref (ad 11), .int 0]) := by rw [e30]; exact f24
  have f35 : w28 12 = .inr (2, [.ref (ad 13), .int 0]) := by rw [e30]; exact f25
  have f36 : w28 55 = .inr (5, [.ref (ad 56), .ref (ad 57), .int 0, .int 0, .int 0, .int 0, .int 0]) := by rw [e30]; exact f26
  refine q_Vi (na := 1) (As := [.int 3]) (rest := [.long 1735295959]) X hD hN h rfl (c_X_counted l G cI cB cZ cO ad w28 3 f31 f32 f33 f34 f35 f36) ⟨kw_123, kw_124, kw_125, kw_14, kw_126⟩ rfl ⟨by decide, by decide, by decide⟩ ⟨Nat.le_of_ble_eq_true rfl, Nat.le_of_ble_eq_true rfl⟩ ⟨Nat.zero_le _, Nat.zero_le _⟩ (by decide) f31 rfl rfl hl.1 rfl (Nat.le_of_ble_eq_true rfl) dX8_digest_19 (fun r37 w38 H locs hp39 h => ?_)
  obtain ⟨e40, rfl⟩ := hp39
  refine lv_i2l (v := 0) hx hb dX8_digest_22 rfl ?_
  refine o_ladd (z := 1735295959) hx hb dX8_digest_23 rfl ?_
  refine lv_lstore_n (lv' := [(1, .long 1735295959), (3, .int 3), (0, .ref (ad 0))]) hx hb dX8_digest_24 rfl hl (by decide) rfl (fun ls hl => ?_)
  refine lv_iinc (v := 4) (lv' := [(3, .int 4), (1, .long 1735295959), (0, .ref (ad 0))]) hx hb dX8_digest_25 hl (k := 1) rfl rfl (by decide) rfl (fun ls hl => ?_)
  refine lv_goto (tgt := 6) hx hb dX8_digest_28 (by decide) ?_
  refine lv_iload_n hx hb dX8_digest_6 rfl (lv_at hl 0 rfl) ?_
  refine lv_bipush (v := 9) hx hb dX8_digest_7 (by decide) ?_
  refine lv_icmp_gt (tgt := 31) hx hb dX8_digest_9 (by decide) (fun hc => absurd hc (by decide)) (fun _ => ?_)
  refine lv_ldc2 (v := 31) hx hb hown (hts _ kw_132) dX8_digest_12 ?_
  refine lv_lload_n hx hb dX8_digest_15 rfl (lv_at hl 1 rfl) ?_
  refine o_lmul (z := 53794174729) hx hb dX8_digest_16 rfl ?_
  refine lv_aload_n hx hb dX8_digest_17 rfl (lv_at hl 2 rfl) ?_
  refine lv_iload_n hx hb dX8_digest_18 rfl (lv_at hl 0 rfl) ?_
  have f41 : w38 0 = .inr (6, [.ref (ad 1), .ref (ad 14), .ref (ad 27), .ref (ad 54), .ref (ad 55), .ref (ad 58), .ref (ad 62), .long 0, .long 1, .int 0, .int 0, .int 0]) := by rw [e40]; exact f31
  have f42 : w38 1 = .inr (1, [.int 0, .int 0, .int 0, .int 0, .int 0, .ref (ad 2), .ref (ad 3), .ref (ad 4), .ref (ad 5), .ref (ad 6), .ref (ad 7), .ref (ad 8), .ref (ad 10), .ref (ad 12)]) := by rw [e40]; exact f32
  have f43 : w38 8 = .inr (4, [.ref (ad 9), .int 0]) := by rw [e40]; exact f33
  have f44 : w38 10 = .inr (4, [.ref (ad 11), .int 0]) := by rw [e40]; exact f34
  have f45 : w38 12 = .inr (2, [.ref (ad 13), .int 0]) := by rw [e40]; exact f35
  have f46 : w38 55 = .inr (5, [.ref (ad 56), .ref (ad 57), .int 0, .int 0, .int 0, .int 0, .int 0]) := by rw [e40]; exact f36
  refine q_Vi (na := 1) (As := [.int 4]) (rest := [.long 53794174729]) X hD hN h rfl (c_X_counted l G cI cB cZ cO ad w38 4 f41 f42 f43 f44 f45 f46) ⟨kw_123, kw_124, kw_125, kw_14, kw_126⟩ rfl ⟨by decide, by decide, by decide⟩ ⟨Nat.le_of_ble_eq_true rfl, Nat.le_of_ble_eq_true rfl⟩ ⟨Nat.zero_le _, Nat.zero_le _⟩ (by decide) f41 rfl rfl hl.1 rfl (Nat.le_of_ble_eq_true rfl) dX8_digest_19 (fun r47 w48 H locs hp49 h => ?_)
  obtain ⟨e50, rfl⟩ := hp49
  refine lv_i2l (v := 0) hx hb dX8_digest_22 rfl ?_
  refine o_ladd (z := 53794174729) hx hb dX8_digest_23 rfl ?_
  refine lv_lstore_n (lv' := [(1, .long 53794174729), (3, .int 4), (0, .ref (ad 0))]) hx hb dX8_digest_24 rfl hl (by decide) rfl (fun ls hl => ?_)
  refine lv_iinc (v := 5) (lv' := [(3, .int 5), (1, .long 53794174729), (0, .ref (ad 0))]) hx hb dX8_digest_25 hl (k := 1) rfl rfl (by decide) rfl (fun ls hl => ?_)
  refine lv_goto (tgt := 6) hx hb dX8_digest_28 (by decide) ?_
  refine lv_iload_n hx hb dX8_digest_6 rfl (lv_at hl 0 rfl) ?_
  refine lv_bipush (v := 9) hx hb dX8_digest_7 (by decide) ?_
  refine lv_icmp_gt (tgt := 31) hx hb dX8_digest_9 (by decide) (fun hc => absurd hc (by decide)) (fun _ => ?_)
  refine lv_ldc2 (v := 31) hx hb hown (hts _ kw_132) dX8_digest_12 ?_
  refine lv_lload_n hx hb dX8_digest_15 rfl (lv_at hl 1 rfl) ?_
  refine o_lmul (z := 1667619416599) hx hb dX8_digest_16 rfl ?_
  refine lv_aload_n hx hb dX8_digest_17 rfl (lv_at hl 2 rfl) ?_
  refine lv_iload_n hx hb dX8_digest_18 rfl (lv_at hl 0 rfl) ?_
  have f51 : w48 0 = .inr (6, [.ref (ad 1), .ref (ad 14), .ref (ad 27), .ref (ad 54), .ref (ad 55), .ref (ad 58), .ref (ad 62), .long 0, .long 1, .int 0, .int 0, .int 0]) := by rw [e50]; exact f41
  have f52 : w48 1 = .inr (1, [.int 0, .int 0, .int 0, .int 0, .int 0, .ref (ad 2), .ref (ad 3), .ref (ad 4), .ref (ad 5), .ref (ad 6), .ref (ad 7), .ref (ad 8), .ref (ad 10), .ref (ad 12)]) := by rw [e50]; exact f42
  have f53 : w48 8 = .inr (4, [.ref (ad 9), .int 0]) := by rw [e50]; exact f43
  have f54 : w48 10 = .inr (4, [.ref (ad 11), .int 0]) := by rw [e50]; exact f44
  have f55 : w48 12 = .inr (2, [.ref (ad 13), .int 0]) := by rw [e50]; exact f45
  have f56 : w48 55 = .inr (5, [.ref (ad 56), .ref (ad 57), .int 0, .int 0, .int 0, .int 0, .int 0]) := by rw [e50]; exact f46
  refine q_Vi (na := 1) (As := [.int 5]) (rest := [.long 1667619416599]) X hD hN h rfl (c_X_counted l G cI cB cZ cO ad w48 5 f51 f52 f53 f54 f55 f56) ⟨kw_123, kw_124, kw_125, kw_14, kw_126⟩ rfl ⟨by decide, by decide, by decide⟩ ⟨Nat.le_of_ble_eq_true rfl, Nat.le_of_ble_eq_true rfl⟩ ⟨Nat.zero_le _, Nat.zero_le _⟩ (by decide) f51 rfl rfl hl.1 rfl (Nat.le_of_ble_eq_true rfl) dX8_digest_19 (fun r57 w58 H locs hp59 h => ?_)
  obtain ⟨e60, rfl⟩ := hp59
  refine lv_i2l (v := 0) hx hb dX8_digest_22 rfl ?_
  refine o_ladd (z := 1667619416599) hx hb dX8_digest_23 rfl ?_
  refine lv_lstore_n (lv' := [(1, .long 1667619416599), (3, .int 5), (0, .ref (ad 0))]) hx hb dX8_digest_24 rfl hl (by decide) rfl (fun ls hl => ?_)
  refine lv_iinc (v := 6) (lv' := [(3, .int 6), (1, .long 1667619416599), (0, .ref (ad 0))]) hx hb dX8_digest_25 hl (k := 1) rfl rfl (by decide) rfl (fun ls hl => ?_)
  refine lv_goto (tgt := 6) hx hb dX8_digest_28 (by decide) ?_
  refine lv_iload_n hx hb dX8_digest_6 rfl (lv_at hl 0 rfl) ?_
  refine lv_bipush (v := 9) hx hb dX8_digest_7 (by decide) ?_
  refine lv_icmp_gt (tgt := 31) hx hb dX8_digest_9 (by decide) (fun hc => absurd hc (by decide)) (fun _ => ?_)
  refine lv_ldc2 (v := 31) hx hb hown (hts _ kw_132) dX8_digest_12 ?_
  refine lv_lload_n hx hb dX8_digest_15 rfl (lv_at hl 1 rfl) ?_
  refine o_lmul (z := 51696201914569) hx hb dX8_digest_16 rfl ?_
  refine lv_aload_n hx hb dX8_digest_17 rfl (lv_at hl 2 rfl) ?_
  refine lv_iload_n hx hb dX8_digest_18 rfl (lv_at hl 0 rfl) ?_
  have f61 : w58 0 = .inr (6, [.ref (ad 1), .ref (ad 14), .ref (ad 27), .ref (ad 54), .ref (ad 55), .ref (ad 58), .ref (ad 62), .long 0, .long 1, .int 0, .int 0, .int 0]) := by rw [e60]; exact f51
  have f62 : w58 1 = .inr (1, [.int 0, .int 0, .int 0, .int 0, .int 0, .ref (ad 2), .ref (ad 3), .ref (ad 4), .ref (ad 5), .ref (ad 6), .ref (ad 7), .ref (ad 8), .ref (ad 10), .ref (ad 12)]) := by rw [e60]; exact f52
  have f63 : w58 8 = .inr (4, [.ref (ad 9), .int 0]) := by rw [e60]; exact f53
  have f64 : w58 10 = .inr (4, [.ref (ad 11), .int 0]) := by rw [e60]; exact f54
  have f65 : w58 12 = .inr (2, [.ref (ad 13), .int 0]) := by rw [e60]; exact f55
  have f66 : w58 55 = .inr (5, [.ref (ad 56), .ref (ad 57), .int 0, .int 0, .int 0, .int 0, .int 0]) := by rw [e60]; exact f56
  refine q_Vi (na := 1) (As := [.int 6]) (rest := [.long 51696201914569]) X hD hN h rfl (c_X_counted l G cI cB cZ cO ad w58 6 f61 f62 f63 f64 f65 f66) ⟨kw_123, kw_124, kw_125, kw_14, kw_126⟩ rfl ⟨by decide, by decide, by decide⟩ ⟨Nat.le_of_ble_eq_true rfl, Nat.le_of_ble_eq_true rfl⟩ ⟨Nat.zero_le _, Nat.zero_le _⟩ (by decide) f61 rfl rfl hl.1 rfl (Nat.le_of_ble_eq_true rfl) dX8_digest_19 (fun r67 w68 H locs hp69 h => ?_)
  obtain ⟨e70, rfl⟩ := hp69
  refine lv_i2l (v := 0) hx hb dX8_digest_22 rfl ?_
  refine o_ladd (z := 51696201914569) hx hb dX8_digest_23 rfl ?_
  refine lv_lstore_n (lv' := [(1, .long 51696201914569), (3, .int 6), (0, .ref (ad 0))]) hx hb dX8_digest_24 rfl hl (by decide) rfl (fun ls hl => ?_)
  refine lv_iinc (v := 7) (lv' := [(3, .int 7), (1, .long 51696201914569), (0, .ref (ad 0))]) hx hb dX8_digest_25 hl (k := 1) rfl rfl (by decide) rfl (fun ls hl => ?_)
  refine lv_goto (tgt := 6) hx hb dX8_digest_28 (by decide) ?_
  refine lv_iload_n hx hb dX8_digest_6 rfl (lv_at hl 0 rfl) ?_
  refine lv_bipush (v := 9) hx hb dX8_digest_7 (by decide) ?_
  refine lv_icmp_gt (tgt := 31) hx hb dX8_digest_9 (by decide) (fun hc => absurd hc (by decide)) (fun _ => ?_)
  refine lv_ldc2 (v := 31) hx hb hown (hts _ kw_132) dX8_digest_12 ?_
  refine lv_lload_n hx hb dX8_digest_15 rfl (lv_at hl 1 rfl) ?_
  refine o_lmul (z := 1602582259351639) hx hb dX8_digest_16 rfl ?_
  refine lv_aload_n hx hb dX8_digest_17 rfl (lv_at hl 2 rfl) ?_
  refine lv_iload_n hx hb dX8_digest_18 rfl (lv_at hl 0 rfl) ?_
  have f71 : w68 0 = .inr (6, [.ref (ad 1), .ref (ad 14), .ref (ad 27), .ref (ad 54), .ref (ad 55), .ref (ad 58), .ref (ad 62), .long 0, .long 1, .int 0, .int 0, .int 0]) := by rw [e70]; exact f61
  have f72 : w68 1 = .inr (1, [.int 0, .int 0, .int 0, .int 0, .int 0, .ref (ad 2), .ref (ad 3), .ref (ad 4), .ref (ad 5), .ref (ad 6), .ref (ad 7), .ref (ad 8), .ref (ad 10), .ref (ad 12)]) := by rw [e70]; exact f62
  have f73 : w68 8 = .inr (4, [.ref (ad 9), .int 0]) := by rw [e70]; exact f63
  have f74 : w68 10 = .inr (4, [.ref (ad 11), .int 0]) := by rw [e70]; exact f64
  have f75 : w68 12 = .inr (2, [.ref (ad 13), .int 0]) := by rw [e70]; exact f65
  have f76 : w68 55 = .inr (5, [.ref (ad 56), .ref (ad 57), .int 0, .int 0, .int 0, .int 0, .int 0]) := by rw [e70]; exact f66
  refine q_Vi (na := 1) (As := [.int 7]) (rest := [.long 1602582259351639]) X hD hN h rfl (c_X_counted l G cI cB cZ cO ad w68 7 f71 f72 f73 f74 f75 f76) ⟨kw_123, kw_124, kw_125, kw_14, kw_126⟩ rfl ⟨by decide, by decide, by decide⟩ ⟨Nat.le_of_ble_eq_true rfl, Nat.le_of_ble_eq_true rfl⟩ ⟨Nat.zero_le _, Nat.zero_le _⟩ (by decide) f71 rfl rfl hl.1 rfl (Nat.le_of_ble_eq_true rfl) dX8_digest_19 (fun r77 w78 H locs hp79 h => ?_)
  obtain ⟨e80, rfl⟩ := hp79
  refine lv_i2l (v := 0) hx hb dX8_digest_22 rfl ?_
  refine o_ladd (z := 1602582259351639) hx hb dX8_digest_23 rfl ?_
  refine lv_lstore_n (lv' := [(1, .long 1602582259351639), (3, .int 7), (0, .ref (ad 0))]) hx hb dX8_digest_24 rfl hl (by decide) rfl (fun ls hl => ?_)
  refine lv_iinc (v := 8) (lv' := [(3, .int 8), (1, .long 1602582259351639), (0, .ref (ad 0))]) hx hb dX8_digest_25 hl (k := 1) rfl rfl (by decide) rfl (fun ls hl => ?_)
  refine lv_goto (tgt := 6) hx hb dX8_digest_28 (by decide) ?_
  refine lv_iload_n hx hb dX8_digest_6 rfl (lv_at hl 0 rfl) ?_
  refine lv_bipush (v := 9) hx hb dX8_digest_7 (by decide) ?_
  refine lv_icmp_gt (tgt := 31) hx hb dX8_digest_9 (by decide) (fun hc => absurd hc (by decide)) (fun _ => ?_)
  refine lv_ldc2 (v := 31) hx hb hown (hts _ kw_132) dX8_digest_12 ?_
  refine lv_lload_n hx hb dX8_digest_15 rfl (lv_at hl 1 rfl) ?_
  refine o_lmul (z := 49680050039900809) hx hb dX8_digest_16 rfl ?_
  refine lv_aload_n hx hb dX8_digest_17 rfl (lv_at hl 2 rfl) ?_
  refine lv_iload_n hx hb dX8_digest_18 rfl (lv_at hl 0 rfl) ?_
  have f81 : w78 0 = .inr (6, [.ref (ad 1), .ref (ad 14), .ref (ad 27), .ref (ad 54), .ref (ad 55), .ref (ad 58), .ref (ad 62), .long 0, .long 1, .int 0, .int 0, .int 0]) := by rw [e80]; exact f71
  have f82 : w78 1 = .inr (1, [.int 0, .int 0, .int 0, .int 0, .int 0, .ref (ad 2), .ref (ad 3), .ref (ad 4), .ref (ad 5), .ref (ad 6), .ref (ad 7), .ref (ad 8), .ref (ad 10), .ref (ad 12)]) := by rw [e80]; exact f72
  have f83 : w78 8 = .inr (4, [.ref (ad 9), .int 0]) := by rw [e80]; exact f73
  have f84 : w78 10 = .inr (4, [.ref (ad 11), .int 0]) := by rw [e80]; exact f74
  have f85 : w78 12 = .inr (2, [.ref (ad 13), .int 0]) := by rw [e80]; exact f75
  have f86 : w78 55 = .inr (5, [.ref (ad 56), .ref (ad 57), .int 0, .int 0, .int 0, .int 0, .int 0]) := by rw [e80]; exact f76
  refine q_Vi (na := 1) (As := [.int 8]) (rest := [.long 49680050039900809]) X hD hN h rfl (c_X_counted l G cI cB cZ cO ad w78 8 f81 f82 f83 f84 f85 f86) ⟨kw_123, kw_124, kw_125, kw_14, kw_126⟩ rfl ⟨by decide, by decide, by decide⟩ ⟨Nat.le_of_ble_eq_true rfl, Nat.le_of_ble_eq_true rfl⟩ ⟨Nat.zero_le _, Nat.zero_le _⟩ (by decide) f81 rfl rfl hl.1 rfl (Nat.le_of_ble_eq_true rfl) dX8_digest_19 (fun r87 w88 H locs hp89 h => ?_)
  obtain ⟨e90, rfl⟩ := hp89
  refine lv_i2l (v := 0) hx hb dX8_digest_22 rfl ?_
  refine o_ladd (z := 49680050039900809) hx hb dX8_digest_23 rfl ?_
  refine lv_lstore_n (lv' := [(1, .long 49680050039900809), (3, .int 8), (0, .ref (ad 0))]) hx hb dX8_digest_24 rfl hl (by decide) rfl (fun ls hl => ?_)
  refine lv_iinc (v := 9) (lv' := [(3, .int 9), (1, .long 49680050039900809), (0, .ref (ad 0))]) hx hb dX8_digest_25 hl (k := 1) rfl rfl (by decide) rfl (fun ls hl => ?_)
  refine lv_goto (tgt := 6) hx hb dX8_digest_28 (by decide) ?_
  refine lv_iload_n hx hb dX8_digest_6 rfl (lv_at hl 0 rfl) ?_
  refine lv_bipush (v := 9) hx hb dX8_digest_7 (by decide) ?_
  refine lv_icmp_gt (tgt := 31) hx hb dX8_digest_9 (by decide) (fun hc => absurd hc (by decide)) (fun _ => ?_)
  refine lv_ldc2 (v := 31) hx hb hown (hts _ kw_132) dX8_digest_12 ?_
  refine lv_lload_n hx hb dX8_digest_15 rfl (lv_at hl 1 rfl) ?_
  refine o_lmul (z := 1540081551236925079) hx hb dX8_digest_16 rfl ?_
  refine lv_aload_n hx hb dX8_digest_17 rfl (lv_at hl 2 rfl) ?_
  refine lv_iload_n hx hb dX8_digest_18 rfl (lv_at hl 0 rfl) ?_
  have f91 : w88 0 = .inr (6, [.ref (ad 1), .ref (ad 14), .ref (ad 27), .ref (ad 54), .ref (ad 55), .ref (ad 58), .ref (ad 62), .long 0, .long 1, .int 0, .int 0, .int 0]) := by rw [e90]; exact f81
  have f92 : w88 1 = .inr (1, [.int 0, .int 0, .int 0, .int 0, .int 0, .ref (ad 2), .ref (ad 3), .ref (ad 4), .ref (ad 5), .ref (ad 6), .ref (ad 7), .ref (ad 8), .ref (ad 10), .ref (ad 12)]) := by rw [e90]; exact f82
  have f93 : w88 8 = .inr (4, [.ref (ad 9), .int 0]) := by rw [e90]; exact f83
  have f94 : w88 10 = .inr (4, [.ref (ad 11), .int 0]) := by rw [e90]; exact f84
  have f95 : w88 12 = .inr (2, [.ref (ad 13), .int 0]) := by rw [e90]; exact f85
  have f96 : w88 55 = .inr (5, [.ref (ad 56), .ref (ad 57), .int 0, .int 0, .int 0, .int 0, .int 0]) := by rw [e90]; exact f86
  refine q_Vi (na := 1) (As := [.int 9]) (rest := [.long 1540081551236925079]) X hD hN h rfl (c_X_counted l G cI cB cZ cO ad w88 9 f91 f92 f93 f94 f95 f96) ⟨kw_123, kw_124, kw_125, kw_14, kw_126⟩ rfl ⟨by decide, by decide, by decide⟩ ⟨Nat.le_of_ble_eq_true rfl, Nat.le_of_ble_eq_true rfl⟩ ⟨Nat.zero_le _, Nat.zero_le _⟩ (by decide) f91 rfl rfl hl.1 rfl (Nat.le_of_ble_eq_true rfl) dX8_digest_19 (fun r97 w98 H locs hp99 h => ?_)
  obtain ⟨e100, rfl⟩ := hp99
  refine lv_i2l (v := 0) hx hb dX8_digest_22 rfl ?_
  refine o_ladd (z := 1540081551236925079) hx hb dX8_digest_23 rfl ?_
  refine lv_lstore_n (lv' := [(1, .long 1540081551236925079), (3, .int 9), (0, .ref (ad 0))]) hx hb dX8_digest_24 rfl hl (by decide) rfl (fun ls hl => ?_)
  refine lv_iinc (v := 10) (lv' := [(3, .int 10), (1, .long 1540081551236925079), (0, .ref (ad 0))]) hx hb dX8_digest_25 hl (k := 1) rfl rfl (by decide) rfl (fun ls hl => ?_)
  refine lv_goto (tgt := 6) hx hb dX8_digest_28 (by decide) ?_
  refine lv_iload_n hx hb dX8_digest_6 rfl (lv_at hl 0 rfl) ?_
  refine lv_bipush (v := 9) hx hb dX8_digest_7 (by decide) ?_
  refine lv_icmp_gt (tgt := 31) hx hb dX8_digest_9 (by decide) (fun _ => ?_) (fun hc => absurd (by decide) hc)
  refine lv_aload_n hx hb dX8_digest_31 rfl (lv_at hl 2 rfl) ?_
  have f101 : w98 0 = .inr (6, [.ref (ad 1), .ref (ad 14), .ref (ad 27), .ref (ad 54), .ref (ad 55), .ref (ad 58), .ref (ad 62), .long 0, .long 1, .int 0, .int 0, .int 0]) := by rw [e100]; exact f91
  refine r_get kc8 X h 0 0 (by decide) rfl f101 (by decide) kw_5 rfl dX8_digest_32 ?_
  refine lv_lload_n hx hb dX8_digest_35 rfl (lv_at hl 1 rfl) ?_
  have f102 : w98 1 = .inr (1, [.int 0, .int 0, .int 0, .int 0, .int 0, .ref (ad 2), .ref (ad 3), .ref (ad 4), .ref (ad 5), .ref (ad 6), .ref (ad 7), .ref (ad 8), .ref (ad 10), .ref (ad 12)]) := by rw [e100]; exact f92
  have f103 : w98 8 = .inr (4, [.ref (ad 9), .int 0]) := by rw [e100]; exact f93
  have f104 : w98 10 = .inr (4, [.ref (ad 11), .int 0]) := by rw [e100]; exact f94
  refine q_Vl (na := 1) (As := [.long 1540081551236925079]) (rest := []) X hD hN h rfl (c_I_mixed l G cI cB cZ cO ad w98 1540081551236925079 f102 f103 f104) ⟨kw_133, kw_134, kw_135, kw_9, kw_136⟩ rfl ⟨by decide, by decide, by decide⟩ ⟨Nat.le_of_ble_eq_true rfl, Nat.le_of_ble_eq_true rfl⟩ ⟨Nat.zero_le _, Nat.zero_le _⟩ (by decide) f102 rfl rfl hl.1 rfl (Nat.le_of_ble_eq_true rfl) dX8_digest_36 (fun r105 w106 H locs hp107 h => ?_)
  obtain ⟨e108, rfl⟩ := hp107
  refine lv_lstore_n (lv' := [(1, .long 1540081551236925079), (3, .int 10), (0, .ref (ad 0))]) hx hb dX8_digest_39 rfl hl (by decide) rfl (fun ls hl => ?_)
  refine lv_ldc2 (v := 31) hx hb hown (hts _ kw_132) dX8_digest_40 ?_
  refine lv_lload_n hx hb dX8_digest_43 rfl (lv_at hl 0 rfl) ?_
  refine o_lmul (z := (-7597704132783977399)) hx hb dX8_digest_44 rfl ?_
  refine lv_aload_n hx hb dX8_digest_45 rfl (lv_at hl 2 rfl) ?_
  have f109 : w106 0 = .inr (6, [.ref (ad 1), .ref (ad 14), .ref (ad 27), .ref (ad 54), .ref (ad 55), .ref (ad 58), .ref (ad 62), .long 0, .long 1, .int 0, .int 0, .int 0]) := by rw [e108]; exact f101
  refine r_get kc8 X h 0 7 (by decide) rfl f109 (by decide) kw_103 rfl dX8_digest_46 ?_
  refine o_ladd (z := (-7597704132783977399)) hx hb dX8_digest_49 rfl ?_
  refine lv_lstore_n (lv' := [(1, .long (-7597704132783977399)), (3, .int 10), (0, .ref (ad 0))]) hx hb dX8_digest_50 rfl hl (by decide) rfl (fun ls hl => ?_)
  refine lv_ldc2 (v := 31) hx hb hown (hts _ kw_132) dX8_digest_51 ?_
  refine lv_lload_n hx hb dX8_digest_54 rfl (lv_at hl 0 rfl) ?_
  refine o_lmul (z := 4278844841920871639) hx hb dX8_digest_55 rfl ?_
  refine lv_aload_n hx hb dX8_digest_56 rfl (lv_at hl 2 rfl) ?_
  refine r_get kc8 X h 0 8 (by decide) rfl f109 (by decide) kw_104 rfl dX8_digest_57 ?_
  refine o_ladd (z := 4278844841920871640) hx hb dX8_digest_60 rfl ?_
  exact e_l X h hr hlk dX8_digest_61 ⟨rfl, fun k hk => (congrFun e108 k).trans ((congrFun e100 k).trans ((congrFun e90 k).trans ((congrFun e80 k).trans ((congrFun e70 k).trans ((congrFun e60 k).trans ((congrFun e50 k).trans ((congrFun e40 k).trans ((congrFun e30 k).trans ((congrFun e20 k).trans (congrFun e10 k))))))))))⟩
end
section
set_option maxHeartbeats 4000000 in
set_option maxRecDepth 100000 in
theorem c_X_hours (l : Launch) (G : va_G) (cI cB cZ cO : ClassId) (ad : Nat → Nat) (w : Nat → va_E) (F : ∀ k, k < 74 → w k = fr0 cI cB cZ cO ad k) (i : Int32) : MI l G (tyq cI cB cZ cO) yX8_hours cX8_hours 2 (some .int) 2 62 74 ad w [.ref (ad 0), .int i] (fun r w1 => (1 ≤ i.toInt ∧ i.toInt ≤ 60 → r = i) ∧ (¬ (1 ≤ i.toInt ∧ i.toInt ≤ 60) → r = -2) ∧ ∀ k, 64 ≤ k → w1 k = w k) := by
  refine mk_i (own := "NoonShade") rfl (by decide) (Nat.le_of_ble_eq_true rfl) ?_
  intro p e s m below meth c ls X hD hN hr hlk h hl
  have hx := X.1.1
  have hb := X.1.2.1
  have hown := X.1.2.2.2.1
  have hts := X.1.2.2.2.2
  have hl : lv_has ls 2 [(0, .ref (ad 0)), (1, .int i)] := hl
  refine lv_iload_n hx hb dX8_hours_0 rfl (lv_at hl 1 rfl) ?_
  refine lv_iconst (v := 1) hx hb dX8_hours_1 (by decide) ?_
  refine lv_bipush (v := 60) hx hb dX8_hours_2 (by decide) ?_
  refine q_Si (na := 3) (As := [.int i, .int 1, .int 60]) (rest := []) X hD hN h (c_within l G cI cB cZ cO ad w i 1 60 ((i).toInt) 1 60 rfl rfl rfl) ⟨kw_38, kw_39, kw_14, kw_40⟩ ⟨by decide, by decide, by decide⟩ ⟨Nat.le_of_ble_eq_true rfl, Nat.le_of_ble_eq_true rfl⟩ ⟨Nat.zero_le _, Nat.zero_le _⟩ rfl hl.1 rfl (Nat.le_of_ble_eq_true rfl) dX8_hours_4 (fun r1 w2 H locs hp3 h => ?_)
  obtain ⟨e4, hp3⟩ := hp3
  rcases hp3 with ⟨hq5a, hq5b, rfl⟩ | ⟨hq5, rfl⟩
  · refine lv_if_ne (tgt := 17) hx hb dX8_hours_7 (by decide) (fun _ => ?_) (fun hc => absurd hc (by decide))
    refine lv_aload_n hx hb dX8_hours_17 rfl (lv_at hl 0 rfl) ?_
    have f6 : w 0 = .inr (6, [.ref (ad 1), .ref (ad 14), .ref (ad 27), .ref (ad 54), .ref (ad 55), .ref (ad 58), .ref (ad 62), .long 0, .long 1, .int 0, .int 0, .int 0]) := F 0 (by decide)
    have f7 : w2 0 = .inr (6, [.ref (ad 1), .ref (ad 14), .ref (ad 27), .ref (ad 54), .ref (ad 55), .ref (ad 58), .ref (ad 62), .long 0, .long 1, .int 0, .int 0, .int 0]) := by rw [e4]; exact f6
    refine r_get kc8 X h 0 0 (by decide) rfl f7 (by decide) kw_5 rfl dX8_hours_18 ?_
    have f8 : w 1 = .inr (1, [.int 0, .int 0, .int 0, .int 0, .int 0, .ref (ad 2), .ref (ad 3), .ref (ad 4), .ref (ad 5), .ref (ad 6), .ref (ad 7), .ref (ad 8), .ref (ad 10), .ref (ad 12)]) := F 1 (by decide)
    have f9 : w2 1 = .inr (1, [.int 0, .int 0, .int 0, .int 0, .int 0, .ref (ad 2), .ref (ad 3), .ref (ad 4), .ref (ad 5), .ref (ad 6), .ref (ad 7), .ref (ad 8), .ref (ad 10), .ref (ad 12)]) := by rw [e4]; exact f8
    refine r_get kc2 X h 1 0 (by decide) rfl f9 (by decide) kw_113 rfl dX8_hours_21 ?_
    refine lv_sipush (v := 9999) hx hb dX8_hours_24 (by decide) ?_
    refine lv_icmp_ge (tgt := 52) hx hb dX8_hours_27 (by decide) (fun hc => absurd hc (by decide)) (fun _ => ?_)
    refine lv_aload_n hx hb dX8_hours_30 rfl (lv_at hl 0 rfl) ?_
    refine r_get kc8 X h 0 0 (by decide) rfl f7 (by decide) kw_5 rfl dX8_hours_31 ?_
    refine r_get kc2 X h 1 13 (by decide) rfl f9 (by decide) kw_52 rfl dX8_hours_34 ?_
    refine lv_aload_n hx hb dX8_hours_37 rfl (lv_at hl 0 rfl) ?_
    refine r_get kc8 X h 0 0 (by decide) rfl f7 (by decide) kw_5 rfl dX8_hours_38 ?_
    have f10 : w 12 = .inr (2, [.ref (ad 13), .int 0]) := F 12 (by decide)
    have f11 : w2 12 = .inr (2, [.ref (ad 13), .int 0]) := by rw [e4]; exact f10
    have f12 : w 13 = .inl (cI, 88, .inl (fun _ => 0)) := F 13 (by decide)
    have f13 : w2 13 = .inl (cI, 88, .inl (fun _ => 0)) := by rw [e4]; exact f12
    have f14 : w 6 = .inl (cI, 4, .inl (fun _ => 0)) := F 6 (by decide)
    have f15 : w2 6 = .inl (cI, 4, .inl (fun _ => 0)) := by rw [e4]; exact f14
    have f16 : w 7 = .inl (cI, 4, .inl (fun _ => 0)) := F 7 (by decide)
    have f17 : w2 7 = .inl (cI, 4, .inl (fun _ => 0)) := by rw [e4]; exact f16
    refine q_Vv (na := 1) (As := [.ref (ad 1)]) (rest := []) X hD hN h rfl (c_remember l G cI cB cZ cO ad w2 f11 f13 f9 f15 f17) ⟨kw_151, kw_152, kw_153, kw_36, kw_154⟩ rfl ⟨by decide, by decide, by decide⟩ ⟨Nat.le_of_ble_eq_true rfl, Nat.le_of_ble_eq_true rfl⟩ ⟨Nat.zero_le _, Nat.zero_le _⟩ (by decide) f11 rfl rfl hl.1 rfl (Nat.le_of_ble_eq_true rfl) dX8_hours_41 (fun w19 H locs hp20 h => ?_)
    refine lv_aload_n hx hb dX8_hours_44 rfl (lv_at hl 0 rfl) ?_
    have f21 : w19 0 = .inr (6, [.ref (ad 1), .ref (ad 14), .ref (ad 27), .ref (ad 54), .ref (ad 55), .ref (ad 58), .ref (ad 62), .long 0, .long 1, .int 0, .int 0, .int 0]) := (hp20 0 (by decide) (by decide)).trans f7
    refine r_get kc8 X h 0 0 (by decide) rfl f21 (by decide) kw_5 rfl dX8_hours_45 ?_
    refine lv_iload_n hx hb dX8_hours_48 rfl (lv_at hl 1 rfl) ?_
    have f22 : w19 1 = .inr (1, [.int 0, .int 0, .int 0, .int 0, .int 0, .ref (ad 2), .ref (ad 3), .ref (ad 4), .ref (ad 5), .ref (ad 6), .ref (ad 7), .ref (ad 8), .ref (ad 10), .ref (ad 12)]) := (hp20 1 (by decide) (by decide)).trans f9
    refine q_Vv (na := 1) (As := [.int i]) (rest := []) X hD hN h rfl (c_passHours l G cI cB cZ cO ad w19 i (by omega) (by omega) f22) ⟨kw_155, kw_156, kw_157, kw_9, kw_158⟩ rfl ⟨by decide, by decide, by decide⟩ ⟨Nat.le_of_ble_eq_true rfl, Nat.le_of_ble_eq_true rfl⟩ ⟨Nat.zero_le _, Nat.zero_le _⟩ (by decide) f22 rfl rfl hl.1 rfl (Nat.le_of_ble_eq_true rfl) dX8_hours_49 (fun w24 H locs hp25 h => ?_)
    obtain ⟨f26, hf27⟩ := hp25
    refine lv_aload_n hx hb dX8_hours_52 rfl (lv_at hl 0 rfl) ?_
    have f28 : w24 0 = .inr (6, [.ref (ad 1), .ref (ad 14), .ref (ad 27), .ref (ad 54), .ref (ad 55), .ref (ad 58), .ref (ad 62), .long 0, .long 1, .int 0, .int 0, .int 0]) := (hf27 0 (by decide)).trans f21
    refine r_get kc8 X h 0 0 (by decide) rfl f28 (by decide) kw_5 rfl dX8_hours_53 ?_
    refine r_get kc2 X h 1 0 (by decide) rfl f26 (by decide) kw_113 rfl dX8_hours_56 ?_
    exact e_i X h hr hlk dX8_hours_59 ⟨fun _ => by first | rfl | omega, fun _ => by first | rfl | omega, fun k hk => (hf27 k (by omega)).trans ((hp20 k (by omega) (by omega)).trans (congrFun e4 k))⟩
  · refine lv_if_ne (tgt := 17) hx hb dX8_hours_7 (by decide) (fun hc => absurd (by decide) hc) (fun _ => ?_)
    refine lv_aload_n hx hb dX8_hours_10 rfl (lv_at hl 0 rfl) ?_
    refine lv_bipush (v := (-2)) hx hb dX8_hours_11 (by decide) ?_
    have f29 : w 0 = .inr (6, [.ref (ad 1), .ref (ad 14), .ref (ad 27), .ref (ad 54), .ref (ad 55), .ref (ad 58), .ref (ad 62), .long 0, .long 1, .int 0, .int 0, .int 0]) := F 0 (by decide)
    have f30 : w2 0 = .inr (6, [.ref (ad 1), .ref (ad 14), .ref (ad 27), .ref (ad 54), .ref (ad 55), .ref (ad 58), .ref (ad 62), .long 0, .long 1, .int 0, .int 0, .int 0]) := by rw [e4]; exact f29
    refine q_Vi (na := 1) (As := [.int (-2)]) (rest := []) X hD hN h rfl (c_refused l G cI cB cZ cO ad w2 _ _ _ _ _ _ _ _ _ _ _ _ (-2) f30) ⟨kw_11, kw_12, kw_13, kw_14, kw_15⟩ rfl ⟨by decide, by decide, by decide⟩ ⟨Nat.le_of_ble_eq_true rfl, Nat.le_of_ble_eq_true rfl⟩ ⟨Nat.zero_le _, Nat.zero_le _⟩ (by decide) f30 rfl rfl hl.1 rfl (Nat.le_of_ble_eq_true rfl) dX8_hours_13 (fun r31 w32 H locs hp33 h => ?_)
    obtain ⟨rfl, x34, y35, z36, e37⟩ := hp33
    have f38 : w32 0 = .inr (6, [.ref (ad 1), .ref (ad 14), .ref (ad 27), .ref (ad 54), .ref (ad 55), .ref (ad 58), .ref (ad 62), .long 0, .long 1, .int x34, .int y35, .int z36]) := (congrFun e37 _).trans (va_up_self _ _ _)
    exact e_i X h hr hlk dX8_hours_16 ⟨fun _ => by first | rfl | omega, fun _ => by first | rfl | omega, fun k hk => ((congrFun e37 k).trans (va_up_ne _ _ (by omega))).trans (congrFun e4 k)⟩

set_option maxHeartbeats 4000000 in
set_option maxRecDepth 100000 in
theorem c_X_image0 (l : Launch) (G : va_G) (cI cB cZ cO : ClassId) (ad : Nat → Nat) (w : Nat → va_E) (F : ∀ k, k < 74 → w k = fr0 cI cB cZ cO ad k)  : MI l G (tyq cI cB cZ cO) yX8_image cX8_image 2 (some .int) 3 82 74 ad w [.ref (ad 0), .int 0] (fun r w1 => r = 1 ∧ ∀ k, 64 ≤ k → w1 k = w k) := by
  refine mk_i (own := "NoonShade") rfl (by decide) (Nat.le_of_ble_eq_true rfl) ?_
  intro p e s m below meth c ls X hD hN hr hlk h hl
  have hx := X.1.1
  have hb := X.1.2.1
  have hown := X.1.2.2.2.1
  have hts := X.1.2.2.2.2
  have hl : lv_has ls 2 [(0, .ref (ad 0)), (1, .int 0)] := hl
  refine lv_iload_n hx hb dX8_image_0 rfl (lv_at hl 1 rfl) ?_
  refine lv_iconst (v := 0) hx hb dX8_image_1 (by decide) ?_
  refine lv_iconst (v := 1) hx hb dX8_image_2 (by decide) ?_
  refine q_Si (na := 3) (As := [.int 0, .int 0, .int 1]) (rest := []) X hD hN h (c_within l G cI cB cZ cO ad w 0 0 1 0 0 1 rfl rfl rfl) ⟨kw_38, kw_39, kw_14, kw_40⟩ ⟨by decide, by decide, by decide⟩ ⟨Nat.le_of_ble_eq_true rfl, Nat.le_of_ble_eq_true rfl⟩ ⟨Nat.zero_le _, Nat.zero_le _⟩ rfl hl.1 rfl (Nat.le_of_ble_eq_true rfl) dX8_image_3 (fun r1 w2 H locs hp3 h => ?_)
  obtain ⟨e4, hp3⟩ := hp3
  rcases hp3 with ⟨hq5a, hq5b, rfl⟩ | ⟨hq5, rfl⟩
  · refine lv_if_ne (tgt := 16) hx hb dX8_image_6 (by decide) (fun _ => ?_) (fun hc => absurd hc (by decide))
    refine lv_aload_n hx hb dX8_image_16 rfl (lv_at hl 0 rfl) ?_
    have f6 : w 0 = .inr (6, [.ref (ad 1), .ref (ad 14), .ref (ad 27), .ref (ad 54), .ref (ad 55), .ref (ad 58), .ref (ad 62), .long 0, .long 1, .int 0, .int 0, .int 0]) := F 0 (by decide)
    have f7 : w2 0 = .inr (6, [.ref (ad 1), .ref (ad 14), .ref (ad 27), .ref (ad 54), .ref (ad 55), .ref (ad 58), .ref (ad 62), .long 0, .long 1, .int 0, .int 0, .int 0]) := by rw [e4]; exact f6
    refine r_get kc8 X h 0 2 (by decide) rfl f7 (by decide) kw_170 rfl dX8_image_17 ?_
    refine lv_iload_n hx hb dX8_image_20 rfl (lv_at hl 1 rfl) ?_
    have f8 : w 27 = .inl (cO, 2, .inr (.inr (.inr (.inr (fun k => if k = 0 then some (ad 28) else if k = 1 then some (ad 41) else none))))) := F 27 (by decide)
    have f9 : w2 27 = .inl (cO, 2, .inr (.inr (.inr (.inr (fun k => if k = 0 then some (ad 28) else if k = 1 then some (ad 41) else none))))) := by rw [e4]; exact f8
    refine r_aald X h 27 3 (by decide) rfl f9 rfl (by unfold vp_in; decide) rfl dX8_image_21 ?_
    refine lv_aload_n hx hb dX8_image_22 rfl (lv_at hl 0 rfl) ?_
    refine r_get kc8 X h 0 0 (by decide) rfl f7 (by decide) kw_5 rfl dX8_image_23 ?_
    have f10 : w 1 = .inr (1, [.int 0, .int 0, .int 0, .int 0, .int 0, .ref (ad 2), .ref (ad 3), .ref (ad 4), .ref (ad 5), .ref (ad 6), .ref (ad 7), .ref (ad 8), .ref (ad 10), .ref (ad 12)]) := F 1 (by decide)
    have f11 : w2 1 = .inr (1, [.int 0, .int 0, .int 0, .int 0, .int 0, .ref (ad 2), .ref (ad 3), .ref (ad 4), .ref (ad 5), .ref (ad 6), .ref (ad 7), .ref (ad 8), .ref (ad 10), .ref (ad 12)]) := by rw [e4]; exact f10
    have f12 : w 2 = .inl (cI, 7, .inl (fun _ => 0)) := F 2 (by decide)
    have f13 : w2 2 = .inl (cI, 7, .inl (fun _ => 0)) := by rw [e4]; exact f12
    have f14 : w 3 = .inl (cI, 7, .inl (fun _ => 0)) := F 3 (by decide)
    have f15 : w2 3 = .inl (cI, 7, .inl (fun _ => 0)) := by rw [e4]; exact f14
    have f16 : w 4 = .inl (cI, 7, .inl (fun _ => 0)) := F 4 (by decide)
    have f17 : w2 4 = .inl (cI, 7, .inl (fun _ => 0)) := by rw [e4]; exact f16
    have f18 : w 5 = .inl (cI, 4, .inl (fun _ => 0)) := F 5 (by decide)
    have f19 : w2 5 = .inl (cI, 4, .inl (fun _ => 0)) := by rw [e4]; exact f18
    have f20 : w 6 = .inl (cI, 4, .inl (fun _ => 0)) := F 6 (by decide)
    have f21 : w2 6 = .inl (cI, 4, .inl (fun _ => 0)) := by rw [e4]; exact f20
    have f22 : w 7 = .inl (cI, 4, .inl (fun _ => 0)) := F 7 (by decide)
    have f23 : w2 7 = .inl (cI, 4, .inl (fun _ => 0)) := by rw [e4]; exact f22
    have f24 : w 8 = .inr (4, [.ref (ad 9), .int 0]) := F 8 (by decide)
    have f25 : w2 8 = .inr (4, [.ref (ad 9), .int 0]) := by rw [e4]; exact f24
    have f26 : w 9 = .inl (cI, 24, .inl (fun _ => 0)) := F 9 (by decide)
    have f27 : w2 9 = .inl (cI, 24, .inl (fun _ => 0)) := by rw [e4]; exact f26
    have f28 : w 10 = .inr (4, [.ref (ad 11), .int 0]) := F 10 (by decide)
    have f29 : w2 10 = .inr (4, [.ref (ad 11), .int 0]) := by rw [e4]; exact f28
    have f30 : w 11 = .inl (cI, 24, .inl (fun _ => 0)) := F 11 (by decide)
    have f31 : w2 11 = .inl (cI, 24, .inl (fun _ => 0)) := by rw [e4]; exact f30
    have f32 : w 12 = .inr (2, [.ref (ad 13), .int 0]) := F 12 (by decide)
    have f33 : w2 12 = .inr (2, [.ref (ad 13), .int 0]) := by rw [e4]; exact f32
    have f34 : w 13 = .inl (cI, 88, .inl (fun _ => 0)) := F 13 (by decide)
    have f35 : w2 13 = .inl (cI, 88, .inl (fun _ => 0)) := by rw [e4]; exact f34
    have f36 : w 28 = .inr (1, [.int 0, .int 0, .int 0, .int 0, .int 0, .ref (ad 29), .ref (ad 30), .ref (ad 31), .ref (ad 32), .ref (ad 33), .ref (ad 34), .ref (ad 35), .ref (ad 37), .ref (ad 39)]) := F 28 (by decide)
    have f37 : w2 28 = .inr (1, [.int 0, .int 0, .int 0, .int 0, .int 0, .ref (ad 29), .ref (ad 30), .ref (ad 31), .ref (ad 32), .ref (ad 33), .ref (ad 34), .ref (ad 35), .ref (ad 37), .ref (ad 39)]) := by rw [e4]; exact f36
    have f38 : w 29 = .inl (cI, 7, .inl (fun _ => 0)) := F 29 (by decide)
    have f39 : w2 29 = .inl (cI, 7, .inl (fun _ => 0)) := by rw [e4]; exact f38
    have f40 : w 30 = .inl (cI, 7, .inl (fun _ => 0)) := F 30 (by decide)
    have f41 : w2 30 = .inl (cI, 7, .inl (fun _ => 0)) := by rw [e4]; exact f40
    have f42 : w 31 = .inl (cI, 7, .inl (fun _ => 0)) := F 31 (by decide)
    have f43 : w2 31 = .inl (cI, 7, .inl (fun _ => 0)) := by rw [e4]; exact f42
    have f44 : w 32 = .inl (cI, 4, .inl (fun _ => 0)) := F 32 (by decide)
    have f45 : w2 32 = .inl (cI, 4, .inl (fun _ => 0)) := by rw [e4]; exact f44
    have f46 : w 33 = .inl (cI, 4, .inl (fun _ => 0)) := F 33 (by decide)
    have f47 : w2 33 = .inl (cI, 4, .inl (fun _ => 0)) := by rw [e4]; exact f46
    have f48 : w 34 = .inl (cI, 4, .inl (fun _ => 0)) := F 34 (by decide)
    have f49 : w2 34 = .inl (cI, 4, .inl (fun _ => 0)) := by rw [e4]; exact f48
    have f50 : w 35 = .inr (4, [.ref (ad 36), .int 0]) := F 35 (by decide)
    have f51 : w2 35 = .inr (4, [.ref (ad 36), .int 0]) := by rw [e4]; exact f50
    have f52 : w 36 = .inl (cI, 24, .inl (fun _ => 0)) := F 36 (by decide)
    have f53 : w2 36 = .inl (cI, 24, .inl (fun _ => 0)) := by rw [e4]; exact f52
    have f54 : w 37 = .inr (4, [.ref (ad 38), .int 0]) := F 37 (by decide)
    have f55 : w2 37 = .inr (4, [.ref (ad 38), .int 0]) := by rw [e4]; exact f54
    have f56 : w 38 = .inl (cI, 24, .inl (fun _ => 0)) := F 38 (by decide)
    have f57 : w2 38 = .inl (cI, 24, .inl (fun _ => 0)) := by rw [e4]; exact f56
    have f58 : w 39 = .inr (2, [.ref (ad 40), .int 0]) := F 39 (by decide)
    have f59 : w2 39 = .inr (2, [.ref (ad 40), .int 0]) := by rw [e4]; exact f58
    have f60 : w 40 = .inl (cI, 88, .inl (fun _ => 0)) := F 40 (by decide)
    have f61 : w2 40 = .inl (cI, 88, .inl (fun _ => 0)) := by rw [e4]; exact f60
    refine q_Vv (na := 1) (As := [.ref (ad 1)]) (rest := []) X hD hN h rfl (c_become28 l G cI cB cZ cO ad w2 f11 f13 f15 f17 f19 f21 f23 f25 f27 f29 f31 f33 f35 f37 f39 f41 f43 f45 f47 f49 f51 f53 f55 f57 f59 f61) ⟨kw_171, kw_172, kw_173, kw_9, kw_174⟩ rfl ⟨by decide, by decide, by decide⟩ ⟨Nat.le_of_ble_eq_true rfl, Nat.le_of_ble_eq_true rfl⟩ ⟨Nat.zero_le _, Nat.zero_le _⟩ (by decide) f37 rfl rfl hl.1 rfl (Nat.le_of_ble_eq_true rfl) dX8_image_26 (fun w63 H locs hp64 h => ?_)
    obtain ⟨f65, hf66⟩ := hp64
    refine lv_aload_n hx hb dX8_image_29 rfl (lv_at hl 0 rfl) ?_
    have f67 : w63 0 = .inr (6, [.ref (ad 1), .ref (ad 14), .ref (ad 27), .ref (ad 54), .ref (ad 55), .ref (ad 58), .ref (ad 62), .long 0, .long 1, .int 0, .int 0, .int 0]) := (hf66 0 (by omega)).trans f7
    refine r_get kc8 X h 0 3 (by decide) rfl f67 (by decide) kw_105 rfl dX8_image_30 ?_
    refine lv_iload_n hx hb dX8_image_33 rfl (lv_at hl 1 rfl) ?_
    refine lv_iconst (v := 1) hx hb dX8_image_34 (by decide) ?_
    have f68 : w 54 = .inl (cZ, 2, .inl (fun _ => 0)) := F 54 (by decide)
    have f69 : w2 54 = .inl (cZ, 2, .inl (fun _ => 0)) := by rw [e4]; exact f68
    have f70 : w63 54 = .inl (cZ, 2, .inl (fun _ => 0)) := (hf66 54 (by omega)).trans f69
    refine o_zast (f1 := upd (fun _ => 0) 0 (vp_nar .boolean 1)) X hD h 54 2 (by decide) rfl f70 rfl (by unfold vp_in; decide) rfl dX8_image_35 (fun H locs w71 e72 h => ?_)
    have f73 : w71 54 = .inl (cZ, 2, .inl (upd (fun _ => 0) 0 (vp_nar .boolean 1))) := (congrFun e72 _).trans (va_up_self _ _ _)
    refine lv_iconst (v := 1) hx hb dX8_image_36 (by decide) ?_
    exact e_i X h hr hlk dX8_image_37 ⟨rfl, fun k hk => ((congrFun e72 k).trans (va_up_ne _ _ (by omega))).trans ((hf66 k (by omega)).trans (congrFun e4 k))⟩
  · exfalso; omega

set_option maxHeartbeats 4000000 in
set_option maxRecDepth 100000 in
theorem c_X_image1 (l : Launch) (G : va_G) (cI cB cZ cO : ClassId) (ad : Nat → Nat) (w : Nat → va_E) (F : ∀ k, k < 74 → w k = fr0 cI cB cZ cO ad k)  : MI l G (tyq cI cB cZ cO) yX8_image cX8_image 2 (some .int) 3 82 74 ad w [.ref (ad 0), .int 1] (fun r w1 => r = 1 ∧ ∀ k, 64 ≤ k → w1 k = w k) := by
  refine mk_i (own := "NoonShade") rfl (by decide) (Nat.le_of_ble_eq_true rfl) ?_
  intro p e s m below meth c ls X hD hN hr hlk h hl
  have hx := X.1.1
  have hb := X.1.2.1
  have hown := X.1.2.2.2.1
  have hts := X.1.2.2.2.2
  have hl : lv_has ls 2 [(0, .ref (ad 0)), (1, .int 1)] := hl
  refine lv_iload_n hx hb dX8_image_0 rfl (lv_at hl 1 rfl) ?_
  refine lv_iconst (v := 0) hx hb dX8_image_1 (by decide) ?_
  refine lv_iconst (v := 1) hx hb dX8_image_2 (by decide) ?_
  refine q_Si (na := 3) (As := [.int 1, .int 0, .int 1]) (rest := []) X hD hN h (c_within l G cI cB cZ cO ad w 1 0 1 1 0 1 rfl rfl rfl) ⟨kw_38, kw_39, kw_14, kw_40⟩ ⟨by decide, by decide, by decide⟩ ⟨Nat.le_of_ble_eq_true rfl, Nat.le_of_ble_eq_true rfl⟩ ⟨Nat.zero_le _, Nat.zero_le _⟩ rfl hl.1 rfl (Nat.le_of_ble_eq_true rfl) dX8_image_3 (fun r1 w2 H locs hp3 h => ?_)
  obtain ⟨e4, hp3⟩ := hp3
  rcases hp3 with ⟨hq5a, hq5b, rfl⟩ | ⟨hq5, rfl⟩
  · refine lv_if_ne (tgt := 16) hx hb dX8_image_6 (by decide) (fun _ => ?_) (fun hc => absurd hc (by decide))
    refine lv_aload_n hx hb dX8_image_16 rfl (lv_at hl 0 rfl) ?_
    have f6 : w 0 = .inr (6, [.ref (ad 1), .ref (ad 14), .ref (ad 27), .ref (ad 54), .ref (ad 55), .ref (ad 58), .ref (ad 62), .long 0, .long 1, .int 0, .int 0, .int 0]) := F 0 (by decide)
    have f7 : w2 0 = .inr (6, [.ref (ad 1), .ref (ad 14), .ref (ad 27), .ref (ad 54), .ref (ad 55), .ref (ad 58), .ref (ad 62), .long 0, .long 1, .int 0, .int 0, .int 0]) := by rw [e4]; exact f6
    refine r_get kc8 X h 0 2 (by decide) rfl f7 (by decide) kw_170 rfl dX8_image_17 ?_
    refine lv_iload_n hx hb dX8_image_20 rfl (lv_at hl 1 rfl) ?_
    have f8 : w 27 = .inl (cO, 2, .inr (.inr (.inr (.inr (fun k => if k = 0 then some (ad 28) else if k = 1 then some (ad 41) else none))))) := F 27 (by decide)
    have f9 : w2 27 = .inl (cO, 2, .inr (.inr (.inr (.inr (fun k => if k = 0 then some (ad 28) else if k = 1 then some (ad 41) else none))))) := by rw [e4]; exact f8
    refine r_aald X h 27 3 (by decide) rfl f9 rfl (by unfold vp_in; decide) rfl dX8_image_21 ?_
    refine lv_aload_n hx hb dX8_image_22 rfl (lv_at hl 0 rfl) ?_
    refine r_get kc8 X h 0 0 (by decide) rfl f7 (by decide) kw_5 rfl dX8_image_23 ?_
    have f10 : w 1 = .inr (1, [.int 0, .int 0, .int 0, .int 0, .int 0, .ref (ad 2), .ref (ad 3), .ref (ad 4), .ref (ad 5), .ref (ad 6), .ref (ad 7), .ref (ad 8), .ref (ad 10), .ref (ad 12)]) := F 1 (by decide)
    have f11 : w2 1 = .inr (1, [.int 0, .int 0, .int 0, .int 0, .int 0, .ref (ad 2), .ref (ad 3), .ref (ad 4), .ref (ad 5), .ref (ad 6), .ref (ad 7), .ref (ad 8), .ref (ad 10), .ref (ad 12)]) := by rw [e4]; exact f10
    have f12 : w 2 = .inl (cI, 7, .inl (fun _ => 0)) := F 2 (by decide)
    have f13 : w2 2 = .inl (cI, 7, .inl (fun _ => 0)) := by rw [e4]; exact f12
    have f14 : w 3 = .inl (cI, 7, .inl (fun _ => 0)) := F 3 (by decide)
    have f15 : w2 3 = .inl (cI, 7, .inl (fun _ => 0)) := by rw [e4]; exact f14
    have f16 : w 4 = .inl (cI, 7, .inl (fun _ => 0)) := F 4 (by decide)
    have f17 : w2 4 = .inl (cI, 7, .inl (fun _ => 0)) := by rw [e4]; exact f16
    have f18 : w 5 = .inl (cI, 4, .inl (fun _ => 0)) := F 5 (by decide)
    have f19 : w2 5 = .inl (cI, 4, .inl (fun _ => 0)) := by rw [e4]; exact f18
    have f20 : w 6 = .inl (cI, 4, .inl (fun _ => 0)) := F 6 (by decide)
    have f21 : w2 6 = .inl (cI, 4, .inl (fun _ => 0)) := by rw [e4]; exact f20
    have f22 : w 7 = .inl (cI, 4, .inl (fun _ => 0)) := F 7 (by decide)
    have f23 : w2 7 = .inl (cI, 4, .inl (fun _ => 0)) := by rw [e4]; exact f22
    have f24 : w 8 = .inr (4, [.ref (ad 9), .int 0]) := F 8 (by decide)
    have f25 : w2 8 = .inr (4, [.ref (ad 9), .int 0]) := by rw [e4]; exact f24
    have f26 : w 9 = .inl (cI, 24, .inl (fun _ => 0)) := F 9 (by decide)
    have f27 : w2 9 = .inl (cI, 24, .inl (fun _ => 0)) := by rw [e4]; exact f26
    have f28 : w 10 = .inr (4, [.ref (ad 11), .int 0]) := F 10 (by decide)
    have f29 : w2 10 = .inr (4, [.ref (ad 11), .int 0]) := by rw [e4]; exact f28
    have f30 : w 11 = .inl (cI, 24, .inl (fun _ => 0)) := F 11 (by decide)
    have f31 : w2 11 = .inl (cI, 24, .inl (fun _ => 0)) := by rw [e4]; exact f30
    have f32 : w 12 = .inr (2, [.ref (ad 13), .int 0]) := F 12 (by decide)
    have f33 : w2 12 = .inr (2, [.ref (ad 13), .int 0]) := by rw [e4]; exact f32
    have f34 : w 13 = .inl (cI, 88, .inl (fun _ => 0)) := F 13 (by decide)
    have f35 : w2 13 = .inl (cI, 88, .inl (fun _ => 0)) := by rw [e4]; exact f34
    have f36 : w 41 = .inr (1, [.int 0, .int 0, .int 0, .int 0, .int 0, .ref (ad 42), .ref (ad 43), .ref (ad 44), .ref (ad 45), .ref (ad 46), .ref (ad 47), .ref (ad 48), .ref (ad 50), .ref (ad 52)]) := F 41 (by decide)
    have f37 : w2 41 = .inr (1, [.int 0, .int 0, .int 0, .int 0, .int 0, .ref (ad 42), .ref (ad 43), .ref (ad 44), .ref (ad 45), .ref (ad 46), .ref (ad 47), .ref (ad 48), .ref (ad 50), .ref (ad 52)]) := by rw [e4]; exact f36
    have f38 : w 42 = .inl (cI, 7, .inl (fun _ => 0)) := F 42 (by decide)
    have f39 : w2 42 = .inl (cI, 7, .inl (fun _ => 0)) := by rw [e4]; exact f38
    have f40 : w 43 = .inl (cI, 7, .inl (fun _ => 0)) := F 43 (by decide)
    have f41 : w2 43 = .inl (cI, 7, .inl (fun _ => 0)) := by rw [e4]; exact f40
    have f42 : w 44 = .inl (cI, 7, .inl (fun _ => 0)) := F 44 (by decide)
    have f43 : w2 44 = .inl (cI, 7, .inl (fun _ => 0)) := by rw [e4]; exact f42
    have f44 : w 45 = .inl (cI, 4, .inl (fun _ => 0)) := F 45 (by decide)
    have f45 : w2 45 = .inl (cI, 4, .inl (fun _ => 0)) := by rw [e4]; exact f44
    have f46 : w 46 = .inl (cI, 4, .inl (fun _ => 0)) := F 46 (by decide)
    have f47 : w2 46 = .inl (cI, 4, .inl (fun _ => 0)) := by rw [e4]; exact f46
    have f48 : w 47 = .inl (cI, 4, .inl (fun _ => 0)) := F 47 (by decide)
    have f49 : w2 47 = .inl (cI, 4, .inl (fun _ => 0)) := by rw [e4]; exact f48
    have f50 : w 48 = .inr (4, [.ref (ad 49), .int 0]) := F 48 (by decide)
    have f51 : w2 48 = .inr (4, [.ref (ad 49), .int 0]) := by rw [e4]; exact f50
    have f52 : w 49 = .inl (cI, 24, .inl (fun _ => 0)) := F 49 (by decide)
    have f53 : w2 49 = .inl (cI, 24, .inl (fun _ => 0)) := by rw [e4]; exact f52
    have f54 : w 50 = .inr (4, [.ref (ad 51), .int 0]) := F 50 (by decide)
    have f55 : w2 50 = .inr (4, [.ref (ad 51), .int 0]) := by rw [e4]; exact f54
    have f56 : w 51 = .inl (cI, 24, .inl (fun _ => 0)) := F 51 (by decide)
    have f57 : w2 51 = .inl (cI, 24, .inl (fun _ => 0)) := by rw [e4]; exact f56
    have f58 : w 52 = .inr (2, [.ref (ad 53), .int 0]) := F 52 (by decide)
    have f59 : w2 52 = .inr (2, [.ref (ad 53), .int 0]) := by rw [e4]; exact f58
    have f60 : w 53 = .inl (cI, 88, .inl (fun _ => 0)) := F 53 (by decide)
    have f61 : w2 53 = .inl (cI, 88, .inl (fun _ => 0)) := by rw [e4]; exact f60
    refine q_Vv (na := 1) (As := [.ref (ad 1)]) (rest := []) X hD hN h rfl (c_become41 l G cI cB cZ cO ad w2 f11 f13 f15 f17 f19 f21 f23 f25 f27 f29 f31 f33 f35 f37 f39 f41 f43 f45 f47 f49 f51 f53 f55 f57 f59 f61) ⟨kw_171, kw_172, kw_173, kw_9, kw_174⟩ rfl ⟨by decide, by decide, by decide⟩ ⟨Nat.le_of_ble_eq_true rfl, Nat.le_of_ble_eq_true rfl⟩ ⟨Nat.zero_le _, Nat.zero_le _⟩ (by decide) f37 rfl rfl hl.1 rfl (Nat.le_of_ble_eq_true rfl) dX8_image_26 (fun w63 H locs hp64 h => ?_)
    obtain ⟨f65, hf66⟩ := hp64
    refine lv_aload_n hx hb dX8_image_29 rfl (lv_at hl 0 rfl) ?_
    have f67 : w63 0 = .inr (6, [.ref (ad 1), .ref (ad 14), .ref (ad 27), .ref (ad 54), .ref (ad 55), .ref (ad 58), .ref (ad 62), .long 0, .long 1, .int 0, .int 0, .int 0]) := (hf66 0 (by omega)).trans f7
    refine r_get kc8 X h 0 3 (by decide) rfl f67 (by decide) kw_105 rfl dX8_image_30 ?_
    refine lv_iload_n hx hb dX8_image_33 rfl (lv_at hl 1 rfl) ?_
    refine lv_iconst (v := 1) hx hb dX8_image_34 (by decide) ?_
    have f68 : w 54 = .inl (cZ, 2, .inl (fun _ => 0)) := F 54 (by decide)
    have f69 : w2 54 = .inl (cZ, 2, .inl (fun _ => 0)) := by rw [e4]; exact f68
    have f70 : w63 54 = .inl (cZ, 2, .inl (fun _ => 0)) := (hf66 54 (by omega)).trans f69
    refine o_zast (f1 := upd (fun _ => 0) 1 (vp_nar .boolean 1)) X hD h 54 2 (by decide) rfl f70 rfl (by unfold vp_in; decide) rfl dX8_image_35 (fun H locs w71 e72 h => ?_)
    have f73 : w71 54 = .inl (cZ, 2, .inl (upd (fun _ => 0) 1 (vp_nar .boolean 1))) := (congrFun e72 _).trans (va_up_self _ _ _)
    refine lv_iconst (v := 1) hx hb dX8_image_36 (by decide) ?_
    exact e_i X h hr hlk dX8_image_37 ⟨rfl, fun k hk => ((congrFun e72 k).trans (va_up_ne _ _ (by omega))).trans ((hf66 k (by omega)).trans (congrFun e4 k))⟩
  · exfalso; omega

set_option maxHeartbeats 4000000 in
set_option maxRecDepth 100000 in
theorem c_X_imageN (l : Launch) (G : va_G) (cI cB cZ cO : ClassId) (ad : Nat → Nat) (w : Nat → va_E) (F : ∀ k, k < 74 → w k = fr0 cI cB cZ cO ad k) (i : Int32) (hi : ¬ (0 ≤ i.toInt ∧ i.toInt ≤ 1)) : MI l G (tyq cI cB cZ cO) yX8_image cX8_image 2 (some .int) 3 82 74 ad w [.ref (ad 0), .int i] (fun r w1 => r = -2 ∧ ∀ k, 64 ≤ k → w1 k = w k) := by
  refine mk_i (own := "NoonShade") rfl (by decide) (Nat.le_of_ble_eq_true rfl) ?_
  intro p e s m below meth c ls X hD hN hr hlk h hl
  have hx := X.1.1
  have hb := X.1.2.1
  have hown := X.1.2.2.2.1
  have hts := X.1.2.2.2.2
  have hl : lv_has ls 2 [(0, .ref (ad 0)), (1, .int i)] := hl
  refine lv_iload_n hx hb dX8_image_0 rfl (lv_at hl 1 rfl) ?_
  refine lv_iconst (v := 0) hx hb dX8_image_1 (by decide) ?_
  refine lv_iconst (v := 1) hx hb dX8_image_2 (by decide) ?_
  refine q_Si (na := 3) (As := [.int i, .int 0, .int 1]) (rest := []) X hD hN h (c_within l G cI cB cZ cO ad w i 0 1 ((i).toInt) 0 1 rfl rfl rfl) ⟨kw_38, kw_39, kw_14, kw_40⟩ ⟨by decide, by decide, by decide⟩ ⟨Nat.le_of_ble_eq_true rfl, Nat.le_of_ble_eq_true rfl⟩ ⟨Nat.zero_le _, Nat.zero_le _⟩ rfl hl.1 rfl (Nat.le_of_ble_eq_true rfl) dX8_image_3 (fun r1 w2 H locs hp3 h => ?_)
  obtain ⟨e4, hp3⟩ := hp3
  rcases hp3 with ⟨hq5a, hq5b, rfl⟩ | ⟨hq5, rfl⟩
  · exfalso; omega
  · refine lv_if_ne (tgt := 16) hx hb dX8_image_6 (by decide) (fun hc => absurd (by decide) hc) (fun _ => ?_)
    refine lv_aload_n hx hb dX8_image_9 rfl (lv_at hl 0 rfl) ?_
    refine lv_bipush (v := (-2)) hx hb dX8_image_10 (by decide) ?_
    have f6 : w 0 = .inr (6, [.ref (ad 1), .ref (ad 14), .ref (ad 27), .ref (ad 54), .ref (ad 55), .ref (ad 58), .ref (ad 62), .long 0, .long 1, .int 0, .int 0, .int 0]) := F 0 (by decide)
    have f7 : w2 0 = .inr (6, [.ref (ad 1), .ref (ad 14), .ref (ad 27), .ref (ad 54), .ref (ad 55), .ref (ad 58), .ref (ad 62), .long 0, .long 1, .int 0, .int 0, .int 0]) := by rw [e4]; exact f6
    refine q_Vi (na := 1) (As := [.int (-2)]) (rest := []) X hD hN h rfl (c_refused l G cI cB cZ cO ad w2 _ _ _ _ _ _ _ _ _ _ _ _ (-2) f7) ⟨kw_11, kw_12, kw_13, kw_14, kw_15⟩ rfl ⟨by decide, by decide, by decide⟩ ⟨Nat.le_of_ble_eq_true rfl, Nat.le_of_ble_eq_true rfl⟩ ⟨Nat.zero_le _, Nat.zero_le _⟩ (by decide) f7 rfl rfl hl.1 rfl (Nat.le_of_ble_eq_true rfl) dX8_image_12 (fun r8 w9 H locs hp10 h => ?_)
    obtain ⟨rfl, x11, y12, z13, e14⟩ := hp10
    have f15 : w9 0 = .inr (6, [.ref (ad 1), .ref (ad 14), .ref (ad 27), .ref (ad 54), .ref (ad 55), .ref (ad 58), .ref (ad 62), .long 0, .long 1, .int x11, .int y12, .int z13]) := (congrFun e14 _).trans (va_up_self _ _ _)
    exact e_i X h hr hlk dX8_image_15 ⟨rfl, fun k hk => ((congrFun e14 k).trans (va_up_ne _ _ (by omega))).trans (congrFun e4 k)⟩

set_option maxHeartbeats 4000000 in
set_option maxRecDepth 100000 in
theorem c_X_noons (l : Launch) (G : va_G) (cI cB cZ cO : ClassId) (ad : Nat → Nat) (w : Nat → va_E) (F : ∀ k, k < 74 → w k = fr0 cI cB cZ cO ad k) (x n : Int32) : MI l G (tyq cI cB cZ cO) yX8_noons cX8_noons 8 (some .int) 3 82 74 ad w [.ref (ad 0), .int x, .int n] (fun r w1 => (0 ≤ x.toInt ∧ x.toInt ≤ 999999 ∧ 0 ≤ n.toInt ∧ n.toInt ≤ 60 → r = 0) ∧ (¬ (0 ≤ x.toInt ∧ x.toInt ≤ 999999 ∧ 0 ≤ n.toInt ∧ n.toInt ≤ 60) → r = -2) ∧ ∀ k, 64 ≤ k → w1 k = w k) := by
  refine mk_i (own := "NoonShade") rfl (by decide) (Nat.le_of_ble_eq_true rfl) ?_
  intro p e s m below meth c ls X hD hN hr hlk h hl
  have hx := X.1.1
  have hb := X.1.2.1
  have hown := X.1.2.2.2.1
  have hts := X.1.2.2.2.2
  have hl : lv_has ls 8 [(0, .ref (ad 0)), (1, .int x), (2, .int n)] := hl
  refine lv_iload_n hx hb dX8_noons_0 rfl (lv_at hl 1 rfl) ?_
  refine lv_iconst (v := 0) hx hb dX8_noons_1 (by decide) ?_
  refine lv_ldc (v := 999999) hx hb hown (hts _ kw_175) dX8_noons_2 ?_
  refine q_Si (na := 3) (As := [.int x, .int 0, .int 999999]) (rest := []) X hD hN h (c_within l G cI cB cZ cO ad w x 0 999999 ((x).toInt) 0 999999 rfl rfl rfl) ⟨kw_38, kw_39, kw_14, kw_40⟩ ⟨by decide, by decide, by decide⟩ ⟨Nat.le_of_ble_eq_true rfl, Nat.le_of_ble_eq_true rfl⟩ ⟨Nat.zero_le _, Nat.zero_le _⟩ rfl hl.1 rfl (Nat.le_of_ble_eq_true rfl) dX8_noons_4 (fun r1 w2 H locs hp3 h => ?_)
  obtain ⟨e4, hp3⟩ := hp3
  rcases hp3 with ⟨hq5a, hq5b, rfl⟩ | ⟨hq5, rfl⟩
  · refine lv_if_eq (tgt := 20) hx hb dX8_noons_7 (by decide) (fun hc => absurd hc (by decide)) (fun _ => ?_)
    refine lv_iload_n hx hb dX8_noons_10 rfl (lv_at hl 2 rfl) ?_
    refine lv_iconst (v := 0) hx hb dX8_noons_11 (by decide) ?_
    refine lv_bipush (v := 60) hx hb dX8_noons_12 (by decide) ?_
    refine q_Si (na := 3) (As := [.int n, .int 0, .int 60]) (rest := []) X hD hN h (c_within l G cI cB cZ cO ad w2 n 0 60 ((n).toInt) 0 60 rfl rfl rfl) ⟨kw_38, kw_39, kw_14, kw_40⟩ ⟨by decide, by decide, by decide⟩ ⟨Nat.le_of_ble_eq_true rfl, Nat.le_of_ble_eq_true rfl⟩ ⟨Nat.zero_le _, Nat.zero_le _⟩ rfl hl.1 rfl (Nat.le_of_ble_eq_true rfl) dX8_noons_14 (fun r6 w7 H locs hp8 h => ?_)
    obtain ⟨e9, hp8⟩ := hp8
    rcases hp8 with ⟨hq10a, hq10b, rfl⟩ | ⟨hq10, rfl⟩
    · refine lv_if_ne (tgt := 27) hx hb dX8_noons_17 (by decide) (fun _ => ?_) (fun hc => absurd hc (by decide))
      refine lv_aload_n hx hb dX8_noons_27 rfl (lv_at hl 0 rfl) ?_
      have f11 : w 0 = .inr (6, [.ref (ad 1), .ref (ad 14), .ref (ad 27), .ref (ad 54), .ref (ad 55), .ref (ad 58), .ref (ad 62), .long 0, .long 1, .int 0, .int 0, .int 0]) := F 0 (by decide)
      have f12 : w2 0 = .inr (6, [.ref (ad 1), .ref (ad 14), .ref (ad 27), .ref (ad 54), .ref (ad 55), .ref (ad 58), .ref (ad 62), .long 0, .long 1, .int 0, .int 0, .int 0]) := by rw [e4]; exact f11
      have f13 : w7 0 = .inr (6, [.ref (ad 1), .ref (ad 14), .ref (ad 27), .ref (ad 54), .ref (ad 55), .ref (ad 58), .ref (ad 62), .long 0, .long 1, .int 0, .int 0, .int 0]) := by rw [e9]; exact f12
      refine r_get kc8 X h 0 1 (by decide) rfl f13 (by decide) kw_91 rfl dX8_noons_28 ?_
      refine lv_aload_n hx hb dX8_noons_31 rfl (lv_at hl 0 rfl) ?_
      refine r_get kc8 X h 0 0 (by decide) rfl f13 (by decide) kw_5 rfl dX8_noons_32 ?_
      have f14 : w 1 = .inr (1, [.int 0, .int 0, .int 0, .int 0, .int 0, .ref (ad 2), .ref (ad 3), .ref (ad 4), .ref (ad 5), .ref (ad 6), .ref (ad 7), .ref (ad 8), .ref (ad 10), .ref (ad 12)]) := F 1 (by decide)
      have f15 : w2 1 = .inr (1, [.int 0, .int 0, .int 0, .int 0, .int 0, .ref (ad 2), .ref (ad 3), .ref (ad 4), .ref (ad 5), .ref (ad 6), .ref (ad 7), .ref (ad 8), .ref (ad 10), .ref (ad 12)]) := by rw [e4]; exact f14
      have f16 : w7 1 = .inr (1, [.int 0, .int 0, .int 0, .int 0, .int 0, .ref (ad 2), .ref (ad 3), .ref (ad 4), .ref (ad 5), .ref (ad 6), .ref (ad 7), .ref (ad 8), .ref (ad 10), .ref (ad 12)]) := by rw [e9]; exact f15
      have f17 : w 2 = .inl (cI, 7, .inl (fun _ => 0)) := F 2 (by decide)
      have f18 : w2 2 = .inl (cI, 7, .inl (fun _ => 0)) := by rw [e4]; exact f17
      have f19 : w7 2 = .inl (cI, 7, .inl (fun _ => 0)) := by rw [e9]; exact f18
      have f20 : w 3 = .inl (cI, 7, .inl (fun _ => 0)) := F 3 (by decide)
      have f21 : w2 3 = .inl (cI, 7, .inl (fun _ => 0)) := by rw [e4]; exact f20
      have f22 : w7 3 = .inl (cI, 7, .inl (fun _ => 0)) := by rw [e9]; exact f21
      have f23 : w 4 = .inl (cI, 7, .inl (fun _ => 0)) := F 4 (by decide)
      have f24 : w2 4 = .inl (cI, 7, .inl (fun _ => 0)) := by rw [e4]; exact f23
      have f25 : w7 4 = .inl (cI, 7, .inl (fun _ => 0)) := by rw [e9]; exact f24
      have f26 : w 5 = .inl (cI, 4, .inl (fun _ => 0)) := F 5 (by decide)
      have f27 : w2 5 = .inl (cI, 4, .inl (fun _ => 0)) := by rw [e4]; exact f26
      have f28 : w7 5 = .inl (cI, 4, .inl (fun _ => 0)) := by rw [e9]; exact f27
      have f29 : w 6 = .inl (cI, 4, .inl (fun _ => 0)) := F 6 (by decide)
      have f30 : w2 6 = .inl (cI, 4, .inl (fun _ => 0)) := by rw [e4]; exact f29
      have f31 : w7 6 = .inl (cI, 4, .inl (fun _ => 0)) := by rw [e9]; exact f30
      have f32 : w 7 = .inl (cI, 4, .inl (fun _ => 0)) := F 7 (by decide)
      have f33 : w2 7 = .inl (cI, 4, .inl (fun _ => 0)) := by rw [e4]; exact f32
      have f34 : w7 7 = .inl (cI, 4, .inl (fun _ => 0)) := by rw [e9]; exact f33
      have f35 : w 8 = .inr (4, [.ref (ad 9), .int 0]) := F 8 (by decide)
      have f36 : w2 8 = .inr (4, [.ref (ad 9), .int 0]) := by rw [e4]; exact f35
      have f37 : w7 8 = .inr (4, [.ref (ad 9), .int 0]) := by rw [e9]; exact f36
      have f38 : w 9 = .inl (cI, 24, .inl (fun _ => 0)) := F 9 (by decide)
      have f39 : w2 9 = .inl (cI, 24, .inl (fun _ => 0)) := by rw [e4]; exact f38
      have f40 : w7 9 = .inl (cI, 24, .inl (fun _ => 0)) := by rw [e9]; exact f39
      have f41 : w 10 = .inr (4, [.ref (ad 11), .int 0]) := F 10 (by decide)
      have f42 : w2 10 = .inr (4, [.ref (ad 11), .int 0]) := by rw [e4]; exact f41
      have f43 : w7 10 = .inr (4, [.ref (ad 11), .int 0]) := by rw [e9]; exact f42
      have f44 : w 11 = .inl (cI, 24, .inl (fun _ => 0)) := F 11 (by decide)
      have f45 : w2 11 = .inl (cI, 24, .inl (fun _ => 0)) := by rw [e4]; exact f44
      have f46 : w7 11 = .inl (cI, 24, .inl (fun _ => 0)) := by rw [e9]; exact f45
      have f47 : w 12 = .inr (2, [.ref (ad 13), .int 0]) := F 12 (by decide)
      have f48 : w2 12 = .inr (2, [.ref (ad 13), .int 0]) := by rw [e4]; exact f47
      have f49 : w7 12 = .inr (2, [.ref (ad 13), .int 0]) := by rw [e9]; exact f48
      have f50 : w 13 = .inl (cI, 88, .inl (fun _ => 0)) := F 13 (by decide)
      have f51 : w2 13 = .inl (cI, 88, .inl (fun _ => 0)) := by rw [e4]; exact f50
      have f52 : w7 13 = .inl (cI, 88, .inl (fun _ => 0)) := by rw [e9]; exact f51
      have f53 : w 14 = .inr (1, [.int 0, .int 0, .int 0, .int 0, .int 0, .ref (ad 15), .ref (ad 16), .ref (ad 17), .ref (ad 18), .ref (ad 19), .ref (ad 20), .ref (ad 21), .ref (ad 23), .ref (ad 25)]) := F 14 (by decide)
      have f54 : w2 14 = .inr (1, [.int 0, .int 0, .int 0, .int 0, .int 0, .ref (ad 15), .ref (ad 16), .ref (ad 17), .ref (ad 18), .ref (ad 19), .ref (ad 20), .ref (ad 21), .ref (ad 23), .ref (ad 25)]) := by rw [e4]; exact f53
      have f55 : w7 14 = .inr (1, [.int 0, .int 0, .int 0, .int 0, .int 0, .ref (ad 15), .ref (ad 16), .ref (ad 17), .ref (ad 18), .ref (ad 19), .ref (ad 20), .ref (ad 21), .ref (ad 23), .ref (ad 25)]) := by rw [e9]; exact f54
      have f56 : w 15 = .inl (cI, 7, .inl (fun _ => 0)) := F 15 (by decide)
      have f57 : w2 15 = .inl (cI, 7, .inl (fun _ => 0)) := by rw [e4]; exact f56
      have f58 : w7 15 = .inl (cI, 7, .inl (fun _ => 0)) := by rw [e9]; exact f57
      have f59 : w 16 = .inl (cI, 7, .inl (fun _ => 0)) := F 16 (by decide)
      have f60 : w2 16 = .inl (cI, 7, .inl (fun _ => 0)) := by rw [e4]; exact f59
      have f61 : w7 16 = .inl (cI, 7, .inl (fun _ => 0)) := by rw [e9]; exact f60
      have f62 : w 17 = .inl (cI, 7, .inl (fun _ => 0)) := F 17 (by decide)
      have f63 : w2 17 = .inl (cI, 7, .inl (fun _ => 0)) := by rw [e4]; exact f62
      have f64 : w7 17 = .inl (cI, 7, .inl (fun _ => 0)) := by rw [e9]; exact f63
      have f65 : w 18 = .inl (cI, 4, .inl (fun _ => 0)) := F 18 (by decide)
      have f66 : w2 18 = .inl (cI, 4, .inl (fun _ => 0)) := by rw [e4]; exact f65
      have f67 : w7 18 = .inl (cI, 4, .inl (fun _ => 0)) := by rw [e9]; exact f66
      have f68 : w 19 = .inl (cI, 4, .inl (fun _ => 0)) := F 19 (by decide)
      have f69 : w2 19 = .inl (cI, 4, .inl (fun _ => 0)) := by rw [e4]; exact f68
      have f70 : w7 19 = .inl (cI, 4, .inl (fun _ => 0)) := by rw [e9]; exact f69
      have f71 : w 20 = .inl (cI, 4, .inl (fun _ => 0)) := F 20 (by decide)
      have f72 : w2 20 = .inl (cI, 4, .inl (fun _ => 0)) := by rw [e4]; exact f71
      have f73 : w7 20 = .inl (cI, 4, .inl (fun _ => 0)) := by rw [e9]; exact f72
      have f74 : w 21 = .inr (4, [.ref (ad 22), .int 0]) := F 21 (by decide)
      have f75 : w2 21 = .inr (4, [.ref (ad 22), .int 0]) := by rw [e4]; exact f74
      have f76 : w7 21 = .inr (4, [.ref (ad 22), .int 0]) := by rw [e9]; exact f75
      have f77 : w 22 = .inl (cI, 24, .inl (fun _ => 0)) := F 22 (by decide)
      have f78 : w2 22 = .inl (cI, 24, .inl (fun _ => 0)) := by rw [e4]; exact f77
      have f79 : w7 22 = .inl (cI, 24, .inl (fun _ => 0)) := by rw [e9]; exact f78
      have f80 : w 23 = .inr (4, [.ref (ad 24), .int 0]) := F 23 (by decide)
      have f81 : w2 23 = .inr (4, [.ref (ad 24), .int 0]) := by rw [e4]; exact f80
      have f82 : w7 23 = .inr (4, [.ref (ad 24), .int 0]) := by rw [e9]; exact f81
      have f83 : w 24 = .inl (cI, 24, .inl (fun _ => 0)) := F 24 (by decide)
      have f84 : w2 24 = .inl (cI, 24, .inl (fun _ => 0)) := by rw [e4]; exact f83
      have f85 : w7 24 = .inl (cI, 24, .inl (fun _ => 0)) := by rw [e9]; exact f84
      have f86 : w 25 = .inr (2, [.ref (ad 26), .int 0]) := F 25 (by decide)
      have f87 : w2 25 = .inr (2, [.ref (ad 26), .int 0]) := by rw [e4]; exact f86
      have f88 : w7 25 = .inr (2, [.ref (ad 26), .int 0]) := by rw [e9]; exact f87
      have f89 : w 26 = .inl (cI, 88, .inl (fun _ => 0)) := F 26 (by decide)
      have f90 : w2 26 = .inl (cI, 88, .inl (fun _ => 0)) := by rw [e4]; exact f89
      have f91 : w7 26 = .inl (cI, 88, .inl (fun _ => 0)) := by rw [e9]; exact f90
      refine q_Vv (na := 1) (As := [.ref (ad 1)]) (rest := []) X hD hN h rfl (c_become14 l G cI cB cZ cO ad w7 f16 f19 f22 f25 f28 f31 f34 f37 f40 f43 f46 f49 f52 f55 f58 f61 f64 f67 f70 f73 f76 f79 f82 f85 f88 f91) ⟨kw_171, kw_172, kw_173, kw_9, kw_174⟩ rfl ⟨by decide, by decide, by decide⟩ ⟨Nat.le_of_ble_eq_true rfl, Nat.le_of_ble_eq_true rfl⟩ ⟨Nat.zero_le _, Nat.zero_le _⟩ (by decide) f55 rfl rfl hl.1 rfl (Nat.le_of_ble_eq_true rfl) dX8_noons_35 (fun w93 H locs hp94 h => ?_)
      obtain ⟨f95, hf96⟩ := hp94
      refine lv_iload_n hx hb dX8_noons_38 rfl (lv_at hl 1 rfl) ?_
      refine lv_i2l (v := x.toInt64) hx hb dX8_noons_39 rfl ?_
      refine lv_lstore_n (lv' := [(3, .long x.toInt64), (0, .ref (ad 0)), (1, .int x), (2, .int n)]) hx hb dX8_noons_40 rfl hl (by decide) rfl (fun ls hl => ?_)
      refine lv_iconst (v := 0) hx hb dX8_noons_41 (by decide) ?_
      refine lv_istore (lv' := [(5, .int 0), (3, .long x.toInt64), (0, .ref (ad 0)), (1, .int x), (2, .int n)]) hx hb dX8_noons_42 hl (by decide) rfl (fun ls hl => ?_)
      have hloop97 : ∀ (d : Nat) (k : Int32) (y : Int64) (q : Int32) (w2 : Nat → va_E) (H : Heap) (locs : List Loc) (ls : Array Slot), 0 ≤ k.toInt → k.toInt ≤ n.toInt → w2 14 = .inr (1, [.int q, .int 0, .int 0, .int 0, .int 0, .ref (ad 15), .ref (ad 16), .ref (ad 17), .ref (ad 18), .ref (ad 19), .ref (ad 20), .ref (ad 21), .ref (ad 23), .ref (ad 25)]) → (∀ k, k ≠ 14 → k ≠ 15 → k ≠ 16 → k ≠ 17 → k ≠ 18 → k ≠ 19 → k ≠ 20 → k ≠ 21 → k ≠ 22 → k ≠ 23 → k ≠ 24 → k ≠ 25 → k ≠ 26 → w2 k = w93 k) → n.toInt - k.toInt < (d : Int) → St G 74 ad (wA 74 ad s.heap.size) s.heap w2 H locs → lv_has ls 8 [(0, .ref (ad 0)), (1, .int x), (2, .int n), (3, .long y), (5, .int k)] → W p l e { frames := 3, cells := 0, slots := 0, locals := 82 } s m [.ref (ad 0), .int x, .int n].toArray below meth c H locs 0 0 (MQ below (va_Qi (fun r w1 => (0 ≤ x.toInt ∧ x.toInt ≤ 999999 ∧ 0 ≤ n.toInt ∧ n.toInt ≤ 60 → r = 0) ∧ (¬ (0 ≤ x.toInt ∧ x.toInt ≤ 999999 ∧ 0 ≤ n.toInt ∧ n.toInt ≤ 60) → r = -2) ∧ ∀ k, 64 ≤ k → w1 k = w k) (Aft G 74 ad) (wA 74 ad s.heap.size)) [.ref (ad 0), .int x, .int n].toArray s 0 0 (wA 74 ad s.heap.size)) (F0 m 44 ls []) := by
        intro d
        induction d with
        | zero => intro k y q w2 H locs ls hk0 hk1 g14 hfr hm h hl; exfalso; omega
        | succ d ih =>
          intro k y q w2 H locs ls hk0 hk1 g14 hfr hm h hl
          refine lv_iload hx hb dX8_noons_44 (lv_at hl 4 rfl) ?_
          refine lv_iload_n hx hb dX8_noons_46 rfl (lv_at hl 2 rfl) ?_
          refine lv_icmp_ge (tgt := 163) hx hb dX8_noons_47 (by decide) (fun hc98 => ?_) (fun hc98 => ?_)
          · have hc98 : (n).toInt ≤ (k).toInt := i_le hc98 rfl rfl
            refine lv_aload_n hx hb dX8_noons_163 rfl (lv_at hl 0 rfl) ?_
            have f99 : w93 0 = .inr (6, [.ref (ad 1), .ref (ad 14), .ref (ad 27), .ref (ad 54), .ref (ad 55), .ref (ad 58), .ref (ad 62), .long 0, .long 1, .int 0, .int 0, .int 0]) := (hf96 0 (by omega)).trans f13
            have f100 : w2 0 = .inr (6, [.ref (ad 1), .ref (ad 14), .ref (ad 27), .ref (ad 54), .ref (ad 55), .ref (ad 58), .ref (ad 62), .long 0, .long 1, .int 0, .int 0, .int 0]) := (hfr 0 (by decide) (by decide) (by decide) (by decide) (by decide) (by decide) (by decide) (by decide) (by decide) (by decide) (by decide) (by decide) (by decide)).trans f99
            refine r_get kc8 X h 0 1 (by decide) rfl f100 (by decide) kw_91 rfl dX8_noons_164 ?_
            refine q_Vi (na := 0) (As := []) (rest := []) X hD hN h rfl (c_coolInAll14 l G cI cB cZ cO ad w2 _ g14) ⟨kw_109, kw_110, kw_111, kw_9, kw_112⟩ rfl ⟨by decide, by decide, by decide⟩ ⟨Nat.le_of_ble_eq_true rfl, Nat.le_of_ble_eq_true rfl⟩ ⟨Nat.zero_le _, Nat.zero_le _⟩ (by decide) g14 rfl rfl hl.1 rfl (Nat.le_of_ble_eq_true rfl) dX8_noons_167 (fun r101 w102 H locs hp103 h => ?_)
            obtain ⟨e104, rfl⟩ := hp103
            exact e_i X h hr hlk dX8_noons_170 ⟨fun _ => by first | rfl | omega, fun _ => by first | rfl | omega, fun k hk => (congrFun e104 k).trans ((hfr k (by omega) (by omega) (by omega) (by omega) (by omega) (by omega) (by omega) (by omega) (by omega) (by omega) (by omega) (by omega) (by omega)).trans ((hf96 k (by omega)).trans ((congrFun e9 k).trans (congrFun e4 k))))⟩
          · have hc98 : ¬ (n).toInt ≤ (k).toInt := i_nle hc98 rfl rfl
            refine lv_lload_n hx hb dX8_noons_50 rfl (lv_at hl 3 rfl) ?_
            refine lv_ldc2 (v := 1103515245) hx hb hown (hts _ kw_176) dX8_noons_51 ?_
            refine o_lmul (z := y * 1103515245) hx hb dX8_noons_54 rfl ?_
            refine lv_ldc2 (v := 12345) hx hb hown (hts _ kw_177) dX8_noons_55 ?_
            refine o_ladd (z := (y * 1103515245) + 12345) hx hb dX8_noons_58 rfl ?_
            refine lv_ldc2 (v := 2147483648) hx hb hown (hts _ kw_178) dX8_noons_59 ?_
            refine o_lrem (z := ((y * 1103515245) + 12345) - ((y * 1103515245) + 12345) / 2147483648 * 2147483648) hx hb dX8_noons_62 (by decide) rfl ?_
            refine lv_lstore_n (lv' := [(3, .long (((y * 1103515245) + 12345) - ((y * 1103515245) + 12345) / 2147483648 * 2147483648)), (0, .ref (ad 0)), (1, .int x), (2, .int n), (5, .int k)]) hx hb dX8_noons_63 rfl hl (by decide) rfl (fun ls hl => ?_)
            refine lv_lload_n hx hb dX8_noons_64 rfl (lv_at hl 0 rfl) ?_
            refine lv_ldc2 (v := 65536) hx hb hown (hts _ kw_179) dX8_noons_65 ?_
            refine o_ldiv (z := (((y * 1103515245) + 12345) - ((y * 1103515245) + 12345) / 2147483648 * 2147483648) / 65536) hx hb dX8_noons_68 (by decide) rfl ?_
            refine lv_ldc2 (v := 7) hx hb hown (hts _ kw_180) dX8_noons_69 ?_
            refine o_lrem (z := ((((y * 1103515245) + 12345) - ((y * 1103515245) + 12345) / 2147483648 * 2147483648) / 65536) - ((((y * 1103515245) + 12345) - ((y * 1103515245) + 12345) / 2147483648 * 2147483648) / 65536) / 7 * 7) hx hb dX8_noons_72 (by decide) rfl ?_
            refine lv_l2i (v := (((((y * 1103515245) + 12345) - ((y * 1103515245) + 12345) / 2147483648 * 2147483648) / 65536) - ((((y * 1103515245) + 12345) - ((y * 1103515245) + 12345) / 2147483648 * 2147483648) / 65536) / 7 * 7).toInt32) hx hb dX8_noons_73 rfl ?_
            refine lv_istore (lv' := [(6, .int ((((((y * 1103515245) + 12345) - ((y * 1103515245) + 12345) / 2147483648 * 2147483648) / 65536) - ((((y * 1103515245) + 12345) - ((y * 1103515245) + 12345) / 2147483648 * 2147483648) / 65536) / 7 * 7).toInt32)), (3, .long (((y * 1103515245) + 12345) - ((y * 1103515245) + 12345) / 2147483648 * 2147483648)), (0, .ref (ad 0)), (1, .int x), (2, .int n), (5, .int k)]) hx hb dX8_noons_74 hl (by decide) rfl (fun ls hl => ?_)
            refine lv_lload_n hx hb dX8_noons_76 rfl (lv_at hl 1 rfl) ?_
            refine lv_ldc2 (v := 1048576) hx hb hown (hts _ kw_181) dX8_noons_77 ?_
            refine o_ldiv (z := (((y * 1103515245) + 12345) - ((y * 1103515245) + 12345) / 2147483648 * 2147483648) / 1048576) hx hb dX8_noons_80 (by decide) rfl ?_
            refine lv_ldc2 (v := 4) hx hb hown (hts _ kw_182) dX8_noons_81 ?_
            refine o_lrem (z := ((((y * 1103515245) + 12345) - ((y * 1103515245) + 12345) / 2147483648 * 2147483648) / 1048576) - ((((y * 1103515245) + 12345) - ((y * 1103515245) + 12345) / 2147483648 * 2147483648) / 1048576) / 4 * 4) hx hb dX8_noons_84 (by decide) rfl ?_
            refine lv_l2i (v := (((((y * 1103515245) + 12345) - ((y * 1103515245) + 12345) / 2147483648 * 2147483648) / 1048576) - ((((y * 1103515245) + 12345) - ((y * 1103515245) + 12345) / 2147483648 * 2147483648) / 1048576) / 4 * 4).toInt32) hx hb dX8_noons_85 rfl ?_
            refine lv_istore (lv' := [(7, .int ((((((y * 1103515245) + 12345) - ((y * 1103515245) + 12345) / 2147483648 * 2147483648) / 1048576) - ((((y * 1103515245) + 12345) - ((y * 1103515245) + 12345) / 2147483648 * 2147483648) / 1048576) / 4 * 4).toInt32)), (6, .int ((((((y * 1103515245) + 12345) - ((y * 1103515245) + 12345) / 2147483648 * 2147483648) / 65536) - ((((y * 1103515245) + 12345) - ((y * 1103515245) + 12345) / 2147483648 * 2147483648) / 65536) / 7 * 7).toInt32)), (3, .long (((y * 1103515245) + 12345) - ((y * 1103515245) + 12345) / 2147483648 * 2147483648)), (0, .ref (ad 0)), (1, .int x), (2, .int n), (5, .int k)]) hx hb dX8_noons_86 hl (by decide) rfl (fun ls hl => ?_)
            refine lv_aload_n hx hb dX8_noons_88 rfl (lv_at hl 3 rfl) ?_
            have f105 : w93 0 = .inr (6, [.ref (ad 1), .ref (ad 14), .ref (ad 27), .ref (ad 54), .ref (ad 55), .ref (ad 58), .ref (ad 62), .long 0, .long 1, .int 0, .int 0, .int 0]) := (hf96 0 (by omega)).trans f13
            have f106 : w2 0 = .inr (6, [.ref (ad 1), .ref (ad 14), .ref (ad 27), .ref (ad 54), .ref (ad 55), .ref (ad 58), .ref (ad 62), .long 0, .long 1, .int 0, .int 0, .int 0]) := (hfr 0 (by decide) (by decide) (by decide) (by decide) (by decide) (by decide) (by decide) (by decide) (by decide) (by decide) (by decide) (by decide) (by decide)).trans f105
            refine r_get kc8 X h 0 1 (by decide) rfl f106 (by decide) kw_91 rfl dX8_noons_89 ?_
            refine lv_iload hx hb dX8_noons_92 (lv_at hl 1 rfl) ?_
            refine q_Vi (na := 1) (As := [.int ((((((y * 1103515245) + 12345) - ((y * 1103515245) + 12345) / 2147483648 * 2147483648) / 65536) - ((((y * 1103515245) + 12345) - ((y * 1103515245) + 12345) / 2147483648 * 2147483648) / 65536) / 7 * 7).toInt32)]) (rest := []) X hD hN h rfl (c_hasCaster l G cI cB cZ cO ad w2 14 _ _ _ _ _ _ ((((((y * 1103515245) + 12345) - ((y * 1103515245) + 12345) / 2147483648 * 2147483648) / 65536) - ((((y * 1103515245) + 12345) - ((y * 1103515245) + 12345) / 2147483648 * 2147483648) / 65536) / 7 * 7).toInt32) 0 rfl (by decide) g14) ⟨kw_6, kw_7, kw_8, kw_9, kw_10⟩ rfl ⟨by decide, by decide, by decide⟩ ⟨Nat.le_of_ble_eq_true rfl, Nat.le_of_ble_eq_true rfl⟩ ⟨Nat.zero_le _, Nat.zero_le _⟩ (by decide) g14 rfl rfl hl.1 rfl (Nat.le_of_ble_eq_true rfl) dX8_noons_94 (fun r107 w108 H locs hp109 h => ?_)
            obtain ⟨e110, hp109⟩ := hp109
            rcases hp109 with ⟨hq111a, hq111b, rfl⟩ | ⟨hq111, rfl⟩
            · exfalso; omega
            · refine lv_if_eq (tgt := 136) hx hb dX8_noons_97 (by decide) (fun _ => ?_) (fun hc => absurd (by decide) hc)
              refine lv_lload_n hx hb dX8_noons_136 rfl (lv_at hl 2 rfl) ?_
              refine lv_ldc2 (v := 16384) hx hb hown (hts _ kw_183) dX8_noons_137 ?_
              refine o_ldiv (z := (((y * 1103515245) + 12345) - ((y * 1103515245) + 12345) / 2147483648 * 2147483648) / 16384) hx hb dX8_noons_140 (by decide) rfl ?_
              refine lv_ldc2 (v := 2) hx hb hown (hts _ kw_184) dX8_noons_141 ?_
              refine o_lrem (z := ((((y * 1103515245) + 12345) - ((y * 1103515245) + 12345) / 2147483648 * 2147483648) / 16384) - ((((y * 1103515245) + 12345) - ((y * 1103515245) + 12345) / 2147483648 * 2147483648) / 16384) / 2 * 2) hx hb dX8_noons_144 (by decide) rfl ?_
              refine lv_lconst (v := 0) hx hb dX8_noons_145 (by decide) ?_
              refine W.lcmp hx hb dX8_noons_146 ?_
              refine lv_if_ne (tgt := 157) hx hb dX8_noons_147 (by decide) (fun hc112 => ?_) (fun hc112 => ?_)
              · have hc112 : ¬ (((((y * 1103515245) + 12345) - ((y * 1103515245) + 12345) / 2147483648 * 2147483648) / 16384) - ((((y * 1103515245) + 12345) - ((y * 1103515245) + 12345) / 2147483648 * 2147483648) / 16384) / 2 * 2).toInt = 0 := lcm_ne hc112 rfl rfl
                refine lv_iinc (v := k + 1) (lv' := [(5, .int (k + 1)), (7, .int ((((((y * 1103515245) + 12345) - ((y * 1103515245) + 12345) / 2147483648 * 2147483648) / 1048576) - ((((y * 1103515245) + 12345) - ((y * 1103515245) + 12345) / 2147483648 * 2147483648) / 1048576) / 4 * 4).toInt32)), (6, .int ((((((y * 1103515245) + 12345) - ((y * 1103515245) + 12345) / 2147483648 * 2147483648) / 65536) - ((((y * 1103515245) + 12345) - ((y * 1103515245) + 12345) / 2147483648 * 2147483648) / 65536) / 7 * 7).toInt32)), (3, .long (((y * 1103515245) + 12345) - ((y * 1103515245) + 12345) / 2147483648 * 2147483648)), (0, .ref (ad 0)), (1, .int x), (2, .int n)]) hx hb dX8_noons_157 hl (k := 6) rfl rfl (by decide) rfl (fun ls hl => ?_)
                refine lv_goto (tgt := 44) hx hb dX8_noons_160 (by decide) ?_
                have hi : (k + 1).toInt = k.toInt + 1 := inc1 (by omega) (by omega)
                have f113 : w108 14 = .inr (1, [.int q, .int 0, .int 0, .int 0, .int 0, .ref (ad 15), .ref (ad 16), .ref (ad 17), .ref (ad 18), .ref (ad 19), .ref (ad 20), .ref (ad 21), .ref (ad 23), .ref (ad 25)]) := by rw [e110]; exact g14
                exact ih (k + 1) (((y * 1103515245) + 12345) - ((y * 1103515245) + 12345) / 2147483648 * 2147483648) q w108 H locs ls (by omega) (by omega) f113 (fun k h0 h1 h2 h3 h4 h5 h6 h7 h8 h9 h10 h11 h12 => (congrFun e110 k).trans (hfr k (by omega) (by omega) (by omega) (by omega) (by omega) (by omega) (by omega) (by omega) (by omega) (by omega) (by omega) (by omega) (by omega))) (by omega) h (lv_sub hl [4, 5, 6, 3, 0] rfl)
              · have hc112 : (((((y * 1103515245) + 12345) - ((y * 1103515245) + 12345) / 2147483648 * 2147483648) / 16384) - ((((y * 1103515245) + 12345) - ((y * 1103515245) + 12345) / 2147483648 * 2147483648) / 16384) / 2 * 2).toInt = 0 := lcm_eq hc112 rfl rfl
                refine lv_aload_n hx hb dX8_noons_150 rfl (lv_at hl 3 rfl) ?_
                have f114 : w108 0 = .inr (6, [.ref (ad 1), .ref (ad 14), .ref (ad 27), .ref (ad 54), .ref (ad 55), .ref (ad 58), .ref (ad 62), .long 0, .long 1, .int 0, .int 0, .int 0]) := by rw [e110]; exact f106
                refine r_get kc8 X h 0 1 (by decide) rfl f114 (by decide) kw_91 rfl dX8_noons_151 ?_
                have f115 : w108 14 = .inr (1, [.int q, .int 0, .int 0, .int 0, .int 0, .ref (ad 15), .ref (ad 16), .ref (ad 17), .ref (ad 18), .ref (ad 19), .ref (ad 20), .ref (ad 21), .ref (ad 23), .ref (ad 25)]) := by rw [e110]; exact g14
                refine q_Vv (na := 0) (As := []) (rest := []) X hD hN h rfl (c_passHour l G cI cB cZ cO ad w108 14 _ _ _ _ (by decide) f115) ⟨kw_185, kw_138, kw_139, kw_9, kw_140⟩ rfl ⟨by decide, by decide, by decide⟩ ⟨Nat.le_of_ble_eq_true rfl, Nat.le_of_ble_eq_true rfl⟩ ⟨Nat.zero_le _, Nat.zero_le _⟩ (by decide) f115 rfl rfl hl.1 rfl (Nat.le_of_ble_eq_true rfl) dX8_noons_154 (fun w117 H locs hp118 h => ?_)
                obtain ⟨f119, hf120⟩ := hp118
                refine lv_iinc (v := k + 1) (lv' := [(5, .int (k + 1)), (7, .int ((((((y * 1103515245) + 12345) - ((y * 1103515245) + 12345) / 2147483648 * 2147483648) / 1048576) - ((((y * 1103515245) + 12345) - ((y * 1103515245) + 12345) / 2147483648 * 2147483648) / 1048576) / 4 * 4).toInt32)), (6, .int ((((((y * 1103515245) + 12345) - ((y * 1103515245) + 12345) / 2147483648 * 2147483648) / 65536) - ((((y * 1103515245) + 12345) - ((y * 1103515245) + 12345) / 2147483648 * 2147483648) / 65536) / 7 * 7).toInt32)), (3, .long (((y * 1103515245) + 12345) - ((y * 1103515245) + 12345) / 2147483648 * 2147483648)), (0, .ref (ad 0)), (1, .int x), (2, .int n)]) hx hb dX8_noons_157 hl (k := 6) rfl rfl (by decide) rfl (fun ls hl => ?_)
                refine lv_goto (tgt := 44) hx hb dX8_noons_160 (by decide) ?_
                have hi : (k + 1).toInt = k.toInt + 1 := inc1 (by omega) (by omega)
                exact ih (k + 1) (((y * 1103515245) + 12345) - ((y * 1103515245) + 12345) / 2147483648 * 2147483648) (q + 1) w117 H locs ls (by omega) (by omega) f119 (fun k h0 h1 h2 h3 h4 h5 h6 h7 h8 h9 h10 h11 h12 => (hf120 k (by omega)).trans ((congrFun e110 k).trans (hfr k (by omega) (by omega) (by omega) (by omega) (by omega) (by omega) (by omega) (by omega) (by omega) (by omega) (by omega) (by omega) (by omega)))) (by omega) h (lv_sub hl [4, 5, 6, 3, 0] rfl)
      exact hloop97 61 0 x.toInt64 0 w93 H locs ls (by decide) (by have : (0 : Int32).toInt = 0 := rfl; omega) f95 (fun k _ _ _ _ _ _ _ _ _ _ _ _ _ => rfl) (by have : (0 : Int32).toInt = 0 := rfl; omega) h (lv_sub hl [2, 3, 4, 1, 0] rfl)
    · refine lv_if_ne (tgt := 27) hx hb dX8_noons_17 (by decide) (fun hc => absurd (by decide) hc) (fun _ => ?_)
      refine lv_aload_n hx hb dX8_noons_20 rfl (lv_at hl 0 rfl) ?_
      refine lv_bipush (v := (-2)) hx hb dX8_noons_21 (by decide) ?_
      have f121 : w 0 = .inr (6, [.ref (ad 1), .ref (ad 14), .ref (ad 27), .ref (ad 54), .ref (ad 55), .ref (ad 58), .ref (ad 62), .long 0, .long 1, .int 0, .int 0, .int 0]) := F 0 (by decide)
      have f122 : w2 0 = .inr (6, [.ref (ad 1), .ref (ad 14), .ref (ad 27), .ref (ad 54), .ref (ad 55), .ref (ad 58), .ref (ad 62), .long 0, .long 1, .int 0, .int 0, .int 0]) := by rw [e4]; exact f121
      have f123 : w7 0 = .inr (6, [.ref (ad 1), .ref (ad 14), .ref (ad 27), .ref (ad 54), .ref (ad 55), .ref (ad 58), .ref (ad 62), .long 0, .long 1, .int 0, .int 0, .int 0]) := by rw [e9]; exact f122
      refine q_Vi (na := 1) (As := [.int (-2)]) (rest := []) X hD hN h rfl (c_refused l G cI cB cZ cO ad w7 _ _ _ _ _ _ _ _ _ _ _ _ (-2) f123) ⟨kw_11, kw_12, kw_13, kw_14, kw_15⟩ rfl ⟨by decide, by decide, by decide⟩ ⟨Nat.le_of_ble_eq_true rfl, Nat.le_of_ble_eq_true rfl⟩ ⟨Nat.zero_le _, Nat.zero_le _⟩ (by decide) f123 rfl rfl hl.1 rfl (Nat.le_of_ble_eq_true rfl) dX8_noons_23 (fun r124 w125 H locs hp126 h => ?_)
      obtain ⟨rfl, x127, y128, z129, e130⟩ := hp126
      have f131 : w125 0 = .inr (6, [.ref (ad 1), .ref (ad 14), .ref (ad 27), .ref (ad 54), .ref (ad 55), .ref (ad 58), .ref (ad 62), .long 0, .long 1, .int x127, .int y128, .int z129]) := (congrFun e130 _).trans (va_up_self _ _ _)
      exact e_i X h hr hlk dX8_noons_26 ⟨fun _ => by first | rfl | omega, fun _ => by first | rfl | omega, fun k hk => ((congrFun e130 k).trans (va_up_ne _ _ (by omega))).trans ((congrFun e9 k).trans (congrFun e4 k))⟩
  · refine lv_if_eq (tgt := 20) hx hb dX8_noons_7 (by decide) (fun _ => ?_) (fun hc => absurd (by decide) hc)
    refine lv_aload_n hx hb dX8_noons_20 rfl (lv_at hl 0 rfl) ?_
    refine lv_bipush (v := (-2)) hx hb dX8_noons_21 (by decide) ?_
    have f132 : w 0 = .inr (6, [.ref (ad 1), .ref (ad 14), .ref (ad 27), .ref (ad 54), .ref (ad 55), .ref (ad 58), .ref (ad 62), .long 0, .long 1, .int 0, .int 0, .int 0]) := F 0 (by decide)
    have f133 : w2 0 = .inr (6, [.ref (ad 1), .ref (ad 14), .ref (ad 27), .ref (ad 54), .ref (ad 55), .ref (ad 58), .ref (ad 62), .long 0, .long 1, .int 0, .int 0, .int 0]) := by rw [e4]; exact f132
    refine q_Vi (na := 1) (As := [.int (-2)]) (rest := []) X hD hN h rfl (c_refused l G cI cB cZ cO ad w2 _ _ _ _ _ _ _ _ _ _ _ _ (-2) f133) ⟨kw_11, kw_12, kw_13, kw_14, kw_15⟩ rfl ⟨by decide, by decide, by decide⟩ ⟨Nat.le_of_ble_eq_true rfl, Nat.le_of_ble_eq_true rfl⟩ ⟨Nat.zero_le _, Nat.zero_le _⟩ (by decide) f133 rfl rfl hl.1 rfl (Nat.le_of_ble_eq_true rfl) dX8_noons_23 (fun r134 w135 H locs hp136 h => ?_)
    obtain ⟨rfl, x137, y138, z139, e140⟩ := hp136
    have f141 : w135 0 = .inr (6, [.ref (ad 1), .ref (ad 14), .ref (ad 27), .ref (ad 54), .ref (ad 55), .ref (ad 58), .ref (ad 62), .long 0, .long 1, .int x137, .int y138, .int z139]) := (congrFun e140 _).trans (va_up_self _ _ _)
    exact e_i X h hr hlk dX8_noons_26 ⟨fun _ => by first | rfl | omega, fun _ => by first | rfl | omega, fun k hk => ((congrFun e140 k).trans (va_up_ne _ _ (by omega))).trans (congrFun e4 k)⟩
end
