section
-- ===== PART A: goes FIRST, ahead of the names: the tables' words, and 'selects' of the private methods out of them =====
/-- a private method of a class that the tables say can be made, by its rows of tables_1 -/
def lw_okq (q : MethodName × Nat) : Prop := (q.1.cls ≠ "java/lang/invoke/MethodHandle" ∧ q.1.cls ≠ "java/lang/invoke/VarHandle") ∧ Cond.instantiable q.1.cls q.2 ∈ tables_1 ∧ Cond.privateMethod q.1 ∈ tables_1 ∧ Cond.instanceMethod q.1 ∈ tables_1
theorem lw_p0 : lw_okq (⟨"NoonShade", "refused", "(I)I"⟩, 12) := ⟨⟨by decide +kernel, by decide +kernel⟩, List.mem_of_getElem? (i := 19) (by decide +kernel), List.mem_of_getElem? (i := 245) (by decide +kernel), List.mem_of_getElem? (i := 246) (by decide +kernel)⟩
theorem lw_p1 : lw_okq (⟨"NoonShade$Text", "step", "()V"⟩, 7) := ⟨⟨by decide +kernel, by decide +kernel⟩, List.mem_of_getElem? (i := 133) (by decide +kernel), List.mem_of_getElem? (i := 308) (by decide +kernel), List.mem_of_getElem? (i := 309) (by decide +kernel)⟩
theorem lw_p2 : lw_okq (⟨"NoonShade$Text", "takeNumber", "()V"⟩, 7) := ⟨⟨by decide +kernel, by decide +kernel⟩, List.mem_of_getElem? (i := 133) (by decide +kernel), List.mem_of_getElem? (i := 318) (by decide +kernel), List.mem_of_getElem? (i := 319) (by decide +kernel)⟩
theorem lw_p3 : lw_okq (⟨"NoonShade$Text", "wordNumber", "()I"⟩, 7) := ⟨⟨by decide +kernel, by decide +kernel⟩, List.mem_of_getElem? (i := 133) (by decide +kernel), List.mem_of_getElem? (i := 322) (by decide +kernel), List.mem_of_getElem? (i := 323) (by decide +kernel)⟩
theorem lw_p4 : lw_okq (⟨"NoonShade$Text", "isWord", "(Ljava/lang/String;)Z"⟩, 7) := ⟨⟨by decide +kernel, by decide +kernel⟩, List.mem_of_getElem? (i := 133) (by decide +kernel), List.mem_of_getElem? (i := 327) (by decide +kernel), List.mem_of_getElem? (i := 328) (by decide +kernel)⟩
theorem lw_p5 : lw_okq (⟨"NoonShade$Text", "takeNumbers", "(LNoonShade$Isle;I)Z"⟩, 7) := ⟨⟨by decide +kernel, by decide +kernel⟩, List.mem_of_getElem? (i := 133) (by decide +kernel), List.mem_of_getElem? (i := 387) (by decide +kernel), List.mem_of_getElem? (i := 388) (by decide +kernel)⟩
theorem lw_p6 : lw_okq (⟨"NoonShade$Text", "fits", "(LNoonShade$Isle;II)Z"⟩, 7) := ⟨⟨by decide +kernel, by decide +kernel⟩, List.mem_of_getElem? (i := 133) (by decide +kernel), List.mem_of_getElem? (i := 394) (by decide +kernel), List.mem_of_getElem? (i := 395) (by decide +kernel)⟩
theorem lw_p7 : lw_okq (⟨"NoonShade$Text", "fitsCaster", "(I)Z"⟩, 7) := ⟨⟨by decide +kernel, by decide +kernel⟩, List.mem_of_getElem? (i := 133) (by decide +kernel), List.mem_of_getElem? (i := 398) (by decide +kernel), List.mem_of_getElem? (i := 399) (by decide +kernel)⟩
theorem lw_p8 : lw_okq (⟨"NoonShade$Text", "carryOut", "(LNoonShade$Isle;I)V"⟩, 7) := ⟨⟨by decide +kernel, by decide +kernel⟩, List.mem_of_getElem? (i := 133) (by decide +kernel), List.mem_of_getElem? (i := 415) (by decide +kernel), List.mem_of_getElem? (i := 416) (by decide +kernel)⟩
theorem lw_p9 : lw_okq (⟨"NoonShade$Isle", "fill", "(III)I"⟩, 14) := ⟨⟨by decide +kernel, by decide +kernel⟩, List.mem_of_getElem? (i := 27) (by decide +kernel), List.mem_of_getElem? (i := 438) (by decide +kernel), List.mem_of_getElem? (i := 439) (by decide +kernel)⟩
theorem lw_p10 : lw_okq (⟨"NoonShade$Isle", "drain", "(II)V"⟩, 14) := ⟨⟨by decide +kernel, by decide +kernel⟩, List.mem_of_getElem? (i := 27) (by decide +kernel), List.mem_of_getElem? (i := 447) (by decide +kernel), List.mem_of_getElem? (i := 448) (by decide +kernel)⟩
theorem lw_p11 : lw_okq (⟨"NoonShade$Plan", "askCasters", "(LNoonShade$Isle;I)V"⟩, 6) := ⟨⟨by decide +kernel, by decide +kernel⟩, List.mem_of_getElem? (i := 164) (by decide +kernel), List.mem_of_getElem? (i := 565) (by decide +kernel), List.mem_of_getElem? (i := 566) (by decide +kernel)⟩
theorem lw_p12 : lw_okq (⟨"NoonShade$Plan", "mostFrom", "(II)I"⟩, 6) := ⟨⟨by decide +kernel, by decide +kernel⟩, List.mem_of_getElem? (i := 164) (by decide +kernel), List.mem_of_getElem? (i := 572) (by decide +kernel), List.mem_of_getElem? (i := 573) (by decide +kernel)⟩
theorem lw_p13 : lw_okq (⟨"NoonShade$Plan", "with", "(III)I"⟩, 6) := ⟨⟨by decide +kernel, by decide +kernel⟩, List.mem_of_getElem? (i := 164) (by decide +kernel), List.mem_of_getElem? (i := 576) (by decide +kernel), List.mem_of_getElem? (i := 577) (by decide +kernel)⟩
theorem lw_p14 : lw_okq (⟨"NoonShade$Plan", "chooseRow", "(LNoonShade$Isle;I)V"⟩, 6) := ⟨⟨by decide +kernel, by decide +kernel⟩, List.mem_of_getElem? (i := 164) (by decide +kernel), List.mem_of_getElem? (i := 582) (by decide +kernel), List.mem_of_getElem? (i := 583) (by decide +kernel)⟩
theorem lw_p15 : lw_okq (⟨"NoonShade$Plan", "firstThatReaches", "(II)I"⟩, 6) := ⟨⟨by decide +kernel, by decide +kernel⟩, List.mem_of_getElem? (i := 164) (by decide +kernel), List.mem_of_getElem? (i := 586) (by decide +kernel), List.mem_of_getElem? (i := 587) (by decide +kernel)⟩
def lw_privs_1 : List (MethodName × Nat) := [(⟨"NoonShade", "refused", "(I)I"⟩, 12), (⟨"NoonShade$Text", "step", "()V"⟩, 7), (⟨"NoonShade$Text", "takeNumber", "()V"⟩, 7), (⟨"NoonShade$Text", "wordNumber", "()I"⟩, 7), (⟨"NoonShade$Text", "isWord", "(Ljava/lang/String;)Z"⟩, 7), (⟨"NoonShade$Text", "takeNumbers", "(LNoonShade$Isle;I)Z"⟩, 7), (⟨"NoonShade$Text", "fits", "(LNoonShade$Isle;II)Z"⟩, 7), (⟨"NoonShade$Text", "fitsCaster", "(I)Z"⟩, 7), (⟨"NoonShade$Text", "carryOut", "(LNoonShade$Isle;I)V"⟩, 7), (⟨"NoonShade$Isle", "fill", "(III)I"⟩, 14), (⟨"NoonShade$Isle", "drain", "(II)V"⟩, 14), (⟨"NoonShade$Plan", "askCasters", "(LNoonShade$Isle;I)V"⟩, 6), (⟨"NoonShade$Plan", "mostFrom", "(II)I"⟩, 6), (⟨"NoonShade$Plan", "with", "(III)I"⟩, 6), (⟨"NoonShade$Plan", "chooseRow", "(LNoonShade$Isle;I)V"⟩, 6), (⟨"NoonShade$Plan", "firstThatReaches", "(II)I"⟩, 6)]
theorem lw_r1 : ∀ q ∈ lw_privs_1, lw_okq q := List.forall_mem_cons.mpr ⟨lw_p0, List.forall_mem_cons.mpr ⟨lw_p1, List.forall_mem_cons.mpr ⟨lw_p2, List.forall_mem_cons.mpr ⟨lw_p3, List.forall_mem_cons.mpr ⟨lw_p4, List.forall_mem_cons.mpr ⟨lw_p5, List.forall_mem_cons.mpr ⟨lw_p6, List.forall_mem_cons.mpr ⟨lw_p7, List.forall_mem_cons.mpr ⟨lw_p8, List.forall_mem_cons.mpr ⟨lw_p9, List.forall_mem_cons.mpr ⟨lw_p10, List.forall_mem_cons.mpr ⟨lw_p11, List.forall_mem_cons.mpr ⟨lw_p12, List.forall_mem_cons.mpr ⟨lw_p13, List.forall_mem_cons.mpr ⟨lw_p14, List.forall_mem_cons.mpr ⟨lw_p15, fun _ h => absurd h List.not_mem_nil⟩⟩⟩⟩⟩⟩⟩⟩⟩⟩⟩⟩⟩⟩⟩⟩
theorem lw_p16 : lw_okq (⟨"NoonShade$Plan", "filled", "(II)I"⟩, 6) := ⟨⟨by decide +kernel, by decide +kernel⟩, List.mem_of_getElem? (i := 164) (by decide +kernel), List.mem_of_getElem? (i := 590) (by decide +kernel), List.mem_of_getElem? (i := 591) (by decide +kernel)⟩
theorem lw_p17 : lw_okq (⟨"NoonShade", "fewestLadles", "(III)I"⟩, 12) := ⟨⟨by decide +kernel, by decide +kernel⟩, List.mem_of_getElem? (i := 19) (by decide +kernel), List.mem_of_getElem? (i := 598) (by decide +kernel), List.mem_of_getElem? (i := 599) (by decide +kernel)⟩
theorem lw_p18 : lw_okq (⟨"NoonShade", "pouredBehind", "(III)I"⟩, 12) := ⟨⟨by decide +kernel, by decide +kernel⟩, List.mem_of_getElem? (i := 19) (by decide +kernel), List.mem_of_getElem? (i := 621) (by decide +kernel), List.mem_of_getElem? (i := 622) (by decide +kernel)⟩
theorem lw_p19 : lw_okq (⟨"NoonShade$Guess", "mostAlike", "(IIII)I"⟩, 1) := ⟨⟨by decide +kernel, by decide +kernel⟩, List.mem_of_getElem? (i := 191) (by decide +kernel), List.mem_of_getElem? (i := 674) (by decide +kernel), List.mem_of_getElem? (i := 675) (by decide +kernel)⟩
theorem lw_p20 : lw_okq (⟨"NoonShade$Guess", "answeredSo", "(II)I"⟩, 1) := ⟨⟨by decide +kernel, by decide +kernel⟩, List.mem_of_getElem? (i := 191) (by decide +kernel), List.mem_of_getElem? (i := 679) (by decide +kernel), List.mem_of_getElem? (i := 680) (by decide +kernel)⟩
theorem lw_p21 : lw_okq (⟨"NoonShade", "rests", "(II)Z"⟩, 12) := ⟨⟨by decide +kernel, by decide +kernel⟩, List.mem_of_getElem? (i := 19) (by decide +kernel), List.mem_of_getElem? (i := 696) (by decide +kernel), List.mem_of_getElem? (i := 697) (by decide +kernel)⟩
theorem lw_p22 : lw_okq (⟨"NoonShade", "share", "(II)I"⟩, 12) := ⟨⟨by decide +kernel, by decide +kernel⟩, List.mem_of_getElem? (i := 19) (by decide +kernel), List.mem_of_getElem? (i := 700) (by decide +kernel), List.mem_of_getElem? (i := 701) (by decide +kernel)⟩
theorem lw_p23 : lw_okq (⟨"NoonShade", "setFraction", "(JJ)V"⟩, 12) := ⟨⟨by decide +kernel, by decide +kernel⟩, List.mem_of_getElem? (i := 19) (by decide +kernel), List.mem_of_getElem? (i := 717) (by decide +kernel), List.mem_of_getElem? (i := 718) (by decide +kernel)⟩
theorem lw_p24 : lw_okq (⟨"NoonShade", "counted", "(I)I"⟩, 12) := ⟨⟨by decide +kernel, by decide +kernel⟩, List.mem_of_getElem? (i := 19) (by decide +kernel), List.mem_of_getElem? (i := 763) (by decide +kernel), List.mem_of_getElem? (i := 764) (by decide +kernel)⟩
theorem lw_p25 : lw_okq (⟨"NoonShadeModel", "bad", "(I)I"⟩, 17) := ⟨⟨by decide +kernel, by decide +kernel⟩, List.mem_of_getElem? (i := 783) (by decide +kernel), List.mem_of_getElem? (i := 852) (by decide +kernel), List.mem_of_getElem? (i := 853) (by decide +kernel)⟩
theorem lw_p26 : lw_okq (⟨"NoonShadeModel", "full", "()I"⟩, 17) := ⟨⟨by decide +kernel, by decide +kernel⟩, List.mem_of_getElem? (i := 783) (by decide +kernel), List.mem_of_getElem? (i := 872) (by decide +kernel), List.mem_of_getElem? (i := 873) (by decide +kernel)⟩
theorem lw_p27 : lw_okq (⟨"NoonShadeModel", "isCaster", "(I)Z"⟩, 17) := ⟨⟨by decide +kernel, by decide +kernel⟩, List.mem_of_getElem? (i := 783) (by decide +kernel), List.mem_of_getElem? (i := 890) (by decide +kernel), List.mem_of_getElem? (i := 891) (by decide +kernel)⟩
theorem lw_p28 : lw_okq (⟨"NoonShadeModel", "isJar", "(I)Z"⟩, 17) := ⟨⟨by decide +kernel, by decide +kernel⟩, List.mem_of_getElem? (i := 783) (by decide +kernel), List.mem_of_getElem? (i := 894) (by decide +kernel), List.mem_of_getElem? (i := 895) (by decide +kernel)⟩
theorem lw_p29 : lw_okq (⟨"NoonShadeModel", "no", "()I"⟩, 17) := ⟨⟨by decide +kernel, by decide +kernel⟩, List.mem_of_getElem? (i := 783) (by decide +kernel), List.mem_of_getElem? (i := 901) (by decide +kernel), List.mem_of_getElem? (i := 902) (by decide +kernel)⟩
theorem lw_p30 : lw_okq (⟨"NoonShadeModel", "save", "()V"⟩, 17) := ⟨⟨by decide +kernel, by decide +kernel⟩, List.mem_of_getElem? (i := 783) (by decide +kernel), List.mem_of_getElem? (i := 905) (by decide +kernel), List.mem_of_getElem? (i := 906) (by decide +kernel)⟩
theorem lw_p31 : lw_okq (⟨"NoonShadeModel", "toldCaster", "(II)I"⟩, 17) := ⟨⟨by decide +kernel, by decide +kernel⟩, List.mem_of_getElem? (i := 783) (by decide +kernel), List.mem_of_getElem? (i := 958) (by decide +kernel), List.mem_of_getElem? (i := 959) (by decide +kernel)⟩
def lw_privs_2 : List (MethodName × Nat) := [(⟨"NoonShade$Plan", "filled", "(II)I"⟩, 6), (⟨"NoonShade", "fewestLadles", "(III)I"⟩, 12), (⟨"NoonShade", "pouredBehind", "(III)I"⟩, 12), (⟨"NoonShade$Guess", "mostAlike", "(IIII)I"⟩, 1), (⟨"NoonShade$Guess", "answeredSo", "(II)I"⟩, 1), (⟨"NoonShade", "rests", "(II)Z"⟩, 12), (⟨"NoonShade", "share", "(II)I"⟩, 12), (⟨"NoonShade", "setFraction", "(JJ)V"⟩, 12), (⟨"NoonShade", "counted", "(I)I"⟩, 12), (⟨"NoonShadeModel", "bad", "(I)I"⟩, 17), (⟨"NoonShadeModel", "full", "()I"⟩, 17), (⟨"NoonShadeModel", "isCaster", "(I)Z"⟩, 17), (⟨"NoonShadeModel", "isJar", "(I)Z"⟩, 17), (⟨"NoonShadeModel", "no", "()I"⟩, 17), (⟨"NoonShadeModel", "save", "()V"⟩, 17), (⟨"NoonShadeModel", "toldCaster", "(II)I"⟩, 17)]
theorem lw_r2 : ∀ q ∈ lw_privs_2, lw_okq q := List.forall_mem_cons.mpr ⟨lw_p16, List.forall_mem_cons.mpr ⟨lw_p17, List.forall_mem_cons.mpr ⟨lw_p18, List.forall_mem_cons.mpr ⟨lw_p19, List.forall_mem_cons.mpr ⟨lw_p20, List.forall_mem_cons.mpr ⟨lw_p21, List.forall_mem_cons.mpr ⟨lw_p22, List.forall_mem_cons.mpr ⟨lw_p23, List.forall_mem_cons.mpr ⟨lw_p24, List.forall_mem_cons.mpr ⟨lw_p25, List.forall_mem_cons.mpr ⟨lw_p26, List.forall_mem_cons.mpr ⟨lw_p27, List.forall_mem_cons.mpr ⟨lw_p28, List.forall_mem_cons.mpr ⟨lw_p29, List.forall_mem_cons.mpr ⟨lw_p30, List.forall_mem_cons.mpr ⟨lw_p31, fun _ h => absurd h List.not_mem_nil⟩⟩⟩⟩⟩⟩⟩⟩⟩⟩⟩⟩⟩⟩⟩⟩
theorem lw_p32 : lw_okq (⟨"NoonShadeModel", "toldJar", "(II)I"⟩, 17) := ⟨⟨by decide +kernel, by decide +kernel⟩, List.mem_of_getElem? (i := 783) (by decide +kernel), List.mem_of_getElem? (i := 966) (by decide +kernel), List.mem_of_getElem? (i := 967) (by decide +kernel)⟩
theorem lw_p33 : lw_okq (⟨"NoonShadeModel", "layHand", "()V"⟩, 17) := ⟨⟨by decide +kernel, by decide +kernel⟩, List.mem_of_getElem? (i := 783) (by decide +kernel), List.mem_of_getElem? (i := 978) (by decide +kernel), List.mem_of_getElem? (i := 979) (by decide +kernel)⟩
theorem lw_p34 : lw_okq (⟨"NoonShadeModel", "bestRow", "(II)I"⟩, 17) := ⟨⟨by decide +kernel, by decide +kernel⟩, List.mem_of_getElem? (i := 783) (by decide +kernel), List.mem_of_getElem? (i := 994) (by decide +kernel), List.mem_of_getElem? (i := 995) (by decide +kernel)⟩
theorem lw_p35 : lw_okq (⟨"NoonShadeModel", "casterBy", "(III)I"⟩, 17) := ⟨⟨by decide +kernel, by decide +kernel⟩, List.mem_of_getElem? (i := 783) (by decide +kernel), List.mem_of_getElem? (i := 1001) (by decide +kernel), List.mem_of_getElem? (i := 1002) (by decide +kernel)⟩
theorem lw_p36 : lw_okq (⟨"NoonShadeModel", "isOfTaste", "(II)Z"⟩, 17) := ⟨⟨by decide +kernel, by decide +kernel⟩, List.mem_of_getElem? (i := 783) (by decide +kernel), List.mem_of_getElem? (i := 1009) (by decide +kernel), List.mem_of_getElem? (i := 1010) (by decide +kernel)⟩
theorem lw_p37 : lw_okq (⟨"NoonShadeModel", "givenBy", "(I)I"⟩, 17) := ⟨⟨by decide +kernel, by decide +kernel⟩, List.mem_of_getElem? (i := 783) (by decide +kernel), List.mem_of_getElem? (i := 1013) (by decide +kernel), List.mem_of_getElem? (i := 1014) (by decide +kernel)⟩
theorem lw_p38 : lw_okq (⟨"NoonShadeModel", "layFour", "(IIIII)V"⟩, 17) := ⟨⟨by decide +kernel, by decide +kernel⟩, List.mem_of_getElem? (i := 783) (by decide +kernel), List.mem_of_getElem? (i := 1034) (by decide +kernel), List.mem_of_getElem? (i := 1035) (by decide +kernel)⟩
theorem lw_p39 : lw_okq (⟨"NoonShadeModel", "kindsOfCaster", "(I)I"⟩, 17) := ⟨⟨by decide +kernel, by decide +kernel⟩, List.mem_of_getElem? (i := 783) (by decide +kernel), List.mem_of_getElem? (i := 1053) (by decide +kernel), List.mem_of_getElem? (i := 1054) (by decide +kernel)⟩
theorem lw_p40 : lw_okq (⟨"NoonShadeModel", "kindsBy", "(IIIZ)I"⟩, 17) := ⟨⟨by decide +kernel, by decide +kernel⟩, List.mem_of_getElem? (i := 783) (by decide +kernel), List.mem_of_getElem? (i := 1057) (by decide +kernel), List.mem_of_getElem? (i := 1058) (by decide +kernel)⟩
theorem lw_p41 : lw_okq (⟨"NoonShadeModel", "mostAlike", "(I)I"⟩, 17) := ⟨⟨by decide +kernel, by decide +kernel⟩, List.mem_of_getElem? (i := 783) (by decide +kernel), List.mem_of_getElem? (i := 1066) (by decide +kernel), List.mem_of_getElem? (i := 1067) (by decide +kernel)⟩
theorem lw_p42 : lw_okq (⟨"NoonShadeModel", "kindsOfJar", "(I)I"⟩, 17) := ⟨⟨by decide +kernel, by decide +kernel⟩, List.mem_of_getElem? (i := 783) (by decide +kernel), List.mem_of_getElem? (i := 1074) (by decide +kernel), List.mem_of_getElem? (i := 1075) (by decide +kernel)⟩
theorem lw_p43 : lw_okq (⟨"NoonShadeModel", "mayName", "(I)Z"⟩, 17) := ⟨⟨by decide +kernel, by decide +kernel⟩, List.mem_of_getElem? (i := 783) (by decide +kernel), List.mem_of_getElem? (i := 1086) (by decide +kernel), List.mem_of_getElem? (i := 1087) (by decide +kernel)⟩
theorem lw_p44 : lw_okq (⟨"NoonShadeModel", "rests", "(II)Z"⟩, 17) := ⟨⟨by decide +kernel, by decide +kernel⟩, List.mem_of_getElem? (i := 783) (by decide +kernel), List.mem_of_getElem? (i := 1090) (by decide +kernel), List.mem_of_getElem? (i := 1091) (by decide +kernel)⟩
theorem lw_p45 : lw_okq (⟨"NoonShadeModel", "gets", "(II)I"⟩, 17) := ⟨⟨by decide +kernel, by decide +kernel⟩, List.mem_of_getElem? (i := 783) (by decide +kernel), List.mem_of_getElem? (i := 1094) (by decide +kernel), List.mem_of_getElem? (i := 1095) (by decide +kernel)⟩
theorem lw_p46 : lw_okq (⟨"NoonShadeModel", "fraction", "(JJ)V"⟩, 17) := ⟨⟨by decide +kernel, by decide +kernel⟩, List.mem_of_getElem? (i := 783) (by decide +kernel), List.mem_of_getElem? (i := 1103) (by decide +kernel), List.mem_of_getElem? (i := 1104) (by decide +kernel)⟩
theorem lw_p47 : lw_okq (⟨"NoonShadeModel", "lookAt", "(I)V"⟩, 17) := ⟨⟨by decide +kernel, by decide +kernel⟩, List.mem_of_getElem? (i := 783) (by decide +kernel), List.mem_of_getElem? (i := 1136) (by decide +kernel), List.mem_of_getElem? (i := 1137) (by decide +kernel)⟩
def lw_privs_3 : List (MethodName × Nat) := [(⟨"NoonShadeModel", "toldJar", "(II)I"⟩, 17), (⟨"NoonShadeModel", "layHand", "()V"⟩, 17), (⟨"NoonShadeModel", "bestRow", "(II)I"⟩, 17), (⟨"NoonShadeModel", "casterBy", "(III)I"⟩, 17), (⟨"NoonShadeModel", "isOfTaste", "(II)Z"⟩, 17), (⟨"NoonShadeModel", "givenBy", "(I)I"⟩, 17), (⟨"NoonShadeModel", "layFour", "(IIIII)V"⟩, 17), (⟨"NoonShadeModel", "kindsOfCaster", "(I)I"⟩, 17), (⟨"NoonShadeModel", "kindsBy", "(IIIZ)I"⟩, 17), (⟨"NoonShadeModel", "mostAlike", "(I)I"⟩, 17), (⟨"NoonShadeModel", "kindsOfJar", "(I)I"⟩, 17), (⟨"NoonShadeModel", "mayName", "(I)Z"⟩, 17), (⟨"NoonShadeModel", "rests", "(II)Z"⟩, 17), (⟨"NoonShadeModel", "gets", "(II)I"⟩, 17), (⟨"NoonShadeModel", "fraction", "(JJ)V"⟩, 17), (⟨"NoonShadeModel", "lookAt", "(I)V"⟩, 17)]
theorem lw_r3 : ∀ q ∈ lw_privs_3, lw_okq q := List.forall_mem_cons.mpr ⟨lw_p32, List.forall_mem_cons.mpr ⟨lw_p33, List.forall_mem_cons.mpr ⟨lw_p34, List.forall_mem_cons.mpr ⟨lw_p35, List.forall_mem_cons.mpr ⟨lw_p36, List.forall_mem_cons.mpr ⟨lw_p37, List.forall_mem_cons.mpr ⟨lw_p38, List.forall_mem_cons.mpr ⟨lw_p39, List.forall_mem_cons.mpr ⟨lw_p40, List.forall_mem_cons.mpr ⟨lw_p41, List.forall_mem_cons.mpr ⟨lw_p42, List.forall_mem_cons.mpr ⟨lw_p43, List.forall_mem_cons.mpr ⟨lw_p44, List.forall_mem_cons.mpr ⟨lw_p45, List.forall_mem_cons.mpr ⟨lw_p46, List.forall_mem_cons.mpr ⟨lw_p47, fun _ h => absurd h List.not_mem_nil⟩⟩⟩⟩⟩⟩⟩⟩⟩⟩⟩⟩⟩⟩⟩⟩
theorem lw_p48 : lw_okq (⟨"NoonShadeModel", "spells", "(IIIIIII)Z"⟩, 17) := ⟨⟨by decide +kernel, by decide +kernel⟩, List.mem_of_getElem? (i := 783) (by decide +kernel), List.mem_of_getElem? (i := 1150) (by decide +kernel), List.mem_of_getElem? (i := 1151) (by decide +kernel)⟩
theorem lw_p49 : lw_okq (⟨"NoonShadeModel", "goBehind", "()V"⟩, 17) := ⟨⟨by decide +kernel, by decide +kernel⟩, List.mem_of_getElem? (i := 783) (by decide +kernel), List.mem_of_getElem? (i := 1154) (by decide +kernel), List.mem_of_getElem? (i := 1155) (by decide +kernel)⟩
theorem lw_p50 : lw_okq (⟨"NoonShadeModel", "takes", "(III)Z"⟩, 17) := ⟨⟨by decide +kernel, by decide +kernel⟩, List.mem_of_getElem? (i := 783) (by decide +kernel), List.mem_of_getElem? (i := 1158) (by decide +kernel), List.mem_of_getElem? (i := 1159) (by decide +kernel)⟩
theorem lw_p51 : lw_okq (⟨"NoonShadeModel", "takesItem", "()Z"⟩, 17) := ⟨⟨by decide +kernel, by decide +kernel⟩, List.mem_of_getElem? (i := 783) (by decide +kernel), List.mem_of_getElem? (i := 1162) (by decide +kernel), List.mem_of_getElem? (i := 1163) (by decide +kernel)⟩
theorem lw_p52 : lw_okq (⟨"NoonShadeModel", "takesCaster", "()Z"⟩, 17) := ⟨⟨by decide +kernel, by decide +kernel⟩, List.mem_of_getElem? (i := 783) (by decide +kernel), List.mem_of_getElem? (i := 1166) (by decide +kernel), List.mem_of_getElem? (i := 1167) (by decide +kernel)⟩
theorem lw_p53 : lw_okq (⟨"NoonShadeModel", "takesJar", "()Z"⟩, 17) := ⟨⟨by decide +kernel, by decide +kernel⟩, List.mem_of_getElem? (i := 783) (by decide +kernel), List.mem_of_getElem? (i := 1170) (by decide +kernel), List.mem_of_getElem? (i := 1171) (by decide +kernel)⟩
theorem lw_p54 : lw_okq (⟨"NoonShadeModel", "takesLadle", "()Z"⟩, 17) := ⟨⟨by decide +kernel, by decide +kernel⟩, List.mem_of_getElem? (i := 783) (by decide +kernel), List.mem_of_getElem? (i := 1174) (by decide +kernel), List.mem_of_getElem? (i := 1175) (by decide +kernel)⟩
theorem lw_p55 : lw_okq (⟨"NoonShadeModel", "takesPour", "()Z"⟩, 17) := ⟨⟨by decide +kernel, by decide +kernel⟩, List.mem_of_getElem? (i := 783) (by decide +kernel), List.mem_of_getElem? (i := 1178) (by decide +kernel), List.mem_of_getElem? (i := 1179) (by decide +kernel)⟩
theorem lw_p56 : lw_okq (⟨"NoonShadeModel", "takesHours", "()Z"⟩, 17) := ⟨⟨by decide +kernel, by decide +kernel⟩, List.mem_of_getElem? (i := 783) (by decide +kernel), List.mem_of_getElem? (i := 1182) (by decide +kernel), List.mem_of_getElem? (i := 1183) (by decide +kernel)⟩
theorem lw_p57 : lw_okq (⟨"NoonShadeModel", "counted", "(I)I"⟩, 17) := ⟨⟨by decide +kernel, by decide +kernel⟩, List.mem_of_getElem? (i := 783) (by decide +kernel), List.mem_of_getElem? (i := 1206) (by decide +kernel), List.mem_of_getElem? (i := 1207) (by decide +kernel)⟩
theorem lw_p58 : lw_okq (⟨"NoonShadeModel", "sums", "(JII)J"⟩, 17) := ⟨⟨by decide +kernel, by decide +kernel⟩, List.mem_of_getElem? (i := 783) (by decide +kernel), List.mem_of_getElem? (i := 1216) (by decide +kernel), List.mem_of_getElem? (i := 1217) (by decide +kernel)⟩
def lw_privs_4 : List (MethodName × Nat) := [(⟨"NoonShadeModel", "spells", "(IIIIIII)Z"⟩, 17), (⟨"NoonShadeModel", "goBehind", "()V"⟩, 17), (⟨"NoonShadeModel", "takes", "(III)Z"⟩, 17), (⟨"NoonShadeModel", "takesItem", "()Z"⟩, 17), (⟨"NoonShadeModel", "takesCaster", "()Z"⟩, 17), (⟨"NoonShadeModel", "takesJar", "()Z"⟩, 17), (⟨"NoonShadeModel", "takesLadle", "()Z"⟩, 17), (⟨"NoonShadeModel", "takesPour", "()Z"⟩, 17), (⟨"NoonShadeModel", "takesHours", "()Z"⟩, 17), (⟨"NoonShadeModel", "counted", "(I)I"⟩, 17), (⟨"NoonShadeModel", "sums", "(JII)J"⟩, 17)]
theorem lw_r4 : ∀ q ∈ lw_privs_4, lw_okq q := List.forall_mem_cons.mpr ⟨lw_p48, List.forall_mem_cons.mpr ⟨lw_p49, List.forall_mem_cons.mpr ⟨lw_p50, List.forall_mem_cons.mpr ⟨lw_p51, List.forall_mem_cons.mpr ⟨lw_p52, List.forall_mem_cons.mpr ⟨lw_p53, List.forall_mem_cons.mpr ⟨lw_p54, List.forall_mem_cons.mpr ⟨lw_p55, List.forall_mem_cons.mpr ⟨lw_p56, List.forall_mem_cons.mpr ⟨lw_p57, List.forall_mem_cons.mpr ⟨lw_p58, fun _ h => absurd h List.not_mem_nil⟩⟩⟩⟩⟩⟩⟩⟩⟩⟩⟩
def lw_privs : List (MethodName × Nat) := lw_privs_1 ++ (lw_privs_2 ++ (lw_privs_3 ++ (lw_privs_4)))
def lw_tbl : List Cond := k2_sels lw_privs ++ tables_1
theorem lw_privs_ok : ∀ q ∈ lw_privs, lw_okq q := by
  show ∀ q ∈ lw_privs_1 ++ (lw_privs_2 ++ (lw_privs_3 ++ (lw_privs_4))), lw_okq q
  exact List.forall_mem_append.mpr ⟨lw_r1, List.forall_mem_append.mpr ⟨lw_r2, List.forall_mem_append.mpr ⟨lw_r3, lw_r4⟩⟩⟩

theorem in_t0 {w : Cond} (h : w ∈ k2_sels lw_privs) : w ∈ lw_tbl := List.mem_append_left _ h
theorem in_t1 {w : Cond} (h : w ∈ tables_1_1) : w ∈ lw_tbl := List.mem_append_right _ (List.mem_append_left _ h)
theorem in_t2 {w : Cond} (h : w ∈ tables_1_2) : w ∈ lw_tbl := List.mem_append_right _ (List.mem_append_right _ (List.mem_append_left _ h))
theorem in_t3 {w : Cond} (h : w ∈ tables_1_3) : w ∈ lw_tbl := List.mem_append_right _ (List.mem_append_right _ (List.mem_append_right _ (List.mem_append_left _ h)))
theorem in_t4 {w : Cond} (h : w ∈ tables_1_4) : w ∈ lw_tbl := List.mem_append_right _ (List.mem_append_right _ (List.mem_append_right _ (List.mem_append_right _ (List.mem_append_left _ h))))
theorem in_t5 {w : Cond} (h : w ∈ tables_1_5) : w ∈ lw_tbl := List.mem_append_right _ (List.mem_append_right _ (List.mem_append_right _ (List.mem_append_right _ (List.mem_append_right _ (List.mem_append_left _ h)))))
theorem in_t6 {w : Cond} (h : w ∈ tables_1_6) : w ∈ lw_tbl := List.mem_append_right _ (List.mem_append_right _ (List.mem_append_right _ (List.mem_append_right _ (List.mem_append_right _ (List.mem_append_right _ h)))))
end
section
/-! ===== BEGIN printed: names, fields, word lists, decode rows ===== -/
def RX0 : String := "NoonShade$CasterKinds"
def TX0 : u_T := fun k => match k with
  | _ => ("", "", "", false)
def tyX0 : Nat → FieldType := fun k => match k with
  | _ => .int
theorem nmX0 : ∀ a, a < 0 → ∀ b, b < 0 → a ≠ b → (TX0 a).2.1 ≠ (TX0 b).2.1 := by decide +kernel
theorem tyX0_ok : ∀ k, k < 0 → parseFieldDescriptor (TX0 k).2.2.1 = some (tyX0 k) := by decide +kernel
abbrev cX0_given : ByteArray := prog_2_method_2_code
def yX0_given : MethodName := ⟨RX0, "given", "(III)I"⟩
def RX1 : String := "NoonShade$Guess"
def TX1 : u_T := fun k => match k with
  | _ => ("NoonShade$Guess", "answers", "[I", true)
def tyX1 : Nat → FieldType := fun k => match k with
  | _ => .array .int
theorem nmX1 : ∀ a, a < 1 → ∀ b, b < 1 → a ≠ b → (TX1 a).2.1 ≠ (TX1 b).2.1 := by decide +kernel
theorem tyX1_ok : ∀ k, k < 1 → parseFieldDescriptor (TX1 k).2.2.1 = some (tyX1 k) := by decide +kernel
abbrev cX1_init : ByteArray := prog_3_method_1_code
def yX1_init : MethodName := ⟨RX1, "<init>", "()V"⟩
abbrev cX1_says : ByteArray := prog_3_method_2_code
def yX1_says : MethodName := ⟨RX1, "says", "(IIII)I"⟩
abbrev cX1_fitting : ByteArray := prog_3_method_3_code
def yX1_fitting : MethodName := ⟨RX1, "fitting", "(ILNoonShade$Rows;I)I"⟩
abbrev cX1_tellingMost : ByteArray := prog_3_method_4_code
def yX1_tellingMost : MethodName := ⟨RX1, "tellingMost", "(IIII)I"⟩
abbrev cX1_mostAlike : ByteArray := prog_3_method_5_code
def yX1_mostAlike : MethodName := ⟨RX1, "mostAlike", "(IIII)I"⟩
abbrev cX1_answeredSo : ByteArray := prog_3_method_6_code
def yX1_answeredSo : MethodName := ⟨RX1, "answeredSo", "(II)I"⟩
def RX2 : String := "NoonShade$Isle"
def TX2 : u_T := fun k => match k with
  | 0 => ("NoonShade$Isle", "hour", "I", false)
  | 1 => ("NoonShade$Isle", "sold", "I", false)
  | 2 => ("NoonShade$Isle", "milked", "I", false)
  | 3 => ("NoonShade$Isle", "casters", "I", false)
  | 4 => ("NoonShade$Isle", "jars", "I", false)
  | 5 => ("NoonShade$Isle", "casterKind", "[I", true)
  | 6 => ("NoonShade$Isle", "height", "[I", true)
  | 7 => ("NoonShade$Isle", "casterTaste", "[I", true)
  | 8 => ("NoonShade$Isle", "jarKind", "[I", true)
  | 9 => ("NoonShade$Isle", "cool", "[I", true)
  | 10 => ("NoonShade$Isle", "jarTaste", "[I", true)
  | 11 => ("NoonShade$Isle", "notes", "LNoonShade$Rows;", true)
  | 12 => ("NoonShade$Isle", "marks", "LNoonShade$Rows;", true)
  | _ => ("NoonShade$Isle", "past", "LNoonShade$Past;", true)
def tyX2 : Nat → FieldType := fun k => match k with
  | 0 => .int
  | 1 => .int
  | 2 => .int
  | 3 => .int
  | 4 => .int
  | 5 => .array .int
  | 6 => .array .int
  | 7 => .array .int
  | 8 => .array .int
  | 9 => .array .int
  | 10 => .array .int
  | 11 => .object "NoonShade$Rows"
  | 12 => .object "NoonShade$Rows"
  | _ => .object "NoonShade$Past"
theorem nmX2 : ∀ a, a < 14 → ∀ b, b < 14 → a ≠ b → (TX2 a).2.1 ≠ (TX2 b).2.1 := by decide +kernel
theorem tyX2_ok : ∀ k, k < 14 → parseFieldDescriptor (TX2 k).2.2.1 = some (tyX2 k) := by decide +kernel
abbrev cX2_init : ByteArray := prog_4_method_1_code
def yX2_init : MethodName := ⟨RX2, "<init>", "()V"⟩
abbrev cX2_begin : ByteArray := prog_4_method_2_code
def yX2_begin : MethodName := ⟨RX2, "begin", "(I)V"⟩
abbrev cX2_become : ByteArray := prog_4_method_3_code
def yX2_become : MethodName := ⟨RX2, "become", "(LNoonShade$Isle;)V"⟩
abbrev cX2_hasCaster : ByteArray := prog_4_method_4_code
def yX2_hasCaster : MethodName := ⟨RX2, "hasCaster", "(I)Z"⟩
abbrev cX2_hasJar : ByteArray := prog_4_method_5_code
def yX2_hasJar : MethodName := ⟨RX2, "hasJar", "(I)Z"⟩
abbrev cX2_isMilked : ByteArray := prog_4_method_6_code
def yX2_isMilked : MethodName := ⟨RX2, "isMilked", "(I)Z"⟩
abbrev cX2_addCaster : ByteArray := prog_4_method_7_code
def yX2_addCaster : MethodName := ⟨RX2, "addCaster", "(III)I"⟩
abbrev cX2_addJar : ByteArray := prog_4_method_8_code
def yX2_addJar : MethodName := ⟨RX2, "addJar", "(I)I"⟩
abbrev cX2_givenBehind : ByteArray := prog_4_method_9_code
def yX2_givenBehind : MethodName := ⟨RX2, "givenBehind", "(II)I"⟩
abbrev cX2_coolBehind : ByteArray := prog_4_method_10_code
def yX2_coolBehind : MethodName := ⟨RX2, "coolBehind", "(II)I"⟩
abbrev cX2_mayDraw : ByteArray := prog_4_method_11_code
def yX2_mayDraw : MethodName := ⟨RX2, "mayDraw", "(II)Z"⟩
abbrev cX2_givenBy : ByteArray := prog_4_method_12_code
def yX2_givenBy : MethodName := ⟨RX2, "givenBy", "(I)I"⟩
abbrev cX2_draw : ByteArray := prog_4_method_13_code
def yX2_draw : MethodName := ⟨RX2, "draw", "(II)I"⟩
abbrev cX2_pour : ByteArray := prog_4_method_14_code
def yX2_pour : MethodName := ⟨RX2, "pour", "(II)I"⟩
abbrev cX2_sell : ByteArray := prog_4_method_15_code
def yX2_sell : MethodName := ⟨RX2, "sell", "(I)I"⟩
abbrev cX2_fill : ByteArray := prog_4_method_16_code
def yX2_fill : MethodName := ⟨RX2, "fill", "(III)I"⟩
abbrev cX2_drain : ByteArray := prog_4_method_17_code
def yX2_drain : MethodName := ⟨RX2, "drain", "(II)V"⟩
abbrev cX2_passHours : ByteArray := prog_4_method_18_code
def yX2_passHours : MethodName := ⟨RX2, "passHours", "(I)V"⟩
abbrev cX2_passHour : ByteArray := prog_4_method_19_code
def yX2_passHour : MethodName := ⟨RX2, "passHour", "()V"⟩
abbrev cX2_coolInAll : ByteArray := prog_4_method_20_code
def yX2_coolInAll : MethodName := ⟨RX2, "coolInAll", "()I"⟩
abbrev cX2_mixed : ByteArray := prog_4_method_21_code
def yX2_mixed : MethodName := ⟨RX2, "mixed", "(J)J"⟩
def RX3 : String := "NoonShade$JarKinds"
def TX3 : u_T := fun k => match k with
  | _ => ("", "", "", false)
def tyX3 : Nat → FieldType := fun k => match k with
  | _ => .int
theorem nmX3 : ∀ a, a < 0 → ∀ b, b < 0 → a ≠ b → (TX3 a).2.1 ≠ (TX3 b).2.1 := by decide +kernel
theorem tyX3_ok : ∀ k, k < 0 → parseFieldDescriptor (TX3 k).2.2.1 = some (tyX3 k) := by decide +kernel
abbrev cX3_lost : ByteArray := prog_5_method_2_code
def yX3_lost : MethodName := ⟨RX3, "lost", "(III)I"⟩
abbrev cX3_kept : ByteArray := prog_5_method_3_code
def yX3_kept : MethodName := ⟨RX3, "kept", "(III)I"⟩
abbrev cX3_keptBehind : ByteArray := prog_5_method_4_code
def yX3_keptBehind : MethodName := ⟨RX3, "keptBehind", "(IIII)I"⟩
def RX4 : String := "NoonShade$Past"
def TX4 : u_T := fun k => match k with
  | 0 => ("NoonShade$Past", "cells", "[I", true)
  | _ => ("NoonShade$Past", "steps", "I", false)
def tyX4 : Nat → FieldType := fun k => match k with
  | 0 => .array .int
  | _ => .int
theorem nmX4 : ∀ a, a < 2 → ∀ b, b < 2 → a ≠ b → (TX4 a).2.1 ≠ (TX4 b).2.1 := by decide +kernel
theorem tyX4_ok : ∀ k, k < 2 → parseFieldDescriptor (TX4 k).2.2.1 = some (tyX4 k) := by decide +kernel
abbrev cX4_init : ByteArray := prog_6_method_1_code
def yX4_init : MethodName := ⟨RX4, "<init>", "()V"⟩
abbrev cX4_empty : ByteArray := prog_6_method_2_code
def yX4_empty : MethodName := ⟨RX4, "empty", "()V"⟩
abbrev cX4_become : ByteArray := prog_6_method_3_code
def yX4_become : MethodName := ⟨RX4, "become", "(LNoonShade$Past;)V"⟩
abbrev cX4_remember : ByteArray := prog_6_method_4_code
def yX4_remember : MethodName := ⟨RX4, "remember", "(LNoonShade$Isle;)V"⟩
abbrev cX4_bringBack : ByteArray := prog_6_method_5_code
def yX4_bringBack : MethodName := ⟨RX4, "bringBack", "(LNoonShade$Isle;)Z"⟩
def RX5 : String := "NoonShade$Plan"
def TX5 : u_T := fun k => match k with
  | 0 => ("NoonShade$Plan", "given", "[I", true)
  | 1 => ("NoonShade$Plan", "end", "[I", true)
  | 2 => ("NoonShade$Plan", "row", "[I", true)
  | 3 => ("NoonShade$Plan", "casters", "I", false)
  | 4 => ("NoonShade$Plan", "steps", "I", false)
  | _ => ("NoonShade$Plan", "best", "I", false)
def tyX5 : Nat → FieldType := fun k => match k with
  | 0 => .array .int
  | 1 => .array .int
  | 2 => .array .int
  | 3 => .int
  | 4 => .int
  | _ => .int
theorem nmX5 : ∀ a, a < 6 → ∀ b, b < 6 → a ≠ b → (TX5 a).2.1 ≠ (TX5 b).2.1 := by decide +kernel
theorem tyX5_ok : ∀ k, k < 6 → parseFieldDescriptor (TX5 k).2.2.1 = some (tyX5 k) := by decide +kernel
abbrev cX5_init : ByteArray := prog_7_method_1_code
def yX5_init : MethodName := ⟨RX5, "<init>", "()V"⟩
abbrev cX5_make : ByteArray := prog_7_method_2_code
def yX5_make : MethodName := ⟨RX5, "make", "(LNoonShade$Isle;II)V"⟩
abbrev cX5_askCasters : ByteArray := prog_7_method_3_code
def yX5_askCasters : MethodName := ⟨RX5, "askCasters", "(LNoonShade$Isle;I)V"⟩
abbrev cX5_chooseRow : ByteArray := prog_7_method_4_code
def yX5_chooseRow : MethodName := ⟨RX5, "chooseRow", "(LNoonShade$Isle;I)V"⟩
abbrev cX5_mostFrom : ByteArray := prog_7_method_5_code
def yX5_mostFrom : MethodName := ⟨RX5, "mostFrom", "(II)I"⟩
abbrev cX5_firstThatReaches : ByteArray := prog_7_method_6_code
def yX5_firstThatReaches : MethodName := ⟨RX5, "firstThatReaches", "(II)I"⟩
abbrev cX5_with : ByteArray := prog_7_method_7_code
def yX5_with : MethodName := ⟨RX5, "with", "(III)I"⟩
abbrev cX5_filled : ByteArray := prog_7_method_8_code
def yX5_filled : MethodName := ⟨RX5, "filled", "(II)I"⟩
abbrev cX5_waysToKeep : ByteArray := prog_7_method_9_code
def yX5_waysToKeep : MethodName := ⟨RX5, "waysToKeep", "(LNoonShade$Isle;III)J"⟩
abbrev cX5_waysInAll : ByteArray := prog_7_method_10_code
def yX5_waysInAll : MethodName := ⟨RX5, "waysInAll", "()J"⟩
def RX6 : String := "NoonShade$Rows"
def TX6 : u_T := fun k => match k with
  | 0 => ("NoonShade$Rows", "cells", "[I", true)
  | _ => ("NoonShade$Rows", "size", "I", false)
def tyX6 : Nat → FieldType := fun k => match k with
  | 0 => .array .int
  | _ => .int
theorem nmX6 : ∀ a, a < 2 → ∀ b, b < 2 → a ≠ b → (TX6 a).2.1 ≠ (TX6 b).2.1 := by decide +kernel
theorem tyX6_ok : ∀ k, k < 2 → parseFieldDescriptor (TX6 k).2.2.1 = some (tyX6 k) := by decide +kernel
abbrev cX6_init : ByteArray := prog_8_method_1_code
def yX6_init : MethodName := ⟨RX6, "<init>", "()V"⟩
abbrev cX6_isFull : ByteArray := prog_8_method_2_code
def yX6_isFull : MethodName := ⟨RX6, "isFull", "()Z"⟩
abbrev cX6_add : ByteArray := prog_8_method_3_code
def yX6_add : MethodName := ⟨RX6, "add", "(IIII)I"⟩
abbrev cX6_empty : ByteArray := prog_8_method_4_code
def yX6_empty : MethodName := ⟨RX6, "empty", "()I"⟩
abbrev cX6_become : ByteArray := prog_8_method_5_code
def yX6_become : MethodName := ⟨RX6, "become", "(LNoonShade$Rows;)V"⟩
abbrev cX6_agree : ByteArray := prog_8_method_6_code
def yX6_agree : MethodName := ⟨RX6, "agree", "(III)Z"⟩
abbrev cX6_mixed : ByteArray := prog_8_method_7_code
def yX6_mixed : MethodName := ⟨RX6, "mixed", "(J)J"⟩
def RX7 : String := "NoonShade$Text"
def TX7 : u_T := fun k => match k with
  | 0 => ("NoonShade$Text", "bytes", "[B", true)
  | 1 => ("NoonShade$Text", "numbers", "[I", true)
  | 2 => ("NoonShade$Text", "length", "I", false)
  | 3 => ("NoonShade$Text", "start", "I", false)
  | 4 => ("NoonShade$Text", "at", "I", false)
  | 5 => ("NoonShade$Text", "token", "I", false)
  | _ => ("NoonShade$Text", "number", "I", false)
def tyX7 : Nat → FieldType := fun k => match k with
  | 0 => .array .byte
  | 1 => .array .int
  | 2 => .int
  | 3 => .int
  | 4 => .int
  | 5 => .int
  | _ => .int
theorem nmX7 : ∀ a, a < 7 → ∀ b, b < 7 → a ≠ b → (TX7 a).2.1 ≠ (TX7 b).2.1 := by decide +kernel
theorem tyX7_ok : ∀ k, k < 7 → parseFieldDescriptor (TX7 k).2.2.1 = some (tyX7 k) := by decide +kernel
abbrev cX7_init : ByteArray := prog_9_method_1_code
def yX7_init : MethodName := ⟨RX7, "<init>", "()V"⟩
abbrev cX7_isFull : ByteArray := prog_9_method_2_code
def yX7_isFull : MethodName := ⟨RX7, "isFull", "()Z"⟩
abbrev cX7_add : ByteArray := prog_9_method_3_code
def yX7_add : MethodName := ⟨RX7, "add", "(I)I"⟩
abbrev cX7_empty : ByteArray := prog_9_method_4_code
def yX7_empty : MethodName := ⟨RX7, "empty", "()I"⟩
abbrev cX7_tell : ByteArray := prog_9_method_5_code
def yX7_tell : MethodName := ⟨RX7, "tell", "(LNoonShade$Isle;)I"⟩
abbrev cX7_mayBegin : ByteArray := prog_9_method_6_code
def yX7_mayBegin : MethodName := ⟨RX7, "mayBegin", "(LNoonShade$Isle;IZ)Z"⟩
abbrev cX7_takeNumbers : ByteArray := prog_9_method_7_code
def yX7_takeNumbers : MethodName := ⟨RX7, "takeNumbers", "(LNoonShade$Isle;I)Z"⟩
abbrev cX7_numbersOf : ByteArray := prog_9_method_8_code
def yX7_numbersOf : MethodName := ⟨RX7, "numbersOf", "(I)I"⟩
abbrev cX7_fits : ByteArray := prog_9_method_9_code
def yX7_fits : MethodName := ⟨RX7, "fits", "(LNoonShade$Isle;II)Z"⟩
abbrev cX7_fitsCaster : ByteArray := prog_9_method_10_code
def yX7_fitsCaster : MethodName := ⟨RX7, "fitsCaster", "(I)Z"⟩
abbrev cX7_carryOut : ByteArray := prog_9_method_11_code
def yX7_carryOut : MethodName := ⟨RX7, "carryOut", "(LNoonShade$Isle;I)V"⟩
abbrev cX7_step : ByteArray := prog_9_method_12_code
def yX7_step : MethodName := ⟨RX7, "step", "()V"⟩
abbrev cX7_takeNumber : ByteArray := prog_9_method_13_code
def yX7_takeNumber : MethodName := ⟨RX7, "takeNumber", "()V"⟩
abbrev cX7_isLetter : ByteArray := prog_9_method_14_code
def yX7_isLetter : MethodName := ⟨RX7, "isLetter", "(B)Z"⟩
abbrev cX7_isFigure : ByteArray := prog_9_method_15_code
def yX7_isFigure : MethodName := ⟨RX7, "isFigure", "(B)Z"⟩
abbrev cX7_wordNumber : ByteArray := prog_9_method_16_code
def yX7_wordNumber : MethodName := ⟨RX7, "wordNumber", "()I"⟩
abbrev cX7_isWord : ByteArray := prog_9_method_17_code
def yX7_isWord : MethodName := ⟨RX7, "isWord", "(Ljava/lang/String;)Z"⟩
def RX8 : String := "NoonShade"
def TX8 : u_T := fun k => match k with
  | 0 => ("NoonShade", "now", "LNoonShade$Isle;", true)
  | 1 => ("NoonShade", "draft", "LNoonShade$Isle;", true)
  | 2 => ("NoonShade", "images", "[LNoonShade$Isle;", true)
  | 3 => ("NoonShade", "imageKept", "[Z", true)
  | 4 => ("NoonShade", "text", "LNoonShade$Text;", true)
  | 5 => ("NoonShade", "plan", "LNoonShade$Plan;", true)
  | 6 => ("NoonShade", "guess", "LNoonShade$Guess;", true)
  | 7 => ("NoonShade", "above", "J", false)
  | 8 => ("NoonShade", "below", "J", false)
  | 9 => ("NoonShade", "bads", "I", false)
  | 10 => ("NoonShade", "noes", "I", false)
  | _ => ("NoonShade", "fulls", "I", false)
def tyX8 : Nat → FieldType := fun k => match k with
  | 0 => .object "NoonShade$Isle"
  | 1 => .object "NoonShade$Isle"
  | 2 => .array (.object "NoonShade$Isle")
  | 3 => .array .boolean
  | 4 => .object "NoonShade$Text"
  | 5 => .object "NoonShade$Plan"
  | 6 => .object "NoonShade$Guess"
  | 7 => .long
  | 8 => .long
  | 9 => .int
  | 10 => .int
  | _ => .int
theorem nmX8 : ∀ a, a < 12 → ∀ b, b < 12 → a ≠ b → (TX8 a).2.1 ≠ (TX8 b).2.1 := by decide +kernel
theorem tyX8_ok : ∀ k, k < 12 → parseFieldDescriptor (TX8 k).2.2.1 = some (tyX8 k) := by decide +kernel
abbrev cX8_init : ByteArray := prog_1_method_1_code
def yX8_init : MethodName := ⟨RX8, "<init>", "()V"⟩
abbrev cX8_island : ByteArray := prog_1_method_2_code
def yX8_island : MethodName := ⟨RX8, "island", "(I)I"⟩
abbrev cX8_caster : ByteArray := prog_1_method_3_code
def yX8_caster : MethodName := ⟨RX8, "caster", "(III)I"⟩
abbrev cX8_jar : ByteArray := prog_1_method_4_code
def yX8_jar : MethodName := ⟨RX8, "jar", "(I)I"⟩
abbrev cX8_type : ByteArray := prog_1_method_5_code
def yX8_type : MethodName := ⟨RX8, "type", "(I)I"⟩
abbrev cX8_clear : ByteArray := prog_1_method_6_code
def yX8_clear : MethodName := ⟨RX8, "clear", "()I"⟩
abbrev cX8_read : ByteArray := prog_1_method_7_code
def yX8_read : MethodName := ⟨RX8, "read", "()I"⟩
abbrev cX8_ladle : ByteArray := prog_1_method_8_code
def yX8_ladle : MethodName := ⟨RX8, "ladle", "(II)I"⟩
abbrev cX8_pours : ByteArray := prog_1_method_9_code
def yX8_pours : MethodName := ⟨RX8, "pours", "(II)I"⟩
abbrev cX8_sells : ByteArray := prog_1_method_10_code
def yX8_sells : MethodName := ⟨RX8, "sells", "(I)I"⟩
abbrev cX8_hours : ByteArray := prog_1_method_11_code
def yX8_hours : MethodName := ⟨RX8, "hours", "(I)I"⟩
abbrev cX8_undo : ByteArray := prog_1_method_12_code
def yX8_undo : MethodName := ⟨RX8, "undo", "()I"⟩
abbrev cX8_of : ByteArray := prog_1_method_13_code
def yX8_of : MethodName := ⟨RX8, "of", "(II)I"⟩
abbrev cX8_about : ByteArray := prog_1_method_14_code
def yX8_about : MethodName := ⟨RX8, "about", "(II)I"⟩
abbrev cX8_gives : ByteArray := prog_1_method_15_code
def yX8_gives : MethodName := ⟨RX8, "gives", "(II)I"⟩
abbrev cX8_keeps : ByteArray := prog_1_method_16_code
def yX8_keeps : MethodName := ⟨RX8, "keeps", "(II)I"⟩
abbrev cX8_when : ByteArray := prog_1_method_17_code
def yX8_when : MethodName := ⟨RX8, "when", "(I)I"⟩
abbrev cX8_gone : ByteArray := prog_1_method_18_code
def yX8_gone : MethodName := ⟨RX8, "gone", "(I)I"⟩
abbrev cX8_round : ByteArray := prog_1_method_19_code
def yX8_round : MethodName := ⟨RX8, "round", "(III)I"⟩
abbrev cX8_few : ByteArray := prog_1_method_20_code
def yX8_few : MethodName := ⟨RX8, "few", "(IIII)I"⟩
abbrev cX8_into : ByteArray := prog_1_method_21_code
def yX8_into : MethodName := ⟨RX8, "into", "(III)I"⟩
abbrev cX8_note : ByteArray := prog_1_method_22_code
def yX8_note : MethodName := ⟨RX8, "note", "(IIII)I"⟩
abbrev cX8_mark : ByteArray := prog_1_method_23_code
def yX8_mark : MethodName := ⟨RX8, "mark", "(IIII)I"⟩
abbrev cX8_forget : ByteArray := prog_1_method_24_code
def yX8_forget : MethodName := ⟨RX8, "forget", "(I)I"⟩
abbrev cX8_is : ByteArray := prog_1_method_25_code
def yX8_is : MethodName := ⟨RX8, "is", "(I)I"⟩
abbrev cX8_look : ByteArray := prog_1_method_26_code
def yX8_look : MethodName := ⟨RX8, "look", "(I)I"⟩
abbrev cX8_kinds : ByteArray := prog_1_method_27_code
def yX8_kinds : MethodName := ⟨RX8, "kinds", "(I)I"⟩
abbrev cX8_ask : ByteArray := prog_1_method_28_code
def yX8_ask : MethodName := ⟨RX8, "ask", "(I)I"⟩
abbrev cX8_two : ByteArray := prog_1_method_29_code
def yX8_two : MethodName := ⟨RX8, "two", "(I)I"⟩
abbrev cX8_spilt : ByteArray := prog_1_method_30_code
def yX8_spilt : MethodName := ⟨RX8, "spilt", "(IIII)I"⟩
abbrev cX8_noons : ByteArray := prog_1_method_31_code
def yX8_noons : MethodName := ⟨RX8, "noons", "(II)I"⟩
abbrev cX8_part : ByteArray := prog_1_method_32_code
def yX8_part : MethodName := ⟨RX8, "part", "(I)J"⟩
abbrev cX8_image : ByteArray := prog_1_method_33_code
def yX8_image : MethodName := ⟨RX8, "image", "(I)I"⟩
abbrev cX8_from : ByteArray := prog_1_method_34_code
def yX8_from : MethodName := ⟨RX8, "from", "(I)I"⟩
abbrev cX8_status : ByteArray := prog_1_method_35_code
def yX8_status : MethodName := ⟨RX8, "status", "(I)I"⟩
abbrev cX8_count : ByteArray := prog_1_method_36_code
def yX8_count : MethodName := ⟨RX8, "count", "(I)I"⟩
abbrev cX8_digest : ByteArray := prog_1_method_37_code
def yX8_digest : MethodName := ⟨RX8, "digest", "()J"⟩
abbrev cX8_within : ByteArray := prog_1_method_38_code
def yX8_within : MethodName := ⟨RX8, "within", "(III)Z"⟩
abbrev cX8_refused : ByteArray := prog_1_method_39_code
def yX8_refused : MethodName := ⟨RX8, "refused", "(I)I"⟩
abbrev cX8_counted : ByteArray := prog_1_method_40_code
def yX8_counted : MethodName := ⟨RX8, "counted", "(I)I"⟩
abbrev cX8_fewestLadles : ByteArray := prog_1_method_41_code
def yX8_fewestLadles : MethodName := ⟨RX8, "fewestLadles", "(III)I"⟩
abbrev cX8_pouredBehind : ByteArray := prog_1_method_42_code
def yX8_pouredBehind : MethodName := ⟨RX8, "pouredBehind", "(III)I"⟩
abbrev cX8_rests : ByteArray := prog_1_method_43_code
def yX8_rests : MethodName := ⟨RX8, "rests", "(II)Z"⟩
abbrev cX8_share : ByteArray := prog_1_method_44_code
def yX8_share : MethodName := ⟨RX8, "share", "(II)I"⟩
abbrev cX8_setFraction : ByteArray := prog_1_method_45_code
def yX8_setFraction : MethodName := ⟨RX8, "setFraction", "(JJ)V"⟩
abbrev cX8_greatestDivisor : ByteArray := prog_1_method_46_code
def yX8_greatestDivisor : MethodName := ⟨RX8, "greatestDivisor", "(JJ)J"⟩
def RX9 : String := "NoonShadeModel"
def TX9 : u_T := fun k => match k with
  | 0 => ("NoonShadeModel", "all", "[I", true)
  | 1 => ("NoonShadeModel", "kept", "[I", true)
  | 2 => ("NoonShadeModel", "isKept", "[Z", true)
  | 3 => ("NoonShadeModel", "refused", "[I", true)
  | 4 => ("NoonShadeModel", "above", "J", false)
  | 5 => ("NoonShadeModel", "below", "J", false)
  | 6 => ("NoonShadeModel", "hand", "[I", true)
  | 7 => ("NoonShadeModel", "mostBy", "I", false)
  | 8 => ("NoonShadeModel", "tells", "[I", true)
  | 9 => ("NoonShadeModel", "bytes", "[I", true)
  | 10 => ("NoonShadeModel", "bytesLong", "I", false)
  | 11 => ("NoonShadeModel", "tokenAt", "I", false)
  | 12 => ("NoonShadeModel", "tokenLong", "I", false)
  | 13 => ("NoonShadeModel", "token", "I", false)
  | 14 => ("NoonShadeModel", "value", "I", false)
  | 15 => ("NoonShadeModel", "anew", "[I", true)
  | _ => ("NoonShadeModel", "values", "[I", true)
def tyX9 : Nat → FieldType := fun k => match k with
  | 0 => .array .int
  | 1 => .array .int
  | 2 => .array .boolean
  | 3 => .array .int
  | 4 => .long
  | 5 => .long
  | 6 => .array .int
  | 7 => .int
  | 8 => .array .int
  | 9 => .array .int
  | 10 => .int
  | 11 => .int
  | 12 => .int
  | 13 => .int
  | 14 => .int
  | 15 => .array .int
  | _ => .array .int
theorem nmX9 : ∀ a, a < 17 → ∀ b, b < 17 → a ≠ b → (TX9 a).2.1 ≠ (TX9 b).2.1 := by decide +kernel
theorem tyX9_ok : ∀ k, k < 17 → parseFieldDescriptor (TX9 k).2.2.1 = some (tyX9 k) := by decide +kernel
abbrev cX9_init : ByteArray := prog_11_method_1_code
def yX9_init : MethodName := ⟨RX9, "<init>", "()V"⟩
abbrev cX9_in : ByteArray := prog_11_method_3_code
def yX9_in : MethodName := ⟨RX9, "in", "(JJJ)Z"⟩
abbrev cX9_bad : ByteArray := prog_11_method_4_code
def yX9_bad : MethodName := ⟨RX9, "bad", "(I)I"⟩
abbrev cX9_no : ByteArray := prog_11_method_5_code
def yX9_no : MethodName := ⟨RX9, "no", "()I"⟩
abbrev cX9_full : ByteArray := prog_11_method_6_code
def yX9_full : MethodName := ⟨RX9, "full", "()I"⟩
abbrev cX9_has : ByteArray := prog_11_method_7_code
def yX9_has : MethodName := ⟨RX9, "has", "(II)Z"⟩
abbrev cX9_bits : ByteArray := prog_11_method_8_code
def yX9_bits : MethodName := ⟨RX9, "bits", "(I)I"⟩
abbrev cX9_begin : ByteArray := prog_11_method_9_code
def yX9_begin : MethodName := ⟨RX9, "begin", "([II)V"⟩
abbrev cX9_isCaster : ByteArray := prog_11_method_10_code
def yX9_isCaster : MethodName := ⟨RX9, "isCaster", "(I)Z"⟩
abbrev cX9_isJar : ByteArray := prog_11_method_11_code
def yX9_isJar : MethodName := ⟨RX9, "isJar", "(I)Z"⟩
abbrev cX9_isKind : ByteArray := prog_11_method_12_code
def yX9_isKind : MethodName := ⟨RX9, "isKind", "(I)Z"⟩
abbrev cX9_isHeight : ByteArray := prog_11_method_13_code
def yX9_isHeight : MethodName := ⟨RX9, "isHeight", "(I)Z"⟩
abbrev cX9_isTaste : ByteArray := prog_11_method_14_code
def yX9_isTaste : MethodName := ⟨RX9, "isTaste", "(I)Z"⟩
abbrev cX9_isHour : ByteArray := prog_11_method_15_code
def yX9_isHour : MethodName := ⟨RX9, "isHour", "(I)Z"⟩
abbrev cX9_isCool : ByteArray := prog_11_method_16_code
def yX9_isCool : MethodName := ⟨RX9, "isCool", "(I)Z"⟩
abbrev cX9_island : ByteArray := prog_11_method_17_code
def yX9_island : MethodName := ⟨RX9, "island", "(I)I"⟩
abbrev cX9_layCaster : ByteArray := prog_11_method_18_code
def yX9_layCaster : MethodName := ⟨RX9, "layCaster", "([IIII)V"⟩
abbrev cX9_caster : ByteArray := prog_11_method_19_code
def yX9_caster : MethodName := ⟨RX9, "caster", "(III)I"⟩
abbrev cX9_layJar : ByteArray := prog_11_method_20_code
def yX9_layJar : MethodName := ⟨RX9, "layJar", "([II)V"⟩
abbrev cX9_jar : ByteArray := prog_11_method_21_code
def yX9_jar : MethodName := ⟨RX9, "jar", "(I)I"⟩
abbrev cX9_givesAs : ByteArray := prog_11_method_22_code
def yX9_givesAs : MethodName := ⟨RX9, "givesAs", "(III)I"⟩
abbrev cX9_losesAs : ByteArray := prog_11_method_23_code
def yX9_losesAs : MethodName := ⟨RX9, "losesAs", "(III)I"⟩
abbrev cX9_givesOf : ByteArray := prog_11_method_24_code
def yX9_givesOf : MethodName := ⟨RX9, "givesOf", "([III)I"⟩
abbrev cX9_losesOf : ByteArray := prog_11_method_25_code
def yX9_losesOf : MethodName := ⟨RX9, "losesOf", "([II)I"⟩
abbrev cX9_goIn : ByteArray := prog_11_method_26_code
def yX9_goIn : MethodName := ⟨RX9, "goIn", "([IIII)I"⟩
abbrev cX9_goLadle : ByteArray := prog_11_method_27_code
def yX9_goLadle : MethodName := ⟨RX9, "goLadle", "([III)I"⟩
abbrev cX9_goPour : ByteArray := prog_11_method_28_code
def yX9_goPour : MethodName := ⟨RX9, "goPour", "([III)I"⟩
abbrev cX9_goHour : ByteArray := prog_11_method_29_code
def yX9_goHour : MethodName := ⟨RX9, "goHour", "([I)V"⟩
abbrev cX9_goHours : ByteArray := prog_11_method_30_code
def yX9_goHours : MethodName := ⟨RX9, "goHours", "([II)V"⟩
abbrev cX9_save : ByteArray := prog_11_method_31_code
def yX9_save : MethodName := ⟨RX9, "save", "()V"⟩
abbrev cX9_ladle : ByteArray := prog_11_method_32_code
def yX9_ladle : MethodName := ⟨RX9, "ladle", "(II)I"⟩
abbrev cX9_pours : ByteArray := prog_11_method_33_code
def yX9_pours : MethodName := ⟨RX9, "pours", "(II)I"⟩
abbrev cX9_sells : ByteArray := prog_11_method_34_code
def yX9_sells : MethodName := ⟨RX9, "sells", "(I)I"⟩
abbrev cX9_hours : ByteArray := prog_11_method_35_code
def yX9_hours : MethodName := ⟨RX9, "hours", "(I)I"⟩
abbrev cX9_undo : ByteArray := prog_11_method_36_code
def yX9_undo : MethodName := ⟨RX9, "undo", "()I"⟩
abbrev cX9_toldCaster : ByteArray := prog_11_method_37_code
def yX9_toldCaster : MethodName := ⟨RX9, "toldCaster", "(II)I"⟩
abbrev cX9_of : ByteArray := prog_11_method_38_code
def yX9_of : MethodName := ⟨RX9, "of", "(II)I"⟩
abbrev cX9_toldJar : ByteArray := prog_11_method_39_code
def yX9_toldJar : MethodName := ⟨RX9, "toldJar", "(II)I"⟩
abbrev cX9_about : ByteArray := prog_11_method_40_code
def yX9_about : MethodName := ⟨RX9, "about", "(II)I"⟩
abbrev cX9_layHand : ByteArray := prog_11_method_41_code
def yX9_layHand : MethodName := ⟨RX9, "layHand", "()V"⟩
abbrev cX9_gives : ByteArray := prog_11_method_42_code
def yX9_gives : MethodName := ⟨RX9, "gives", "(II)I"⟩
abbrev cX9_keeps : ByteArray := prog_11_method_43_code
def yX9_keeps : MethodName := ⟨RX9, "keeps", "(II)I"⟩
abbrev cX9_when : ByteArray := prog_11_method_44_code
def yX9_when : MethodName := ⟨RX9, "when", "(I)I"⟩
abbrev cX9_gone : ByteArray := prog_11_method_45_code
def yX9_gone : MethodName := ⟨RX9, "gone", "(I)I"⟩
abbrev cX9_power : ByteArray := prog_11_method_46_code
def yX9_power : MethodName := ⟨RX9, "power", "(II)I"⟩
abbrev cX9_casterBy : ByteArray := prog_11_method_47_code
def yX9_casterBy : MethodName := ⟨RX9, "casterBy", "(III)I"⟩
abbrev cX9_bestRow : ByteArray := prog_11_method_48_code
def yX9_bestRow : MethodName := ⟨RX9, "bestRow", "(II)I"⟩
abbrev cX9_round : ByteArray := prog_11_method_49_code
def yX9_round : MethodName := ⟨RX9, "round", "(III)I"⟩
abbrev cX9_isOfTaste : ByteArray := prog_11_method_50_code
def yX9_isOfTaste : MethodName := ⟨RX9, "isOfTaste", "(II)Z"⟩
abbrev cX9_givenBy : ByteArray := prog_11_method_51_code
def yX9_givenBy : MethodName := ⟨RX9, "givenBy", "(I)I"⟩
abbrev cX9_few : ByteArray := prog_11_method_52_code
def yX9_few : MethodName := ⟨RX9, "few", "(IIII)I"⟩
abbrev cX9_into : ByteArray := prog_11_method_53_code
def yX9_into : MethodName := ⟨RX9, "into", "(III)I"⟩
abbrev cX9_layFour : ByteArray := prog_11_method_54_code
def yX9_layFour : MethodName := ⟨RX9, "layFour", "(IIIII)V"⟩
abbrev cX9_note : ByteArray := prog_11_method_55_code
def yX9_note : MethodName := ⟨RX9, "note", "(IIII)I"⟩
abbrev cX9_mark : ByteArray := prog_11_method_56_code
def yX9_mark : MethodName := ⟨RX9, "mark", "(IIII)I"⟩
abbrev cX9_forget : ByteArray := prog_11_method_57_code
def yX9_forget : MethodName := ⟨RX9, "forget", "(I)I"⟩
abbrev cX9_kindsBy : ByteArray := prog_11_method_58_code
def yX9_kindsBy : MethodName := ⟨RX9, "kindsBy", "(IIIZ)I"⟩
abbrev cX9_kindsOfCaster : ByteArray := prog_11_method_59_code
def yX9_kindsOfCaster : MethodName := ⟨RX9, "kindsOfCaster", "(I)I"⟩
abbrev cX9_kindsOfJar : ByteArray := prog_11_method_60_code
def yX9_kindsOfJar : MethodName := ⟨RX9, "kindsOfJar", "(I)I"⟩
abbrev cX9_is : ByteArray := prog_11_method_61_code
def yX9_is : MethodName := ⟨RX9, "is", "(I)I"⟩
abbrev cX9_mostAlike : ByteArray := prog_11_method_62_code
def yX9_mostAlike : MethodName := ⟨RX9, "mostAlike", "(I)I"⟩
abbrev cX9_look : ByteArray := prog_11_method_63_code
def yX9_look : MethodName := ⟨RX9, "look", "(I)I"⟩
abbrev cX9_kinds : ByteArray := prog_11_method_64_code
def yX9_kinds : MethodName := ⟨RX9, "kinds", "(I)I"⟩
abbrev cX9_ask : ByteArray := prog_11_method_65_code
def yX9_ask : MethodName := ⟨RX9, "ask", "(I)I"⟩
abbrev cX9_gets : ByteArray := prog_11_method_66_code
def yX9_gets : MethodName := ⟨RX9, "gets", "(II)I"⟩
abbrev cX9_mayName : ByteArray := prog_11_method_67_code
def yX9_mayName : MethodName := ⟨RX9, "mayName", "(I)Z"⟩
abbrev cX9_rests : ByteArray := prog_11_method_68_code
def yX9_rests : MethodName := ⟨RX9, "rests", "(II)Z"⟩
abbrev cX9_two : ByteArray := prog_11_method_69_code
def yX9_two : MethodName := ⟨RX9, "two", "(I)I"⟩
abbrev cX9_fraction : ByteArray := prog_11_method_70_code
def yX9_fraction : MethodName := ⟨RX9, "fraction", "(JJ)V"⟩
abbrev cX9_spilt : ByteArray := prog_11_method_71_code
def yX9_spilt : MethodName := ⟨RX9, "spilt", "(IIII)I"⟩
abbrev cX9_noons : ByteArray := prog_11_method_72_code
def yX9_noons : MethodName := ⟨RX9, "noons", "(II)I"⟩
abbrev cX9_type : ByteArray := prog_11_method_73_code
def yX9_type : MethodName := ⟨RX9, "type", "(I)I"⟩
abbrev cX9_clear : ByteArray := prog_11_method_74_code
def yX9_clear : MethodName := ⟨RX9, "clear", "()I"⟩
abbrev cX9_isSmall : ByteArray := prog_11_method_75_code
def yX9_isSmall : MethodName := ⟨RX9, "isSmall", "(I)Z"⟩
abbrev cX9_isFigure : ByteArray := prog_11_method_76_code
def yX9_isFigure : MethodName := ⟨RX9, "isFigure", "(I)Z"⟩
abbrev cX9_lookAt : ByteArray := prog_11_method_77_code
def yX9_lookAt : MethodName := ⟨RX9, "lookAt", "(I)V"⟩
abbrev cX9_goBehind : ByteArray := prog_11_method_78_code
def yX9_goBehind : MethodName := ⟨RX9, "goBehind", "()V"⟩
abbrev cX9_spells : ByteArray := prog_11_method_79_code
def yX9_spells : MethodName := ⟨RX9, "spells", "(IIIIIII)Z"⟩
abbrev cX9_takes : ByteArray := prog_11_method_80_code
def yX9_takes : MethodName := ⟨RX9, "takes", "(III)Z"⟩
abbrev cX9_takesCaster : ByteArray := prog_11_method_81_code
def yX9_takesCaster : MethodName := ⟨RX9, "takesCaster", "()Z"⟩
abbrev cX9_takesJar : ByteArray := prog_11_method_82_code
def yX9_takesJar : MethodName := ⟨RX9, "takesJar", "()Z"⟩
abbrev cX9_takesLadle : ByteArray := prog_11_method_83_code
def yX9_takesLadle : MethodName := ⟨RX9, "takesLadle", "()Z"⟩
abbrev cX9_takesPour : ByteArray := prog_11_method_84_code
def yX9_takesPour : MethodName := ⟨RX9, "takesPour", "()Z"⟩
abbrev cX9_takesHours : ByteArray := prog_11_method_85_code
def yX9_takesHours : MethodName := ⟨RX9, "takesHours", "()Z"⟩
abbrev cX9_takesItem : ByteArray := prog_11_method_86_code
def yX9_takesItem : MethodName := ⟨RX9, "takesItem", "()Z"⟩
abbrev cX9_read : ByteArray := prog_11_method_87_code
def yX9_read : MethodName := ⟨RX9, "read", "()I"⟩
abbrev cX9_part : ByteArray := prog_11_method_88_code
def yX9_part : MethodName := ⟨RX9, "part", "(I)J"⟩
abbrev cX9_image : ByteArray := prog_11_method_89_code
def yX9_image : MethodName := ⟨RX9, "image", "(I)I"⟩
abbrev cX9_from : ByteArray := prog_11_method_90_code
def yX9_from : MethodName := ⟨RX9, "from", "(I)I"⟩
abbrev cX9_status : ByteArray := prog_11_method_91_code
def yX9_status : MethodName := ⟨RX9, "status", "(I)I"⟩
abbrev cX9_coolOf : ByteArray := prog_11_method_92_code
def yX9_coolOf : MethodName := ⟨RX9, "coolOf", "([I)I"⟩
abbrev cX9_counted : ByteArray := prog_11_method_93_code
def yX9_counted : MethodName := ⟨RX9, "counted", "(I)I"⟩
abbrev cX9_count : ByteArray := prog_11_method_94_code
def yX9_count : MethodName := ⟨RX9, "count", "(I)I"⟩
abbrev cX9_sums : ByteArray := prog_11_method_95_code
def yX9_sums : MethodName := ⟨RX9, "sums", "(JII)J"⟩
abbrev cX9_digest : ByteArray := prog_11_method_96_code
def yX9_digest : MethodName := ⟨RX9, "digest", "()J"⟩
def RJ6 : String := "java/lang/Integer"
def TJ6 : u_T := fun k => match k with
  | _ => ("", "", "", false)
def tyJ6 : Nat → FieldType := fun k => match k with
  | _ => .int
theorem nmJ6 : ∀ a, a < 0 → ∀ b, b < 0 → a ≠ b → (TJ6 a).2.1 ≠ (TJ6 b).2.1 := by decide +kernel
theorem tyJ6_ok : ∀ k, k < 0 → parseFieldDescriptor (TJ6 k).2.2.1 = some (tyJ6 k) := by decide +kernel
abbrev cJ6_bitCount_0f7a4 : ByteArray := prog_12_method_49_code
def yJ6_bitCount_0f7a4 : MethodName := ⟨RJ6, "bitCount", "(I)I"⟩
def RJ9 : String := "java/lang/Math"
def TJ9 : u_T := fun k => match k with
  | _ => ("", "", "", false)
def tyJ9 : Nat → FieldType := fun k => match k with
  | _ => .int
theorem nmJ9 : ∀ a, a < 0 → ∀ b, b < 0 → a ≠ b → (TJ9 a).2.1 ≠ (TJ9 b).2.1 := by decide +kernel
theorem tyJ9_ok : ∀ k, k < 0 → parseFieldDescriptor (TJ9 k).2.2.1 = some (tyJ9 k) := by decide +kernel
abbrev cJ9_abs_0f7a4 : ByteArray := prog_13_method_59_code
def yJ9_abs_0f7a4 : MethodName := ⟨RJ9, "abs", "(I)I"⟩
abbrev cJ9_max_7cf53 : ByteArray := prog_13_method_65_code
def yJ9_max_7cf53 : MethodName := ⟨RJ9, "max", "(II)I"⟩
abbrev cJ9_min_7cf53 : ByteArray := prog_13_method_69_code
def yJ9_min_7cf53 : MethodName := ⟨RJ9, "min", "(II)I"⟩
def RJ0 : String := "java/lang/String"
def TJ0 : u_T := fun k => match k with
  | _ => ("", "", "", false)
def tyJ0 : Nat → FieldType := fun k => match k with
  | _ => .int
theorem nmJ0 : ∀ a, a < 0 → ∀ b, b < 0 → a ≠ b → (TJ0 a).2.1 ≠ (TJ0 b).2.1 := by decide +kernel
theorem tyJ0_ok : ∀ k, k < 0 → parseFieldDescriptor (TJ0 k).2.2.1 = some (tyJ0 k) := by decide +kernel
abbrev cJ0_length_8abf5 : ByteArray := prog_14_method_54_code
def yJ0_length_8abf5 : MethodName := ⟨RJ0, "length", "()I"⟩
abbrev cJ0_charAt_5068e : ByteArray := prog_14_method_56_code
def yJ0_charAt_5068e : MethodName := ⟨RJ0, "charAt", "(I)C"⟩
abbrev cJ0_coder_7d493 : ByteArray := prog_14_method_152_code
def yJ0_coder_7d493 : MethodName := ⟨RJ0, "coder", "()B"⟩
abbrev cJ0_isLatin1_aae02 : ByteArray := prog_14_method_154_code
def yJ0_isLatin1_aae02 : MethodName := ⟨RJ0, "isLatin1", "()Z"⟩
abbrev cJ0_checkIndex_df160 : ByteArray := prog_14_method_155_code
def yJ0_checkIndex_df160 : MethodName := ⟨RJ0, "checkIndex", "(II)V"⟩
def RJ1 : String := "java/lang/StringLatin1"
def TJ1 : u_T := fun k => match k with
  | _ => ("", "", "", false)
def tyJ1 : Nat → FieldType := fun k => match k with
  | _ => .int
theorem nmJ1 : ∀ a, a < 0 → ∀ b, b < 0 → a ≠ b → (TJ1 a).2.1 ≠ (TJ1 b).2.1 := by decide +kernel
theorem tyJ1_ok : ∀ k, k < 0 → parseFieldDescriptor (TJ1 k).2.2.1 = some (tyJ1 k) := by decide +kernel
abbrev cJ1_charAt_3b067 : ByteArray := prog_15_method_2_code
def yJ1_charAt_3b067 : MethodName := ⟨RJ1, "charAt", "([BI)C"⟩
def RJ2 : String := "java/lang/StringUTF16"
def TJ2 : u_T := fun k => match k with
  | _ => ("", "", "", false)
def tyJ2 : Nat → FieldType := fun k => match k with
  | _ => .int
theorem nmJ2 : ∀ a, a < 0 → ∀ b, b < 0 → a ≠ b → (TJ2 a).2.1 ≠ (TJ2 b).2.1 := by decide +kernel
theorem tyJ2_ok : ∀ k, k < 0 → parseFieldDescriptor (TJ2 k).2.2.1 = some (tyJ2 k) := by decide +kernel
abbrev cJ2_getChar_3b067 : ByteArray := prog_16_method_5_code
def yJ2_getChar_3b067 : MethodName := ⟨RJ2, "getChar", "([BI)C"⟩
abbrev cJ2_length_9d52b : ByteArray := prog_16_method_6_code
def yJ2_length_9d52b : MethodName := ⟨RJ2, "length", "([B)I"⟩
abbrev cJ2_charAt_3b067 : ByteArray := prog_16_method_83_code
def yJ2_charAt_3b067 : MethodName := ⟨RJ2, "charAt", "([BI)C"⟩
abbrev cJ2_checkIndex_2214a : ByteArray := prog_16_method_91_code
def yJ2_checkIndex_2214a : MethodName := ⟨RJ2, "checkIndex", "(I[B)V"⟩
def RJ10 : String := "java/lang/System"
def TJ10 : u_T := fun k => match k with
  | _ => ("", "", "", false)
def tyJ10 : Nat → FieldType := fun k => match k with
  | _ => .int
theorem nmJ10 : ∀ a, a < 0 → ∀ b, b < 0 → a ≠ b → (TJ10 a).2.1 ≠ (TJ10 b).2.1 := by decide +kernel
theorem tyJ10_ok : ∀ k, k < 0 → parseFieldDescriptor (TJ10 k).2.2.1 = some (tyJ10 k) := by decide +kernel
def RJ3 : String := "jdk/internal/util/Preconditions"
def TJ3 : u_T := fun k => match k with
  | _ => ("", "", "", false)
def tyJ3 : Nat → FieldType := fun k => match k with
  | _ => .int
theorem nmJ3 : ∀ a, a < 0 → ∀ b, b < 0 → a ≠ b → (TJ3 a).2.1 ≠ (TJ3 b).2.1 := by decide +kernel
theorem tyJ3_ok : ∀ k, k < 0 → parseFieldDescriptor (TJ3 k).2.2.1 = some (tyJ3 k) := by decide +kernel
abbrev cJ3_checkIndex_8e157 : ByteArray := prog_18_method_11_code
def yJ3_checkIndex_8e157 : MethodName := ⟨RJ3, "checkIndex", "(IILjava/util/function/BiFunction;)I"⟩
def RL : String := "NoonShadeLaw"
abbrev cL_law : ByteArray := code
def yL_law : MethodName := ⟨RL, "law", "([I)Z"⟩
abbrev vwCl : List vw_C := [(RX1, TX1, 1), (RX2, TX2, 14), (RX4, TX4, 2), (RX5, TX5, 6), (RX6, TX6, 2), (RX7, TX7, 7), (RX8, TX8, 12), (RX9, TX9, 17)]
end
section
/-! ===== the words of all methods: the tables' good words ===== -/
def gtb : List Cond := lw_tbl.filter goodWord
theorem gtb_sub : ∀ w ∈ gtb, w ∈ lw_tbl := fun w h => (List.mem_filter.mp h).1
theorem gtb_mem {w : Cond} (h : w ∈ lw_tbl) (g : goodWord w = true) : w ∈ gtb := List.mem_filter.mpr ⟨h, g⟩
theorem gtb_good : GoodIn gtb gtb := fun w h => ⟨h, good_of_word (List.mem_filter.mp h).2⟩
theorem gtb_cons {w : Cond} (h : w ∈ gtb) : GoodIn gtb (w :: gtb) := fun v hv => (List.mem_cons.mp hv).elim (fun e => by rw [e]; exact gtb_good w h) (fun h => gtb_good v h)
theorem gtb_app {ws vs : List Cond} (h : ∀ w ∈ ws, w ∈ gtb) (g : GoodIn gtb vs) : GoodIn gtb (ws ++ vs) := fun v hv => (List.mem_append.mp hv).elim (fun q => gtb_good v (h v q)) (fun q => g v q)
/-! ===== a world of n cells, by their numbers ===== -/
def wl (n : Nat) (ad : Nat → Nat) (w : Nat → va_E) : va_W := (List.range n).map (fun k => (ad k, w k))
theorem wl_get {n k : Nat} {ad : Nat → Nat} {w : Nat → va_E} (h : k < n) : (wl n ad w)[k]? = some (ad k, w k) := by
  simp [wl, h]
theorem wl_inv {n k : Nat} {ad : Nat → Nat} {w : Nat → va_E} {q : Nat × va_E} (h : (wl n ad w)[k]? = some q) : k < n ∧ q = (ad k, w k) := by
  have hl : k < (wl n ad w).length := (List.getElem?_eq_some_iff.mp h).1
  have hn : k < n := by simpa [wl] using hl
  rw [wl_get hn] at h
  exact ⟨hn, (Option.some.inj h).symm⟩
theorem wl_len {n : Nat} {ad : Nat → Nat} {w : Nat → va_E} : (wl n ad w).length = n := by simp [wl]
theorem wl_set {n k : Nat} {ad : Nat → Nat} {w : Nat → va_E} (h : k < n) (e : va_E) : (wl n ad w).set k (ad k, e) = wl n ad (va_up w k e) := by
  apply List.ext_getElem?
  intro j
  rw [List.getElem?_set]
  by_cases hj : j < n
  · by_cases hk : k = j
    · subst hk
      rw [if_pos rfl, if_pos (by rw [wl_len]; exact h), wl_get h, va_up_self]
    · rw [if_neg hk, wl_get hj, wl_get hj, va_up_ne _ _ (Ne.symm hk)]
  · have e1 : (wl n ad (va_up w k e))[j]? = none := List.getElem?_eq_none (by rw [wl_len]; omega)
    have e2 : (wl n ad w)[j]? = none := List.getElem?_eq_none (by rw [wl_len]; omega)
    rw [if_neg (by omega), e1, e2]
theorem wl_push {n : Nat} {ad : Nat → Nat} {w : Nat → va_E} (q : Nat) (e : va_E) : wl n ad w ++ [(q, e)] = wl (n + 1) (va_up ad n q) (va_up w n e) := by
  apply List.ext_getElem?
  intro j
  by_cases hj : j < n
  · rw [List.getElem?_append_left (by rw [wl_len]; exact hj), wl_get hj, wl_get (by omega), va_up_ne _ _ (by omega), va_up_ne _ _ (by omega)]
  · rw [List.getElem?_append_right (by rw [wl_len]; omega), wl_len]
    by_cases h2 : j = n
    · subst h2
      rw [wl_get (by omega), va_up_self, va_up_self]; simp
    · have e1 : (wl (n + 1) (va_up ad n q) (va_up w n e))[j]? = none := List.getElem?_eq_none (by rw [wl_len]; omega)
      rw [e1]
      exact List.getElem?_eq_none (by simp; omega)
/-- the cells' addresses are apart, and of a kind -/
def WD (A : Nat → Prop) (n : Nat) (ad : Nat → Nat) : Prop := (∀ i j, i < n → j < n → ad i = ad j → i = j) ∧ ∀ k, k < n → A (ad k)
theorem WD.D {A : Nat → Prop} {n : Nat} {ad : Nat → Nat} (h : WD A n ad) (w : Nat → va_E) : va_D A (wl n ad w) := by
  refine ⟨fun i j p q hi hj e => ?_, fun k q hk => ?_⟩
  · obtain ⟨h1, rfl⟩ := wl_inv hi
    obtain ⟨h2, rfl⟩ := wl_inv hj
    exact h.1 i j h1 h2 e
  · obtain ⟨h1, rfl⟩ := wl_inv hk
    exact h.2 k h1
theorem WD.of {A : Nat → Prop} {n : Nat} {ad : Nat → Nat} {w : Nat → va_E} (h : va_D A (wl n ad w)) : WD A n ad :=
  ⟨fun i j hi hj e => h.1 i j _ _ (wl_get hi) (wl_get hj) e, fun k hk => h.2 k _ (wl_get hk)⟩
theorem WD.weaken {A B : Nat → Prop} {n : Nat} {ad : Nat → Nat} (h : WD A n ad) (g : ∀ q, A q → B q) : WD B n ad := ⟨h.1, fun k hk => g _ (h.2 k hk)⟩
theorem WD.sub {A : Nat → Prop} {n n' : Nat} {ad : Nat → Nat} (h : WD A n ad) (g : n' ≤ n) : WD A n' ad := ⟨fun i j hi hj e => h.1 i j (by omega) (by omega) e, fun k hk => h.2 k (by omega)⟩
def wA (n : Nat) (ad : Nat → Nat) (sz : Nat) : Nat → Prop := fun q => (∃ k, k < n ∧ q = ad k) ∨ sz ≤ q
theorem WD.self {A : Nat → Prop} {n sz : Nat} {ad : Nat → Nat} (h : WD A n ad) : WD (wA n ad sz) n ad := ⟨h.1, fun k hk => Or.inl ⟨k, hk, rfl⟩⟩
theorem WD.free {A : Nat → Prop} {n sz : Nat} {ad : Nat → Nat} (h : WD A n ad) (hA : ∀ q, sz ≤ q → A q) {z : Nat} (hz : sz ≤ z) : ∀ q, wA n ad z q → A q := fun q hq => hq.elim (fun ⟨k, hk, e⟩ => by rw [e]; exact h.2 k hk) (fun g => hA q (Nat.le_trans hz g))
/-! ===== where a method stands ===== -/
def Fx (p : Program) (m : MethodId) (c : Code) (cc : ByteArray) (nL : Nat) (s : State) (args : Array Value) (own : String) (G : va_G) (tys : List (ClassId × FieldType)) (A : Nat → Prop) : Prop := CallFix p m c cc nL s args gtb own ∧ va_K G vwCl tys s ∧ ∀ q, s.heap.size ≤ q → A q
def St (G : va_G) (n : Nat) (ad : Nat → Nat) (A : Nat → Prop) (H0 : Heap) (w : Nat → va_E) (H : Heap) (locs : List Loc) : Prop := va_P G vwCl (wl n ad w) H ∧ va_S A H0 H locs
def KC (ci : Nat) (C : String) (T : u_T) (ty : Nat → FieldType) (N : Nat) : Prop := vwCl[ci]? = some (C, T, N) ∧ (∀ w ∈ u_ws C T N, w ∈ gtb) ∧ (∀ k, k < N → parseFieldDescriptor (T k).2.2.1 = some (ty k)) ∧ (∀ a, a < N → ∀ b, b < N → a ≠ b → (T a).2.1 ≠ (T b).2.1)
section ROWS
variable {p : Program} {l : Launch} {e : Env} {R : Room} {s : State} {m : MethodId} {args : Array Value} {below : List Frame} {meth : Method} {c : Code} {H : Heap} {locs : List Loc} {cells slots : Nat} {Q : State → Prop}
variable {cc : ByteArray} {pc nL n : Nat} {ls : Array Slot} {rest : List Value} {own : String} {G : va_G} {tys : List (ClassId × FieldType)} {A : Nat → Prop} {ad : Nat → Nat} {w : Nat → va_E}
theorem r_get {ci N : Nat} {C : String} {T : u_T} {ty : Nat → FieldType} (kc : KC ci C T ty N) (X : Fx p m c cc nL s args own G tys A) (h : St G n ad A s.heap w H locs) (b k : Nat) {a index : Nat} {fs : List Value} {v : Value} (hb : b < n) (ha : ad b = a) (hw : w b = .inr (ci, fs)) (hk : k < N) (hlink : Cond.fieldLink own index (T k).1 (T k).2.1 (T k).2.2.1 ∈ gtb) (hv : fs[k]? = some v) (hdg : decode cc pc = .ok (.getfield index, 3))
    (kk : W p l e R s m args below meth c H locs cells slots Q (F0 m (pc + 3) ls (v :: rest))) : W p l e R s m args below meth c H locs cells slots Q (F0 m pc ls (.ref a :: rest)) :=
  va_get X.1.1 X.1.2.1 X.1.2.2.2.2 kc.2.1 X.1.2.2.2.1 X.2.1 h.1 b (by rw [wl_get hb, hw, ha]) kc.1 k hk (X.1.2.2.2.2 _ hlink) (fun _ h9 => h9) hv hdg kk
theorem r_put {ci N : Nat} {C : String} {T : u_T} {ty : Nat → FieldType} (kc : KC ci C T ty N) (X : Fx p m c cc nL s args own G tys A) (hD : WD A n ad) (h : St G n ad A s.heap w H locs) (b k : Nat) {a index : Nat} {fs : List Value} {v : Value} (hb : b < n) (ha : ad b = a) (hw : w b = .inr (ci, fs)) (hk : k < N) (hlink : Cond.fieldLink own index (T k).1 (T k).2.1 (T k).2.2.1 ∈ gtb) (hfin : (T k).2.2.2 = false) (hn : narrow (ty k) v = v) (hfit : fits (ty k) v = true) (hl : k < fs.length) (hdg : decode cc pc = .ok (.putfield index, 3))
    (kk : ∀ (H1 : Heap) (locs1 : List Loc) (w1 : Nat → va_E), w1 = va_up w b (.inr (ci, fs.set k v)) → St G n ad A s.heap w1 H1 locs1 → W p l e R s m args below meth c H1 locs1 cells slots Q (F0 m (pc + 3) ls rest)) : W p l e R s m args below meth c H locs cells slots Q (F0 m pc ls (v :: .ref a :: rest)) := by
  subst ha
  refine va_put X.1.1 X.1.2.1 X.1.2.2.2.2 kc.2.1 ty kc.2.2.1 kc.2.2.2 X.1.2.2.2.1 X.2.1 h.1 (hD.D w) h.2 b (by rw [wl_get hb, hw]) kc.1 k hk (X.1.2.2.2.2 _ hlink) (fun _ h9 => h9) hfin (kc.2.2.1 k hk) hn hfit hl hdg (fun H1 locs1 hP _ hS => ?_)
  rw [wl_set hb] at hP
  exact kk H1 locs1 _ rfl ⟨hP, hS⟩
theorem r_putF {ci N : Nat} {C : String} {T : u_T} {ty : Nat → FieldType} (kc : KC ci C T ty N) (X : Fx p m c cc nL s args own G tys A) (hD : WD A n ad) (h : St G n ad A s.heap w H locs) (hin : meth.name = "<init>") (b k : Nat) {a index : Nat} {fs : List Value} {v : Value} (hb : b < n) (ha : ad b = a) (hw : w b = .inr (ci, fs)) (hk : k < N) (hlink : Cond.fieldLink own index (T k).1 (T k).2.1 (T k).2.2.1 ∈ gtb) (hfin : (T k).2.2.2 = true) (hdecl : (T k).1 = own) (hn : narrow (ty k) v = v) (hfit : fits (ty k) v = true) (hl : k < fs.length) (hdg : decode cc pc = .ok (.putfield index, 3))
    (kk : ∀ (H1 : Heap) (locs1 : List Loc) (w1 : Nat → va_E), w1 = va_up w b (.inr (ci, fs.set k v)) → St G n ad A s.heap w1 H1 locs1 → W p l e R s m args below meth c H1 locs1 cells slots Q (F0 m (pc + 3) ls rest)) : W p l e R s m args below meth c H locs cells slots Q (F0 m pc ls (v :: .ref a :: rest)) := by
  subst ha
  refine va_putF X.1.1 X.1.2.1 X.1.2.2.2.2 kc.2.1 ty kc.2.2.1 kc.2.2.2 X.1.2.2.2.1 X.2.1 h.1 (hD.D w) h.2 b (by rw [wl_get hb, hw]) kc.1 k hk (X.1.2.2.2.2 _ hlink) (fun _ h9 => h9) hfin hin hdecl (kc.2.2.1 k hk) hn hfit hl hdg (fun H1 locs1 hP _ hS => ?_)
  rw [wl_set hb] at hP
  exact kk H1 locs1 _ rfl ⟨hP, hS⟩
theorem r_iald (X : Fx p m c cc nL s args own G tys A) (h : St G n ad A s.heap w H locs) (b t0 : Nat) {a N : Nat} {cA : ClassId} {f : Nat → Int32} {i : Int32} (hb : b < n) (ha : ad b = a) (hw : w b = .inl (cA, N, .inl f)) (ht : tys[t0]? = some (cA, .int)) (hin : vp_in i N) (hdg : decode cc pc = .ok (.iaload, 1))
    (kk : W p l e R s m args below meth c H locs cells slots Q (F0 m (pc + 1) ls (.int (f i.toNatClampNeg) :: rest))) : W p l e R s m args below meth c H locs cells slots Q (F0 m pc ls (.int i :: .ref a :: rest)) :=
  va_iald X.1.1 X.1.2.1 X.2.1 h.1 b t0 (by rw [wl_get hb, hw, ha]) ht hin hdg kk
theorem r_bald (X : Fx p m c cc nL s args own G tys A) (h : St G n ad A s.heap w H locs) (b t0 : Nat) {a N : Nat} {cA : ClassId} {f : Nat → Int32} {i : Int32} (hb : b < n) (ha : ad b = a) (hw : w b = .inl (cA, N, .inl f)) (ht : tys[t0]? = some (cA, .byte)) (hin : vp_in i N) (hdg : decode cc pc = .ok (.baload, 1))
    (kk : W p l e R s m args below meth c H locs cells slots Q (F0 m (pc + 1) ls (.int (f i.toNatClampNeg) :: rest))) : W p l e R s m args below meth c H locs cells slots Q (F0 m pc ls (.int i :: .ref a :: rest)) :=
  va_bald X.1.1 X.1.2.1 X.2.1 h.1 b t0 (by rw [wl_get hb, hw, ha]) ht hin hdg kk
theorem r_zald (X : Fx p m c cc nL s args own G tys A) (h : St G n ad A s.heap w H locs) (b t0 : Nat) {a N : Nat} {cA : ClassId} {f : Nat → Int32} {i : Int32} (hb : b < n) (ha : ad b = a) (hw : w b = .inl (cA, N, .inl f)) (ht : tys[t0]? = some (cA, .boolean)) (hin : vp_in i N) (hdg : decode cc pc = .ok (.baload, 1))
    (kk : W p l e R s m args below meth c H locs cells slots Q (F0 m (pc + 1) ls (.int (f i.toNatClampNeg) :: rest))) : W p l e R s m args below meth c H locs cells slots Q (F0 m pc ls (.int i :: .ref a :: rest)) :=
  va_zald X.1.1 X.1.2.1 X.2.1 h.1 b t0 (by rw [wl_get hb, hw, ha]) ht hin hdg kk
theorem r_aald (X : Fx p m c cc nL s args own G tys A) (h : St G n ad A s.heap w H locs) (b t0 : Nat) {a N : Nat} {cA : ClassId} {C : String} {f : Nat → Option Nat} {i : Int32} {v : Value} (hb : b < n) (ha : ad b = a) (hw : w b = .inl (cA, N, .inr (.inr (.inr (.inr f))))) (ht : tys[t0]? = some (cA, .object C)) (hin : vp_in i N) (hv : va_rf (f i.toNatClampNeg) = v) (hdg : decode cc pc = .ok (.aaload, 1))
    (kk : W p l e R s m args below meth c H locs cells slots Q (F0 m (pc + 1) ls (v :: rest))) : W p l e R s m args below meth c H locs cells slots Q (F0 m pc ls (.int i :: .ref a :: rest)) := by
  subst hv
  exact va_aldq X.1.1 X.1.2.1 X.2.1 h.1 b t0 (by rw [wl_get hb, hw, ha]) ht hin hdg kk
theorem r_iast (X : Fx p m c cc nL s args own G tys A) (hD : WD A n ad) (h : St G n ad A s.heap w H locs) (b t0 : Nat) {a N : Nat} {cA : ClassId} {f : Nat → Int32} {i x : Int32} (hb : b < n) (ha : ad b = a) (hw : w b = .inl (cA, N, .inl f)) (ht : tys[t0]? = some (cA, .int)) (hin : vp_in i N) (hdg : decode cc pc = .ok (.iastore, 1))
    (kk : ∀ (H1 : Heap) (locs1 : List Loc) (w1 : Nat → va_E), w1 = va_up w b (.inl (cA, N, .inl (upd f i.toNatClampNeg x))) → St G n ad A s.heap w1 H1 locs1 → W p l e R s m args below meth c H1 locs1 cells slots Q (F0 m (pc + 1) ls rest)) : W p l e R s m args below meth c H locs cells slots Q (F0 m pc ls (.int x :: .int i :: .ref a :: rest)) := by
  subst ha
  refine va_iast X.1.1 X.1.2.1 X.2.1 h.1 (hD.D w) h.2 b t0 (by rw [wl_get hb, hw]) ht hin hdg (fun H1 locs1 hP _ hS => ?_)
  rw [wl_set hb] at hP
  exact kk H1 locs1 _ rfl ⟨hP, hS⟩
theorem r_bast (X : Fx p m c cc nL s args own G tys A) (hD : WD A n ad) (h : St G n ad A s.heap w H locs) (b t0 : Nat) {a N : Nat} {cA : ClassId} {f : Nat → Int32} {i x : Int32} (hb : b < n) (ha : ad b = a) (hw : w b = .inl (cA, N, .inl f)) (ht : tys[t0]? = some (cA, .byte)) (hin : vp_in i N) (hdg : decode cc pc = .ok (.bastore, 1))
    (kk : ∀ (H1 : Heap) (locs1 : List Loc) (w1 : Nat → va_E), w1 = va_up w b (.inl (cA, N, .inl (upd f i.toNatClampNeg (vp_nar .byte x)))) → St G n ad A s.heap w1 H1 locs1 → W p l e R s m args below meth c H1 locs1 cells slots Q (F0 m (pc + 1) ls rest)) : W p l e R s m args below meth c H locs cells slots Q (F0 m pc ls (.int x :: .int i :: .ref a :: rest)) := by
  subst ha
  refine va_bast X.1.1 X.1.2.1 X.2.1 h.1 (hD.D w) h.2 b t0 (by rw [wl_get hb, hw]) ht hin hdg (fun H1 locs1 hP _ hS => ?_)
  rw [wl_set hb] at hP
  exact kk H1 locs1 _ rfl ⟨hP, hS⟩
theorem r_zast (X : Fx p m c cc nL s args own G tys A) (hD : WD A n ad) (h : St G n ad A s.heap w H locs) (b t0 : Nat) {a N : Nat} {cA : ClassId} {f : Nat → Int32} {i x : Int32} (hb : b < n) (ha : ad b = a) (hw : w b = .inl (cA, N, .inl f)) (ht : tys[t0]? = some (cA, .boolean)) (hin : vp_in i N) (hdg : decode cc pc = .ok (.bastore, 1))
    (kk : ∀ (H1 : Heap) (locs1 : List Loc) (w1 : Nat → va_E), w1 = va_up w b (.inl (cA, N, .inl (upd f i.toNatClampNeg (vp_nar .boolean x)))) → St G n ad A s.heap w1 H1 locs1 → W p l e R s m args below meth c H1 locs1 cells slots Q (F0 m (pc + 1) ls rest)) : W p l e R s m args below meth c H locs cells slots Q (F0 m pc ls (.int x :: .int i :: .ref a :: rest)) := by
  subst ha
  refine va_zast X.1.1 X.1.2.1 X.2.1 h.1 (hD.D w) h.2 b t0 (by rw [wl_get hb, hw]) ht hin hdg (fun H1 locs1 hP _ hS => ?_)
  rw [wl_set hb] at hP
  exact kk H1 locs1 _ rfl ⟨hP, hS⟩
theorem r_alen (X : Fx p m c cc nL s args own G tys A) (h : St G n ad A s.heap w H locs) (b t0 : Nat) {a : Nat} {cA : ClassId} {x : vp_A} {ty : FieldType} {v : Int32} (hb : b < n) (ha : ad b = a) (hw : w b = .inl (cA, x)) (ht : tys[t0]? = some (cA, ty)) (hv : Int32.ofNat x.1 = v) (hdg : decode cc pc = .ok (.arraylength, 1))
    (kk : W p l e R s m args below meth c H locs cells slots Q (F0 m (pc + 1) ls (.int v :: rest))) : W p l e R s m args below meth c H locs cells slots Q (F0 m pc ls (.ref a :: rest)) :=
  va_alen X.1.1 X.1.2.1 X.2.1 h.1 b t0 (by rw [wl_get hb, hw, ha]) ht hv hdg kk
end ROWS
/-! ===== contracts ===== -/
def nwq : List (String × Nat × MethodName × String) := [("NoonShade", 9, ⟨"NoonShade$Isle", "<init>", "()V"⟩, "NoonShade"), ("NoonShade$Isle", 32, ⟨"NoonShade$Rows", "<init>", "()V"⟩, "NoonShade"), ("NoonShade$Isle", 42, ⟨"NoonShade$Past", "<init>", "()V"⟩, "NoonShade"), ("NoonShade", 29, ⟨"NoonShade$Text", "<init>", "()V"⟩, "NoonShade"), ("NoonShade", 36, ⟨"NoonShade$Plan", "<init>", "()V"⟩, "NoonShade"), ("NoonShade", 43, ⟨"NoonShade$Guess", "<init>", "()V"⟩, "NoonShade"), ("NoonShade$Text", 94, ⟨"NoonShade", "within", "(III)Z"⟩, "NoonShade")]
def NW (U : State) : Prop := (∀ q ∈ nwq, va_Nw (.methodLinkNest q.1 q.2.1 q.2.2.1 q.2.2.2) U) ∧ va_AO "NoonShade$Isle" U
theorem NW.warm {s U : State} (hW : s.WarmedH U.vm) (h : NW s) : NW U := ⟨fun q hq => va_Nw.warmM hW (h.1 q hq), h.2.moved hW.alike⟩
theorem NW.same {s U : State} (e : s.vm = U.vm) (h : NW s) : NW U := ⟨fun q hq => va_Nw.same rfl e (h.1 q hq), h.2.moved (by rw [e]; exact Vm.Alike.refl U.vm)⟩
def Pre (G : va_G) (tys : List (ClassId × FieldType)) (n : Nat) (ad : Nat → Nat) (w : Nat → va_E) (sz : Nat) (U : State) : Prop := U.heap.size = sz ∧ va_P G vwCl (wl n ad w) U.heap ∧ va_K G vwCl tys U ∧ WD (fun _ => True) n ad ∧ NW U
def Aft (G : va_G) (n : Nat) (ad : Nat → Nat) (w1 : Nat → va_E) (t : State) : Prop := va_P G vwCl (wl n ad w1) t.heap
def MI (l : Launch) (G : va_G) (tys : List (ClassId × FieldType)) (y : MethodName) (cc : ByteArray) (mL : Nat) (rt : Option FieldType) (fr lo n : Nat) (ad : Nat → Nat) (w : Nat → va_E) (av : List Value) (post : Int32 → (Nat → va_E) → Prop) : Prop := ∀ sz : Nat, Met l y (.code y cc mL rt :: gtb) { frames := fr, cells := 0, slots := 0, locals := lo } (va_Pc av (Pre G tys n ad w sz)) (va_Qi post (Aft G n ad) (wA n ad sz)) 0 0 (wA n ad sz)
def ML (l : Launch) (G : va_G) (tys : List (ClassId × FieldType)) (y : MethodName) (cc : ByteArray) (mL : Nat) (rt : Option FieldType) (fr lo n : Nat) (ad : Nat → Nat) (w : Nat → va_E) (av : List Value) (post : Int64 → (Nat → va_E) → Prop) : Prop := ∀ sz : Nat, Met l y (.code y cc mL rt :: gtb) { frames := fr, cells := 0, slots := 0, locals := lo } (va_Pc av (Pre G tys n ad w sz)) (va_Ql post (Aft G n ad) (wA n ad sz)) 0 0 (wA n ad sz)
def MV (l : Launch) (G : va_G) (tys : List (ClassId × FieldType)) (y : MethodName) (cc : ByteArray) (mL : Nat) (fr lo n : Nat) (ad : Nat → Nat) (w : Nat → va_E) (av : List Value) (post : (Nat → va_E) → Prop) : Prop := ∀ sz : Nat, Met l y (.code y cc mL none :: gtb) { frames := fr, cells := 0, slots := 0, locals := lo } (va_Pc av (Pre G tys n ad w sz)) (va_Qv post (Aft G n ad) (wA n ad sz)) 0 0 (wA n ad sz)
/-- a maker: n cells become n1 -/
def MA (l : Launch) (G : va_G) (tys : List (ClassId × FieldType)) (y : MethodName) (cc : ByteArray) (mL : Nat) (fr lo mc ms n n1 : Nat) (ad : Nat → Nat) (w : Nat → va_E) (av : List Value) (post : (Nat → Nat) → (Nat → va_E) → Prop) : Prop := ∀ sz : Nat, Met l y (.code y cc mL none :: gtb) { frames := fr, cells := mc, slots := ms, locals := lo } (va_Pc av (Pre G tys n ad w sz)) (va_Qv (fun u : (Nat → Nat) × (Nat → va_E) => (∀ k, k < n → u.1 k = ad k) ∧ post u.1 u.2) (fun u t => va_P G vwCl (wl n1 u.1 u.2) t.heap ∧ WD (wA n ad sz) n1 u.1) (wA n ad sz)) mc ms (wA n ad sz)
theorem pre_blind {G : va_G} {tys : List (ClassId × FieldType)} {n sz : Nat} {ad : Nat → Nat} {w : Nat → va_E} {av : List Value} : FrameBlind (va_Pc av (Pre G tys n ad w sz)) := by
  intro a U g mk q
  obtain ⟨q0, q1, qP, qK, qD, qN⟩ := q
  exact ⟨q0, q1, qP, va_K.moved (u := U) (U := U.calling g mk a) (Vm.Alike.refl U.vm) qK, qD, NW.same (s := U) (U := U.calling g mk a) rfl qN⟩
section STARTS
variable {l : Launch} {G : va_G} {tys : List (ClassId × FieldType)} {y : MethodName} {cc : ByteArray} {mL fr lo n mc ms n1 : Nat} {rt : Option FieldType} {ad : Nat → Nat} {w : Nat → va_E} {av : List Value}
theorem mk_any {Qc : Nat → Array Value → State → Outcome → State → Prop} {free : Nat → Nat → Prop} (hy : plainName y.cls = true) (hlen : (lg_sl av).length ≤ mL)
    (body : ∀ (p : Program) (e : Env) (s : State) (m : MethodId) (below : List Frame) (meth : Method) (c : Code) (ls : Array Slot), Fx p m c cc mL s av.toArray y.cls G tys (wA n ad s.heap.size) → WD (wA n ad s.heap.size) n ad → NW s → meth.sig.returnType = rt → meth.locks = false → meth.name = y.name → St G n ad (wA n ad s.heap.size) s.heap w s.heap [] → lv_has ls mL (lv_args 0 av) →
      W p l e { frames := fr, cells := mc, slots := ms, locals := lo } s m av.toArray below meth c s.heap [] 0 0 (MQ below (Qc s.heap.size) av.toArray s mc ms (free s.heap.size)) (F0 m 0 ls [])) (sz : Nat) : Met l y (.code y cc mL rt :: gtb) { frames := fr, cells := mc, slots := ms, locals := lo } (va_Pc av (Pre G tys n ad w sz)) (Qc sz) mc ms (free sz) := by
  refine Met.ofW (cc := cc) (maxL := mL) (ret := rt) hy rfl ?_
  intro p e s m args below meth c s₁ B hml hv
  obtain ⟨rfl, hsz, hP, hK, hD0, hN⟩ := hv
  have hts := atoms_spec (ws := .code y cc mL rt :: gtb) B.pre
  have hl := lv_entry av (n := mL) hlen
  rw [lg_entry_eq]
  subst hsz
  exact body p e s m below meth c _ ⟨⟨B.exec, B.bytes, hml, findClass_of_methodNamed B.named, fun q hq => hts q (List.mem_cons_of_mem _ hq)⟩, hK, fun q hq => Or.inr hq⟩ hD0.self hN B.returns B.notSynchronized (name_of_methodNamed B.named B.method).1 ⟨hP, va_S.rf⟩ hl
theorem mk_i {own : String} {post : Int32 → (Nat → va_E) → Prop} (ho : y.cls = own) (hy : plainName y.cls = true) (hlen : (lg_sl av).length ≤ mL)
    (body : ∀ (p : Program) (e : Env) (s : State) (m : MethodId) (below : List Frame) (meth : Method) (c : Code) (ls : Array Slot), Fx p m c cc mL s av.toArray own G tys (wA n ad s.heap.size) → WD (wA n ad s.heap.size) n ad → NW s → meth.sig.returnType = rt → meth.locks = false → St G n ad (wA n ad s.heap.size) s.heap w s.heap [] → lv_has ls mL (lv_args 0 av) →
      W p l e { frames := fr, cells := 0, slots := 0, locals := lo } s m av.toArray below meth c s.heap [] 0 0 (MQ below (va_Qi post (Aft G n ad) (wA n ad s.heap.size)) av.toArray s 0 0 (wA n ad s.heap.size)) (F0 m 0 ls [])) : MI l G tys y cc mL rt fr lo n ad w av post := by
  subst ho
  exact fun sz => mk_any (Qc := fun sz => va_Qi post (Aft G n ad) (wA n ad sz)) (free := fun sz => wA n ad sz) hy hlen (fun p e s m below meth c ls X hD hN hr hlk _ h hl => body p e s m below meth c ls X hD hN hr hlk h hl) sz
theorem mk_l {own : String} {post : Int64 → (Nat → va_E) → Prop} (ho : y.cls = own) (hy : plainName y.cls = true) (hlen : (lg_sl av).length ≤ mL)
    (body : ∀ (p : Program) (e : Env) (s : State) (m : MethodId) (below : List Frame) (meth : Method) (c : Code) (ls : Array Slot), Fx p m c cc mL s av.toArray own G tys (wA n ad s.heap.size) → WD (wA n ad s.heap.size) n ad → NW s → meth.sig.returnType = rt → meth.locks = false → St G n ad (wA n ad s.heap.size) s.heap w s.heap [] → lv_has ls mL (lv_args 0 av) →
      W p l e { frames := fr, cells := 0, slots := 0, locals := lo } s m av.toArray below meth c s.heap [] 0 0 (MQ below (va_Ql post (Aft G n ad) (wA n ad s.heap.size)) av.toArray s 0 0 (wA n ad s.heap.size)) (F0 m 0 ls [])) : ML l G tys y cc mL rt fr lo n ad w av post := by
  subst ho
  exact fun sz => mk_any (Qc := fun sz => va_Ql post (Aft G n ad) (wA n ad sz)) (free := fun sz => wA n ad sz) hy hlen (fun p e s m below meth c ls X hD hN hr hlk _ h hl => body p e s m below meth c ls X hD hN hr hlk h hl) sz
theorem mk_v {own : String} {post : (Nat → va_E) → Prop} (ho : y.cls = own) (hy : plainName y.cls = true) (hlen : (lg_sl av).length ≤ mL)
    (body : ∀ (p : Program) (e : Env) (s : State) (m : MethodId) (below : List Frame) (meth : Method) (c : Code) (ls : Array Slot), Fx p m c cc mL s av.toArray own G tys (wA n ad s.heap.size) → WD (wA n ad s.heap.size) n ad → NW s → meth.sig.returnType = none → meth.locks = false → St G n ad (wA n ad s.heap.size) s.heap w s.heap [] → lv_has ls mL (lv_args 0 av) →
      W p l e { frames := fr, cells := 0, slots := 0, locals := lo } s m av.toArray below meth c s.heap [] 0 0 (MQ below (va_Qv post (Aft G n ad) (wA n ad s.heap.size)) av.toArray s 0 0 (wA n ad s.heap.size)) (F0 m 0 ls [])) : MV l G tys y cc mL fr lo n ad w av post := by
  subst ho
  exact fun sz => mk_any (Qc := fun sz => va_Qv post (Aft G n ad) (wA n ad sz)) (free := fun sz => wA n ad sz) hy hlen (fun p e s m below meth c ls X hD hN hr hlk _ h hl => body p e s m below meth c ls X hD hN hr hlk h hl) sz
theorem mk_a {own : String} {post : (Nat → Nat) → (Nat → va_E) → Prop} (ho : y.cls = own) (hy : plainName y.cls = true) (hlen : (lg_sl av).length ≤ mL)
    (body : ∀ (p : Program) (e : Env) (s : State) (m : MethodId) (below : List Frame) (meth : Method) (c : Code) (ls : Array Slot), Fx p m c cc mL s av.toArray own G tys (wA n ad s.heap.size) → WD (wA n ad s.heap.size) n ad → NW s → meth.sig.returnType = none → meth.locks = false → meth.name = y.name → St G n ad (wA n ad s.heap.size) s.heap w s.heap [] → lv_has ls mL (lv_args 0 av) →
      W p l e { frames := fr, cells := mc, slots := ms, locals := lo } s m av.toArray below meth c s.heap [] 0 0 (MQ below (va_Qv (fun u : (Nat → Nat) × (Nat → va_E) => (∀ k, k < n → u.1 k = ad k) ∧ post u.1 u.2) (fun u t => va_P G vwCl (wl n1 u.1 u.2) t.heap ∧ WD (wA n ad s.heap.size) n1 u.1) (wA n ad s.heap.size)) av.toArray s mc ms (wA n ad s.heap.size)) (F0 m 0 ls [])) : MA l G tys y cc mL fr lo mc ms n n1 ad w av post := by
  subst ho
  exact fun sz => mk_any (Qc := fun sz => va_Qv (fun u : (Nat → Nat) × (Nat → va_E) => (∀ k, k < n → u.1 k = ad k) ∧ post u.1 u.2) (fun u t => va_P G vwCl (wl n1 u.1 u.2) t.heap ∧ WD (wA n ad sz) n1 u.1) (wA n ad sz)) (free := fun sz => wA n ad sz) hy hlen body sz
end STARTS
/-- the array classes: int, byte, boolean, Isle -/
abbrev tyq (cI cB cZ cO : ClassId) : List (ClassId × FieldType) := [(cI, .int), (cB, .byte), (cZ, .boolean), (cO, .object "NoonShade$Isle")]
section CALLS
variable {p : Program} {l : Launch} {e : Env} {R : Room} {s : State} {m : MethodId} {args : Array Value} {below : List Frame} {meth : Method} {c : Code} {H : Heap} {locs : List Loc} {cells slots : Nat} {Q : State → Prop}
variable {cc : ByteArray} {pc nL n : Nat} {ls : Array Slot} {rest stk : List Value} {own : String} {G : va_G} {tys : List (ClassId × FieldType)} {A : Nat → Prop} {ad : Nat → Nat} {w : Nat → va_E}
/-- the end of a method -/
theorem e_i (X : Fx p m c cc nL s args own G tys A) (h : St G n ad A s.heap w H locs) (hr : meth.sig.returnType = some .int) (hlk : meth.locks = false) {v : Int32} {post : Int32 → (Nat → va_E) → Prop} (hdg : decode cc pc = .ok (.ireturn, 1)) (hp : post v w) : W p l e R s m args below meth c H locs 0 0 (MQ below (va_Qi post (Aft G n ad) A) args s 0 0 A) (F0 m pc ls [.int v]) :=
  W.iret X.1.1 X.1.2.1 hr (fun t ht _ => ⟨⟨v, w, rfl, hp, by show va_P G vwCl (wl n ad w) t.heap; rw [ht]; exact h.1⟩, h.2.F ht⟩) h.2.2.2 hdg hlk
theorem e_z (X : Fx p m c cc nL s args own G tys A) (h : St G n ad A s.heap w H locs) (hr : meth.sig.returnType = some .boolean) (hlk : meth.locks = false) {v : Int32} {post : Int32 → (Nat → va_E) → Prop} (hn : narrow .boolean (.int v) = .int v) (hdg : decode cc pc = .ok (.ireturn, 1)) (hp : post v w) : W p l e R s m args below meth c H locs 0 0 (MQ below (va_Qi post (Aft G n ad) A) args s 0 0 A) (F0 m pc ls [.int v]) :=
  W.zret X.1.1 X.1.2.1 hr hn (fun t ht _ => ⟨⟨v, w, rfl, hp, by show va_P G vwCl (wl n ad w) t.heap; rw [ht]; exact h.1⟩, h.2.F ht⟩) h.2.2.2 hdg hlk
theorem e_l (X : Fx p m c cc nL s args own G tys A) (h : St G n ad A s.heap w H locs) (hr : meth.sig.returnType = some .long) (hlk : meth.locks = false) {v : Int64} {post : Int64 → (Nat → va_E) → Prop} (hdg : decode cc pc = .ok (.lreturn, 1)) (hp : post v w) : W p l e R s m args below meth c H locs 0 0 (MQ below (va_Ql post (Aft G n ad) A) args s 0 0 A) (F0 m pc ls [.long v]) :=
  W.lret X.1.1 X.1.2.1 hr (fun t ht _ => ⟨⟨v, w, rfl, hp, by show va_P G vwCl (wl n ad w) t.heap; rw [ht]; exact h.1⟩, h.2.F ht⟩) h.2.2.2 hdg hlk
theorem e_v (X : Fx p m c cc nL s args own G tys A) (h : St G n ad A s.heap w H locs) (hr : meth.sig.returnType = none) (hlk : meth.locks = false) {post : (Nat → va_E) → Prop} (hdg : decode cc pc = .ok (.return_, 1)) (hp : post w) : W p l e R s m args below meth c H locs 0 0 (MQ below (va_Qv post (Aft G n ad) A) args s 0 0 A) (F0 m pc ls []) :=
  W.vret X.1.1 X.1.2.1 hr (fun t ht _ => ⟨⟨w, rfl, hp, by show va_P G vwCl (wl n ad w) t.heap; rw [ht]; exact h.1⟩, h.2.F ht⟩) h.2.2.2 hdg hlk
theorem e_a {n1 : Nat} {ad1 : Nat → Nat} (X : Fx p m c cc nL s args own G tys A) (hD : WD A n1 ad1) (h : St G n1 ad1 A s.heap w H locs) (hr : meth.sig.returnType = none) (hlk : meth.locks = false) {post : (Nat → Nat) → (Nat → va_E) → Prop} (hdg : decode cc pc = .ok (.return_, 1)) (ho : ∀ k, k < n → ad1 k = ad k) (hp : post ad1 w) : W p l e R s m args below meth c H locs cells slots (MQ below (va_Qv (fun u : (Nat → Nat) × (Nat → va_E) => (∀ k, k < n → u.1 k = ad k) ∧ post u.1 u.2) (fun u t => va_P G vwCl (wl n1 u.1 u.2) t.heap ∧ WD A n1 u.1) A) args s cells slots A) (F0 m pc ls []) :=
  W.vret X.1.1 X.1.2.1 hr (fun t ht _ => ⟨⟨(ad1, w), rfl, ⟨ho, hp⟩, by rw [ht]; exact h.1, hD⟩, h.2.F ht⟩) h.2.2.2 hdg hlk
/-- the callee's words -/
def cwd (own C : String) (idx : Nat) (y : MethodName) (bytes : ByteArray) (mL : Nat) (rt : Option FieldType) : Prop := Cond.methodLink own idx y ∈ gtb ∧ Cond.instanceMethod y ∈ gtb ∧ Cond.selects C y y ∈ gtb ∧ Cond.initialized C ∈ gtb ∧ Cond.code y bytes mL rt ∈ gtb
theorem cwd.good {own C : String} {idx : Nat} {y : MethodName} {bytes : ByteArray} {mL : Nat} {rt : Option FieldType} (h : cwd own C idx y bytes mL rt) : GoodIn gtb (wsV own idx C y (.code y bytes mL rt :: gtb)) := by
  refine gtb_app (fun v hv => ?_) (gtb_cons h.2.2.2.2)
  simp only [List.mem_cons, List.not_mem_nil, or_false] at hv
  rcases hv with rfl | rfl | rfl | rfl
  · exact h.1
  · exact h.2.1
  · exact h.2.2.1
  · exact h.2.2.2.1
def cws (own : String) (idx : Nat) (y : MethodName) (bytes : ByteArray) (mL : Nat) (rt : Option FieldType) : Prop := Cond.methodLink own idx y ∈ gtb ∧ Cond.static y ∈ gtb ∧ Cond.initialized y.cls ∈ gtb ∧ Cond.code y bytes mL rt ∈ gtb
theorem cws.good {own : String} {idx : Nat} {y : MethodName} {bytes : ByteArray} {mL : Nat} {rt : Option FieldType} (h : cws own idx y bytes mL rt) : GoodIn gtb (va_wsS own idx y (.code y bytes mL rt :: gtb)) := by
  refine gtb_app (fun v hv => ?_) (gtb_cons h.2.2.2)
  simp only [List.mem_cons, List.not_mem_nil, or_false] at hv
  rcases hv with rfl | rfl | rfl
  · exact h.1
  · exact h.2.1
  · exact h.2.2.1
def desc (y : MethodName) (na : Nat) : Prop := y.cls ≠ "java/lang/invoke/MethodHandle" ∧ y.cls ≠ "java/lang/invoke/VarHandle" ∧ (parseMethodDescriptor y.desc).map (fun d => d.parameters.length) = some na
variable {y : MethodName} {bytes : ByteArray} {mL fr lo na idx : Nat} {rt : Option FieldType} {As : List Value} {C : String}
theorem pre_go (X : Fx p m c cc nL s args own G tys A) (hD : WD A n ad) (hN : NW s) (h : St G n ad A s.heap w H locs) (av : List Value) : ∀ U : State, U.heap = H → s.WarmedH U.vm → va_Pc av (Pre G tys n ad w H.size) av.toArray U := fun U hU hW =>
  ⟨rfl, by rw [hU], by rw [hU]; exact h.1, va_K.moved hW.alike X.2.1, hD.weaken (fun _ _ => trivial), NW.warm hW hN⟩
theorem q_Vi {post : Int32 → (Nat → va_E) → Prop} {b ci a N : Nat} {T : u_T} {fs : List Value} (X : Fx p m c cc nL s args own G tys A) (hD : WD A n ad) (hN : NW s) (h : St G n ad A s.heap w H locs) (ha : ad b = a) (hM : MI l G tys y bytes mL rt fr lo n ad w (.ref a :: As) post) (hwd : cwd own C idx y bytes mL rt) (hy : y.cls = C) (hd : desc y na) (hR : fr + 1 ≤ R.frames ∧ 8 + (mL + 11) + lo ≤ R.locals) (hc : cells ≤ R.cells ∧ slots ≤ R.slots)
    (hb : b < n) (hw : w b = .inr (ci, fs)) (hcl : vwCl[ci]? = some (C, T, N)) (hn : As.length = na) (hl : ls.size = nL) (hst : stk = As.reverse ++ .ref a :: rest) (hW : (rest.map fun v => v.category).sum ≤ 8) (hdg : decode cc pc = .ok (.invokevirtual idx, 3))
    (kk : ∀ (r : Int32) (w1 : Nat → va_E) (H1 : Heap) (locs1 : List Loc), post r w1 → St G n ad A s.heap w1 H1 locs1 → W p l e R s m args below meth c H1 locs1 cells slots Q (F0 m (pc + 3) ls (.int r :: rest))) : W p l e R s m args below meth c H locs cells slots Q (F0 m pc ls stk) := by
  have hF := hD.free X.2.2 h.2.1
  refine va_calli (va_runV (As := As) (rest := rest) X.1 (hM H.size) (cwV na X.1.2.2.2.2 hwd.good rfl rfl rfl ⟨hy, hd⟩ hR) ⟨pre_blind, va_recv X.2.1 h.1 hcl (by rw [wl_get hb, hw, ha]), pre_go X hD hN h _⟩ rfl hn hl hst (lv_room hW) hdg ⟨hc.1, hc.2⟩) h.2 (fun q _ hq => hF q hq) hF (fun r u t H1 locs1 ht _ hpo hB _ _ hS => kk r u H1 locs1 hpo ⟨by rw [← ht]; exact hB, hS⟩)
theorem q_Vl {post : Int64 → (Nat → va_E) → Prop} {b ci a N : Nat} {T : u_T} {fs : List Value} (X : Fx p m c cc nL s args own G tys A) (hD : WD A n ad) (hN : NW s) (h : St G n ad A s.heap w H locs) (ha : ad b = a) (hM : ML l G tys y bytes mL rt fr lo n ad w (.ref a :: As) post) (hwd : cwd own C idx y bytes mL rt) (hy : y.cls = C) (hd : desc y na) (hR : fr + 1 ≤ R.frames ∧ 8 + (mL + 11) + lo ≤ R.locals) (hc : cells ≤ R.cells ∧ slots ≤ R.slots)
    (hb : b < n) (hw : w b = .inr (ci, fs)) (hcl : vwCl[ci]? = some (C, T, N)) (hn : As.length = na) (hl : ls.size = nL) (hst : stk = As.reverse ++ .ref a :: rest) (hW : (rest.map fun v => v.category).sum ≤ 8) (hdg : decode cc pc = .ok (.invokevirtual idx, 3))
    (kk : ∀ (r : Int64) (w1 : Nat → va_E) (H1 : Heap) (locs1 : List Loc), post r w1 → St G n ad A s.heap w1 H1 locs1 → W p l e R s m args below meth c H1 locs1 cells slots Q (F0 m (pc + 3) ls (.long r :: rest))) : W p l e R s m args below meth c H locs cells slots Q (F0 m pc ls stk) := by
  have hF := hD.free X.2.2 h.2.1
  refine va_calll (va_runV (As := As) (rest := rest) X.1 (hM H.size) (cwV na X.1.2.2.2.2 hwd.good rfl rfl rfl ⟨hy, hd⟩ hR) ⟨pre_blind, va_recv X.2.1 h.1 hcl (by rw [wl_get hb, hw, ha]), pre_go X hD hN h _⟩ rfl hn hl hst (lv_room hW) hdg ⟨hc.1, hc.2⟩) h.2 (fun q _ hq => hF q hq) hF (fun r u t H1 locs1 ht _ hpo hB _ _ hS => kk r u H1 locs1 hpo ⟨by rw [← ht]; exact hB, hS⟩)
theorem q_Vv {post : (Nat → va_E) → Prop} {b ci a N : Nat} {T : u_T} {fs : List Value} (X : Fx p m c cc nL s args own G tys A) (hD : WD A n ad) (hN : NW s) (h : St G n ad A s.heap w H locs) (ha : ad b = a) (hM : MV l G tys y bytes mL fr lo n ad w (.ref a :: As) post) (hwd : cwd own C idx y bytes mL none) (hy : y.cls = C) (hd : desc y na) (hR : fr + 1 ≤ R.frames ∧ 8 + (mL + 11) + lo ≤ R.locals) (hc : cells ≤ R.cells ∧ slots ≤ R.slots)
    (hb : b < n) (hw : w b = .inr (ci, fs)) (hcl : vwCl[ci]? = some (C, T, N)) (hn : As.length = na) (hl : ls.size = nL) (hst : stk = As.reverse ++ .ref a :: rest) (hW : (rest.map fun v => v.category).sum ≤ 8) (hdg : decode cc pc = .ok (.invokevirtual idx, 3))
    (kk : ∀ (w1 : Nat → va_E) (H1 : Heap) (locs1 : List Loc), post w1 → St G n ad A s.heap w1 H1 locs1 → W p l e R s m args below meth c H1 locs1 cells slots Q (F0 m (pc + 3) ls rest)) : W p l e R s m args below meth c H locs cells slots Q (F0 m pc ls stk) := by
  have hF := hD.free X.2.2 h.2.1
  refine va_callv (va_runV (As := As) (rest := rest) X.1 (hM H.size) (cwV na X.1.2.2.2.2 hwd.good rfl rfl rfl ⟨hy, hd⟩ hR) ⟨pre_blind, va_recv X.2.1 h.1 hcl (by rw [wl_get hb, hw, ha]), pre_go X hD hN h _⟩ rfl hn hl hst (lv_room hW) hdg ⟨hc.1, hc.2⟩) h.2 (fun q _ hq => hF q hq) hF (fun u t H1 locs1 ht _ hpo hB _ _ hS => kk u H1 locs1 hpo ⟨by rw [← ht]; exact hB, hS⟩)
theorem q_Si {post : Int32 → (Nat → va_E) → Prop} (X : Fx p m c cc nL s args own G tys A) (hD : WD A n ad) (hN : NW s) (h : St G n ad A s.heap w H locs) (hM : MI l G tys y bytes mL rt fr lo n ad w As post) (hwd : cws own idx y bytes mL rt) (hd : desc y na) (hR : fr + 1 ≤ R.frames ∧ 8 + (mL + 11) + lo ≤ R.locals) (hc : cells ≤ R.cells ∧ slots ≤ R.slots)
    (hn : As.length = na) (hl : ls.size = nL) (hst : stk = As.reverse ++ rest) (hW : (rest.map fun v => v.category).sum ≤ 8) (hdg : decode cc pc = .ok (.invokestatic idx, 3))
    (kk : ∀ (r : Int32) (w1 : Nat → va_E) (H1 : Heap) (locs1 : List Loc), post r w1 → St G n ad A s.heap w1 H1 locs1 → W p l e R s m args below meth c H1 locs1 cells slots Q (F0 m (pc + 3) ls (.int r :: rest))) : W p l e R s m args below meth c H locs cells slots Q (F0 m pc ls stk) := by
  have hF := hD.free X.2.2 h.2.1
  refine va_calli (va_runS (As := As) (rest := rest) X.1 (hM H.size) (va_cwS na X.1.2.2.2.2 hwd.good rfl rfl rfl hd hR) ⟨pre_blind, pre_go X hD hN h _⟩ rfl hn hl hst (lv_room hW) hdg ⟨hc.1, hc.2⟩) h.2 (fun q _ hq => hF q hq) hF (fun r u t H1 locs1 ht _ hpo hB _ _ hS => kk r u H1 locs1 hpo ⟨by rw [← ht]; exact hB, hS⟩)
theorem q_Sv {post : (Nat → va_E) → Prop} (X : Fx p m c cc nL s args own G tys A) (hD : WD A n ad) (hN : NW s) (h : St G n ad A s.heap w H locs) (hM : MV l G tys y bytes mL fr lo n ad w As post) (hwd : cws own idx y bytes mL none) (hd : desc y na) (hR : fr + 1 ≤ R.frames ∧ 8 + (mL + 11) + lo ≤ R.locals) (hc : cells ≤ R.cells ∧ slots ≤ R.slots)
    (hn : As.length = na) (hl : ls.size = nL) (hst : stk = As.reverse ++ rest) (hW : (rest.map fun v => v.category).sum ≤ 8) (hdg : decode cc pc = .ok (.invokestatic idx, 3))
    (kk : ∀ (w1 : Nat → va_E) (H1 : Heap) (locs1 : List Loc), post w1 → St G n ad A s.heap w1 H1 locs1 → W p l e R s m args below meth c H1 locs1 cells slots Q (F0 m (pc + 3) ls rest)) : W p l e R s m args below meth c H locs cells slots Q (F0 m pc ls stk) := by
  have hF := hD.free X.2.2 h.2.1
  refine va_callv (va_runS (As := As) (rest := rest) X.1 (hM H.size) (va_cwS na X.1.2.2.2.2 hwd.good rfl rfl rfl hd hR) ⟨pre_blind, pre_go X hD hN h _⟩ rfl hn hl hst (lv_room hW) hdg ⟨hc.1, hc.2⟩) h.2 (fun q _ hq => hF q hq) hF (fun u t H1 locs1 ht _ hpo hB _ _ hS => kk u H1 locs1 hpo ⟨by rw [← ht]; exact hB, hS⟩)
/-- makers -/
theorem q_A {post : (Nat → Nat) → (Nat → va_E) → Prop} {a mc ms n1 : Nat} (X : Fx p m c cc nL s args own G tys A) (hD : WD A n ad) (hN : NW s) (h : St G n ad A s.heap w H locs) (hM : MA l G tys y bytes mL fr lo mc ms n n1 ad w (.ref a :: As) post) (hl1 : Cond.methodLink own idx y ∈ gtb) (hl2 : Cond.instanceMethod y ∈ gtb) (hl3 : Cond.initialized y.cls ∈ gtb) (hl4 : Cond.code y bytes mL none ∈ gtb) (hy : y.name = "<init>") (hd : desc y na) (hR : fr + 1 ≤ R.frames ∧ 8 + (mL + 11) + lo ≤ R.locals) (hc : cells + mc ≤ R.cells ∧ slots + ms ≤ R.slots)
    (hn : As.length = na) (hl : ls.size = nL) (hst : stk = As.reverse ++ .ref a :: rest) (hW : (rest.map fun v => v.category).sum ≤ 8) (hdg : decode cc pc = .ok (.invokespecial idx, 3))
    (kk : ∀ (ad1 : Nat → Nat) (w1 : Nat → va_E) (H1 : Heap) (locs1 : List Loc), (∀ k, k < n → ad1 k = ad k) → post ad1 w1 → WD A n1 ad1 → St G n1 ad1 A s.heap w1 H1 locs1 → W p l e R s m args below meth c H1 locs1 (cells + mc) (slots + ms) Q (F0 m (pc + 3) ls rest)) : W p l e R s m args below meth c H locs cells slots Q (F0 m pc ls stk) := by
  have hF := hD.free X.2.2 h.2.1
  refine va_callv (va_runI (As := As) (rest := rest) X.1 (hM H.size) (cwI na X.1.2.2.2.2 (gtb_cons hl4) rfl rfl rfl (X.1.2.2.2.2 _ hl3) (X.1.2.2.2.2 _ hl1) (X.1.2.2.2.2 _ hl2) hy hd hR) ⟨pre_blind, pre_go X hD hN h _⟩ rfl hn hl hst (lv_room hW) hdg hc) h.2 (fun q _ hq => hF q hq) hF (fun u t H1 locs1 ht _ hpo hB _ _ hS => kk u.1 u.2 H1 locs1 hpo.1 hpo.2 (hB.2.weaken hF) ⟨by rw [← ht]; exact hB.1, hS⟩)
theorem q_AN {post : (Nat → Nat) → (Nat → va_E) → Prop} {a mc ms n1 : Nat} {host : String} (X : Fx p m c cc nL s args own G tys A) (hD : WD A n ad) (hN : NW s) (h : St G n ad A s.heap w H locs) (hM : MA l G tys y bytes mL fr lo mc ms n n1 ad w (.ref a :: As) post) (hl1 : (own, idx, y, host) ∈ nwq) (hl2 : Cond.instanceMethod y ∈ gtb) (hl3 : Cond.initialized y.cls ∈ gtb) (hl4 : Cond.code y bytes mL none ∈ gtb) (hy : y.name = "<init>") (hd : desc y na) (hR : fr + 1 ≤ R.frames ∧ 8 + (mL + 11) + lo ≤ R.locals) (hc : cells + mc ≤ R.cells ∧ slots + ms ≤ R.slots)
    (hn : As.length = na) (hl : ls.size = nL) (hst : stk = As.reverse ++ .ref a :: rest) (hW : (rest.map fun v => v.category).sum ≤ 8) (hdg : decode cc pc = .ok (.invokespecial idx, 3))
    (kk : ∀ (ad1 : Nat → Nat) (w1 : Nat → va_E) (H1 : Heap) (locs1 : List Loc), (∀ k, k < n → ad1 k = ad k) → post ad1 w1 → WD A n1 ad1 → St G n1 ad1 A s.heap w1 H1 locs1 → W p l e R s m args below meth c H1 locs1 (cells + mc) (slots + ms) Q (F0 m (pc + 3) ls rest)) : W p l e R s m args below meth c H locs cells slots Q (F0 m pc ls stk) := by
  have hF := hD.free X.2.2 h.2.1
  refine va_callv (va_runIN (As := As) (rest := rest) X.1 (hM H.size) ⟨va_cnB na X.1.2.2.2.2 (gtb_cons hl4) rfl rfl rfl (hN.1 _ hl1) (X.1.2.2.2.2 _ hl3) hd hR, hy, X.1.2.2.2.2 _ hl2⟩ ⟨pre_blind, pre_go X hD hN h _⟩ rfl hn hl hst (lv_room hW) hdg hc) h.2 (fun q _ hq => hF q hq) hF (fun u t H1 locs1 ht _ hpo hB _ _ hS => kk u.1 u.2 H1 locs1 hpo.1 hpo.2 (hB.2.weaken hF) ⟨by rw [← ht]; exact hB.1, hS⟩)
end CALLS
end
section
/-! ===== plain facts on ints (kit/laws/NUMBERS) ===== -/
theorem fa_lt (a b : Int32) : a < b ↔ a.toInt < b.toInt := Int32.lt_iff_toInt_lt
theorem fa_le (a b : Int32) : a ≤ b ↔ a.toInt ≤ b.toInt := Int32.le_iff_toInt_le
theorem fa_eq (a b : Int32) : a = b ↔ a.toInt = b.toInt := Int32.toInt_inj.symm
theorem fa_lt64 (a b : Int64) : a < b ↔ a.toInt < b.toInt := Int64.lt_iff_toInt_lt
theorem fa_le64 (a b : Int64) : a ≤ b ↔ a.toInt ≤ b.toInt := Int64.le_iff_toInt_le
theorem fa_eq64 (a b : Int64) : a = b ↔ a.toInt = b.toInt := Int64.toInt_inj.symm
theorem i_le {a b : Int32} {x y : Int} (h : a ≤ b) (hx : a.toInt = x) (hy : b.toInt = y) : x ≤ y := by rw [← hx, ← hy]; exact (fa_le _ _).mp h
theorem i_lt {a b : Int32} {x y : Int} (h : a < b) (hx : a.toInt = x) (hy : b.toInt = y) : x < y := by rw [← hx, ← hy]; exact (fa_lt _ _).mp h
theorem i_eq {a b : Int32} {x y : Int} (h : a = b) (hx : a.toInt = x) (hy : b.toInt = y) : x = y := by rw [← hx, ← hy, h]
theorem i_nle {a b : Int32} {x y : Int} (h : ¬ a ≤ b) (hx : a.toInt = x) (hy : b.toInt = y) : ¬ x ≤ y := by rw [← hx, ← hy]; exact fun q => h ((fa_le _ _).mpr q)
theorem i_nlt {a b : Int32} {x y : Int} (h : ¬ a < b) (hx : a.toInt = x) (hy : b.toInt = y) : ¬ x < y := by rw [← hx, ← hy]; exact fun q => h ((fa_lt _ _).mpr q)
theorem i_ne {a b : Int32} {x y : Int} (h : ¬ a = b) (hx : a.toInt = x) (hy : b.toInt = y) : ¬ x = y := by rw [← hx, ← hy]; exact fun q => h ((fa_eq _ _).mpr q)
theorem in_of {x : Int32} {n : Nat} (h0 : 0 ≤ x.toInt) (h1 : x.toInt < n) : vp_in x n := vp_in_iff.mpr ⟨h0, h1⟩
theorem cl_of {x : Int32} (h0 : 0 ≤ x.toInt) : ((x.toNatClampNeg : Nat) : Int) = x.toInt := by
  show ((x.toInt.toNat : Nat) : Int) = x.toInt
  omega
theorem lcm_lt {x y : Int64} {u v : Int} (h : lg_cmp x y < 0) (hx : x.toInt = u) (hy : y.toInt = v) : u < v := by
  rw [lg_cmp_lt, fa_lt64, hx, hy] at h; exact h
theorem lcm_nlt {x y : Int64} {u v : Int} (h : ¬ lg_cmp x y < 0) (hx : x.toInt = u) (hy : y.toInt = v) : ¬ u < v := by
  rw [lg_cmp_lt, fa_lt64, hx, hy] at h; exact h
theorem lcm_gt {x y : Int64} {u v : Int} (h : 0 < lg_cmp x y) (hx : x.toInt = u) (hy : y.toInt = v) : v < u := by
  rw [lg_cmp_gt, fa_lt64, hx, hy] at h; exact h
theorem lcm_ngt {x y : Int64} {u v : Int} (h : ¬ 0 < lg_cmp x y) (hx : x.toInt = u) (hy : y.toInt = v) : ¬ v < u := by
  rw [lg_cmp_gt, fa_lt64, hx, hy] at h; exact h
theorem lcm_eq {x y : Int64} {u v : Int} (h : lg_cmp x y = 0) (hx : x.toInt = u) (hy : y.toInt = v) : u = v := by
  rw [lg_cmp_eq, fa_eq64, hx, hy] at h; exact h
theorem lcm_ne {x y : Int64} {u v : Int} (h : ¬ lg_cmp x y = 0) (hx : x.toInt = u) (hy : y.toInt = v) : ¬ u = v := by
  rw [lg_cmp_eq, fa_eq64, hx, hy] at h; exact h
section OPS
variable {p : Program} {l : Launch} {e : Env} {R : Room} {s : State} {m : MethodId} {args : Array Value} {below : List Frame} {meth : Method} {c : Code} {H : Heap} {locs : List Loc} {cells slots : Nat} {Q : State → Prop}
variable {cc : ByteArray} {pc nL n : Nat} {ls : Array Slot} {rest stk : List Value} {own : String} {G : va_G} {tys : List (ClassId × FieldType)} {A : Nat → Prop} {ad : Nat → Nat} {w : Nat → va_E}
theorem o_iadd (hx : p.tables.exec = Jvm.exec) (hb : c.code = cc) {x y z : Int32} (hdg : decode cc pc = .ok (.iadd, 1)) (hz : x + y = z) (k : W p l e R s m args below meth c H locs cells slots Q (F0 m (pc + 1) ls (.int z :: rest))) : W p l e R s m args below meth c H locs cells slots Q (F0 m pc ls (.int y :: .int x :: rest)) := by
  subst hz
  exact lv_iadd hx hb hdg k
theorem o_isub (hx : p.tables.exec = Jvm.exec) (hb : c.code = cc) {x y z : Int32} (hdg : decode cc pc = .ok (.isub, 1)) (hz : x - y = z) (k : W p l e R s m args below meth c H locs cells slots Q (F0 m (pc + 1) ls (.int z :: rest))) : W p l e R s m args below meth c H locs cells slots Q (F0 m pc ls (.int y :: .int x :: rest)) := by
  subst hz
  exact lv_isub hx hb hdg k
theorem o_imul (hx : p.tables.exec = Jvm.exec) (hb : c.code = cc) {x y z : Int32} (hdg : decode cc pc = .ok (.imul, 1)) (hz : x * y = z) (k : W p l e R s m args below meth c H locs cells slots Q (F0 m (pc + 1) ls (.int z :: rest))) : W p l e R s m args below meth c H locs cells slots Q (F0 m pc ls (.int y :: .int x :: rest)) := by
  subst hz
  exact lv_imul hx hb hdg k
theorem o_iand (hx : p.tables.exec = Jvm.exec) (hb : c.code = cc) {x y z : Int32} (hdg : decode cc pc = .ok (.iand, 1)) (hz : x &&& y = z) (k : W p l e R s m args below meth c H locs cells slots Q (F0 m (pc + 1) ls (.int z :: rest))) : W p l e R s m args below meth c H locs cells slots Q (F0 m pc ls (.int y :: .int x :: rest)) := by
  subst hz
  exact lv_iand hx hb hdg k
theorem o_ior (hx : p.tables.exec = Jvm.exec) (hb : c.code = cc) {x y z : Int32} (hdg : decode cc pc = .ok (.ior, 1)) (hz : x ||| y = z) (k : W p l e R s m args below meth c H locs cells slots Q (F0 m (pc + 1) ls (.int z :: rest))) : W p l e R s m args below meth c H locs cells slots Q (F0 m pc ls (.int y :: .int x :: rest)) := by
  subst hz
  exact lv_ior hx hb hdg k
theorem o_ishl (hx : p.tables.exec = Jvm.exec) (hb : c.code = cc) {x y z : Int32} (hdg : decode cc pc = .ok (.ishl, 1)) (hz : x <<< (y &&& 31) = z) (k : W p l e R s m args below meth c H locs cells slots Q (F0 m (pc + 1) ls (.int z :: rest))) : W p l e R s m args below meth c H locs cells slots Q (F0 m pc ls (.int y :: .int x :: rest)) := by
  subst hz
  exact lv_ishl hx hb hdg k
theorem o_ishr (hx : p.tables.exec = Jvm.exec) (hb : c.code = cc) {x y z : Int32} (hdg : decode cc pc = .ok (.ishr, 1)) (hz : x >>> (y &&& 31) = z) (k : W p l e R s m args below meth c H locs cells slots Q (F0 m (pc + 1) ls (.int z :: rest))) : W p l e R s m args below meth c H locs cells slots Q (F0 m pc ls (.int y :: .int x :: rest)) := by
  subst hz
  exact lv_ishr hx hb hdg k
theorem o_ladd (hx : p.tables.exec = Jvm.exec) (hb : c.code = cc) {x y z : Int64} (hdg : decode cc pc = .ok (.ladd, 1)) (hz : x + y = z) (k : W p l e R s m args below meth c H locs cells slots Q (F0 m (pc + 1) ls (.long z :: rest))) : W p l e R s m args below meth c H locs cells slots Q (F0 m pc ls (.long y :: .long x :: rest)) := by
  subst hz
  exact lv_ladd hx hb hdg k
theorem o_lsub (hx : p.tables.exec = Jvm.exec) (hb : c.code = cc) {x y z : Int64} (hdg : decode cc pc = .ok (.lsub, 1)) (hz : x - y = z) (k : W p l e R s m args below meth c H locs cells slots Q (F0 m (pc + 1) ls (.long z :: rest))) : W p l e R s m args below meth c H locs cells slots Q (F0 m pc ls (.long y :: .long x :: rest)) := by
  subst hz
  exact lv_lsub hx hb hdg k
theorem o_lmul (hx : p.tables.exec = Jvm.exec) (hb : c.code = cc) {x y z : Int64} (hdg : decode cc pc = .ok (.lmul, 1)) (hz : x * y = z) (k : W p l e R s m args below meth c H locs cells slots Q (F0 m (pc + 1) ls (.long z :: rest))) : W p l e R s m args below meth c H locs cells slots Q (F0 m pc ls (.long y :: .long x :: rest)) := by
  subst hz
  exact lv_lmul hx hb hdg k
theorem o_idiv (hx : p.tables.exec = Jvm.exec) (hb : c.code = cc) {x y z : Int32} (hdg : decode cc pc = .ok (.idiv, 1)) (hne : ¬ y = 0) (hz : x / y = z) (k : W p l e R s m args below meth c H locs cells slots Q (F0 m (pc + 1) ls (.int z :: rest))) : W p l e R s m args below meth c H locs cells slots Q (F0 m pc ls (.int y :: .int x :: rest)) := by
  subst hz
  exact lv_idiv hx hb hdg hne k
theorem o_irem (hx : p.tables.exec = Jvm.exec) (hb : c.code = cc) {x y z : Int32} (hdg : decode cc pc = .ok (.irem, 1)) (hne : ¬ y = 0) (hz : x - x / y * y = z) (k : W p l e R s m args below meth c H locs cells slots Q (F0 m (pc + 1) ls (.int z :: rest))) : W p l e R s m args below meth c H locs cells slots Q (F0 m pc ls (.int y :: .int x :: rest)) := by
  subst hz
  exact lv_irem hx hb hdg hne k
theorem o_ldiv (hx : p.tables.exec = Jvm.exec) (hb : c.code = cc) {x y z : Int64} (hdg : decode cc pc = .ok (.ldiv, 1)) (hne : ¬ y = 0) (hz : x / y = z) (k : W p l e R s m args below meth c H locs cells slots Q (F0 m (pc + 1) ls (.long z :: rest))) : W p l e R s m args below meth c H locs cells slots Q (F0 m pc ls (.long y :: .long x :: rest)) := by
  subst hz
  exact lv_ldiv hx hb hdg hne k
theorem o_lrem (hx : p.tables.exec = Jvm.exec) (hb : c.code = cc) {x y z : Int64} (hdg : decode cc pc = .ok (.lrem, 1)) (hne : ¬ y = 0) (hz : x - x / y * y = z) (k : W p l e R s m args below meth c H locs cells slots Q (F0 m (pc + 1) ls (.long z :: rest))) : W p l e R s m args below meth c H locs cells slots Q (F0 m pc ls (.long y :: .long x :: rest)) := by
  subst hz
  exact lv_lrem hx hb hdg hne k
theorem o_iald (X : Fx p m c cc nL s args own G tys A) (h : St G n ad A s.heap w H locs) (b t0 : Nat) {a N : Nat} {cA : ClassId} {f : Nat → Int32} {i v : Int32} (hb : b < n) (ha : ad b = a) (hw : w b = .inl (cA, N, .inl f)) (ht : tys[t0]? = some (cA, .int)) (hin : vp_in i N) (hv : f i.toNatClampNeg = v) (hdg : decode cc pc = .ok (.iaload, 1))
    (kk : W p l e R s m args below meth c H locs cells slots Q (F0 m (pc + 1) ls (.int v :: rest))) : W p l e R s m args below meth c H locs cells slots Q (F0 m pc ls (.int i :: .ref a :: rest)) := by
  subst hv
  exact r_iald X h b t0 hb ha hw ht hin hdg kk
theorem o_zald (X : Fx p m c cc nL s args own G tys A) (h : St G n ad A s.heap w H locs) (b t0 : Nat) {a N : Nat} {cA : ClassId} {f : Nat → Int32} {i v : Int32} (hb : b < n) (ha : ad b = a) (hw : w b = .inl (cA, N, .inl f)) (ht : tys[t0]? = some (cA, .boolean)) (hin : vp_in i N) (hv : f i.toNatClampNeg = v) (hdg : decode cc pc = .ok (.baload, 1))
    (kk : W p l e R s m args below meth c H locs cells slots Q (F0 m (pc + 1) ls (.int v :: rest))) : W p l e R s m args below meth c H locs cells slots Q (F0 m pc ls (.int i :: .ref a :: rest)) := by
  subst hv
  exact r_zald X h b t0 hb ha hw ht hin hdg kk
theorem o_bald (X : Fx p m c cc nL s args own G tys A) (h : St G n ad A s.heap w H locs) (b t0 : Nat) {a N : Nat} {cA : ClassId} {f : Nat → Int32} {i v : Int32} (hb : b < n) (ha : ad b = a) (hw : w b = .inl (cA, N, .inl f)) (ht : tys[t0]? = some (cA, .byte)) (hin : vp_in i N) (hv : f i.toNatClampNeg = v) (hdg : decode cc pc = .ok (.baload, 1))
    (kk : W p l e R s m args below meth c H locs cells slots Q (F0 m (pc + 1) ls (.int v :: rest))) : W p l e R s m args below meth c H locs cells slots Q (F0 m pc ls (.int i :: .ref a :: rest)) := by
  subst hv
  exact r_bald X h b t0 hb ha hw ht hin hdg kk
theorem o_iast (X : Fx p m c cc nL s args own G tys A) (hD : WD A n ad) (h : St G n ad A s.heap w H locs) (b t0 : Nat) {a N : Nat} {cA : ClassId} {f f1 : Nat → Int32} {i x : Int32} (hb : b < n) (ha : ad b = a) (hw : w b = .inl (cA, N, .inl f)) (ht : tys[t0]? = some (cA, .int)) (hin : vp_in i N) (hf : upd f i.toNatClampNeg x = f1) (hdg : decode cc pc = .ok (.iastore, 1))
    (kk : ∀ (H1 : Heap) (locs1 : List Loc) (w1 : Nat → va_E), w1 = va_up w b (.inl (cA, N, .inl f1)) → St G n ad A s.heap w1 H1 locs1 → W p l e R s m args below meth c H1 locs1 cells slots Q (F0 m (pc + 1) ls rest)) : W p l e R s m args below meth c H locs cells slots Q (F0 m pc ls (.int x :: .int i :: .ref a :: rest)) := by
  subst hf
  exact r_iast X hD h b t0 hb ha hw ht hin hdg kk
theorem o_bast (X : Fx p m c cc nL s args own G tys A) (hD : WD A n ad) (h : St G n ad A s.heap w H locs) (b t0 : Nat) {a N : Nat} {cA : ClassId} {f f1 : Nat → Int32} {i x : Int32} (hb : b < n) (ha : ad b = a) (hw : w b = .inl (cA, N, .inl f)) (ht : tys[t0]? = some (cA, .byte)) (hin : vp_in i N) (hf : upd f i.toNatClampNeg (vp_nar .byte x) = f1) (hdg : decode cc pc = .ok (.bastore, 1))
    (kk : ∀ (H1 : Heap) (locs1 : List Loc) (w1 : Nat → va_E), w1 = va_up w b (.inl (cA, N, .inl f1)) → St G n ad A s.heap w1 H1 locs1 → W p l e R s m args below meth c H1 locs1 cells slots Q (F0 m (pc + 1) ls rest)) : W p l e R s m args below meth c H locs cells slots Q (F0 m pc ls (.int x :: .int i :: .ref a :: rest)) := by
  subst hf
  exact r_bast X hD h b t0 hb ha hw ht hin hdg kk
theorem o_zast (X : Fx p m c cc nL s args own G tys A) (hD : WD A n ad) (h : St G n ad A s.heap w H locs) (b t0 : Nat) {a N : Nat} {cA : ClassId} {f f1 : Nat → Int32} {i x : Int32} (hb : b < n) (ha : ad b = a) (hw : w b = .inl (cA, N, .inl f)) (ht : tys[t0]? = some (cA, .boolean)) (hin : vp_in i N) (hf : upd f i.toNatClampNeg (vp_nar .boolean x) = f1) (hdg : decode cc pc = .ok (.bastore, 1))
    (kk : ∀ (H1 : Heap) (locs1 : List Loc) (w1 : Nat → va_E), w1 = va_up w b (.inl (cA, N, .inl f1)) → St G n ad A s.heap w1 H1 locs1 → W p l e R s m args below meth c H1 locs1 cells slots Q (F0 m (pc + 1) ls rest)) : W p l e R s m args below meth c H locs cells slots Q (F0 m pc ls (.int x :: .int i :: .ref a :: rest)) := by
  subst hf
  exact r_zast X hD h b t0 hb ha hw ht hin hdg kk
/-- System.arraycopy of ints -/
theorem r_copy (X : Fx p m c cc nL s args own G tys A) (hD : WD A n ad) (h : St G n ad A s.heap w H locs) (hl : ls.size = nL) {idx : Nat} (hlk : Cond.methodLink own idx arraycopyName ∈ gtb) (hk2 : Cond.native arraycopyName ∈ gtb) (hk3 : Cond.static arraycopyName ∈ gtb) (hk4 : Cond.initialized "java/lang/System" ∈ gtb) (b0 b1 t0 : Nat) {a0 a1 n0 n1 : Nat} {cA : ClassId} {f g f1 : Nat → Int32} {sp dp k : Int32} (h0 : b0 < n) (h1 : b1 < n) (e0 : ad b0 = a0) (e1 : ad b1 = a1) (hw0 : w b0 = .inl (cA, n0, .inl f)) (hw1 : w b1 = .inl (cA, n1, .inl g)) (ht : tys[t0]? = some (cA, .int)) (g1 : ¬ sp < 0) (g2 : ¬ dp < 0) (g3 : ¬ k < 0) (g4 : sp.toNatClampNeg + k.toNatClampNeg ≤ n0) (g5 : dp.toNatClampNeg + k.toNatClampNeg ≤ n1) (hf : va_cpy f g sp.toNatClampNeg dp.toNatClampNeg k.toNatClampNeg = f1) (hR : 1 ≤ R.frames ∧ (rest.map fun v => v.category).sum + (nativeFrameWords "java/lang/System" "arraycopy" 5 + 11) ≤ R.locals) (hdg : decode cc pc = .ok (.invokestatic idx, 3))
    (kk : ∀ (H1 : Heap) (locs1 : List Loc) (w1 : Nat → va_E), w1 = va_up w b1 (.inl (cA, n1, .inl f1)) → St G n ad A s.heap w1 H1 locs1 → W p l e R s m args below meth c H1 locs1 cells slots Q (F0 m (pc + 3) ls rest)) : W p l e R s m args below meth c H locs cells slots Q (F0 m pc ls (.int k :: .int dp :: .ref a1 :: .int sp :: .ref a0 :: rest)) := by
  subst e0; subst e1; subst hf
  refine va_copyi X.1.1 X.1.2.1 (by rw [X.1.2.2.1, hl]) X.1.2.2.2.1 (X.1.2.2.2.2 _ hlk) (X.1.2.2.2.2 _ hk2) (X.1.2.2.2.2 _ hk3) (X.1.2.2.2.2 _ hk4) X.2.1 h.1 (hD.D w) h.2 b0 b1 t0 t0 (by rw [wl_get h0, hw0]) (by rw [wl_get h1, hw1]) ht ht rfl g1 g2 g3 g4 g5 (fun _ _ => rfl) hR.1 hR.2 hdg (fun H1 locs1 hP _ hS => ?_)
  rw [wl_set h1] at hP
  exact kk H1 locs1 _ rfl ⟨hP, hS⟩
end OPS
theorem kt1 : ∀ w ∈ u_ws "NoonShade$Guess" TX1 1, w ∈ lw_tbl := by decide +kernel
theorem kg1 : ∀ w ∈ u_ws "NoonShade$Guess" TX1 1, goodWord w = true := by decide +kernel
theorem kc1 : KC 0 "NoonShade$Guess" TX1 tyX1 1 := ⟨rfl, fun w h => gtb_mem (kt1 w h) (kg1 w h), tyX1_ok, nmX1⟩
theorem kt2 : ∀ w ∈ u_ws "NoonShade$Isle" TX2 14, w ∈ lw_tbl := by decide +kernel
theorem kg2 : ∀ w ∈ u_ws "NoonShade$Isle" TX2 14, goodWord w = true := by decide +kernel
theorem kc2 : KC 1 "NoonShade$Isle" TX2 tyX2 14 := ⟨rfl, fun w h => gtb_mem (kt2 w h) (kg2 w h), tyX2_ok, nmX2⟩
theorem kt4 : ∀ w ∈ u_ws "NoonShade$Past" TX4 2, w ∈ lw_tbl := by decide +kernel
theorem kg4 : ∀ w ∈ u_ws "NoonShade$Past" TX4 2, goodWord w = true := by decide +kernel
theorem kc4 : KC 2 "NoonShade$Past" TX4 tyX4 2 := ⟨rfl, fun w h => gtb_mem (kt4 w h) (kg4 w h), tyX4_ok, nmX4⟩
theorem kt5 : ∀ w ∈ u_ws "NoonShade$Plan" TX5 6, w ∈ lw_tbl := by decide +kernel
theorem kg5 : ∀ w ∈ u_ws "NoonShade$Plan" TX5 6, goodWord w = true := by decide +kernel
theorem kc5 : KC 3 "NoonShade$Plan" TX5 tyX5 6 := ⟨rfl, fun w h => gtb_mem (kt5 w h) (kg5 w h), tyX5_ok, nmX5⟩
theorem kt6 : ∀ w ∈ u_ws "NoonShade$Rows" TX6 2, w ∈ lw_tbl := by decide +kernel
theorem kg6 : ∀ w ∈ u_ws "NoonShade$Rows" TX6 2, goodWord w = true := by decide +kernel
theorem kc6 : KC 4 "NoonShade$Rows" TX6 tyX6 2 := ⟨rfl, fun w h => gtb_mem (kt6 w h) (kg6 w h), tyX6_ok, nmX6⟩
theorem kt7 : ∀ w ∈ u_ws "NoonShade$Text" TX7 7, w ∈ lw_tbl := by decide +kernel
theorem kg7 : ∀ w ∈ u_ws "NoonShade$Text" TX7 7, goodWord w = true := by decide +kernel
theorem kc7 : KC 5 "NoonShade$Text" TX7 tyX7 7 := ⟨rfl, fun w h => gtb_mem (kt7 w h) (kg7 w h), tyX7_ok, nmX7⟩
theorem kt8 : ∀ w ∈ u_ws "NoonShade" TX8 12, w ∈ lw_tbl := by decide +kernel
theorem kg8 : ∀ w ∈ u_ws "NoonShade" TX8 12, goodWord w = true := by decide +kernel
theorem kc8 : KC 6 "NoonShade" TX8 tyX8 12 := ⟨rfl, fun w h => gtb_mem (kt8 w h) (kg8 w h), tyX8_ok, nmX8⟩
theorem kt9 : ∀ w ∈ u_ws "NoonShadeModel" TX9 17, w ∈ lw_tbl := by decide +kernel
theorem kg9 : ∀ w ∈ u_ws "NoonShadeModel" TX9 17, goodWord w = true := by decide +kernel
theorem kc9 : KC 7 "NoonShadeModel" TX9 tyX9 17 := ⟨rfl, fun w h => gtb_mem (kt9 w h) (kg9 w h), tyX9_ok, nmX9⟩
end
section
theorem kw_0 : Cond.fieldLink "NoonShade$Isle" 57 "NoonShade$Isle" "casters" "I" ∈ gtb := gtb_mem (in_t1 (List.mem_of_getElem? (i := 73) (by decide +kernel))) rfl
theorem kw_1 : Cond.fieldLink "NoonShade$Isle" 60 "NoonShade$Isle" "jars" "I" ∈ gtb := gtb_mem (in_t1 (List.mem_of_getElem? (i := 76) (by decide +kernel))) rfl
theorem kw_2 : Cond.fieldLink "NoonShade" 260 "NoonShade" "fulls" "I" ∈ gtb := gtb_mem (in_t1 (List.mem_of_getElem? (i := 211) (by decide +kernel))) rfl
theorem kw_3 : Cond.fieldLink "NoonShade" 257 "NoonShade" "noes" "I" ∈ gtb := gtb_mem (in_t1 (List.mem_of_getElem? (i := 210) (by decide +kernel))) rfl
theorem kw_4 : Cond.fieldLink "NoonShade" 254 "NoonShade" "bads" "I" ∈ gtb := gtb_mem (in_t1 (List.mem_of_getElem? (i := 209) (by decide +kernel))) rfl
theorem kw_5 : Cond.fieldLink "NoonShade" 10 "NoonShade" "now" "LNoonShade$Isle;" ∈ gtb := gtb_mem (in_t1 (List.mem_of_getElem? (i := 200) (by decide +kernel))) rfl
theorem kw_6 : Cond.methodLink "NoonShade" 108 yX2_hasCaster ∈ gtb := gtb_mem (in_t3 (List.mem_of_getElem? (i := 8) (by decide +kernel))) rfl
theorem kw_7 : Cond.instanceMethod yX2_hasCaster ∈ gtb := gtb_mem (in_t2 (List.mem_of_getElem? (i := 163) (by decide +kernel))) rfl
theorem kw_8 : Cond.selects "NoonShade$Isle" yX2_hasCaster yX2_hasCaster ∈ gtb := gtb_mem (in_t2 (List.mem_of_getElem? (i := 164) (by decide +kernel))) rfl
theorem kw_9 : Cond.initialized "NoonShade$Isle" ∈ gtb := gtb_mem (in_t1 (List.mem_of_getElem? (i := 2) (by decide +kernel))) rfl
theorem kw_10 : Cond.code yX2_hasCaster prog_4_method_4_code 2 (some .boolean) ∈ gtb := gtb_mem (in_t2 (List.mem_of_getElem? (i := 165) (rfl))) rfl
theorem kw_11 : Cond.methodLink "NoonShade" 59 yX8_refused ∈ gtb := gtb_mem (in_t2 (List.mem_of_getElem? (i := 4) (by decide +kernel))) rfl
theorem kw_12 : Cond.instanceMethod yX8_refused ∈ gtb := gtb_mem (in_t2 (List.mem_of_getElem? (i := 6) (by decide +kernel))) rfl
theorem kw_13 : Cond.selects "NoonShade" yX8_refused yX8_refused ∈ gtb := gtb_mem (in_t0 (List.mem_of_getElem? (i := 0) (by decide +kernel))) rfl
theorem kw_14 : Cond.initialized "NoonShade" ∈ gtb := gtb_mem (in_t1 (List.mem_of_getElem? (i := 1) (by decide +kernel))) rfl
theorem kw_15 : Cond.code yX8_refused prog_1_method_39_code 2 (some .int) ∈ gtb := gtb_mem (in_t2 (List.mem_of_getElem? (i := 7) (rfl))) rfl
theorem kw_16 : Cond.methodLink "NoonShade" 112 yX2_hasJar ∈ gtb := gtb_mem (in_t3 (List.mem_of_getElem? (i := 9) (by decide +kernel))) rfl
theorem kw_17 : Cond.instanceMethod yX2_hasJar ∈ gtb := gtb_mem (in_t2 (List.mem_of_getElem? (i := 171) (by decide +kernel))) rfl
theorem kw_18 : Cond.selects "NoonShade$Isle" yX2_hasJar yX2_hasJar ∈ gtb := gtb_mem (in_t2 (List.mem_of_getElem? (i := 172) (by decide +kernel))) rfl
theorem kw_19 : Cond.code yX2_hasJar prog_4_method_5_code 2 (some .boolean) ∈ gtb := gtb_mem (in_t2 (List.mem_of_getElem? (i := 173) (rfl))) rfl
end
section
theorem dX2_hasCaster_0 : decode cX2_hasCaster 0 = .ok (.iload_n 1, 1) := by decide +kernel
theorem dX2_hasCaster_1 : decode cX2_hasCaster 1 = .ok (.ifCond .lt 15, 3) := by decide +kernel
theorem dX2_hasCaster_4 : decode cX2_hasCaster 4 = .ok (.iload_n 1, 1) := by decide +kernel
theorem dX2_hasCaster_5 : decode cX2_hasCaster 5 = .ok (.aload_n 0, 1) := by decide +kernel
theorem dX2_hasCaster_6 : decode cX2_hasCaster 6 = .ok (.getfield 57, 3) := by decide +kernel
theorem dX2_hasCaster_9 : decode cX2_hasCaster 9 = .ok (.if_icmp .ge 7, 3) := by decide +kernel
theorem dX2_hasCaster_12 : decode cX2_hasCaster 12 = .ok (.iconst 1, 1) := by decide +kernel
theorem dX2_hasCaster_13 : decode cX2_hasCaster 13 = .ok (.goto 4, 3) := by decide +kernel
theorem dX2_hasCaster_16 : decode cX2_hasCaster 16 = .ok (.iconst 0, 1) := by decide +kernel
theorem dX2_hasCaster_17 : decode cX2_hasCaster 17 = .ok (.ireturn, 1) := by decide +kernel
theorem dX2_hasJar_0 : decode cX2_hasJar 0 = .ok (.iload_n 1, 1) := by decide +kernel
theorem dX2_hasJar_1 : decode cX2_hasJar 1 = .ok (.ifCond .lt 15, 3) := by decide +kernel
theorem dX2_hasJar_4 : decode cX2_hasJar 4 = .ok (.iload_n 1, 1) := by decide +kernel
theorem dX2_hasJar_5 : decode cX2_hasJar 5 = .ok (.aload_n 0, 1) := by decide +kernel
theorem dX2_hasJar_6 : decode cX2_hasJar 6 = .ok (.getfield 60, 3) := by decide +kernel
theorem dX2_hasJar_9 : decode cX2_hasJar 9 = .ok (.if_icmp .ge 7, 3) := by decide +kernel
theorem dX2_hasJar_12 : decode cX2_hasJar 12 = .ok (.iconst 1, 1) := by decide +kernel
theorem dX2_hasJar_13 : decode cX2_hasJar 13 = .ok (.goto 4, 3) := by decide +kernel
theorem dX2_hasJar_16 : decode cX2_hasJar 16 = .ok (.iconst 0, 1) := by decide +kernel
theorem dX2_hasJar_17 : decode cX2_hasJar 17 = .ok (.ireturn, 1) := by decide +kernel
theorem dX8_about_0 : decode cX8_about 0 = .ok (.aload_n 0, 1) := by decide +kernel
theorem dX8_about_1 : decode cX8_about 1 = .ok (.getfield 10, 3) := by decide +kernel
theorem dX8_about_4 : decode cX8_about 4 = .ok (.iload_n 1, 1) := by decide +kernel
theorem dX8_about_5 : decode cX8_about 5 = .ok (.invokevirtual 112, 3) := by decide +kernel
theorem dX8_about_8 : decode cX8_about 8 = .ok (.ifCond .ne 10, 3) := by decide +kernel
theorem dX8_about_11 : decode cX8_about 11 = .ok (.aload_n 0, 1) := by decide +kernel
theorem dX8_about_12 : decode cX8_about 12 = .ok (.bipush (-2), 2) := by decide +kernel
theorem dX8_about_14 : decode cX8_about 14 = .ok (.invokevirtual 59, 3) := by decide +kernel
theorem dX8_about_17 : decode cX8_about 17 = .ok (.ireturn, 1) := by decide +kernel
theorem dX8_ask_0 : decode cX8_ask 0 = .ok (.aload_n 0, 1) := by decide +kernel
theorem dX8_ask_1 : decode cX8_ask 1 = .ok (.getfield 10, 3) := by decide +kernel
theorem dX8_ask_4 : decode cX8_ask 4 = .ok (.iload_n 1, 1) := by decide +kernel
theorem dX8_ask_5 : decode cX8_ask 5 = .ok (.invokevirtual 112, 3) := by decide +kernel
theorem dX8_ask_8 : decode cX8_ask 8 = .ok (.ifCond .ne 10, 3) := by decide +kernel
theorem dX8_ask_11 : decode cX8_ask 11 = .ok (.aload_n 0, 1) := by decide +kernel
theorem dX8_ask_12 : decode cX8_ask 12 = .ok (.bipush (-2), 2) := by decide +kernel
theorem dX8_ask_14 : decode cX8_ask 14 = .ok (.invokevirtual 59, 3) := by decide +kernel
theorem dX8_ask_17 : decode cX8_ask 17 = .ok (.ireturn, 1) := by decide +kernel
theorem dX8_few_0 : decode cX8_few 0 = .ok (.aload_n 0, 1) := by decide +kernel
theorem dX8_few_1 : decode cX8_few 1 = .ok (.getfield 10, 3) := by decide +kernel
theorem dX8_few_4 : decode cX8_few 4 = .ok (.iload_n 1, 1) := by decide +kernel
theorem dX8_few_5 : decode cX8_few 5 = .ok (.invokevirtual 112, 3) := by decide +kernel
theorem dX8_few_8 : decode cX8_few 8 = .ok (.ifCond .eq 32, 3) := by decide +kernel
theorem dX8_few_40 : decode cX8_few 40 = .ok (.aload_n 0, 1) := by decide +kernel
theorem dX8_few_41 : decode cX8_few 41 = .ok (.bipush (-2), 2) := by decide +kernel
theorem dX8_few_43 : decode cX8_few 43 = .ok (.invokevirtual 59, 3) := by decide +kernel
theorem dX8_few_46 : decode cX8_few 46 = .ok (.ireturn, 1) := by decide +kernel
theorem dX8_gives_0 : decode cX8_gives 0 = .ok (.aload_n 0, 1) := by decide +kernel
theorem dX8_gives_1 : decode cX8_gives 1 = .ok (.getfield 10, 3) := by decide +kernel
theorem dX8_gives_4 : decode cX8_gives 4 = .ok (.iload_n 1, 1) := by decide +kernel
theorem dX8_gives_5 : decode cX8_gives 5 = .ok (.invokevirtual 108, 3) := by decide +kernel
theorem dX8_gives_8 : decode cX8_gives 8 = .ok (.ifCond .eq 13, 3) := by decide +kernel
theorem dX8_gives_21 : decode cX8_gives 21 = .ok (.aload_n 0, 1) := by decide +kernel
theorem dX8_gives_22 : decode cX8_gives 22 = .ok (.bipush (-2), 2) := by decide +kernel
theorem dX8_gives_24 : decode cX8_gives 24 = .ok (.invokevirtual 59, 3) := by decide +kernel
theorem dX8_gives_27 : decode cX8_gives 27 = .ok (.ireturn, 1) := by decide +kernel
theorem dX8_gone_0 : decode cX8_gone 0 = .ok (.aload_n 0, 1) := by decide +kernel
theorem dX8_gone_1 : decode cX8_gone 1 = .ok (.getfield 10, 3) := by decide +kernel
theorem dX8_gone_4 : decode cX8_gone 4 = .ok (.iload_n 1, 1) := by decide +kernel
theorem dX8_gone_5 : decode cX8_gone 5 = .ok (.invokevirtual 112, 3) := by decide +kernel
theorem dX8_gone_8 : decode cX8_gone 8 = .ok (.ifCond .ne 10, 3) := by decide +kernel
theorem dX8_gone_11 : decode cX8_gone 11 = .ok (.aload_n 0, 1) := by decide +kernel
theorem dX8_gone_12 : decode cX8_gone 12 = .ok (.bipush (-2), 2) := by decide +kernel
theorem dX8_gone_14 : decode cX8_gone 14 = .ok (.invokevirtual 59, 3) := by decide +kernel
theorem dX8_gone_17 : decode cX8_gone 17 = .ok (.ireturn, 1) := by decide +kernel
theorem dX8_into_0 : decode cX8_into 0 = .ok (.aload_n 0, 1) := by decide +kernel
theorem dX8_into_1 : decode cX8_into 1 = .ok (.getfield 10, 3) := by decide +kernel
theorem dX8_into_4 : decode cX8_into 4 = .ok (.iload_n 1, 1) := by decide +kernel
theorem dX8_into_5 : decode cX8_into 5 = .ok (.invokevirtual 112, 3) := by decide +kernel
theorem dX8_into_8 : decode cX8_into 8 = .ok (.ifCond .eq 22, 3) := by decide +kernel
theorem dX8_into_30 : decode cX8_into 30 = .ok (.aload_n 0, 1) := by decide +kernel
theorem dX8_into_31 : decode cX8_into 31 = .ok (.bipush (-2), 2) := by decide +kernel
theorem dX8_into_33 : decode cX8_into 33 = .ok (.invokevirtual 59, 3) := by decide +kernel
theorem dX8_into_36 : decode cX8_into 36 = .ok (.ireturn, 1) := by decide +kernel
theorem dX8_is_0 : decode cX8_is 0 = .ok (.aload_n 0, 1) := by decide +kernel
theorem dX8_is_1 : decode cX8_is 1 = .ok (.getfield 10, 3) := by decide +kernel
theorem dX8_is_4 : decode cX8_is 4 = .ok (.iload_n 1, 1) := by decide +kernel
theorem dX8_is_5 : decode cX8_is 5 = .ok (.invokevirtual 108, 3) := by decide +kernel
theorem dX8_is_8 : decode cX8_is 8 = .ok (.ifCond .ne 10, 3) := by decide +kernel
theorem dX8_is_11 : decode cX8_is 11 = .ok (.aload_n 0, 1) := by decide +kernel
theorem dX8_is_12 : decode cX8_is 12 = .ok (.bipush (-2), 2) := by decide +kernel
theorem dX8_is_14 : decode cX8_is 14 = .ok (.invokevirtual 59, 3) := by decide +kernel
theorem dX8_is_17 : decode cX8_is 17 = .ok (.ireturn, 1) := by decide +kernel
theorem dX8_keeps_0 : decode cX8_keeps 0 = .ok (.aload_n 0, 1) := by decide +kernel
theorem dX8_keeps_1 : decode cX8_keeps 1 = .ok (.getfield 10, 3) := by decide +kernel
theorem dX8_keeps_4 : decode cX8_keeps 4 = .ok (.iload_n 1, 1) := by decide +kernel
theorem dX8_keeps_5 : decode cX8_keeps 5 = .ok (.invokevirtual 112, 3) := by decide +kernel
theorem dX8_keeps_8 : decode cX8_keeps 8 = .ok (.ifCond .eq 13, 3) := by decide +kernel
theorem dX8_keeps_21 : decode cX8_keeps 21 = .ok (.aload_n 0, 1) := by decide +kernel
theorem dX8_keeps_22 : decode cX8_keeps 22 = .ok (.bipush (-2), 2) := by decide +kernel
theorem dX8_keeps_24 : decode cX8_keeps 24 = .ok (.invokevirtual 59, 3) := by decide +kernel
theorem dX8_keeps_27 : decode cX8_keeps 27 = .ok (.ireturn, 1) := by decide +kernel
theorem dX8_kinds_0 : decode cX8_kinds 0 = .ok (.aload_n 0, 1) := by decide +kernel
theorem dX8_kinds_1 : decode cX8_kinds 1 = .ok (.getfield 10, 3) := by decide +kernel
theorem dX8_kinds_4 : decode cX8_kinds 4 = .ok (.iload_n 1, 1) := by decide +kernel
theorem dX8_kinds_5 : decode cX8_kinds 5 = .ok (.invokevirtual 112, 3) := by decide +kernel
theorem dX8_kinds_8 : decode cX8_kinds 8 = .ok (.ifCond .ne 10, 3) := by decide +kernel
theorem dX8_kinds_11 : decode cX8_kinds 11 = .ok (.aload_n 0, 1) := by decide +kernel
theorem dX8_kinds_12 : decode cX8_kinds 12 = .ok (.bipush (-2), 2) := by decide +kernel
theorem dX8_kinds_14 : decode cX8_kinds 14 = .ok (.invokevirtual 59, 3) := by decide +kernel
theorem dX8_kinds_17 : decode cX8_kinds 17 = .ok (.ireturn, 1) := by decide +kernel
theorem dX8_ladle_0 : decode cX8_ladle 0 = .ok (.aload_n 0, 1) := by decide +kernel
theorem dX8_ladle_1 : decode cX8_ladle 1 = .ok (.getfield 10, 3) := by decide +kernel
theorem dX8_ladle_4 : decode cX8_ladle 4 = .ok (.iload_n 1, 1) := by decide +kernel
theorem dX8_ladle_5 : decode cX8_ladle 5 = .ok (.invokevirtual 108, 3) := by decide +kernel
theorem dX8_ladle_8 : decode cX8_ladle 8 = .ok (.ifCond .eq 14, 3) := by decide +kernel
theorem dX8_ladle_22 : decode cX8_ladle 22 = .ok (.aload_n 0, 1) := by decide +kernel
theorem dX8_ladle_23 : decode cX8_ladle 23 = .ok (.bipush (-2), 2) := by decide +kernel
theorem dX8_ladle_25 : decode cX8_ladle 25 = .ok (.invokevirtual 59, 3) := by decide +kernel
theorem dX8_ladle_28 : decode cX8_ladle 28 = .ok (.ireturn, 1) := by decide +kernel
theorem dX8_look_0 : decode cX8_look 0 = .ok (.aload_n 0, 1) := by decide +kernel
theorem dX8_look_1 : decode cX8_look 1 = .ok (.getfield 10, 3) := by decide +kernel
theorem dX8_look_4 : decode cX8_look 4 = .ok (.iload_n 1, 1) := by decide +kernel
theorem dX8_look_5 : decode cX8_look 5 = .ok (.invokevirtual 108, 3) := by decide +kernel
theorem dX8_look_8 : decode cX8_look 8 = .ok (.ifCond .ne 10, 3) := by decide +kernel
theorem dX8_look_11 : decode cX8_look 11 = .ok (.aload_n 0, 1) := by decide +kernel
theorem dX8_look_12 : decode cX8_look 12 = .ok (.bipush (-2), 2) := by decide +kernel
theorem dX8_look_14 : decode cX8_look 14 = .ok (.invokevirtual 59, 3) := by decide +kernel
theorem dX8_look_17 : decode cX8_look 17 = .ok (.ireturn, 1) := by decide +kernel
theorem dX8_mark_0 : decode cX8_mark 0 = .ok (.aload_n 0, 1) := by decide +kernel
theorem dX8_mark_1 : decode cX8_mark 1 = .ok (.getfield 10, 3) := by decide +kernel
theorem dX8_mark_4 : decode cX8_mark 4 = .ok (.iload_n 1, 1) := by decide +kernel
theorem dX8_mark_5 : decode cX8_mark 5 = .ok (.invokevirtual 112, 3) := by decide +kernel
theorem dX8_mark_8 : decode cX8_mark 8 = .ok (.ifCond .eq 34, 3) := by decide +kernel
theorem dX8_mark_42 : decode cX8_mark 42 = .ok (.aload_n 0, 1) := by decide +kernel
theorem dX8_mark_43 : decode cX8_mark 43 = .ok (.bipush (-2), 2) := by decide +kernel
theorem dX8_mark_45 : decode cX8_mark 45 = .ok (.invokevirtual 59, 3) := by decide +kernel
theorem dX8_mark_48 : decode cX8_mark 48 = .ok (.ireturn, 1) := by decide +kernel
theorem dX8_note_0 : decode cX8_note 0 = .ok (.aload_n 0, 1) := by decide +kernel
theorem dX8_note_1 : decode cX8_note 1 = .ok (.getfield 10, 3) := by decide +kernel
theorem dX8_note_4 : decode cX8_note 4 = .ok (.iload_n 1, 1) := by decide +kernel
theorem dX8_note_5 : decode cX8_note 5 = .ok (.invokevirtual 108, 3) := by decide +kernel
theorem dX8_note_8 : decode cX8_note 8 = .ok (.ifCond .eq 34, 3) := by decide +kernel
theorem dX8_note_42 : decode cX8_note 42 = .ok (.aload_n 0, 1) := by decide +kernel
theorem dX8_note_43 : decode cX8_note 43 = .ok (.bipush (-2), 2) := by decide +kernel
theorem dX8_note_45 : decode cX8_note 45 = .ok (.invokevirtual 59, 3) := by decide +kernel
theorem dX8_note_48 : decode cX8_note 48 = .ok (.ireturn, 1) := by decide +kernel
theorem dX8_of_0 : decode cX8_of 0 = .ok (.aload_n 0, 1) := by decide +kernel
theorem dX8_of_1 : decode cX8_of 1 = .ok (.getfield 10, 3) := by decide +kernel
theorem dX8_of_4 : decode cX8_of 4 = .ok (.iload_n 1, 1) := by decide +kernel
theorem dX8_of_5 : decode cX8_of 5 = .ok (.invokevirtual 108, 3) := by decide +kernel
theorem dX8_of_8 : decode cX8_of 8 = .ok (.ifCond .ne 10, 3) := by decide +kernel
theorem dX8_of_11 : decode cX8_of 11 = .ok (.aload_n 0, 1) := by decide +kernel
theorem dX8_of_12 : decode cX8_of 12 = .ok (.bipush (-2), 2) := by decide +kernel
theorem dX8_of_14 : decode cX8_of 14 = .ok (.invokevirtual 59, 3) := by decide +kernel
theorem dX8_of_17 : decode cX8_of 17 = .ok (.ireturn, 1) := by decide +kernel
theorem dX8_pours_0 : decode cX8_pours 0 = .ok (.aload_n 0, 1) := by decide +kernel
theorem dX8_pours_1 : decode cX8_pours 1 = .ok (.getfield 10, 3) := by decide +kernel
theorem dX8_pours_4 : decode cX8_pours 4 = .ok (.iload_n 1, 1) := by decide +kernel
theorem dX8_pours_5 : decode cX8_pours 5 = .ok (.invokevirtual 112, 3) := by decide +kernel
theorem dX8_pours_8 : decode cX8_pours 8 = .ok (.ifCond .eq 19, 3) := by decide +kernel
theorem dX8_pours_27 : decode cX8_pours 27 = .ok (.aload_n 0, 1) := by decide +kernel
theorem dX8_pours_28 : decode cX8_pours 28 = .ok (.bipush (-2), 2) := by decide +kernel
theorem dX8_pours_30 : decode cX8_pours 30 = .ok (.invokevirtual 59, 3) := by decide +kernel
theorem dX8_pours_33 : decode cX8_pours 33 = .ok (.ireturn, 1) := by decide +kernel
theorem dX8_refused_0 : decode cX8_refused 0 = .ok (.iload_n 1, 1) := by decide +kernel
theorem dX8_refused_1 : decode cX8_refused 1 = .ok (.bipush (-2), 2) := by decide +kernel
theorem dX8_refused_3 : decode cX8_refused 3 = .ok (.if_icmp .ne 16, 3) := by decide +kernel
theorem dX8_refused_6 : decode cX8_refused 6 = .ok (.aload_n 0, 1) := by decide +kernel
theorem dX8_refused_7 : decode cX8_refused 7 = .ok (.dup, 1) := by decide +kernel
theorem dX8_refused_8 : decode cX8_refused 8 = .ok (.getfield 254, 3) := by decide +kernel
theorem dX8_refused_11 : decode cX8_refused 11 = .ok (.iconst 1, 1) := by decide +kernel
theorem dX8_refused_12 : decode cX8_refused 12 = .ok (.iadd, 1) := by decide +kernel
theorem dX8_refused_13 : decode cX8_refused 13 = .ok (.putfield 254, 3) := by decide +kernel
theorem dX8_refused_16 : decode cX8_refused 16 = .ok (.goto 32, 3) := by decide +kernel
theorem dX8_refused_19 : decode cX8_refused 19 = .ok (.iload_n 1, 1) := by decide +kernel
theorem dX8_refused_20 : decode cX8_refused 20 = .ok (.bipush (-3), 2) := by decide +kernel
theorem dX8_refused_22 : decode cX8_refused 22 = .ok (.if_icmp .ne 16, 3) := by decide +kernel
theorem dX8_refused_25 : decode cX8_refused 25 = .ok (.aload_n 0, 1) := by decide +kernel
theorem dX8_refused_26 : decode cX8_refused 26 = .ok (.dup, 1) := by decide +kernel
theorem dX8_refused_27 : decode cX8_refused 27 = .ok (.getfield 257, 3) := by decide +kernel
theorem dX8_refused_30 : decode cX8_refused 30 = .ok (.iconst 1, 1) := by decide +kernel
theorem dX8_refused_31 : decode cX8_refused 31 = .ok (.iadd, 1) := by decide +kernel
theorem dX8_refused_32 : decode cX8_refused 32 = .ok (.putfield 257, 3) := by decide +kernel
theorem dX8_refused_35 : decode cX8_refused 35 = .ok (.goto 13, 3) := by decide +kernel
theorem dX8_refused_38 : decode cX8_refused 38 = .ok (.aload_n 0, 1) := by decide +kernel
theorem dX8_refused_39 : decode cX8_refused 39 = .ok (.dup, 1) := by decide +kernel
theorem dX8_refused_40 : decode cX8_refused 40 = .ok (.getfield 260, 3) := by decide +kernel
theorem dX8_refused_43 : decode cX8_refused 43 = .ok (.iconst 1, 1) := by decide +kernel
theorem dX8_refused_44 : decode cX8_refused 44 = .ok (.iadd, 1) := by decide +kernel
theorem dX8_refused_45 : decode cX8_refused 45 = .ok (.putfield 260, 3) := by decide +kernel
theorem dX8_refused_48 : decode cX8_refused 48 = .ok (.iload_n 1, 1) := by decide +kernel
theorem dX8_refused_49 : decode cX8_refused 49 = .ok (.ireturn, 1) := by decide +kernel
theorem dX8_round_0 : decode cX8_round 0 = .ok (.aload_n 0, 1) := by decide +kernel
theorem dX8_round_1 : decode cX8_round 1 = .ok (.getfield 10, 3) := by decide +kernel
theorem dX8_round_4 : decode cX8_round 4 = .ok (.iload_n 1, 1) := by decide +kernel
theorem dX8_round_5 : decode cX8_round 5 = .ok (.invokevirtual 112, 3) := by decide +kernel
theorem dX8_round_8 : decode cX8_round 8 = .ok (.ifCond .eq 22, 3) := by decide +kernel
theorem dX8_round_30 : decode cX8_round 30 = .ok (.aload_n 0, 1) := by decide +kernel
theorem dX8_round_31 : decode cX8_round 31 = .ok (.bipush (-2), 2) := by decide +kernel
theorem dX8_round_33 : decode cX8_round 33 = .ok (.invokevirtual 59, 3) := by decide +kernel
theorem dX8_round_36 : decode cX8_round 36 = .ok (.pop, 1) := by decide +kernel
theorem dX8_round_37 : decode cX8_round 37 = .ok (.bipush (-10), 2) := by decide +kernel
theorem dX8_round_39 : decode cX8_round 39 = .ok (.ireturn, 1) := by decide +kernel
theorem dX8_sells_0 : decode cX8_sells 0 = .ok (.aload_n 0, 1) := by decide +kernel
theorem dX8_sells_1 : decode cX8_sells 1 = .ok (.getfield 10, 3) := by decide +kernel
theorem dX8_sells_4 : decode cX8_sells 4 = .ok (.iload_n 1, 1) := by decide +kernel
theorem dX8_sells_5 : decode cX8_sells 5 = .ok (.invokevirtual 112, 3) := by decide +kernel
theorem dX8_sells_8 : decode cX8_sells 8 = .ok (.ifCond .ne 10, 3) := by decide +kernel
theorem dX8_sells_11 : decode cX8_sells 11 = .ok (.aload_n 0, 1) := by decide +kernel
theorem dX8_sells_12 : decode cX8_sells 12 = .ok (.bipush (-2), 2) := by decide +kernel
theorem dX8_sells_14 : decode cX8_sells 14 = .ok (.invokevirtual 59, 3) := by decide +kernel
theorem dX8_sells_17 : decode cX8_sells 17 = .ok (.ireturn, 1) := by decide +kernel
theorem dX8_spilt_0 : decode cX8_spilt 0 = .ok (.aload_n 0, 1) := by decide +kernel
theorem dX8_spilt_1 : decode cX8_spilt 1 = .ok (.getfield 10, 3) := by decide +kernel
theorem dX8_spilt_4 : decode cX8_spilt 4 = .ok (.iload_n 1, 1) := by decide +kernel
theorem dX8_spilt_5 : decode cX8_spilt 5 = .ok (.invokevirtual 112, 3) := by decide +kernel
theorem dX8_spilt_8 : decode cX8_spilt 8 = .ok (.ifCond .eq 33, 3) := by decide +kernel
theorem dX8_spilt_41 : decode cX8_spilt 41 = .ok (.aload_n 0, 1) := by decide +kernel
theorem dX8_spilt_42 : decode cX8_spilt 42 = .ok (.bipush (-2), 2) := by decide +kernel
theorem dX8_spilt_44 : decode cX8_spilt 44 = .ok (.invokevirtual 59, 3) := by decide +kernel
theorem dX8_spilt_47 : decode cX8_spilt 47 = .ok (.ireturn, 1) := by decide +kernel
theorem dX8_when_0 : decode cX8_when 0 = .ok (.aload_n 0, 1) := by decide +kernel
theorem dX8_when_1 : decode cX8_when 1 = .ok (.getfield 10, 3) := by decide +kernel
theorem dX8_when_4 : decode cX8_when 4 = .ok (.iload_n 1, 1) := by decide +kernel
theorem dX8_when_5 : decode cX8_when 5 = .ok (.invokevirtual 108, 3) := by decide +kernel
theorem dX8_when_8 : decode cX8_when 8 = .ok (.ifCond .ne 10, 3) := by decide +kernel
theorem dX8_when_11 : decode cX8_when 11 = .ok (.aload_n 0, 1) := by decide +kernel
theorem dX8_when_12 : decode cX8_when 12 = .ok (.bipush (-2), 2) := by decide +kernel
theorem dX8_when_14 : decode cX8_when 14 = .ok (.invokevirtual 59, 3) := by decide +kernel
theorem dX8_when_17 : decode cX8_when 17 = .ok (.ireturn, 1) := by decide +kernel
theorem dX8_within_0 : decode cX8_within 0 = .ok (.iload_n 0, 1) := by decide +kernel
theorem dX8_within_1 : decode cX8_within 1 = .ok (.iload_n 1, 1) := by decide +kernel
theorem dX8_within_2 : decode cX8_within 2 = .ok (.if_icmp .lt 12, 3) := by decide +kernel
theorem dX8_within_5 : decode cX8_within 5 = .ok (.iload_n 0, 1) := by decide +kernel
theorem dX8_within_6 : decode cX8_within 6 = .ok (.iload_n 2, 1) := by decide +kernel
theorem dX8_within_7 : decode cX8_within 7 = .ok (.if_icmp .gt 7, 3) := by decide +kernel
theorem dX8_within_10 : decode cX8_within 10 = .ok (.iconst 1, 1) := by decide +kernel
theorem dX8_within_11 : decode cX8_within 11 = .ok (.goto 4, 3) := by decide +kernel
theorem dX8_within_14 : decode cX8_within 14 = .ok (.iconst 0, 1) := by decide +kernel
theorem dX8_within_15 : decode cX8_within 15 = .ok (.ireturn, 1) := by decide +kernel
end
section
def fr0 (cI cB cZ cO : ClassId) (ad : Nat → Nat) : Nat → va_E := fun k => match k with
  | 0 => .inr (6, [.ref (ad 1), .ref (ad 14), .ref (ad 27), .ref (ad 54), .ref (ad 55), .ref (ad 58), .ref (ad 62), .long 0, .long 1, .int 0, .int 0, .int 0])
  | 1 => .inr (1, [.int 0, .int 0, .int 0, .int 0, .int 0, .ref (ad 2), .ref (ad 3), .ref (ad 4), .ref (ad 5), .ref (ad 6), .ref (ad 7), .ref (ad 8), .ref (ad 10), .ref (ad 12)])
  | 2 => .inl (cI, 7, .inl (fun _ => 0))
  | 3 => .inl (cI, 7, .inl (fun _ => 0))
  | 4 => .inl (cI, 7, .inl (fun _ => 0))
  | 5 => .inl (cI, 4, .inl (fun _ => 0))
  | 6 => .inl (cI, 4, .inl (fun _ => 0))
  | 7 => .inl (cI, 4, .inl (fun _ => 0))
  | 8 => .inr (4, [.ref (ad 9), .int 0])
  | 9 => .inl (cI, 24, .inl (fun _ => 0))
  | 10 => .inr (4, [.ref (ad 11), .int 0])
  | 11 => .inl (cI, 24, .inl (fun _ => 0))
  | 12 => .inr (2, [.ref (ad 13), .int 0])
  | 13 => .inl (cI, 88, .inl (fun _ => 0))
  | 14 => .inr (1, [.int 0, .int 0, .int 0, .int 0, .int 0, .ref (ad 15), .ref (ad 16), .ref (ad 17), .ref (ad 18), .ref (ad 19), .ref (ad 20), .ref (ad 21), .ref (ad 23), .ref (ad 25)])
  | 15 => .inl (cI, 7, .inl (fun _ => 0))
  | 16 => .inl (cI, 7, .inl (fun _ => 0))
  | 17 => .inl (cI, 7, .inl (fun _ => 0))
  | 18 => .inl (cI, 4, .inl (fun _ => 0))
  | 19 => .inl (cI, 4, .inl (fun _ => 0))
  | 20 => .inl (cI, 4, .inl (fun _ => 0))
  | 21 => .inr (4, [.ref (ad 22), .int 0])
  | 22 => .inl (cI, 24, .inl (fun _ => 0))
  | 23 => .inr (4, [.ref (ad 24), .int 0])
  | 24 => .inl (cI, 24, .inl (fun _ => 0))
  | 25 => .inr (2, [.ref (ad 26), .int 0])
  | 26 => .inl (cI, 88, .inl (fun _ => 0))
  | 27 => .inl (cO, 2, .inr (.inr (.inr (.inr (fun k => if k = 0 then some (ad 28) else if k = 1 then some (ad 41) else none)))))
  | 28 => .inr (1, [.int 0, .int 0, .int 0, .int 0, .int 0, .ref (ad 29), .ref (ad 30), .ref (ad 31), .ref (ad 32), .ref (ad 33), .ref (ad 34), .ref (ad 35), .ref (ad 37), .ref (ad 39)])
  | 29 => .inl (cI, 7, .inl (fun _ => 0))
  | 30 => .inl (cI, 7, .inl (fun _ => 0))
  | 31 => .inl (cI, 7, .inl (fun _ => 0))
  | 32 => .inl (cI, 4, .inl (fun _ => 0))
  | 33 => .inl (cI, 4, .inl (fun _ => 0))
  | 34 => .inl (cI, 4, .inl (fun _ => 0))
  | 35 => .inr (4, [.ref (ad 36), .int 0])
  | 36 => .inl (cI, 24, .inl (fun _ => 0))
  | 37 => .inr (4, [.ref (ad 38), .int 0])
  | 38 => .inl (cI, 24, .inl (fun _ => 0))
  | 39 => .inr (2, [.ref (ad 40), .int 0])
  | 40 => .inl (cI, 88, .inl (fun _ => 0))
  | 41 => .inr (1, [.int 0, .int 0, .int 0, .int 0, .int 0, .ref (ad 42), .ref (ad 43), .ref (ad 44), .ref (ad 45), .ref (ad 46), .ref (ad 47), .ref (ad 48), .ref (ad 50), .ref (ad 52)])
  | 42 => .inl (cI, 7, .inl (fun _ => 0))
  | 43 => .inl (cI, 7, .inl (fun _ => 0))
  | 44 => .inl (cI, 7, .inl (fun _ => 0))
  | 45 => .inl (cI, 4, .inl (fun _ => 0))
  | 46 => .inl (cI, 4, .inl (fun _ => 0))
  | 47 => .inl (cI, 4, .inl (fun _ => 0))
  | 48 => .inr (4, [.ref (ad 49), .int 0])
  | 49 => .inl (cI, 24, .inl (fun _ => 0))
  | 50 => .inr (4, [.ref (ad 51), .int 0])
  | 51 => .inl (cI, 24, .inl (fun _ => 0))
  | 52 => .inr (2, [.ref (ad 53), .int 0])
  | 53 => .inl (cI, 88, .inl (fun _ => 0))
  | 54 => .inl (cZ, 2, .inl (fun _ => 0))
  | 55 => .inr (5, [.ref (ad 56), .ref (ad 57), .int 0, .int 0, .int 0, .int 0, .int 0])
  | 56 => .inl (cB, 150, .inl (fun _ => 0))
  | 57 => .inl (cI, 3, .inl (fun _ => 0))
  | 58 => .inr (3, [.ref (ad 59), .ref (ad 60), .ref (ad 61), .int 0, .int 0, .int 0])
  | 59 => .inl (cI, 28, .inl (fun _ => 0))
  | 60 => .inl (cI, 244, .inl (fun _ => 0))
  | 61 => .inl (cI, 4, .inl (fun _ => 0))
  | 62 => .inr (0, [.ref (ad 63)])
  | 63 => .inl (cI, 6, .inl (fun _ => 0))
  | 64 => .inr (7, [.ref (ad 65), .ref (ad 66), .ref (ad 67), .ref (ad 68), .long 0, .long 1, .ref (ad 69), .int 0, .ref (ad 70), .ref (ad 71), .int 0, .int 0, .int 0, .int 0, .int 0, .ref (ad 72), .ref (ad 73)])
  | 65 => .inl (cI, 177, .inl (fun _ => 0))
  | 66 => .inl (cI, 354, .inl (fun _ => 0))
  | 67 => .inl (cZ, 2, .inl (fun _ => 0))
  | 68 => .inl (cI, 3, .inl (fun _ => 0))
  | 69 => .inl (cI, 41, .inl (fun _ => 0))
  | 70 => .inl (cI, 6, .inl (fun _ => 0))
  | 71 => .inl (cI, 150, .inl (fun _ => 0))
  | 72 => .inl (cI, 89, .inl (fun _ => 0))
  | _ => .inl (cI, 3, .inl (fun _ => 0))
end
section
set_option maxHeartbeats 4000000 in
set_option maxRecDepth 100000 in
theorem c_within (l : Launch) (G : va_G) (cI cB cZ cO : ClassId) (ad : Nat → Nat) (w : Nat → va_E) (v lo hi : Int32) (a b : Int) (ha : lo.toInt = a) (hb2 : hi.toInt = b) : MI l G (tyq cI cB cZ cO) yX8_within cX8_within 3 (some .boolean) 0 0 74 ad w [.int v, .int lo, .int hi] (fun r w1 => w1 = w ∧ ((a ≤ v.toInt ∧ v.toInt ≤ b ∧ r = 1) ∨ (¬ (a ≤ v.toInt ∧ v.toInt ≤ b) ∧ r = 0))) := by
  refine mk_i (own := "NoonShade") rfl (by decide) (Nat.le_of_ble_eq_true rfl) ?_
  intro p e s m below meth c ls X hD hN hr hlk h hl
  have hx := X.1.1
  have hb := X.1.2.1
  have hown := X.1.2.2.2.1
  have hts := X.1.2.2.2.2
  have hl : lv_has ls 3 [(0, .int v), (1, .int lo), (2, .int hi)] := hl
  refine lv_iload_n hx hb dX8_within_0 rfl (lv_at hl 0 rfl) ?_
  refine lv_iload_n hx hb dX8_within_1 rfl (lv_at hl 1 rfl) ?_
  refine lv_icmp_lt (tgt := 14) hx hb dX8_within_2 (by decide) (fun hc1 => ?_) (fun hc1 => ?_)
  · have hc1 : (v).toInt < a := i_lt hc1 rfl ha
    refine lv_iconst (v := 0) hx hb dX8_within_14 (by decide) ?_
    exact e_z X h hr hlk rfl dX8_within_15 ⟨rfl, Or.inr ⟨by omega, rfl⟩⟩
  · have hc1 : ¬ (v).toInt < a := i_nlt hc1 rfl ha
    refine lv_iload_n hx hb dX8_within_5 rfl (lv_at hl 0 rfl) ?_
    refine lv_iload_n hx hb dX8_within_6 rfl (lv_at hl 2 rfl) ?_
    refine lv_icmp_gt (tgt := 14) hx hb dX8_within_7 (by decide) (fun hc2 => ?_) (fun hc2 => ?_)
    · have hc2 : b < (v).toInt := i_lt hc2 hb2 rfl
      refine lv_iconst (v := 0) hx hb dX8_within_14 (by decide) ?_
      exact e_z X h hr hlk rfl dX8_within_15 ⟨rfl, Or.inr ⟨by omega, rfl⟩⟩
    · have hc2 : ¬ b < (v).toInt := i_nlt hc2 hb2 rfl
      refine lv_iconst (v := 1) hx hb dX8_within_10 (by decide) ?_
      refine lv_goto (tgt := 15) hx hb dX8_within_11 (by decide) ?_
      exact e_z X h hr hlk rfl dX8_within_15 ⟨rfl, Or.inl ⟨by omega, by omega, rfl⟩⟩

set_option maxHeartbeats 4000000 in
set_option maxRecDepth 100000 in
theorem c_hasCaster (l : Launch) (G : va_G) (cI cB cZ cO : ClassId) (ad : Nat → Nat) (w : Nat → va_E) (b : Nat) (q0 q1 q2 q3 q4 : Int32) (fs : List Value) (i : Int32) (a : Int) (ha : q3.toInt = a) (hb0 : b < 74) (f : w b = .inr (1, .int q0 :: .int q1 :: .int q2 :: .int q3 :: .int q4 :: fs)) : MI l G (tyq cI cB cZ cO) yX2_hasCaster cX2_hasCaster 2 (some .boolean) 0 0 74 ad w [.ref (ad b), .int i] (fun r w1 => w1 = w ∧ ((0 ≤ i.toInt ∧ i.toInt < a ∧ r = 1) ∨ (¬ (0 ≤ i.toInt ∧ i.toInt < a) ∧ r = 0))) := by
  refine mk_i (own := "NoonShade$Isle") rfl (by decide) (Nat.le_of_ble_eq_true rfl) ?_
  intro p e s m below meth c ls X hD hN hr hlk h hl
  have hx := X.1.1
  have hb := X.1.2.1
  have hown := X.1.2.2.2.1
  have hts := X.1.2.2.2.2
  have hl : lv_has ls 2 [(0, .ref (ad b)), (1, .int i)] := hl
  refine lv_iload_n hx hb dX2_hasCaster_0 rfl (lv_at hl 1 rfl) ?_
  refine lv_if_lt (tgt := 16) hx hb dX2_hasCaster_1 (by decide) (fun hc1 => ?_) (fun hc1 => ?_)
  · have hc1 : (i).toInt < 0 := i_lt hc1 rfl rfl
    refine lv_iconst (v := 0) hx hb dX2_hasCaster_16 (by decide) ?_
    exact e_z X h hr hlk rfl dX2_hasCaster_17 ⟨rfl, Or.inr ⟨by omega, rfl⟩⟩
  · have hc1 : ¬ (i).toInt < 0 := i_nlt hc1 rfl rfl
    refine lv_iload_n hx hb dX2_hasCaster_4 rfl (lv_at hl 1 rfl) ?_
    refine lv_aload_n hx hb dX2_hasCaster_5 rfl (lv_at hl 0 rfl) ?_
    refine r_get kc2 X h b 3 (by omega) rfl f (by decide) kw_0 rfl dX2_hasCaster_6 ?_
    refine lv_icmp_ge (tgt := 16) hx hb dX2_hasCaster_9 (by decide) (fun hc2 => ?_) (fun hc2 => ?_)
    · have hc2 : a ≤ (i).toInt := i_le hc2 ha rfl
      refine lv_iconst (v := 0) hx hb dX2_hasCaster_16 (by decide) ?_
      exact e_z X h hr hlk rfl dX2_hasCaster_17 ⟨rfl, Or.inr ⟨by omega, rfl⟩⟩
    · have hc2 : ¬ a ≤ (i).toInt := i_nle hc2 ha rfl
      refine lv_iconst (v := 1) hx hb dX2_hasCaster_12 (by decide) ?_
      refine lv_goto (tgt := 17) hx hb dX2_hasCaster_13 (by decide) ?_
      exact e_z X h hr hlk rfl dX2_hasCaster_17 ⟨rfl, Or.inl ⟨by omega, by omega, rfl⟩⟩

set_option maxHeartbeats 4000000 in
set_option maxRecDepth 100000 in
theorem c_hasJar (l : Launch) (G : va_G) (cI cB cZ cO : ClassId) (ad : Nat → Nat) (w : Nat → va_E) (b : Nat) (q0 q1 q2 q3 q4 : Int32) (fs : List Value) (i : Int32) (a : Int) (ha : q4.toInt = a) (hb0 : b < 74) (f : w b = .inr (1, .int q0 :: .int q1 :: .int q2 :: .int q3 :: .int q4 :: fs)) : MI l G (tyq cI cB cZ cO) yX2_hasJar cX2_hasJar 2 (some .boolean) 0 0 74 ad w [.ref (ad b), .int i] (fun r w1 => w1 = w ∧ ((0 ≤ i.toInt ∧ i.toInt < a ∧ r = 1) ∨ (¬ (0 ≤ i.toInt ∧ i.toInt < a) ∧ r = 0))) := by
  refine mk_i (own := "NoonShade$Isle") rfl (by decide) (Nat.le_of_ble_eq_true rfl) ?_
  intro p e s m below meth c ls X hD hN hr hlk h hl
  have hx := X.1.1
  have hb := X.1.2.1
  have hown := X.1.2.2.2.1
  have hts := X.1.2.2.2.2
  have hl : lv_has ls 2 [(0, .ref (ad b)), (1, .int i)] := hl
  refine lv_iload_n hx hb dX2_hasJar_0 rfl (lv_at hl 1 rfl) ?_
  refine lv_if_lt (tgt := 16) hx hb dX2_hasJar_1 (by decide) (fun hc1 => ?_) (fun hc1 => ?_)
  · have hc1 : (i).toInt < 0 := i_lt hc1 rfl rfl
    refine lv_iconst (v := 0) hx hb dX2_hasJar_16 (by decide) ?_
    exact e_z X h hr hlk rfl dX2_hasJar_17 ⟨rfl, Or.inr ⟨by omega, rfl⟩⟩
  · have hc1 : ¬ (i).toInt < 0 := i_nlt hc1 rfl rfl
    refine lv_iload_n hx hb dX2_hasJar_4 rfl (lv_at hl 1 rfl) ?_
    refine lv_aload_n hx hb dX2_hasJar_5 rfl (lv_at hl 0 rfl) ?_
    refine r_get kc2 X h b 4 (by omega) rfl f (by decide) kw_1 rfl dX2_hasJar_6 ?_
    refine lv_icmp_ge (tgt := 16) hx hb dX2_hasJar_9 (by decide) (fun hc2 => ?_) (fun hc2 => ?_)
    · have hc2 : a ≤ (i).toInt := i_le hc2 ha rfl
      refine lv_iconst (v := 0) hx hb dX2_hasJar_16 (by decide) ?_
      exact e_z X h hr hlk rfl dX2_hasJar_17 ⟨rfl, Or.inr ⟨by omega, rfl⟩⟩
    · have hc2 : ¬ a ≤ (i).toInt := i_nle hc2 ha rfl
      refine lv_iconst (v := 1) hx hb dX2_hasJar_12 (by decide) ?_
      refine lv_goto (tgt := 17) hx hb dX2_hasJar_13 (by decide) ?_
      exact e_z X h hr hlk rfl dX2_hasJar_17 ⟨rfl, Or.inl ⟨by omega, by omega, rfl⟩⟩

set_option maxHeartbeats 4000000 in
set_option maxRecDepth 100000 in
theorem c_refused (l : Launch) (G : va_G) (cI cB cZ cO : ClassId) (ad : Nat → Nat) (w : Nat → va_E) (v0 v1 v2 v3 v4 v5 v6 v7 v8 : Value) (bd no fu : Int32) (q : Int32) (f : w 0 = .inr (6, [v0, v1, v2, v3, v4, v5, v6, v7, v8, .int bd, .int no, .int fu])) : MI l G (tyq cI cB cZ cO) yX8_refused cX8_refused 2 (some .int) 0 0 74 ad w [.ref (ad 0), .int q] (fun r w1 => r = q ∧ ∃ x y z : Int32, w1 = va_up w 0 (.inr (6, [v0, v1, v2, v3, v4, v5, v6, v7, v8, .int x, .int y, .int z]))) := by
  refine mk_i (own := "NoonShade") rfl (by decide) (Nat.le_of_ble_eq_true rfl) ?_
  intro p e s m below meth c ls X hD hN hr hlk h hl
  have hx := X.1.1
  have hb := X.1.2.1
  have hown := X.1.2.2.2.1
  have hts := X.1.2.2.2.2
  have hl : lv_has ls 2 [(0, .ref (ad 0)), (1, .int q)] := hl
  refine lv_iload_n hx hb dX8_refused_0 rfl (lv_at hl 1 rfl) ?_
  refine lv_bipush (v := (-2)) hx hb dX8_refused_1 (by decide) ?_
  refine lv_icmp_ne (tgt := 19) hx hb dX8_refused_3 (by decide) (fun hc1 => ?_) (fun hc1 => ?_)
  · have hc1 : ¬ (q).toInt = (-2) := i_ne hc1 rfl rfl
    refine lv_iload_n hx hb dX8_refused_19 rfl (lv_at hl 1 rfl) ?_
    refine lv_bipush (v := (-3)) hx hb dX8_refused_20 (by decide) ?_
    refine lv_icmp_ne (tgt := 38) hx hb dX8_refused_22 (by decide) (fun hc2 => ?_) (fun hc2 => ?_)
    · have hc2 : ¬ (q).toInt = (-3) := i_ne hc2 rfl rfl
      refine lv_aload_n hx hb dX8_refused_38 rfl (lv_at hl 0 rfl) ?_
      refine lv_dup hx hb dX8_refused_39 rfl ?_
      refine r_get kc8 X h 0 11 (by decide) rfl f (by decide) kw_2 rfl dX8_refused_40 ?_
      refine lv_iconst (v := 1) hx hb dX8_refused_43 (by decide) ?_
      refine o_iadd (z := fu + 1) hx hb dX8_refused_44 rfl ?_
      refine r_put kc8 X hD h 0 11 (by decide) rfl f (by decide) kw_2 rfl rfl rfl (Nat.le_of_ble_eq_true rfl) dX8_refused_45 (fun H locs w3 e4 h => ?_)
      have f5 : w3 0 = .inr (6, [v0, v1, v2, v3, v4, v5, v6, v7, v8, .int bd, .int no, .int (fu + 1)]) := (congrFun e4 _).trans (va_up_self _ _ _)
      refine lv_iload_n hx hb dX8_refused_48 rfl (lv_at hl 1 rfl) ?_
      exact e_i X h hr hlk dX8_refused_49 ⟨rfl, _, _, _, e4⟩
    · have hc2 : (q).toInt = (-3) := i_eq hc2 rfl rfl
      refine lv_aload_n hx hb dX8_refused_25 rfl (lv_at hl 0 rfl) ?_
      refine lv_dup hx hb dX8_refused_26 rfl ?_
      refine r_get kc8 X h 0 10 (by decide) rfl f (by decide) kw_3 rfl dX8_refused_27 ?_
      refine lv_iconst (v := 1) hx hb dX8_refused_30 (by decide) ?_
      refine o_iadd (z := no + 1) hx hb dX8_refused_31 rfl ?_
      refine r_put kc8 X hD h 0 10 (by decide) rfl f (by decide) kw_3 rfl rfl rfl (Nat.le_of_ble_eq_true rfl) dX8_refused_32 (fun H locs w6 e7 h => ?_)
      have f8 : w6 0 = .inr (6, [v0, v1, v2, v3, v4, v5, v6, v7, v8, .int bd, .int (no + 1), .int fu]) := (congrFun e7 _).trans (va_up_self _ _ _)
      refine lv_goto (tgt := 48) hx hb dX8_refused_35 (by decide) ?_
      refine lv_iload_n hx hb dX8_refused_48 rfl (lv_at hl 1 rfl) ?_
      exact e_i X h hr hlk dX8_refused_49 ⟨rfl, _, _, _, e7⟩
  · have hc1 : (q).toInt = (-2) := i_eq hc1 rfl rfl
    refine lv_aload_n hx hb dX8_refused_6 rfl (lv_at hl 0 rfl) ?_
    refine lv_dup hx hb dX8_refused_7 rfl ?_
    refine r_get kc8 X h 0 9 (by decide) rfl f (by decide) kw_4 rfl dX8_refused_8 ?_
    refine lv_iconst (v := 1) hx hb dX8_refused_11 (by decide) ?_
    refine o_iadd (z := bd + 1) hx hb dX8_refused_12 rfl ?_
    refine r_put kc8 X hD h 0 9 (by decide) rfl f (by decide) kw_4 rfl rfl rfl (Nat.le_of_ble_eq_true rfl) dX8_refused_13 (fun H locs w9 e10 h => ?_)
    have f11 : w9 0 = .inr (6, [v0, v1, v2, v3, v4, v5, v6, v7, v8, .int (bd + 1), .int no, .int fu]) := (congrFun e10 _).trans (va_up_self _ _ _)
    refine lv_goto (tgt := 48) hx hb dX8_refused_16 (by decide) ?_
    refine lv_iload_n hx hb dX8_refused_48 rfl (lv_at hl 1 rfl) ?_
    exact e_i X h hr hlk dX8_refused_49 ⟨rfl, _, _, _, e10⟩
end
section
set_option maxHeartbeats 4000000 in
set_option maxRecDepth 100000 in
theorem c_X_ladle (l : Launch) (G : va_G) (cI cB cZ cO : ClassId) (ad : Nat → Nat) (w : Nat → va_E) (F : ∀ k, k < 74 → w k = fr0 cI cB cZ cO ad k) (i j : Int32) : MI l G (tyq cI cB cZ cO) yX8_ladle cX8_ladle 3 (some .int) 1 21 74 ad w [.ref (ad 0), .int i, .int j] (fun r w1 => r = (-2) ∧ ∀ k, 64 ≤ k → w1 k = w k) := by
  refine mk_i (own := "NoonShade") rfl (by decide) (Nat.le_of_ble_eq_true rfl) ?_
  intro p e s m below meth c ls X hD hN hr hlk h hl
  have hx := X.1.1
  have hb := X.1.2.1
  have hown := X.1.2.2.2.1
  have hts := X.1.2.2.2.2
  have hl : lv_has ls 3 [(0, .ref (ad 0)), (1, .int i), (2, .int j)] := hl
  refine lv_aload_n hx hb dX8_ladle_0 rfl (lv_at hl 0 rfl) ?_
  have f1 : w 0 = .inr (6, [.ref (ad 1), .ref (ad 14), .ref (ad 27), .ref (ad 54), .ref (ad 55), .ref (ad 58), .ref (ad 62), .long 0, .long 1, .int 0, .int 0, .int 0]) := F 0 (by decide)
  refine r_get kc8 X h 0 0 (by decide) rfl f1 (by decide) kw_5 rfl dX8_ladle_1 ?_
  refine lv_iload_n hx hb dX8_ladle_4 rfl (lv_at hl 1 rfl) ?_
  have f2 : w 1 = .inr (1, [.int 0, .int 0, .int 0, .int 0, .int 0, .ref (ad 2), .ref (ad 3), .ref (ad 4), .ref (ad 5), .ref (ad 6), .ref (ad 7), .ref (ad 8), .ref (ad 10), .ref (ad 12)]) := F 1 (by decide)
  refine q_Vi (na := 1) (As := [.int i]) (rest := []) X hD hN h rfl (c_hasCaster l G cI cB cZ cO ad w 1 _ _ _ _ _ _ i 0 rfl (by decide) f2) ⟨kw_6, kw_7, kw_8, kw_9, kw_10⟩ rfl ⟨by decide, by decide, by decide⟩ ⟨Nat.le_of_ble_eq_true rfl, Nat.le_of_ble_eq_true rfl⟩ ⟨Nat.zero_le _, Nat.zero_le _⟩ (by decide) f2 rfl rfl hl.1 rfl (Nat.le_of_ble_eq_true rfl) dX8_ladle_5 (fun r3 w4 H locs hp5 h => ?_)
  obtain ⟨e6, hp5⟩ := hp5
  rcases hp5 with ⟨hq7a, hq7b, rfl⟩ | ⟨hq7, rfl⟩
  · exfalso; omega
  · refine lv_if_eq (tgt := 22) hx hb dX8_ladle_8 (by decide) (fun _ => ?_) (fun hc => absurd (by decide) hc)
    refine lv_aload_n hx hb dX8_ladle_22 rfl (lv_at hl 0 rfl) ?_
    refine lv_bipush (v := (-2)) hx hb dX8_ladle_23 (by decide) ?_
    have f8 : w4 0 = .inr (6, [.ref (ad 1), .ref (ad 14), .ref (ad 27), .ref (ad 54), .ref (ad 55), .ref (ad 58), .ref (ad 62), .long 0, .long 1, .int 0, .int 0, .int 0]) := by rw [e6]; exact f1
    refine q_Vi (na := 1) (As := [.int (-2)]) (rest := []) X hD hN h rfl (c_refused l G cI cB cZ cO ad w4 _ _ _ _ _ _ _ _ _ _ _ _ (-2) f8) ⟨kw_11, kw_12, kw_13, kw_14, kw_15⟩ rfl ⟨by decide, by decide, by decide⟩ ⟨Nat.le_of_ble_eq_true rfl, Nat.le_of_ble_eq_true rfl⟩ ⟨Nat.zero_le _, Nat.zero_le _⟩ (by decide) f8 rfl rfl hl.1 rfl (Nat.le_of_ble_eq_true rfl) dX8_ladle_25 (fun r9 w10 H locs hp11 h => ?_)
    obtain ⟨rfl, x12, y13, z14, e15⟩ := hp11
    have f16 : w10 0 = .inr (6, [.ref (ad 1), .ref (ad 14), .ref (ad 27), .ref (ad 54), .ref (ad 55), .ref (ad 58), .ref (ad 62), .long 0, .long 1, .int x12, .int y13, .int z14]) := (congrFun e15 _).trans (va_up_self _ _ _)
    exact e_i X h hr hlk dX8_ladle_28 ⟨rfl, fun k hk => ((congrFun e15 k).trans (va_up_ne _ _ (by omega))).trans (congrFun e6 k)⟩

set_option maxHeartbeats 4000000 in
set_option maxRecDepth 100000 in
theorem c_X_pours (l : Launch) (G : va_G) (cI cB cZ cO : ClassId) (ad : Nat → Nat) (w : Nat → va_E) (F : ∀ k, k < 74 → w k = fr0 cI cB cZ cO ad k) (j k : Int32) : MI l G (tyq cI cB cZ cO) yX8_pours cX8_pours 3 (some .int) 1 21 74 ad w [.ref (ad 0), .int j, .int k] (fun r w1 => r = (-2) ∧ ∀ k, 64 ≤ k → w1 k = w k) := by
  refine mk_i (own := "NoonShade") rfl (by decide) (Nat.le_of_ble_eq_true rfl) ?_
  intro p e s m below meth c ls X hD hN hr hlk h hl
  have hx := X.1.1
  have hb := X.1.2.1
  have hown := X.1.2.2.2.1
  have hts := X.1.2.2.2.2
  have hl : lv_has ls 3 [(0, .ref (ad 0)), (1, .int j), (2, .int k)] := hl
  refine lv_aload_n hx hb dX8_pours_0 rfl (lv_at hl 0 rfl) ?_
  have f1 : w 0 = .inr (6, [.ref (ad 1), .ref (ad 14), .ref (ad 27), .ref (ad 54), .ref (ad 55), .ref (ad 58), .ref (ad 62), .long 0, .long 1, .int 0, .int 0, .int 0]) := F 0 (by decide)
  refine r_get kc8 X h 0 0 (by decide) rfl f1 (by decide) kw_5 rfl dX8_pours_1 ?_
  refine lv_iload_n hx hb dX8_pours_4 rfl (lv_at hl 1 rfl) ?_
  have f2 : w 1 = .inr (1, [.int 0, .int 0, .int 0, .int 0, .int 0, .ref (ad 2), .ref (ad 3), .ref (ad 4), .ref (ad 5), .ref (ad 6), .ref (ad 7), .ref (ad 8), .ref (ad 10), .ref (ad 12)]) := F 1 (by decide)
  refine q_Vi (na := 1) (As := [.int j]) (rest := []) X hD hN h rfl (c_hasJar l G cI cB cZ cO ad w 1 _ _ _ _ _ _ j 0 rfl (by decide) f2) ⟨kw_16, kw_17, kw_18, kw_9, kw_19⟩ rfl ⟨by decide, by decide, by decide⟩ ⟨Nat.le_of_ble_eq_true rfl, Nat.le_of_ble_eq_true rfl⟩ ⟨Nat.zero_le _, Nat.zero_le _⟩ (by decide) f2 rfl rfl hl.1 rfl (Nat.le_of_ble_eq_true rfl) dX8_pours_5 (fun r3 w4 H locs hp5 h => ?_)
  obtain ⟨e6, hp5⟩ := hp5
  rcases hp5 with ⟨hq7a, hq7b, rfl⟩ | ⟨hq7, rfl⟩
  · exfalso; omega
  · refine lv_if_eq (tgt := 27) hx hb dX8_pours_8 (by decide) (fun _ => ?_) (fun hc => absurd (by decide) hc)
    refine lv_aload_n hx hb dX8_pours_27 rfl (lv_at hl 0 rfl) ?_
    refine lv_bipush (v := (-2)) hx hb dX8_pours_28 (by decide) ?_
    have f8 : w4 0 = .inr (6, [.ref (ad 1), .ref (ad 14), .ref (ad 27), .ref (ad 54), .ref (ad 55), .ref (ad 58), .ref (ad 62), .long 0, .long 1, .int 0, .int 0, .int 0]) := by rw [e6]; exact f1
    refine q_Vi (na := 1) (As := [.int (-2)]) (rest := []) X hD hN h rfl (c_refused l G cI cB cZ cO ad w4 _ _ _ _ _ _ _ _ _ _ _ _ (-2) f8) ⟨kw_11, kw_12, kw_13, kw_14, kw_15⟩ rfl ⟨by decide, by decide, by decide⟩ ⟨Nat.le_of_ble_eq_true rfl, Nat.le_of_ble_eq_true rfl⟩ ⟨Nat.zero_le _, Nat.zero_le _⟩ (by decide) f8 rfl rfl hl.1 rfl (Nat.le_of_ble_eq_true rfl) dX8_pours_30 (fun r9 w10 H locs hp11 h => ?_)
    obtain ⟨rfl, x12, y13, z14, e15⟩ := hp11
    have f16 : w10 0 = .inr (6, [.ref (ad 1), .ref (ad 14), .ref (ad 27), .ref (ad 54), .ref (ad 55), .ref (ad 58), .ref (ad 62), .long 0, .long 1, .int x12, .int y13, .int z14]) := (congrFun e15 _).trans (va_up_self _ _ _)
    exact e_i X h hr hlk dX8_pours_33 ⟨rfl, fun k hk => ((congrFun e15 k).trans (va_up_ne _ _ (by omega))).trans (congrFun e6 k)⟩

set_option maxHeartbeats 4000000 in
set_option maxRecDepth 100000 in
theorem c_X_sells (l : Launch) (G : va_G) (cI cB cZ cO : ClassId) (ad : Nat → Nat) (w : Nat → va_E) (F : ∀ k, k < 74 → w k = fr0 cI cB cZ cO ad k) (j : Int32) : MI l G (tyq cI cB cZ cO) yX8_sells cX8_sells 2 (some .int) 1 21 74 ad w [.ref (ad 0), .int j] (fun r w1 => r = (-2) ∧ ∀ k, 64 ≤ k → w1 k = w k) := by
  refine mk_i (own := "NoonShade") rfl (by decide) (Nat.le_of_ble_eq_true rfl) ?_
  intro p e s m below meth c ls X hD hN hr hlk h hl
  have hx := X.1.1
  have hb := X.1.2.1
  have hown := X.1.2.2.2.1
  have hts := X.1.2.2.2.2
  have hl : lv_has ls 2 [(0, .ref (ad 0)), (1, .int j)] := hl
  refine lv_aload_n hx hb dX8_sells_0 rfl (lv_at hl 0 rfl) ?_
  have f1 : w 0 = .inr (6, [.ref (ad 1), .ref (ad 14), .ref (ad 27), .ref (ad 54), .ref (ad 55), .ref (ad 58), .ref (ad 62), .long 0, .long 1, .int 0, .int 0, .int 0]) := F 0 (by decide)
  refine r_get kc8 X h 0 0 (by decide) rfl f1 (by decide) kw_5 rfl dX8_sells_1 ?_
  refine lv_iload_n hx hb dX8_sells_4 rfl (lv_at hl 1 rfl) ?_
  have f2 : w 1 = .inr (1, [.int 0, .int 0, .int 0, .int 0, .int 0, .ref (ad 2), .ref (ad 3), .ref (ad 4), .ref (ad 5), .ref (ad 6), .ref (ad 7), .ref (ad 8), .ref (ad 10), .ref (ad 12)]) := F 1 (by decide)
  refine q_Vi (na := 1) (As := [.int j]) (rest := []) X hD hN h rfl (c_hasJar l G cI cB cZ cO ad w 1 _ _ _ _ _ _ j 0 rfl (by decide) f2) ⟨kw_16, kw_17, kw_18, kw_9, kw_19⟩ rfl ⟨by decide, by decide, by decide⟩ ⟨Nat.le_of_ble_eq_true rfl, Nat.le_of_ble_eq_true rfl⟩ ⟨Nat.zero_le _, Nat.zero_le _⟩ (by decide) f2 rfl rfl hl.1 rfl (Nat.le_of_ble_eq_true rfl) dX8_sells_5 (fun r3 w4 H locs hp5 h => ?_)
  obtain ⟨e6, hp5⟩ := hp5
  rcases hp5 with ⟨hq7a, hq7b, rfl⟩ | ⟨hq7, rfl⟩
  · exfalso; omega
  · refine lv_if_ne (tgt := 18) hx hb dX8_sells_8 (by decide) (fun hc => absurd hc (by decide)) (fun _ => ?_)
    refine lv_aload_n hx hb dX8_sells_11 rfl (lv_at hl 0 rfl) ?_
    refine lv_bipush (v := (-2)) hx hb dX8_sells_12 (by decide) ?_
    have f8 : w4 0 = .inr (6, [.ref (ad 1), .ref (ad 14), .ref (ad 27), .ref (ad 54), .ref (ad 55), .ref (ad 58), .ref (ad 62), .long 0, .long 1, .int 0, .int 0, .int 0]) := by rw [e6]; exact f1
    refine q_Vi (na := 1) (As := [.int (-2)]) (rest := []) X hD hN h rfl (c_refused l G cI cB cZ cO ad w4 _ _ _ _ _ _ _ _ _ _ _ _ (-2) f8) ⟨kw_11, kw_12, kw_13, kw_14, kw_15⟩ rfl ⟨by decide, by decide, by decide⟩ ⟨Nat.le_of_ble_eq_true rfl, Nat.le_of_ble_eq_true rfl⟩ ⟨Nat.zero_le _, Nat.zero_le _⟩ (by decide) f8 rfl rfl hl.1 rfl (Nat.le_of_ble_eq_true rfl) dX8_sells_14 (fun r9 w10 H locs hp11 h => ?_)
    obtain ⟨rfl, x12, y13, z14, e15⟩ := hp11
    have f16 : w10 0 = .inr (6, [.ref (ad 1), .ref (ad 14), .ref (ad 27), .ref (ad 54), .ref (ad 55), .ref (ad 58), .ref (ad 62), .long 0, .long 1, .int x12, .int y13, .int z14]) := (congrFun e15 _).trans (va_up_self _ _ _)
    exact e_i X h hr hlk dX8_sells_17 ⟨rfl, fun k hk => ((congrFun e15 k).trans (va_up_ne _ _ (by omega))).trans (congrFun e6 k)⟩

set_option maxHeartbeats 4000000 in
set_option maxRecDepth 100000 in
theorem c_X_of (l : Launch) (G : va_G) (cI cB cZ cO : ClassId) (ad : Nat → Nat) (w : Nat → va_E) (F : ∀ k, k < 74 → w k = fr0 cI cB cZ cO ad k) (i u : Int32) : MI l G (tyq cI cB cZ cO) yX8_of cX8_of 3 (some .int) 1 21 74 ad w [.ref (ad 0), .int i, .int u] (fun r w1 => r = (-2) ∧ ∀ k, 64 ≤ k → w1 k = w k) := by
  refine mk_i (own := "NoonShade") rfl (by decide) (Nat.le_of_ble_eq_true rfl) ?_
  intro p e s m below meth c ls X hD hN hr hlk h hl
  have hx := X.1.1
  have hb := X.1.2.1
  have hown := X.1.2.2.2.1
  have hts := X.1.2.2.2.2
  have hl : lv_has ls 3 [(0, .ref (ad 0)), (1, .int i), (2, .int u)] := hl
  refine lv_aload_n hx hb dX8_of_0 rfl (lv_at hl 0 rfl) ?_
  have f1 : w 0 = .inr (6, [.ref (ad 1), .ref (ad 14), .ref (ad 27), .ref (ad 54), .ref (ad 55), .ref (ad 58), .ref (ad 62), .long 0, .long 1, .int 0, .int 0, .int 0]) := F 0 (by decide)
  refine r_get kc8 X h 0 0 (by decide) rfl f1 (by decide) kw_5 rfl dX8_of_1 ?_
  refine lv_iload_n hx hb dX8_of_4 rfl (lv_at hl 1 rfl) ?_
  have f2 : w 1 = .inr (1, [.int 0, .int 0, .int 0, .int 0, .int 0, .ref (ad 2), .ref (ad 3), .ref (ad 4), .ref (ad 5), .ref (ad 6), .ref (ad 7), .ref (ad 8), .ref (ad 10), .ref (ad 12)]) := F 1 (by decide)
  refine q_Vi (na := 1) (As := [.int i]) (rest := []) X hD hN h rfl (c_hasCaster l G cI cB cZ cO ad w 1 _ _ _ _ _ _ i 0 rfl (by decide) f2) ⟨kw_6, kw_7, kw_8, kw_9, kw_10⟩ rfl ⟨by decide, by decide, by decide⟩ ⟨Nat.le_of_ble_eq_true rfl, Nat.le_of_ble_eq_true rfl⟩ ⟨Nat.zero_le _, Nat.zero_le _⟩ (by decide) f2 rfl rfl hl.1 rfl (Nat.le_of_ble_eq_true rfl) dX8_of_5 (fun r3 w4 H locs hp5 h => ?_)
  obtain ⟨e6, hp5⟩ := hp5
  rcases hp5 with ⟨hq7a, hq7b, rfl⟩ | ⟨hq7, rfl⟩
  · exfalso; omega
  · refine lv_if_ne (tgt := 18) hx hb dX8_of_8 (by decide) (fun hc => absurd hc (by decide)) (fun _ => ?_)
    refine lv_aload_n hx hb dX8_of_11 rfl (lv_at hl 0 rfl) ?_
    refine lv_bipush (v := (-2)) hx hb dX8_of_12 (by decide) ?_
    have f8 : w4 0 = .inr (6, [.ref (ad 1), .ref (ad 14), .ref (ad 27), .ref (ad 54), .ref (ad 55), .ref (ad 58), .ref (ad 62), .long 0, .long 1, .int 0, .int 0, .int 0]) := by rw [e6]; exact f1
    refine q_Vi (na := 1) (As := [.int (-2)]) (rest := []) X hD hN h rfl (c_refused l G cI cB cZ cO ad w4 _ _ _ _ _ _ _ _ _ _ _ _ (-2) f8) ⟨kw_11, kw_12, kw_13, kw_14, kw_15⟩ rfl ⟨by decide, by decide, by decide⟩ ⟨Nat.le_of_ble_eq_true rfl, Nat.le_of_ble_eq_true rfl⟩ ⟨Nat.zero_le _, Nat.zero_le _⟩ (by decide) f8 rfl rfl hl.1 rfl (Nat.le_of_ble_eq_true rfl) dX8_of_14 (fun r9 w10 H locs hp11 h => ?_)
    obtain ⟨rfl, x12, y13, z14, e15⟩ := hp11
    have f16 : w10 0 = .inr (6, [.ref (ad 1), .ref (ad 14), .ref (ad 27), .ref (ad 54), .ref (ad 55), .ref (ad 58), .ref (ad 62), .long 0, .long 1, .int x12, .int y13, .int z14]) := (congrFun e15 _).trans (va_up_self _ _ _)
    exact e_i X h hr hlk dX8_of_17 ⟨rfl, fun k hk => ((congrFun e15 k).trans (va_up_ne _ _ (by omega))).trans (congrFun e6 k)⟩

set_option maxHeartbeats 4000000 in
set_option maxRecDepth 100000 in
theorem c_X_about (l : Launch) (G : va_G) (cI cB cZ cO : ClassId) (ad : Nat → Nat) (w : Nat → va_E) (F : ∀ k, k < 74 → w k = fr0 cI cB cZ cO ad k) (j u : Int32) : MI l G (tyq cI cB cZ cO) yX8_about cX8_about 3 (some .int) 1 21 74 ad w [.ref (ad 0), .int j, .int u] (fun r w1 => r = (-2) ∧ ∀ k, 64 ≤ k → w1 k = w k) := by
  refine mk_i (own := "NoonShade") rfl (by decide) (Nat.le_of_ble_eq_true rfl) ?_
  intro p e s m below meth c ls X hD hN hr hlk h hl
  have hx := X.1.1
  have hb := X.1.2.1
  have hown := X.1.2.2.2.1
  have hts := X.1.2.2.2.2
  have hl : lv_has ls 3 [(0, .ref (ad 0)), (1, .int j), (2, .int u)] := hl
  refine lv_aload_n hx hb dX8_about_0 rfl (lv_at hl 0 rfl) ?_
  have f1 : w 0 = .inr (6, [.ref (ad 1), .ref (ad 14), .ref (ad 27), .ref (ad 54), .ref (ad 55), .ref (ad 58), .ref (ad 62), .long 0, .long 1, .int 0, .int 0, .int 0]) := F 0 (by decide)
  refine r_get kc8 X h 0 0 (by decide) rfl f1 (by decide) kw_5 rfl dX8_about_1 ?_
  refine lv_iload_n hx hb dX8_about_4 rfl (lv_at hl 1 rfl) ?_
  have f2 : w 1 = .inr (1, [.int 0, .int 0, .int 0, .int 0, .int 0, .ref (ad 2), .ref (ad 3), .ref (ad 4), .ref (ad 5), .ref (ad 6), .ref (ad 7), .ref (ad 8), .ref (ad 10), .ref (ad 12)]) := F 1 (by decide)
  refine q_Vi (na := 1) (As := [.int j]) (rest := []) X hD hN h rfl (c_hasJar l G cI cB cZ cO ad w 1 _ _ _ _ _ _ j 0 rfl (by decide) f2) ⟨kw_16, kw_17, kw_18, kw_9, kw_19⟩ rfl ⟨by decide, by decide, by decide⟩ ⟨Nat.le_of_ble_eq_true rfl, Nat.le_of_ble_eq_true rfl⟩ ⟨Nat.zero_le _, Nat.zero_le _⟩ (by decide) f2 rfl rfl hl.1 rfl (Nat.le_of_ble_eq_true rfl) dX8_about_5 (fun r3 w4 H locs hp5 h => ?_)
  obtain ⟨e6, hp5⟩ := hp5
  rcases hp5 with ⟨hq7a, hq7b, rfl⟩ | ⟨hq7, rfl⟩
  · exfalso; omega
  · refine lv_if_ne (tgt := 18) hx hb dX8_about_8 (by decide) (fun hc => absurd hc (by decide)) (fun _ => ?_)
    refine lv_aload_n hx hb dX8_about_11 rfl (lv_at hl 0 rfl) ?_
    refine lv_bipush (v := (-2)) hx hb dX8_about_12 (by decide) ?_
    have f8 : w4 0 = .inr (6, [.ref (ad 1), .ref (ad 14), .ref (ad 27), .ref (ad 54), .ref (ad 55), .ref (ad 58), .ref (ad 62), .long 0, .long 1, .int 0, .int 0, .int 0]) := by rw [e6]; exact f1
    refine q_Vi (na := 1) (As := [.int (-2)]) (rest := []) X hD hN h rfl (c_refused l G cI cB cZ cO ad w4 _ _ _ _ _ _ _ _ _ _ _ _ (-2) f8) ⟨kw_11, kw_12, kw_13, kw_14, kw_15⟩ rfl ⟨by decide, by decide, by decide⟩ ⟨Nat.le_of_ble_eq_true rfl, Nat.le_of_ble_eq_true rfl⟩ ⟨Nat.zero_le _, Nat.zero_le _⟩ (by decide) f8 rfl rfl hl.1 rfl (Nat.le_of_ble_eq_true rfl) dX8_about_14 (fun r9 w10 H locs hp11 h => ?_)
    obtain ⟨rfl, x12, y13, z14, e15⟩ := hp11
    have f16 : w10 0 = .inr (6, [.ref (ad 1), .ref (ad 14), .ref (ad 27), .ref (ad 54), .ref (ad 55), .ref (ad 58), .ref (ad 62), .long 0, .long 1, .int x12, .int y13, .int z14]) := (congrFun e15 _).trans (va_up_self _ _ _)
    exact e_i X h hr hlk dX8_about_17 ⟨rfl, fun k hk => ((congrFun e15 k).trans (va_up_ne _ _ (by omega))).trans (congrFun e6 k)⟩

set_option maxHeartbeats 4000000 in
set_option maxRecDepth 100000 in
theorem c_X_gives (l : Launch) (G : va_G) (cI cB cZ cO : ClassId) (ad : Nat → Nat) (w : Nat → va_E) (F : ∀ k, k < 74 → w k = fr0 cI cB cZ cO ad k) (i u : Int32) : MI l G (tyq cI cB cZ cO) yX8_gives cX8_gives 3 (some .int) 1 21 74 ad w [.ref (ad 0), .int i, .int u] (fun r w1 => r = (-2) ∧ ∀ k, 64 ≤ k → w1 k = w k) := by
  refine mk_i (own := "NoonShade") rfl (by decide) (Nat.le_of_ble_eq_true rfl) ?_
  intro p e s m below meth c ls X hD hN hr hlk h hl
  have hx := X.1.1
  have hb := X.1.2.1
  have hown := X.1.2.2.2.1
  have hts := X.1.2.2.2.2
  have hl : lv_has ls 3 [(0, .ref (ad 0)), (1, .int i), (2, .int u)] := hl
  refine lv_aload_n hx hb dX8_gives_0 rfl (lv_at hl 0 rfl) ?_
  have f1 : w 0 = .inr (6, [.ref (ad 1), .ref (ad 14), .ref (ad 27), .ref (ad 54), .ref (ad 55), .ref (ad 58), .ref (ad 62), .long 0, .long 1, .int 0, .int 0, .int 0]) := F 0 (by decide)
  refine r_get kc8 X h 0 0 (by decide) rfl f1 (by decide) kw_5 rfl dX8_gives_1 ?_
  refine lv_iload_n hx hb dX8_gives_4 rfl (lv_at hl 1 rfl) ?_
  have f2 : w 1 = .inr (1, [.int 0, .int 0, .int 0, .int 0, .int 0, .ref (ad 2), .ref (ad 3), .ref (ad 4), .ref (ad 5), .ref (ad 6), .ref (ad 7), .ref (ad 8), .ref (ad 10), .ref (ad 12)]) := F 1 (by decide)
  refine q_Vi (na := 1) (As := [.int i]) (rest := []) X hD hN h rfl (c_hasCaster l G cI cB cZ cO ad w 1 _ _ _ _ _ _ i 0 rfl (by decide) f2) ⟨kw_6, kw_7, kw_8, kw_9, kw_10⟩ rfl ⟨by decide, by decide, by decide⟩ ⟨Nat.le_of_ble_eq_true rfl, Nat.le_of_ble_eq_true rfl⟩ ⟨Nat.zero_le _, Nat.zero_le _⟩ (by decide) f2 rfl rfl hl.1 rfl (Nat.le_of_ble_eq_true rfl) dX8_gives_5 (fun r3 w4 H locs hp5 h => ?_)
  obtain ⟨e6, hp5⟩ := hp5
  rcases hp5 with ⟨hq7a, hq7b, rfl⟩ | ⟨hq7, rfl⟩
  · exfalso; omega
  · refine lv_if_eq (tgt := 21) hx hb dX8_gives_8 (by decide) (fun _ => ?_) (fun hc => absurd (by decide) hc)
    refine lv_aload_n hx hb dX8_gives_21 rfl (lv_at hl 0 rfl) ?_
    refine lv_bipush (v := (-2)) hx hb dX8_gives_22 (by decide) ?_
    have f8 : w4 0 = .inr (6, [.ref (ad 1), .ref (ad 14), .ref (ad 27), .ref (ad 54), .ref (ad 55), .ref (ad 58), .ref (ad 62), .long 0, .long 1, .int 0, .int 0, .int 0]) := by rw [e6]; exact f1
    refine q_Vi (na := 1) (As := [.int (-2)]) (rest := []) X hD hN h rfl (c_refused l G cI cB cZ cO ad w4 _ _ _ _ _ _ _ _ _ _ _ _ (-2) f8) ⟨kw_11, kw_12, kw_13, kw_14, kw_15⟩ rfl ⟨by decide, by decide, by decide⟩ ⟨Nat.le_of_ble_eq_true rfl, Nat.le_of_ble_eq_true rfl⟩ ⟨Nat.zero_le _, Nat.zero_le _⟩ (by decide) f8 rfl rfl hl.1 rfl (Nat.le_of_ble_eq_true rfl) dX8_gives_24 (fun r9 w10 H locs hp11 h => ?_)
    obtain ⟨rfl, x12, y13, z14, e15⟩ := hp11
    have f16 : w10 0 = .inr (6, [.ref (ad 1), .ref (ad 14), .ref (ad 27), .ref (ad 54), .ref (ad 55), .ref (ad 58), .ref (ad 62), .long 0, .long 1, .int x12, .int y13, .int z14]) := (congrFun e15 _).trans (va_up_self _ _ _)
    exact e_i X h hr hlk dX8_gives_27 ⟨rfl, fun k hk => ((congrFun e15 k).trans (va_up_ne _ _ (by omega))).trans (congrFun e6 k)⟩

set_option maxHeartbeats 4000000 in
set_option maxRecDepth 100000 in
theorem c_X_keeps (l : Launch) (G : va_G) (cI cB cZ cO : ClassId) (ad : Nat → Nat) (w : Nat → va_E) (F : ∀ k, k < 74 → w k = fr0 cI cB cZ cO ad k) (j u : Int32) : MI l G (tyq cI cB cZ cO) yX8_keeps cX8_keeps 3 (some .int) 1 21 74 ad w [.ref (ad 0), .int j, .int u] (fun r w1 => r = (-2) ∧ ∀ k, 64 ≤ k → w1 k = w k) := by
  refine mk_i (own := "NoonShade") rfl (by decide) (Nat.le_of_ble_eq_true rfl) ?_
  intro p e s m below meth c ls X hD hN hr hlk h hl
  have hx := X.1.1
  have hb := X.1.2.1
  have hown := X.1.2.2.2.1
  have hts := X.1.2.2.2.2
  have hl : lv_has ls 3 [(0, .ref (ad 0)), (1, .int j), (2, .int u)] := hl
  refine lv_aload_n hx hb dX8_keeps_0 rfl (lv_at hl 0 rfl) ?_
  have f1 : w 0 = .inr (6, [.ref (ad 1), .ref (ad 14), .ref (ad 27), .ref (ad 54), .ref (ad 55), .ref (ad 58), .ref (ad 62), .long 0, .long 1, .int 0, .int 0, .int 0]) := F 0 (by decide)
  refine r_get kc8 X h 0 0 (by decide) rfl f1 (by decide) kw_5 rfl dX8_keeps_1 ?_
  refine lv_iload_n hx hb dX8_keeps_4 rfl (lv_at hl 1 rfl) ?_
  have f2 : w 1 = .inr (1, [.int 0, .int 0, .int 0, .int 0, .int 0, .ref (ad 2), .ref (ad 3), .ref (ad 4), .ref (ad 5), .ref (ad 6), .ref (ad 7), .ref (ad 8), .ref (ad 10), .ref (ad 12)]) := F 1 (by decide)
  refine q_Vi (na := 1) (As := [.int j]) (rest := []) X hD hN h rfl (c_hasJar l G cI cB cZ cO ad w 1 _ _ _ _ _ _ j 0 rfl (by decide) f2) ⟨kw_16, kw_17, kw_18, kw_9, kw_19⟩ rfl ⟨by decide, by decide, by decide⟩ ⟨Nat.le_of_ble_eq_true rfl, Nat.le_of_ble_eq_true rfl⟩ ⟨Nat.zero_le _, Nat.zero_le _⟩ (by decide) f2 rfl rfl hl.1 rfl (Nat.le_of_ble_eq_true rfl) dX8_keeps_5 (fun r3 w4 H locs hp5 h => ?_)
  obtain ⟨e6, hp5⟩ := hp5
  rcases hp5 with ⟨hq7a, hq7b, rfl⟩ | ⟨hq7, rfl⟩
  · exfalso; omega
  · refine lv_if_eq (tgt := 21) hx hb dX8_keeps_8 (by decide) (fun _ => ?_) (fun hc => absurd (by decide) hc)
    refine lv_aload_n hx hb dX8_keeps_21 rfl (lv_at hl 0 rfl) ?_
    refine lv_bipush (v := (-2)) hx hb dX8_keeps_22 (by decide) ?_
    have f8 : w4 0 = .inr (6, [.ref (ad 1), .ref (ad 14), .ref (ad 27), .ref (ad 54), .ref (ad 55), .ref (ad 58), .ref (ad 62), .long 0, .long 1, .int 0, .int 0, .int 0]) := by rw [e6]; exact f1
    refine q_Vi (na := 1) (As := [.int (-2)]) (rest := []) X hD hN h rfl (c_refused l G cI cB cZ cO ad w4 _ _ _ _ _ _ _ _ _ _ _ _ (-2) f8) ⟨kw_11, kw_12, kw_13, kw_14, kw_15⟩ rfl ⟨by decide, by decide, by decide⟩ ⟨Nat.le_of_ble_eq_true rfl, Nat.le_of_ble_eq_true rfl⟩ ⟨Nat.zero_le _, Nat.zero_le _⟩ (by decide) f8 rfl rfl hl.1 rfl (Nat.le_of_ble_eq_true rfl) dX8_keeps_24 (fun r9 w10 H locs hp11 h => ?_)
    obtain ⟨rfl, x12, y13, z14, e15⟩ := hp11
    have f16 : w10 0 = .inr (6, [.ref (ad 1), .ref (ad 14), .ref (ad 27), .ref (ad 54), .ref (ad 55), .ref (ad 58), .ref (ad 62), .long 0, .long 1, .int x12, .int y13, .int z14]) := (congrFun e15 _).trans (va_up_self _ _ _)
    exact e_i X h hr hlk dX8_keeps_27 ⟨rfl, fun k hk => ((congrFun e15 k).trans (va_up_ne _ _ (by omega))).trans (congrFun e6 k)⟩

set_option maxHeartbeats 4000000 in
set_option maxRecDepth 100000 in
theorem c_X_when (l : Launch) (G : va_G) (cI cB cZ cO : ClassId) (ad : Nat → Nat) (w : Nat → va_E) (F : ∀ k, k < 74 → w k = fr0 cI cB cZ cO ad k) (i : Int32) : MI l G (tyq cI cB cZ cO) yX8_when cX8_when 4 (some .int) 1 21 74 ad w [.ref (ad 0), .int i] (fun r w1 => r = (-2) ∧ ∀ k, 64 ≤ k → w1 k = w k) := by
  refine mk_i (own := "NoonShade") rfl (by decide) (Nat.le_of_ble_eq_true rfl) ?_
  intro p e s m below meth c ls X hD hN hr hlk h hl
  have hx := X.1.1
  have hb := X.1.2.1
  have hown := X.1.2.2.2.1
  have hts := X.1.2.2.2.2
  have hl : lv_has ls 4 [(0, .ref (ad 0)), (1, .int i)] := hl
  refine lv_aload_n hx hb dX8_when_0 rfl (lv_at hl 0 rfl) ?_
  have f1 : w 0 = .inr (6, [.ref (ad 1), .ref (ad 14), .ref (ad 27), .ref (ad 54), .ref (ad 55), .ref (ad 58), .ref (ad 62), .long 0, .long 1, .int 0, .int 0, .int 0]) := F 0 (by decide)
  refine r_get kc8 X h 0 0 (by decide) rfl f1 (by decide) kw_5 rfl dX8_when_1 ?_
  refine lv_iload_n hx hb dX8_when_4 rfl (lv_at hl 1 rfl) ?_
  have f2 : w 1 = .inr (1, [.int 0, .int 0, .int 0, .int 0, .int 0, .ref (ad 2), .ref (ad 3), .ref (ad 4), .ref (ad 5), .ref (ad 6), .ref (ad 7), .ref (ad 8), .ref (ad 10), .ref (ad 12)]) := F 1 (by decide)
  refine q_Vi (na := 1) (As := [.int i]) (rest := []) X hD hN h rfl (c_hasCaster l G cI cB cZ cO ad w 1 _ _ _ _ _ _ i 0 rfl (by decide) f2) ⟨kw_6, kw_7, kw_8, kw_9, kw_10⟩ rfl ⟨by decide, by decide, by decide⟩ ⟨Nat.le_of_ble_eq_true rfl, Nat.le_of_ble_eq_true rfl⟩ ⟨Nat.zero_le _, Nat.zero_le _⟩ (by decide) f2 rfl rfl hl.1 rfl (Nat.le_of_ble_eq_true rfl) dX8_when_5 (fun r3 w4 H locs hp5 h => ?_)
  obtain ⟨e6, hp5⟩ := hp5
  rcases hp5 with ⟨hq7a, hq7b, rfl⟩ | ⟨hq7, rfl⟩
  · exfalso; omega
  · refine lv_if_ne (tgt := 18) hx hb dX8_when_8 (by decide) (fun hc => absurd hc (by decide)) (fun _ => ?_)
    refine lv_aload_n hx hb dX8_when_11 rfl (lv_at hl 0 rfl) ?_
    refine lv_bipush (v := (-2)) hx hb dX8_when_12 (by decide) ?_
    have f8 : w4 0 = .inr (6, [.ref (ad 1), .ref (ad 14), .ref (ad 27), .ref (ad 54), .ref (ad 55), .ref (ad 58), .ref (ad 62), .long 0, .long 1, .int 0, .int 0, .int 0]) := by rw [e6]; exact f1
    refine q_Vi (na := 1) (As := [.int (-2)]) (rest := []) X hD hN h rfl (c_refused l G cI cB cZ cO ad w4 _ _ _ _ _ _ _ _ _ _ _ _ (-2) f8) ⟨kw_11, kw_12, kw_13, kw_14, kw_15⟩ rfl ⟨by decide, by decide, by decide⟩ ⟨Nat.le_of_ble_eq_true rfl, Nat.le_of_ble_eq_true rfl⟩ ⟨Nat.zero_le _, Nat.zero_le _⟩ (by decide) f8 rfl rfl hl.1 rfl (Nat.le_of_ble_eq_true rfl) dX8_when_14 (fun r9 w10 H locs hp11 h => ?_)
    obtain ⟨rfl, x12, y13, z14, e15⟩ := hp11
    have f16 : w10 0 = .inr (6, [.ref (ad 1), .ref (ad 14), .ref (ad 27), .ref (ad 54), .ref (ad 55), .ref (ad 58), .ref (ad 62), .long 0, .long 1, .int x12, .int y13, .int z14]) := (congrFun e15 _).trans (va_up_self _ _ _)
    exact e_i X h hr hlk dX8_when_17 ⟨rfl, fun k hk => ((congrFun e15 k).trans (va_up_ne _ _ (by omega))).trans (congrFun e6 k)⟩

set_option maxHeartbeats 4000000 in
set_option maxRecDepth 100000 in
theorem c_X_gone (l : Launch) (G : va_G) (cI cB cZ cO : ClassId) (ad : Nat → Nat) (w : Nat → va_E) (F : ∀ k, k < 74 → w k = fr0 cI cB cZ cO ad k) (j : Int32) : MI l G (tyq cI cB cZ cO) yX8_gone cX8_gone 4 (some .int) 1 21 74 ad w [.ref (ad 0), .int j] (fun r w1 => r = (-2) ∧ ∀ k, 64 ≤ k → w1 k = w k) := by
  refine mk_i (own := "NoonShade") rfl (by decide) (Nat.le_of_ble_eq_true rfl) ?_
  intro p e s m below meth c ls X hD hN hr hlk h hl
  have hx := X.1.1
  have hb := X.1.2.1
  have hown := X.1.2.2.2.1
  have hts := X.1.2.2.2.2
  have hl : lv_has ls 4 [(0, .ref (ad 0)), (1, .int j)] := hl
  refine lv_aload_n hx hb dX8_gone_0 rfl (lv_at hl 0 rfl) ?_
  have f1 : w 0 = .inr (6, [.ref (ad 1), .ref (ad 14), .ref (ad 27), .ref (ad 54), .ref (ad 55), .ref (ad 58), .ref (ad 62), .long 0, .long 1, .int 0, .int 0, .int 0]) := F 0 (by decide)
  refine r_get kc8 X h 0 0 (by decide) rfl f1 (by decide) kw_5 rfl dX8_gone_1 ?_
  refine lv_iload_n hx hb dX8_gone_4 rfl (lv_at hl 1 rfl) ?_
  have f2 : w 1 = .inr (1, [.int 0, .int 0, .int 0, .int 0, .int 0, .ref (ad 2), .ref (ad 3), .ref (ad 4), .ref (ad 5), .ref (ad 6), .ref (ad 7), .ref (ad 8), .ref (ad 10), .ref (ad 12)]) := F 1 (by decide)
  refine q_Vi (na := 1) (As := [.int j]) (rest := []) X hD hN h rfl (c_hasJar l G cI cB cZ cO ad w 1 _ _ _ _ _ _ j 0 rfl (by decide) f2) ⟨kw_16, kw_17, kw_18, kw_9, kw_19⟩ rfl ⟨by decide, by decide, by decide⟩ ⟨Nat.le_of_ble_eq_true rfl, Nat.le_of_ble_eq_true rfl⟩ ⟨Nat.zero_le _, Nat.zero_le _⟩ (by decide) f2 rfl rfl hl.1 rfl (Nat.le_of_ble_eq_true rfl) dX8_gone_5 (fun r3 w4 H locs hp5 h => ?_)
  obtain ⟨e6, hp5⟩ := hp5
  rcases hp5 with ⟨hq7a, hq7b, rfl⟩ | ⟨hq7, rfl⟩
  · exfalso; omega
  · refine lv_if_ne (tgt := 18) hx hb dX8_gone_8 (by decide) (fun hc => absurd hc (by decide)) (fun _ => ?_)
    refine lv_aload_n hx hb dX8_gone_11 rfl (lv_at hl 0 rfl) ?_
    refine lv_bipush (v := (-2)) hx hb dX8_gone_12 (by decide) ?_
    have f8 : w4 0 = .inr (6, [.ref (ad 1), .ref (ad 14), .ref (ad 27), .ref (ad 54), .ref (ad 55), .ref (ad 58), .ref (ad 62), .long 0, .long 1, .int 0, .int 0, .int 0]) := by rw [e6]; exact f1
    refine q_Vi (na := 1) (As := [.int (-2)]) (rest := []) X hD hN h rfl (c_refused l G cI cB cZ cO ad w4 _ _ _ _ _ _ _ _ _ _ _ _ (-2) f8) ⟨kw_11, kw_12, kw_13, kw_14, kw_15⟩ rfl ⟨by decide, by decide, by decide⟩ ⟨Nat.le_of_ble_eq_true rfl, Nat.le_of_ble_eq_true rfl⟩ ⟨Nat.zero_le _, Nat.zero_le _⟩ (by decide) f8 rfl rfl hl.1 rfl (Nat.le_of_ble_eq_true rfl) dX8_gone_14 (fun r9 w10 H locs hp11 h => ?_)
    obtain ⟨rfl, x12, y13, z14, e15⟩ := hp11
    have f16 : w10 0 = .inr (6, [.ref (ad 1), .ref (ad 14), .ref (ad 27), .ref (ad 54), .ref (ad 55), .ref (ad 58), .ref (ad 62), .long 0, .long 1, .int x12, .int y13, .int z14]) := (congrFun e15 _).trans (va_up_self _ _ _)
    exact e_i X h hr hlk dX8_gone_17 ⟨rfl, fun k hk => ((congrFun e15 k).trans (va_up_ne _ _ (by omega))).trans (congrFun e6 k)⟩

set_option maxHeartbeats 4000000 in
set_option maxRecDepth 100000 in
theorem c_X_round (l : Launch) (G : va_G) (cI cB cZ cO : ClassId) (ad : Nat → Nat) (w : Nat → va_E) (F : ∀ k, k < 74 → w k = fr0 cI cB cZ cO ad k) (j n k : Int32) : MI l G (tyq cI cB cZ cO) yX8_round cX8_round 4 (some .int) 1 21 74 ad w [.ref (ad 0), .int j, .int n, .int k] (fun r w1 => r = (-10) ∧ ∀ k, 64 ≤ k → w1 k = w k) := by
  refine mk_i (own := "NoonShade") rfl (by decide) (Nat.le_of_ble_eq_true rfl) ?_
  intro p e s m below meth c ls X hD hN hr hlk h hl
  have hx := X.1.1
  have hb := X.1.2.1
  have hown := X.1.2.2.2.1
  have hts := X.1.2.2.2.2
  have hl : lv_has ls 4 [(0, .ref (ad 0)), (1, .int j), (2, .int n), (3, .int k)] := hl
  refine lv_aload_n hx hb dX8_round_0 rfl (lv_at hl 0 rfl) ?_
  have f1 : w 0 = .inr (6, [.ref (ad 1), .ref (ad 14), .ref (ad 27), .ref (ad 54), .ref (ad 55), .ref (ad 58), .ref (ad 62), .long 0, .long 1, .int 0, .int 0, .int 0]) := F 0 (by decide)
  refine r_get kc8 X h 0 0 (by decide) rfl f1 (by decide) kw_5 rfl dX8_round_1 ?_
  refine lv_iload_n hx hb dX8_round_4 rfl (lv_at hl 1 rfl) ?_
  have f2 : w 1 = .inr (1, [.int 0, .int 0, .int 0, .int 0, .int 0, .ref (ad 2), .ref (ad 3), .ref (ad 4), .ref (ad 5), .ref (ad 6), .ref (ad 7), .ref (ad 8), .ref (ad 10), .ref (ad 12)]) := F 1 (by decide)
  refine q_Vi (na := 1) (As := [.int j]) (rest := []) X hD hN h rfl (c_hasJar l G cI cB cZ cO ad w 1 _ _ _ _ _ _ j 0 rfl (by decide) f2) ⟨kw_16, kw_17, kw_18, kw_9, kw_19⟩ rfl ⟨by decide, by decide, by decide⟩ ⟨Nat.le_of_ble_eq_true rfl, Nat.le_of_ble_eq_true rfl⟩ ⟨Nat.zero_le _, Nat.zero_le _⟩ (by decide) f2 rfl rfl hl.1 rfl (Nat.le_of_ble_eq_true rfl) dX8_round_5 (fun r3 w4 H locs hp5 h => ?_)
  obtain ⟨e6, hp5⟩ := hp5
  rcases hp5 with ⟨hq7a, hq7b, rfl⟩ | ⟨hq7, rfl⟩
  · exfalso; omega
  · refine lv_if_eq (tgt := 30) hx hb dX8_round_8 (by decide) (fun _ => ?_) (fun hc => absurd (by decide) hc)
    refine lv_aload_n hx hb dX8_round_30 rfl (lv_at hl 0 rfl) ?_
    refine lv_bipush (v := (-2)) hx hb dX8_round_31 (by decide) ?_
    have f8 : w4 0 = .inr (6, [.ref (ad 1), .ref (ad 14), .ref (ad 27), .ref (ad 54), .ref (ad 55), .ref (ad 58), .ref (ad 62), .long 0, .long 1, .int 0, .int 0, .int 0]) := by rw [e6]; exact f1
    refine q_Vi (na := 1) (As := [.int (-2)]) (rest := []) X hD hN h rfl (c_refused l G cI cB cZ cO ad w4 _ _ _ _ _ _ _ _ _ _ _ _ (-2) f8) ⟨kw_11, kw_12, kw_13, kw_14, kw_15⟩ rfl ⟨by decide, by decide, by decide⟩ ⟨Nat.le_of_ble_eq_true rfl, Nat.le_of_ble_eq_true rfl⟩ ⟨Nat.zero_le _, Nat.zero_le _⟩ (by decide) f8 rfl rfl hl.1 rfl (Nat.le_of_ble_eq_true rfl) dX8_round_33 (fun r9 w10 H locs hp11 h => ?_)
    obtain ⟨rfl, x12, y13, z14, e15⟩ := hp11
    have f16 : w10 0 = .inr (6, [.ref (ad 1), .ref (ad 14), .ref (ad 27), .ref (ad 54), .ref (ad 55), .ref (ad 58), .ref (ad 62), .long 0, .long 1, .int x12, .int y13, .int z14]) := (congrFun e15 _).trans (va_up_self _ _ _)
    refine lv_pop hx hb dX8_round_36 rfl ?_
    refine lv_bipush (v := (-10)) hx hb dX8_round_37 (by decide) ?_
    exact e_i X h hr hlk dX8_round_39 ⟨rfl, fun k hk => ((congrFun e15 k).trans (va_up_ne _ _ (by omega))).trans (congrFun e6 k)⟩

set_option maxHeartbeats 4000000 in
set_option maxRecDepth 100000 in
theorem c_X_few (l : Launch) (G : va_G) (cI cB cZ cO : ClassId) (ad : Nat → Nat) (w : Nat → va_E) (F : ∀ k, k < 74 → w k = fr0 cI cB cZ cO ad k) (j t x u : Int32) : MI l G (tyq cI cB cZ cO) yX8_few cX8_few 6 (some .int) 1 21 74 ad w [.ref (ad 0), .int j, .int t, .int x, .int u] (fun r w1 => r = (-2) ∧ ∀ k, 64 ≤ k → w1 k = w k) := by
  refine mk_i (own := "NoonShade") rfl (by decide) (Nat.le_of_ble_eq_true rfl) ?_
  intro p e s m below meth c ls X hD hN hr hlk h hl
  have hx := X.1.1
  have hb := X.1.2.1
  have hown := X.1.2.2.2.1
  have hts := X.1.2.2.2.2
  have hl : lv_has ls 6 [(0, .ref (ad 0)), (1, .int j), (2, .int t), (3, .int x), (4, .int u)] := hl
  refine lv_aload_n hx hb dX8_few_0 rfl (lv_at hl 0 rfl) ?_
  have f1 : w 0 = .inr (6, [.ref (ad 1), .ref (ad 14), .ref (ad 27), .ref (ad 54), .ref (ad 55), .ref (ad 58), .ref (ad 62), .long 0, .long 1, .int 0, .int 0, .int 0]) := F 0 (by decide)
  refine r_get kc8 X h 0 0 (by decide) rfl f1 (by decide) kw_5 rfl dX8_few_1 ?_
  refine lv_iload_n hx hb dX8_few_4 rfl (lv_at hl 1 rfl) ?_
  have f2 : w 1 = .inr (1, [.int 0, .int 0, .int 0, .int 0, .int 0, .ref (ad 2), .ref (ad 3), .ref (ad 4), .ref (ad 5), .ref (ad 6), .ref (ad 7), .ref (ad 8), .ref (ad 10), .ref (ad 12)]) := F 1 (by decide)
  refine q_Vi (na := 1) (As := [.int j]) (rest := []) X hD hN h rfl (c_hasJar l G cI cB cZ cO ad w 1 _ _ _ _ _ _ j 0 rfl (by decide) f2) ⟨kw_16, kw_17, kw_18, kw_9, kw_19⟩ rfl ⟨by decide, by decide, by decide⟩ ⟨Nat.le_of_ble_eq_true rfl, Nat.le_of_ble_eq_true rfl⟩ ⟨Nat.zero_le _, Nat.zero_le _⟩ (by decide) f2 rfl rfl hl.1 rfl (Nat.le_of_ble_eq_true rfl) dX8_few_5 (fun r3 w4 H locs hp5 h => ?_)
  obtain ⟨e6, hp5⟩ := hp5
  rcases hp5 with ⟨hq7a, hq7b, rfl⟩ | ⟨hq7, rfl⟩
  · exfalso; omega
  · refine lv_if_eq (tgt := 40) hx hb dX8_few_8 (by decide) (fun _ => ?_) (fun hc => absurd (by decide) hc)
    refine lv_aload_n hx hb dX8_few_40 rfl (lv_at hl 0 rfl) ?_
    refine lv_bipush (v := (-2)) hx hb dX8_few_41 (by decide) ?_
    have f8 : w4 0 = .inr (6, [.ref (ad 1), .ref (ad 14), .ref (ad 27), .ref (ad 54), .ref (ad 55), .ref (ad 58), .ref (ad 62), .long 0, .long 1, .int 0, .int 0, .int 0]) := by rw [e6]; exact f1
    refine q_Vi (na := 1) (As := [.int (-2)]) (rest := []) X hD hN h rfl (c_refused l G cI cB cZ cO ad w4 _ _ _ _ _ _ _ _ _ _ _ _ (-2) f8) ⟨kw_11, kw_12, kw_13, kw_14, kw_15⟩ rfl ⟨by decide, by decide, by decide⟩ ⟨Nat.le_of_ble_eq_true rfl, Nat.le_of_ble_eq_true rfl⟩ ⟨Nat.zero_le _, Nat.zero_le _⟩ (by decide) f8 rfl rfl hl.1 rfl (Nat.le_of_ble_eq_true rfl) dX8_few_43 (fun r9 w10 H locs hp11 h => ?_)
    obtain ⟨rfl, x12, y13, z14, e15⟩ := hp11
    have f16 : w10 0 = .inr (6, [.ref (ad 1), .ref (ad 14), .ref (ad 27), .ref (ad 54), .ref (ad 55), .ref (ad 58), .ref (ad 62), .long 0, .long 1, .int x12, .int y13, .int z14]) := (congrFun e15 _).trans (va_up_self _ _ _)
    exact e_i X h hr hlk dX8_few_46 ⟨rfl, fun k hk => ((congrFun e15 k).trans (va_up_ne _ _ (by omega))).trans (congrFun e6 k)⟩

set_option maxHeartbeats 4000000 in
set_option maxRecDepth 100000 in
theorem c_X_into (l : Launch) (G : va_G) (cI cB cZ cO : ClassId) (ad : Nat → Nat) (w : Nat → va_E) (F : ∀ k, k < 74 → w k = fr0 cI cB cZ cO ad k) (j u x : Int32) : MI l G (tyq cI cB cZ cO) yX8_into cX8_into 8 (some .int) 1 21 74 ad w [.ref (ad 0), .int j, .int u, .int x] (fun r w1 => r = (-2) ∧ ∀ k, 64 ≤ k → w1 k = w k) := by
  refine mk_i (own := "NoonShade") rfl (by decide) (Nat.le_of_ble_eq_true rfl) ?_
  intro p e s m below meth c ls X hD hN hr hlk h hl
  have hx := X.1.1
  have hb := X.1.2.1
  have hown := X.1.2.2.2.1
  have hts := X.1.2.2.2.2
  have hl : lv_has ls 8 [(0, .ref (ad 0)), (1, .int j), (2, .int u), (3, .int x)] := hl
  refine lv_aload_n hx hb dX8_into_0 rfl (lv_at hl 0 rfl) ?_
  have f1 : w 0 = .inr (6, [.ref (ad 1), .ref (ad 14), .ref (ad 27), .ref (ad 54), .ref (ad 55), .ref (ad 58), .ref (ad 62), .long 0, .long 1, .int 0, .int 0, .int 0]) := F 0 (by decide)
  refine r_get kc8 X h 0 0 (by decide) rfl f1 (by decide) kw_5 rfl dX8_into_1 ?_
  refine lv_iload_n hx hb dX8_into_4 rfl (lv_at hl 1 rfl) ?_
  have f2 : w 1 = .inr (1, [.int 0, .int 0, .int 0, .int 0, .int 0, .ref (ad 2), .ref (ad 3), .ref (ad 4), .ref (ad 5), .ref (ad 6), .ref (ad 7), .ref (ad 8), .ref (ad 10), .ref (ad 12)]) := F 1 (by decide)
  refine q_Vi (na := 1) (As := [.int j]) (rest := []) X hD hN h rfl (c_hasJar l G cI cB cZ cO ad w 1 _ _ _ _ _ _ j 0 rfl (by decide) f2) ⟨kw_16, kw_17, kw_18, kw_9, kw_19⟩ rfl ⟨by decide, by decide, by decide⟩ ⟨Nat.le_of_ble_eq_true rfl, Nat.le_of_ble_eq_true rfl⟩ ⟨Nat.zero_le _, Nat.zero_le _⟩ (by decide) f2 rfl rfl hl.1 rfl (Nat.le_of_ble_eq_true rfl) dX8_into_5 (fun r3 w4 H locs hp5 h => ?_)
  obtain ⟨e6, hp5⟩ := hp5
  rcases hp5 with ⟨hq7a, hq7b, rfl⟩ | ⟨hq7, rfl⟩
  · exfalso; omega
  · refine lv_if_eq (tgt := 30) hx hb dX8_into_8 (by decide) (fun _ => ?_) (fun hc => absurd (by decide) hc)
    refine lv_aload_n hx hb dX8_into_30 rfl (lv_at hl 0 rfl) ?_
    refine lv_bipush (v := (-2)) hx hb dX8_into_31 (by decide) ?_
    have f8 : w4 0 = .inr (6, [.ref (ad 1), .ref (ad 14), .ref (ad 27), .ref (ad 54), .ref (ad 55), .ref (ad 58), .ref (ad 62), .long 0, .long 1, .int 0, .int 0, .int 0]) := by rw [e6]; exact f1
    refine q_Vi (na := 1) (As := [.int (-2)]) (rest := []) X hD hN h rfl (c_refused l G cI cB cZ cO ad w4 _ _ _ _ _ _ _ _ _ _ _ _ (-2) f8) ⟨kw_11, kw_12, kw_13, kw_14, kw_15⟩ rfl ⟨by decide, by decide, by decide⟩ ⟨Nat.le_of_ble_eq_true rfl, Nat.le_of_ble_eq_true rfl⟩ ⟨Nat.zero_le _, Nat.zero_le _⟩ (by decide) f8 rfl rfl hl.1 rfl (Nat.le_of_ble_eq_true rfl) dX8_into_33 (fun r9 w10 H locs hp11 h => ?_)
    obtain ⟨rfl, x12, y13, z14, e15⟩ := hp11
    have f16 : w10 0 = .inr (6, [.ref (ad 1), .ref (ad 14), .ref (ad 27), .ref (ad 54), .ref (ad 55), .ref (ad 58), .ref (ad 62), .long 0, .long 1, .int x12, .int y13, .int z14]) := (congrFun e15 _).trans (va_up_self _ _ _)
    exact e_i X h hr hlk dX8_into_36 ⟨rfl, fun k hk => ((congrFun e15 k).trans (va_up_ne _ _ (by omega))).trans (congrFun e6 k)⟩

set_option maxHeartbeats 4000000 in
set_option maxRecDepth 100000 in
theorem c_X_note (l : Launch) (G : va_G) (cI cB cZ cO : ClassId) (ad : Nat → Nat) (w : Nat → va_E) (F : ∀ k, k < 74 → w k = fr0 cI cB cZ cO ad k) (i u t x : Int32) : MI l G (tyq cI cB cZ cO) yX8_note cX8_note 5 (some .int) 1 21 74 ad w [.ref (ad 0), .int i, .int u, .int t, .int x] (fun r w1 => r = (-2) ∧ ∀ k, 64 ≤ k → w1 k = w k) := by
  refine mk_i (own := "NoonShade") rfl (by decide) (Nat.le_of_ble_eq_true rfl) ?_
  intro p e s m below meth c ls X hD hN hr hlk h hl
  have hx := X.1.1
  have hb := X.1.2.1
  have hown := X.1.2.2.2.1
  have hts := X.1.2.2.2.2
  have hl : lv_has ls 5 [(0, .ref (ad 0)), (1, .int i), (2, .int u), (3, .int t), (4, .int x)] := hl
  refine lv_aload_n hx hb dX8_note_0 rfl (lv_at hl 0 rfl) ?_
  have f1 : w 0 = .inr (6, [.ref (ad 1), .ref (ad 14), .ref (ad 27), .ref (ad 54), .ref (ad 55), .ref (ad 58), .ref (ad 62), .long 0, .long 1, .int 0, .int 0, .int 0]) := F 0 (by decide)
  refine r_get kc8 X h 0 0 (by decide) rfl f1 (by decide) kw_5 rfl dX8_note_1 ?_
  refine lv_iload_n hx hb dX8_note_4 rfl (lv_at hl 1 rfl) ?_
  have f2 : w 1 = .inr (1, [.int 0, .int 0, .int 0, .int 0, .int 0, .ref (ad 2), .ref (ad 3), .ref (ad 4), .ref (ad 5), .ref (ad 6), .ref (ad 7), .ref (ad 8), .ref (ad 10), .ref (ad 12)]) := F 1 (by decide)
  refine q_Vi (na := 1) (As := [.int i]) (rest := []) X hD hN h rfl (c_hasCaster l G cI cB cZ cO ad w 1 _ _ _ _ _ _ i 0 rfl (by decide) f2) ⟨kw_6, kw_7, kw_8, kw_9, kw_10⟩ rfl ⟨by decide, by decide, by decide⟩ ⟨Nat.le_of_ble_eq_true rfl, Nat.le_of_ble_eq_true rfl⟩ ⟨Nat.zero_le _, Nat.zero_le _⟩ (by decide) f2 rfl rfl hl.1 rfl (Nat.le_of_ble_eq_true rfl) dX8_note_5 (fun r3 w4 H locs hp5 h => ?_)
  obtain ⟨e6, hp5⟩ := hp5
  rcases hp5 with ⟨hq7a, hq7b, rfl⟩ | ⟨hq7, rfl⟩
  · exfalso; omega
  · refine lv_if_eq (tgt := 42) hx hb dX8_note_8 (by decide) (fun _ => ?_) (fun hc => absurd (by decide) hc)
    refine lv_aload_n hx hb dX8_note_42 rfl (lv_at hl 0 rfl) ?_
    refine lv_bipush (v := (-2)) hx hb dX8_note_43 (by decide) ?_
    have f8 : w4 0 = .inr (6, [.ref (ad 1), .ref (ad 14), .ref (ad 27), .ref (ad 54), .ref (ad 55), .ref (ad 58), .ref (ad 62), .long 0, .long 1, .int 0, .int 0, .int 0]) := by rw [e6]; exact f1
    refine q_Vi (na := 1) (As := [.int (-2)]) (rest := []) X hD hN h rfl (c_refused l G cI cB cZ cO ad w4 _ _ _ _ _ _ _ _ _ _ _ _ (-2) f8) ⟨kw_11, kw_12, kw_13, kw_14, kw_15⟩ rfl ⟨by decide, by decide, by decide⟩ ⟨Nat.le_of_ble_eq_true rfl, Nat.le_of_ble_eq_true rfl⟩ ⟨Nat.zero_le _, Nat.zero_le _⟩ (by decide) f8 rfl rfl hl.1 rfl (Nat.le_of_ble_eq_true rfl) dX8_note_45 (fun r9 w10 H locs hp11 h => ?_)
    obtain ⟨rfl, x12, y13, z14, e15⟩ := hp11
    have f16 : w10 0 = .inr (6, [.ref (ad 1), .ref (ad 14), .ref (ad 27), .ref (ad 54), .ref (ad 55), .ref (ad 58), .ref (ad 62), .long 0, .long 1, .int x12, .int y13, .int z14]) := (congrFun e15 _).trans (va_up_self _ _ _)
    exact e_i X h hr hlk dX8_note_48 ⟨rfl, fun k hk => ((congrFun e15 k).trans (va_up_ne _ _ (by omega))).trans (congrFun e6 k)⟩

set_option maxHeartbeats 4000000 in
set_option maxRecDepth 100000 in
theorem c_X_mark (l : Launch) (G : va_G) (cI cB cZ cO : ClassId) (ad : Nat → Nat) (w : Nat → va_E) (F : ∀ k, k < 74 → w k = fr0 cI cB cZ cO ad k) (j u t x : Int32) : MI l G (tyq cI cB cZ cO) yX8_mark cX8_mark 5 (some .int) 1 21 74 ad w [.ref (ad 0), .int j, .int u, .int t, .int x] (fun r w1 => r = (-2) ∧ ∀ k, 64 ≤ k → w1 k = w k) := by
  refine mk_i (own := "NoonShade") rfl (by decide) (Nat.le_of_ble_eq_true rfl) ?_
  intro p e s m below meth c ls X hD hN hr hlk h hl
  have hx := X.1.1
  have hb := X.1.2.1
  have hown := X.1.2.2.2.1
  have hts := X.1.2.2.2.2
  have hl : lv_has ls 5 [(0, .ref (ad 0)), (1, .int j), (2, .int u), (3, .int t), (4, .int x)] := hl
  refine lv_aload_n hx hb dX8_mark_0 rfl (lv_at hl 0 rfl) ?_
  have f1 : w 0 = .inr (6, [.ref (ad 1), .ref (ad 14), .ref (ad 27), .ref (ad 54), .ref (ad 55), .ref (ad 58), .ref (ad 62), .long 0, .long 1, .int 0, .int 0, .int 0]) := F 0 (by decide)
  refine r_get kc8 X h 0 0 (by decide) rfl f1 (by decide) kw_5 rfl dX8_mark_1 ?_
  refine lv_iload_n hx hb dX8_mark_4 rfl (lv_at hl 1 rfl) ?_
  have f2 : w 1 = .inr (1, [.int 0, .int 0, .int 0, .int 0, .int 0, .ref (ad 2), .ref (ad 3), .ref (ad 4), .ref (ad 5), .ref (ad 6), .ref (ad 7), .ref (ad 8), .ref (ad 10), .ref (ad 12)]) := F 1 (by decide)
  refine q_Vi (na := 1) (As := [.int j]) (rest := []) X hD hN h rfl (c_hasJar l G cI cB cZ cO ad w 1 _ _ _ _ _ _ j 0 rfl (by decide) f2) ⟨kw_16, kw_17, kw_18, kw_9, kw_19⟩ rfl ⟨by decide, by decide, by decide⟩ ⟨Nat.le_of_ble_eq_true rfl, Nat.le_of_ble_eq_true rfl⟩ ⟨Nat.zero_le _, Nat.zero_le _⟩ (by decide) f2 rfl rfl hl.1 rfl (Nat.le_of_ble_eq_true rfl) dX8_mark_5 (fun r3 w4 H locs hp5 h => ?_)
  obtain ⟨e6, hp5⟩ := hp5
  rcases hp5 with ⟨hq7a, hq7b, rfl⟩ | ⟨hq7, rfl⟩
  · exfalso; omega
  · refine lv_if_eq (tgt := 42) hx hb dX8_mark_8 (by decide) (fun _ => ?_) (fun hc => absurd (by decide) hc)
    refine lv_aload_n hx hb dX8_mark_42 rfl (lv_at hl 0 rfl) ?_
    refine lv_bipush (v := (-2)) hx hb dX8_mark_43 (by decide) ?_
    have f8 : w4 0 = .inr (6, [.ref (ad 1), .ref (ad 14), .ref (ad 27), .ref (ad 54), .ref (ad 55), .ref (ad 58), .ref (ad 62), .long 0, .long 1, .int 0, .int 0, .int 0]) := by rw [e6]; exact f1
    refine q_Vi (na := 1) (As := [.int (-2)]) (rest := []) X hD hN h rfl (c_refused l G cI cB cZ cO ad w4 _ _ _ _ _ _ _ _ _ _ _ _ (-2) f8) ⟨kw_11, kw_12, kw_13, kw_14, kw_15⟩ rfl ⟨by decide, by decide, by decide⟩ ⟨Nat.le_of_ble_eq_true rfl, Nat.le_of_ble_eq_true rfl⟩ ⟨Nat.zero_le _, Nat.zero_le _⟩ (by decide) f8 rfl rfl hl.1 rfl (Nat.le_of_ble_eq_true rfl) dX8_mark_45 (fun r9 w10 H locs hp11 h => ?_)
    obtain ⟨rfl, x12, y13, z14, e15⟩ := hp11
    have f16 : w10 0 = .inr (6, [.ref (ad 1), .ref (ad 14), .ref (ad 27), .ref (ad 54), .ref (ad 55), .ref (ad 58), .ref (ad 62), .long 0, .long 1, .int x12, .int y13, .int z14]) := (congrFun e15 _).trans (va_up_self _ _ _)
    exact e_i X h hr hlk dX8_mark_48 ⟨rfl, fun k hk => ((congrFun e15 k).trans (va_up_ne _ _ (by omega))).trans (congrFun e6 k)⟩

set_option maxHeartbeats 4000000 in
set_option maxRecDepth 100000 in
theorem c_X_is (l : Launch) (G : va_G) (cI cB cZ cO : ClassId) (ad : Nat → Nat) (w : Nat → va_E) (F : ∀ k, k < 74 → w k = fr0 cI cB cZ cO ad k) (i : Int32) : MI l G (tyq cI cB cZ cO) yX8_is cX8_is 2 (some .int) 1 21 74 ad w [.ref (ad 0), .int i] (fun r w1 => r = (-2) ∧ ∀ k, 64 ≤ k → w1 k = w k) := by
  refine mk_i (own := "NoonShade") rfl (by decide) (Nat.le_of_ble_eq_true rfl) ?_
  intro p e s m below meth c ls X hD hN hr hlk h hl
  have hx := X.1.1
  have hb := X.1.2.1
  have hown := X.1.2.2.2.1
  have hts := X.1.2.2.2.2
  have hl : lv_has ls 2 [(0, .ref (ad 0)), (1, .int i)] := hl
  refine lv_aload_n hx hb dX8_is_0 rfl (lv_at hl 0 rfl) ?_
  have f1 : w 0 = .inr (6, [.ref (ad 1), .ref (ad 14), .ref (ad 27), .ref (ad 54), .ref (ad 55), .ref (ad 58), .ref (ad 62), .long 0, .long 1, .int 0, .int 0, .int 0]) := F 0 (by decide)
  refine r_get kc8 X h 0 0 (by decide) rfl f1 (by decide) kw_5 rfl dX8_is_1 ?_
  refine lv_iload_n hx hb dX8_is_4 rfl (lv_at hl 1 rfl) ?_
  have f2 : w 1 = .inr (1, [.int 0, .int 0, .int 0, .int 0, .int 0, .ref (ad 2), .ref (ad 3), .ref (ad 4), .ref (ad 5), .ref (ad 6), .ref (ad 7), .ref (ad 8), .ref (ad 10), .ref (ad 12)]) := F 1 (by decide)
  refine q_Vi (na := 1) (As := [.int i]) (rest := []) X hD hN h rfl (c_hasCaster l G cI cB cZ cO ad w 1 _ _ _ _ _ _ i 0 rfl (by decide) f2) ⟨kw_6, kw_7, kw_8, kw_9, kw_10⟩ rfl ⟨by decide, by decide, by decide⟩ ⟨Nat.le_of_ble_eq_true rfl, Nat.le_of_ble_eq_true rfl⟩ ⟨Nat.zero_le _, Nat.zero_le _⟩ (by decide) f2 rfl rfl hl.1 rfl (Nat.le_of_ble_eq_true rfl) dX8_is_5 (fun r3 w4 H locs hp5 h => ?_)
  obtain ⟨e6, hp5⟩ := hp5
  rcases hp5 with ⟨hq7a, hq7b, rfl⟩ | ⟨hq7, rfl⟩
  · exfalso; omega
  · refine lv_if_ne (tgt := 18) hx hb dX8_is_8 (by decide) (fun hc => absurd hc (by decide)) (fun _ => ?_)
    refine lv_aload_n hx hb dX8_is_11 rfl (lv_at hl 0 rfl) ?_
    refine lv_bipush (v := (-2)) hx hb dX8_is_12 (by decide) ?_
    have f8 : w4 0 = .inr (6, [.ref (ad 1), .ref (ad 14), .ref (ad 27), .ref (ad 54), .ref (ad 55), .ref (ad 58), .ref (ad 62), .long 0, .long 1, .int 0, .int 0, .int 0]) := by rw [e6]; exact f1
    refine q_Vi (na := 1) (As := [.int (-2)]) (rest := []) X hD hN h rfl (c_refused l G cI cB cZ cO ad w4 _ _ _ _ _ _ _ _ _ _ _ _ (-2) f8) ⟨kw_11, kw_12, kw_13, kw_14, kw_15⟩ rfl ⟨by decide, by decide, by decide⟩ ⟨Nat.le_of_ble_eq_true rfl, Nat.le_of_ble_eq_true rfl⟩ ⟨Nat.zero_le _, Nat.zero_le _⟩ (by decide) f8 rfl rfl hl.1 rfl (Nat.le_of_ble_eq_true rfl) dX8_is_14 (fun r9 w10 H locs hp11 h => ?_)
    obtain ⟨rfl, x12, y13, z14, e15⟩ := hp11
    have f16 : w10 0 = .inr (6, [.ref (ad 1), .ref (ad 14), .ref (ad 27), .ref (ad 54), .ref (ad 55), .ref (ad 58), .ref (ad 62), .long 0, .long 1, .int x12, .int y13, .int z14]) := (congrFun e15 _).trans (va_up_self _ _ _)
    exact e_i X h hr hlk dX8_is_17 ⟨rfl, fun k hk => ((congrFun e15 k).trans (va_up_ne _ _ (by omega))).trans (congrFun e6 k)⟩

set_option maxHeartbeats 4000000 in
set_option maxRecDepth 100000 in
theorem c_X_look (l : Launch) (G : va_G) (cI cB cZ cO : ClassId) (ad : Nat → Nat) (w : Nat → va_E) (F : ∀ k, k < 74 → w k = fr0 cI cB cZ cO ad k) (i : Int32) : MI l G (tyq cI cB cZ cO) yX8_look cX8_look 4 (some .int) 1 21 74 ad w [.ref (ad 0), .int i] (fun r w1 => r = (-2) ∧ ∀ k, 64 ≤ k → w1 k = w k) := by
  refine mk_i (own := "NoonShade") rfl (by decide) (Nat.le_of_ble_eq_true rfl) ?_
  intro p e s m below meth c ls X hD hN hr hlk h hl
  have hx := X.1.1
  have hb := X.1.2.1
  have hown := X.1.2.2.2.1
  have hts := X.1.2.2.2.2
  have hl : lv_has ls 4 [(0, .ref (ad 0)), (1, .int i)] := hl
  refine lv_aload_n hx hb dX8_look_0 rfl (lv_at hl 0 rfl) ?_
  have f1 : w 0 = .inr (6, [.ref (ad 1), .ref (ad 14), .ref (ad 27), .ref (ad 54), .ref (ad 55), .ref (ad 58), .ref (ad 62), .long 0, .long 1, .int 0, .int 0, .int 0]) := F 0 (by decide)
  refine r_get kc8 X h 0 0 (by decide) rfl f1 (by decide) kw_5 rfl dX8_look_1 ?_
  refine lv_iload_n hx hb dX8_look_4 rfl (lv_at hl 1 rfl) ?_
  have f2 : w 1 = .inr (1, [.int 0, .int 0, .int 0, .int 0, .int 0, .ref (ad 2), .ref (ad 3), .ref (ad 4), .ref (ad 5), .ref (ad 6), .ref (ad 7), .ref (ad 8), .ref (ad 10), .ref (ad 12)]) := F 1 (by decide)
  refine q_Vi (na := 1) (As := [.int i]) (rest := []) X hD hN h rfl (c_hasCaster l G cI cB cZ cO ad w 1 _ _ _ _ _ _ i 0 rfl (by decide) f2) ⟨kw_6, kw_7, kw_8, kw_9, kw_10⟩ rfl ⟨by decide, by decide, by decide⟩ ⟨Nat.le_of_ble_eq_true rfl, Nat.le_of_ble_eq_true rfl⟩ ⟨Nat.zero_le _, Nat.zero_le _⟩ (by decide) f2 rfl rfl hl.1 rfl (Nat.le_of_ble_eq_true rfl) dX8_look_5 (fun r3 w4 H locs hp5 h => ?_)
  obtain ⟨e6, hp5⟩ := hp5
  rcases hp5 with ⟨hq7a, hq7b, rfl⟩ | ⟨hq7, rfl⟩
  · exfalso; omega
  · refine lv_if_ne (tgt := 18) hx hb dX8_look_8 (by decide) (fun hc => absurd hc (by decide)) (fun _ => ?_)
    refine lv_aload_n hx hb dX8_look_11 rfl (lv_at hl 0 rfl) ?_
    refine lv_bipush (v := (-2)) hx hb dX8_look_12 (by decide) ?_
    have f8 : w4 0 = .inr (6, [.ref (ad 1), .ref (ad 14), .ref (ad 27), .ref (ad 54), .ref (ad 55), .ref (ad 58), .ref (ad 62), .long 0, .long 1, .int 0, .int 0, .int 0]) := by rw [e6]; exact f1
    refine q_Vi (na := 1) (As := [.int (-2)]) (rest := []) X hD hN h rfl (c_refused l G cI cB cZ cO ad w4 _ _ _ _ _ _ _ _ _ _ _ _ (-2) f8) ⟨kw_11, kw_12, kw_13, kw_14, kw_15⟩ rfl ⟨by decide, by decide, by decide⟩ ⟨Nat.le_of_ble_eq_true rfl, Nat.le_of_ble_eq_true rfl⟩ ⟨Nat.zero_le _, Nat.zero_le _⟩ (by decide) f8 rfl rfl hl.1 rfl (Nat.le_of_ble_eq_true rfl) dX8_look_14 (fun r9 w10 H locs hp11 h => ?_)
    obtain ⟨rfl, x12, y13, z14, e15⟩ := hp11
    have f16 : w10 0 = .inr (6, [.ref (ad 1), .ref (ad 14), .ref (ad 27), .ref (ad 54), .ref (ad 55), .ref (ad 58), .ref (ad 62), .long 0, .long 1, .int x12, .int y13, .int z14]) := (congrFun e15 _).trans (va_up_self _ _ _)
    exact e_i X h hr hlk dX8_look_17 ⟨rfl, fun k hk => ((congrFun e15 k).trans (va_up_ne _ _ (by omega))).trans (congrFun e6 k)⟩

set_option maxHeartbeats 4000000 in
set_option maxRecDepth 100000 in
theorem c_X_kinds (l : Launch) (G : va_G) (cI cB cZ cO : ClassId) (ad : Nat → Nat) (w : Nat → va_E) (F : ∀ k, k < 74 → w k = fr0 cI cB cZ cO ad k) (j : Int32) : MI l G (tyq cI cB cZ cO) yX8_kinds cX8_kinds 2 (some .int) 1 21 74 ad w [.ref (ad 0), .int j] (fun r w1 => r = (-2) ∧ ∀ k, 64 ≤ k → w1 k = w k) := by
  refine mk_i (own := "NoonShade") rfl (by decide) (Nat.le_of_ble_eq_true rfl) ?_
  intro p e s m below meth c ls X hD hN hr hlk h hl
  have hx := X.1.1
  have hb := X.1.2.1
  have hown := X.1.2.2.2.1
  have hts := X.1.2.2.2.2
  have hl : lv_has ls 2 [(0, .ref (ad 0)), (1, .int j)] := hl
  refine lv_aload_n hx hb dX8_kinds_0 rfl (lv_at hl 0 rfl) ?_
  have f1 : w 0 = .inr (6, [.ref (ad 1), .ref (ad 14), .ref (ad 27), .ref (ad 54), .ref (ad 55), .ref (ad 58), .ref (ad 62), .long 0, .long 1, .int 0, .int 0, .int 0]) := F 0 (by decide)
  refine r_get kc8 X h 0 0 (by decide) rfl f1 (by decide) kw_5 rfl dX8_kinds_1 ?_
  refine lv_iload_n hx hb dX8_kinds_4 rfl (lv_at hl 1 rfl) ?_
  have f2 : w 1 = .inr (1, [.int 0, .int 0, .int 0, .int 0, .int 0, .ref (ad 2), .ref (ad 3), .ref (ad 4), .ref (ad 5), .ref (ad 6), .ref (ad 7), .ref (ad 8), .ref (ad 10), .ref (ad 12)]) := F 1 (by decide)
  refine q_Vi (na := 1) (As := [.int j]) (rest := []) X hD hN h rfl (c_hasJar l G cI cB cZ cO ad w 1 _ _ _ _ _ _ j 0 rfl (by decide) f2) ⟨kw_16, kw_17, kw_18, kw_9, kw_19⟩ rfl ⟨by decide, by decide, by decide⟩ ⟨Nat.le_of_ble_eq_true rfl, Nat.le_of_ble_eq_true rfl⟩ ⟨Nat.zero_le _, Nat.zero_le _⟩ (by decide) f2 rfl rfl hl.1 rfl (Nat.le_of_ble_eq_true rfl) dX8_kinds_5 (fun r3 w4 H locs hp5 h => ?_)
  obtain ⟨e6, hp5⟩ := hp5
  rcases hp5 with ⟨hq7a, hq7b, rfl⟩ | ⟨hq7, rfl⟩
  · exfalso; omega
  · refine lv_if_ne (tgt := 18) hx hb dX8_kinds_8 (by decide) (fun hc => absurd hc (by decide)) (fun _ => ?_)
    refine lv_aload_n hx hb dX8_kinds_11 rfl (lv_at hl 0 rfl) ?_
    refine lv_bipush (v := (-2)) hx hb dX8_kinds_12 (by decide) ?_
    have f8 : w4 0 = .inr (6, [.ref (ad 1), .ref (ad 14), .ref (ad 27), .ref (ad 54), .ref (ad 55), .ref (ad 58), .ref (ad 62), .long 0, .long 1, .int 0, .int 0, .int 0]) := by rw [e6]; exact f1
    refine q_Vi (na := 1) (As := [.int (-2)]) (rest := []) X hD hN h rfl (c_refused l G cI cB cZ cO ad w4 _ _ _ _ _ _ _ _ _ _ _ _ (-2) f8) ⟨kw_11, kw_12, kw_13, kw_14, kw_15⟩ rfl ⟨by decide, by decide, by decide⟩ ⟨Nat.le_of_ble_eq_true rfl, Nat.le_of_ble_eq_true rfl⟩ ⟨Nat.zero_le _, Nat.zero_le _⟩ (by decide) f8 rfl rfl hl.1 rfl (Nat.le_of_ble_eq_true rfl) dX8_kinds_14 (fun r9 w10 H locs hp11 h => ?_)
    obtain ⟨rfl, x12, y13, z14, e15⟩ := hp11
    have f16 : w10 0 = .inr (6, [.ref (ad 1), .ref (ad 14), .ref (ad 27), .ref (ad 54), .ref (ad 55), .ref (ad 58), .ref (ad 62), .long 0, .long 1, .int x12, .int y13, .int z14]) := (congrFun e15 _).trans (va_up_self _ _ _)
    exact e_i X h hr hlk dX8_kinds_17 ⟨rfl, fun k hk => ((congrFun e15 k).trans (va_up_ne _ _ (by omega))).trans (congrFun e6 k)⟩

set_option maxHeartbeats 4000000 in
set_option maxRecDepth 100000 in
theorem c_X_ask (l : Launch) (G : va_G) (cI cB cZ cO : ClassId) (ad : Nat → Nat) (w : Nat → va_E) (F : ∀ k, k < 74 → w k = fr0 cI cB cZ cO ad k) (j : Int32) : MI l G (tyq cI cB cZ cO) yX8_ask cX8_ask 3 (some .int) 1 21 74 ad w [.ref (ad 0), .int j] (fun r w1 => r = (-2) ∧ ∀ k, 64 ≤ k → w1 k = w k) := by
  refine mk_i (own := "NoonShade") rfl (by decide) (Nat.le_of_ble_eq_true rfl) ?_
  intro p e s m below meth c ls X hD hN hr hlk h hl
  have hx := X.1.1
  have hb := X.1.2.1
  have hown := X.1.2.2.2.1
  have hts := X.1.2.2.2.2
  have hl : lv_has ls 3 [(0, .ref (ad 0)), (1, .int j)] := hl
  refine lv_aload_n hx hb dX8_ask_0 rfl (lv_at hl 0 rfl) ?_
  have f1 : w 0 = .inr (6, [.ref (ad 1), .ref (ad 14), .ref (ad 27), .ref (ad 54), .ref (ad 55), .ref (ad 58), .ref (ad 62), .long 0, .long 1, .int 0, .int 0, .int 0]) := F 0 (by decide)
  refine r_get kc8 X h 0 0 (by decide) rfl f1 (by decide) kw_5 rfl dX8_ask_1 ?_
  refine lv_iload_n hx hb dX8_ask_4 rfl (lv_at hl 1 rfl) ?_
  have f2 : w 1 = .inr (1, [.int 0, .int 0, .int 0, .int 0, .int 0, .ref (ad 2), .ref (ad 3), .ref (ad 4), .ref (ad 5), .ref (ad 6), .ref (ad 7), .ref (ad 8), .ref (ad 10), .ref (ad 12)]) := F 1 (by decide)
  refine q_Vi (na := 1) (As := [.int j]) (rest := []) X hD hN h rfl (c_hasJar l G cI cB cZ cO ad w 1 _ _ _ _ _ _ j 0 rfl (by decide) f2) ⟨kw_16, kw_17, kw_18, kw_9, kw_19⟩ rfl ⟨by decide, by decide, by decide⟩ ⟨Nat.le_of_ble_eq_true rfl, Nat.le_of_ble_eq_true rfl⟩ ⟨Nat.zero_le _, Nat.zero_le _⟩ (by decide) f2 rfl rfl hl.1 rfl (Nat.le_of_ble_eq_true rfl) dX8_ask_5 (fun r3 w4 H locs hp5 h => ?_)
  obtain ⟨e6, hp5⟩ := hp5
  rcases hp5 with ⟨hq7a, hq7b, rfl⟩ | ⟨hq7, rfl⟩
  · exfalso; omega
  · refine lv_if_ne (tgt := 18) hx hb dX8_ask_8 (by decide) (fun hc => absurd hc (by decide)) (fun _ => ?_)
    refine lv_aload_n hx hb dX8_ask_11 rfl (lv_at hl 0 rfl) ?_
    refine lv_bipush (v := (-2)) hx hb dX8_ask_12 (by decide) ?_
    have f8 : w4 0 = .inr (6, [.ref (ad 1), .ref (ad 14), .ref (ad 27), .ref (ad 54), .ref (ad 55), .ref (ad 58), .ref (ad 62), .long 0, .long 1, .int 0, .int 0, .int 0]) := by rw [e6]; exact f1
    refine q_Vi (na := 1) (As := [.int (-2)]) (rest := []) X hD hN h rfl (c_refused l G cI cB cZ cO ad w4 _ _ _ _ _ _ _ _ _ _ _ _ (-2) f8) ⟨kw_11, kw_12, kw_13, kw_14, kw_15⟩ rfl ⟨by decide, by decide, by decide⟩ ⟨Nat.le_of_ble_eq_true rfl, Nat.le_of_ble_eq_true rfl⟩ ⟨Nat.zero_le _, Nat.zero_le _⟩ (by decide) f8 rfl rfl hl.1 rfl (Nat.le_of_ble_eq_true rfl) dX8_ask_14 (fun r9 w10 H locs hp11 h => ?_)
    obtain ⟨rfl, x12, y13, z14, e15⟩ := hp11
    have f16 : w10 0 = .inr (6, [.ref (ad 1), .ref (ad 14), .ref (ad 27), .ref (ad 54), .ref (ad 55), .ref (ad 58), .ref (ad 62), .long 0, .long 1, .int x12, .int y13, .int z14]) := (congrFun e15 _).trans (va_up_self _ _ _)
    exact e_i X h hr hlk dX8_ask_17 ⟨rfl, fun k hk => ((congrFun e15 k).trans (va_up_ne _ _ (by omega))).trans (congrFun e6 k)⟩

set_option maxHeartbeats 4000000 in
set_option maxRecDepth 100000 in
theorem c_X_spilt (l : Launch) (G : va_G) (cI cB cZ cO : ClassId) (ad : Nat → Nat) (w : Nat → va_E) (F : ∀ k, k < 74 → w k = fr0 cI cB cZ cO ad k) (j u x t : Int32) : MI l G (tyq cI cB cZ cO) yX8_spilt cX8_spilt 5 (some .int) 1 21 74 ad w [.ref (ad 0), .int j, .int u, .int x, .int t] (fun r w1 => r = (-2) ∧ ∀ k, 64 ≤ k → w1 k = w k) := by
  refine mk_i (own := "NoonShade") rfl (by decide) (Nat.le_of_ble_eq_true rfl) ?_
  intro p e s m below meth c ls X hD hN hr hlk h hl
  have hx := X.1.1
  have hb := X.1.2.1
  have hown := X.1.2.2.2.1
  have hts := X.1.2.2.2.2
  have hl : lv_has ls 5 [(0, .ref (ad 0)), (1, .int j), (2, .int u), (3, .int x), (4, .int t)] := hl
  refine lv_aload_n hx hb dX8_spilt_0 rfl (lv_at hl 0 rfl) ?_
  have f1 : w 0 = .inr (6, [.ref (ad 1), .ref (ad 14), .ref (ad 27), .ref (ad 54), .ref (ad 55), .ref (ad 58), .ref (ad 62), .long 0, .long 1, .int 0, .int 0, .int 0]) := F 0 (by decide)
  refine r_get kc8 X h 0 0 (by decide) rfl f1 (by decide) kw_5 rfl dX8_spilt_1 ?_
  refine lv_iload_n hx hb dX8_spilt_4 rfl (lv_at hl 1 rfl) ?_
  have f2 : w 1 = .inr (1, [.int 0, .int 0, .int 0, .int 0, .int 0, .ref (ad 2), .ref (ad 3), .ref (ad 4), .ref (ad 5), .ref (ad 6), .ref (ad 7), .ref (ad 8), .ref (ad 10), .ref (ad 12)]) := F 1 (by decide)
  refine q_Vi (na := 1) (As := [.int j]) (rest := []) X hD hN h rfl (c_hasJar l G cI cB cZ cO ad w 1 _ _ _ _ _ _ j 0 rfl (by decide) f2) ⟨kw_16, kw_17, kw_18, kw_9, kw_19⟩ rfl ⟨by decide, by decide, by decide⟩ ⟨Nat.le_of_ble_eq_true rfl, Nat.le_of_ble_eq_true rfl⟩ ⟨Nat.zero_le _, Nat.zero_le _⟩ (by decide) f2 rfl rfl hl.1 rfl (Nat.le_of_ble_eq_true rfl) dX8_spilt_5 (fun r3 w4 H locs hp5 h => ?_)
  obtain ⟨e6, hp5⟩ := hp5
  rcases hp5 with ⟨hq7a, hq7b, rfl⟩ | ⟨hq7, rfl⟩
  · exfalso; omega
  · refine lv_if_eq (tgt := 41) hx hb dX8_spilt_8 (by decide) (fun _ => ?_) (fun hc => absurd (by decide) hc)
    refine lv_aload_n hx hb dX8_spilt_41 rfl (lv_at hl 0 rfl) ?_
    refine lv_bipush (v := (-2)) hx hb dX8_spilt_42 (by decide) ?_
    have f8 : w4 0 = .inr (6, [.ref (ad 1), .ref (ad 14), .ref (ad 27), .ref (ad 54), .ref (ad 55), .ref (ad 58), .ref (ad 62), .long 0, .long 1, .int 0, .int 0, .int 0]) := by rw [e6]; exact f1
    refine q_Vi (na := 1) (As := [.int (-2)]) (rest := []) X hD hN h rfl (c_refused l G cI cB cZ cO ad w4 _ _ _ _ _ _ _ _ _ _ _ _ (-2) f8) ⟨kw_11, kw_12, kw_13, kw_14, kw_15⟩ rfl ⟨by decide, by decide, by decide⟩ ⟨Nat.le_of_ble_eq_true rfl, Nat.le_of_ble_eq_true rfl⟩ ⟨Nat.zero_le _, Nat.zero_le _⟩ (by decide) f8 rfl rfl hl.1 rfl (Nat.le_of_ble_eq_true rfl) dX8_spilt_44 (fun r9 w10 H locs hp11 h => ?_)
    obtain ⟨rfl, x12, y13, z14, e15⟩ := hp11
    have f16 : w10 0 = .inr (6, [.ref (ad 1), .ref (ad 14), .ref (ad 27), .ref (ad 54), .ref (ad 55), .ref (ad 58), .ref (ad 62), .long 0, .long 1, .int x12, .int y13, .int z14]) := (congrFun e15 _).trans (va_up_self _ _ _)
    exact e_i X h hr hlk dX8_spilt_47 ⟨rfl, fun k hk => ((congrFun e15 k).trans (va_up_ne _ _ (by omega))).trans (congrFun e6 k)⟩
end
