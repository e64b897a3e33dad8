theorem kv_719 : Cond.methodLink "NoonShadeLaw" 13 yX8_island ∈ gtb := gtb_mem (in_t1 (List.mem_of_getElem? (i := 237) (by decide +kernel))) rfl
theorem kv_720 : Cond.instanceMethod yX8_island ∈ gtb := gtb_mem (in_t1 (List.mem_of_getElem? (i := 238) (by decide +kernel))) rfl
theorem kv_721 : Cond.selects "NoonShade" yX8_island yX8_island ∈ gtb := gtb_mem (in_t1 (List.mem_of_getElem? (i := 239) (by decide +kernel))) rfl
theorem kv_722 : Cond.code yX8_island prog_1_method_2_code 3 (some .int) ∈ gtb := gtb_mem (in_t2 (List.mem_of_getElem? (i := 0) (rfl))) rfl
theorem kv_723 : Cond.methodLink "NoonShadeLaw" 17 yX9_island ∈ gtb := gtb_mem (in_t4 (List.mem_of_getElem? (i := 123) (by decide +kernel))) rfl
theorem kv_724 : Cond.instanceMethod yX9_island ∈ gtb := gtb_mem (in_t4 (List.mem_of_getElem? (i := 124) (by decide +kernel))) rfl
theorem kv_725 : Cond.selects "NoonShadeModel" yX9_island yX9_island ∈ gtb := gtb_mem (in_t4 (List.mem_of_getElem? (i := 125) (by decide +kernel))) rfl
theorem kv_726 : Cond.code yX9_island prog_11_method_17_code 3 (some .int) ∈ gtb := gtb_mem (in_t4 (List.mem_of_getElem? (i := 126) (rfl))) rfl
theorem kv_727 : Cond.methodLink "NoonShadeLaw" 18 yX8_caster ∈ gtb := gtb_mem (in_t2 (List.mem_of_getElem? (i := 20) (by decide +kernel))) rfl
theorem kv_728 : Cond.instanceMethod yX8_caster ∈ gtb := gtb_mem (in_t2 (List.mem_of_getElem? (i := 21) (by decide +kernel))) rfl
theorem kv_729 : Cond.selects "NoonShade" yX8_caster yX8_caster ∈ gtb := gtb_mem (in_t2 (List.mem_of_getElem? (i := 22) (by decide +kernel))) rfl
theorem kv_730 : Cond.code yX8_caster prog_1_method_3_code 4 (some .int) ∈ gtb := gtb_mem (in_t2 (List.mem_of_getElem? (i := 23) (rfl))) rfl
theorem kv_731 : Cond.methodLink "NoonShadeLaw" 22 yX9_caster ∈ gtb := gtb_mem (in_t4 (List.mem_of_getElem? (i := 135) (by decide +kernel))) rfl
theorem kv_732 : Cond.instanceMethod yX9_caster ∈ gtb := gtb_mem (in_t4 (List.mem_of_getElem? (i := 136) (by decide +kernel))) rfl
theorem kv_733 : Cond.selects "NoonShadeModel" yX9_caster yX9_caster ∈ gtb := gtb_mem (in_t4 (List.mem_of_getElem? (i := 137) (by decide +kernel))) rfl
theorem kv_734 : Cond.code yX9_caster prog_11_method_19_code 4 (some .int) ∈ gtb := gtb_mem (in_t4 (List.mem_of_getElem? (i := 138) (rfl))) rfl
theorem kv_735 : Cond.methodLink "NoonShadeLaw" 23 yX8_jar ∈ gtb := gtb_mem (in_t2 (List.mem_of_getElem? (i := 29) (by decide +kernel))) rfl
theorem kv_736 : Cond.instanceMethod yX8_jar ∈ gtb := gtb_mem (in_t2 (List.mem_of_getElem? (i := 30) (by decide +kernel))) rfl
theorem kv_737 : Cond.selects "NoonShade" yX8_jar yX8_jar ∈ gtb := gtb_mem (in_t2 (List.mem_of_getElem? (i := 31) (by decide +kernel))) rfl
theorem kv_738 : Cond.code yX8_jar prog_1_method_4_code 2 (some .int) ∈ gtb := gtb_mem (in_t2 (List.mem_of_getElem? (i := 32) (rfl))) rfl
theorem kv_739 : Cond.methodLink "NoonShadeLaw" 26 yX9_jar ∈ gtb := gtb_mem (in_t4 (List.mem_of_getElem? (i := 158) (by decide +kernel))) rfl
theorem kv_740 : Cond.instanceMethod yX9_jar ∈ gtb := gtb_mem (in_t4 (List.mem_of_getElem? (i := 159) (by decide +kernel))) rfl
theorem kv_741 : Cond.selects "NoonShadeModel" yX9_jar yX9_jar ∈ gtb := gtb_mem (in_t4 (List.mem_of_getElem? (i := 160) (by decide +kernel))) rfl
theorem kv_742 : Cond.code yX9_jar prog_11_method_21_code 2 (some .int) ∈ gtb := gtb_mem (in_t4 (List.mem_of_getElem? (i := 161) (rfl))) rfl
theorem kv_743 : Cond.methodLink "NoonShadeLaw" 27 yX8_type ∈ gtb := gtb_mem (in_t2 (List.mem_of_getElem? (i := 37) (by decide +kernel))) rfl
theorem kv_744 : Cond.instanceMethod yX8_type ∈ gtb := gtb_mem (in_t2 (List.mem_of_getElem? (i := 38) (by decide +kernel))) rfl
theorem kv_745 : Cond.selects "NoonShade" yX8_type yX8_type ∈ gtb := gtb_mem (in_t2 (List.mem_of_getElem? (i := 39) (by decide +kernel))) rfl
theorem kv_746 : Cond.code yX8_type prog_1_method_5_code 2 (some .int) ∈ gtb := gtb_mem (in_t2 (List.mem_of_getElem? (i := 40) (rfl))) rfl
theorem kv_747 : Cond.methodLink "NoonShadeLaw" 30 yX9_type ∈ gtb := gtb_mem (in_t5 (List.mem_of_getElem? (i := 162) (by decide +kernel))) rfl
theorem kv_748 : Cond.instanceMethod yX9_type ∈ gtb := gtb_mem (in_t5 (List.mem_of_getElem? (i := 163) (by decide +kernel))) rfl
theorem kv_749 : Cond.selects "NoonShadeModel" yX9_type yX9_type ∈ gtb := gtb_mem (in_t5 (List.mem_of_getElem? (i := 164) (by decide +kernel))) rfl
theorem kv_750 : Cond.code yX9_type prog_11_method_73_code 2 (some .int) ∈ gtb := gtb_mem (in_t5 (List.mem_of_getElem? (i := 165) (rfl))) rfl
theorem kv_751 : Cond.methodLink "NoonShadeLaw" 31 yX8_clear ∈ gtb := gtb_mem (in_t2 (List.mem_of_getElem? (i := 50) (by decide +kernel))) rfl
theorem kv_752 : Cond.instanceMethod yX8_clear ∈ gtb := gtb_mem (in_t2 (List.mem_of_getElem? (i := 51) (by decide +kernel))) rfl
theorem kv_753 : Cond.selects "NoonShade" yX8_clear yX8_clear ∈ gtb := gtb_mem (in_t2 (List.mem_of_getElem? (i := 52) (by decide +kernel))) rfl
theorem kv_754 : Cond.code yX8_clear prog_1_method_6_code 1 (some .int) ∈ gtb := gtb_mem (in_t2 (List.mem_of_getElem? (i := 53) (rfl))) rfl
theorem kv_755 : Cond.methodLink "NoonShadeLaw" 35 yX9_clear ∈ gtb := gtb_mem (in_t5 (List.mem_of_getElem? (i := 167) (by decide +kernel))) rfl
theorem kv_756 : Cond.instanceMethod yX9_clear ∈ gtb := gtb_mem (in_t5 (List.mem_of_getElem? (i := 168) (by decide +kernel))) rfl
theorem kv_757 : Cond.selects "NoonShadeModel" yX9_clear yX9_clear ∈ gtb := gtb_mem (in_t5 (List.mem_of_getElem? (i := 169) (by decide +kernel))) rfl
theorem kv_758 : Cond.code yX9_clear prog_11_method_74_code 2 (some .int) ∈ gtb := gtb_mem (in_t5 (List.mem_of_getElem? (i := 170) (rfl))) rfl
theorem kv_759 : Cond.methodLink "NoonShadeLaw" 36 yX8_read ∈ gtb := gtb_mem (in_t2 (List.mem_of_getElem? (i := 58) (by decide +kernel))) rfl
theorem kv_760 : Cond.instanceMethod yX8_read ∈ gtb := gtb_mem (in_t2 (List.mem_of_getElem? (i := 59) (by decide +kernel))) rfl
theorem kv_761 : Cond.selects "NoonShade" yX8_read yX8_read ∈ gtb := gtb_mem (in_t2 (List.mem_of_getElem? (i := 60) (by decide +kernel))) rfl
theorem kv_762 : Cond.code yX8_read prog_1_method_7_code 2 (some .int) ∈ gtb := gtb_mem (in_t2 (List.mem_of_getElem? (i := 61) (rfl))) rfl
theorem kv_763 : Cond.methodLink "NoonShadeLaw" 39 yX9_read ∈ gtb := gtb_mem (in_t5 (List.mem_of_getElem? (i := 171) (by decide +kernel))) rfl
theorem kv_764 : Cond.instanceMethod yX9_read ∈ gtb := gtb_mem (in_t5 (List.mem_of_getElem? (i := 172) (by decide +kernel))) rfl
theorem kv_765 : Cond.selects "NoonShadeModel" yX9_read yX9_read ∈ gtb := gtb_mem (in_t5 (List.mem_of_getElem? (i := 173) (by decide +kernel))) rfl
theorem kv_766 : Cond.code yX9_read prog_11_method_87_code 3 (some .int) ∈ gtb := gtb_mem (in_t5 (List.mem_of_getElem? (i := 174) (rfl))) rfl
theorem kv_767 : Cond.methodLink "NoonShadeLaw" 40 yX8_ladle ∈ gtb := gtb_mem (in_t3 (List.mem_of_getElem? (i := 4) (by decide +kernel))) rfl
theorem kv_768 : Cond.instanceMethod yX8_ladle ∈ gtb := gtb_mem (in_t3 (List.mem_of_getElem? (i := 5) (by decide +kernel))) rfl
theorem kv_769 : Cond.selects "NoonShade" yX8_ladle yX8_ladle ∈ gtb := gtb_mem (in_t3 (List.mem_of_getElem? (i := 6) (by decide +kernel))) rfl
theorem kv_770 : Cond.code yX8_ladle prog_1_method_8_code 3 (some .int) ∈ gtb := gtb_mem (in_t3 (List.mem_of_getElem? (i := 7) (rfl))) rfl
theorem kv_771 : Cond.methodLink "NoonShadeLaw" 44 yX9_ladle ∈ gtb := gtb_mem (in_t4 (List.mem_of_getElem? (i := 165) (by decide +kernel))) rfl
theorem kv_772 : Cond.instanceMethod yX9_ladle ∈ gtb := gtb_mem (in_t4 (List.mem_of_getElem? (i := 166) (by decide +kernel))) rfl
theorem kv_773 : Cond.selects "NoonShadeModel" yX9_ladle yX9_ladle ∈ gtb := gtb_mem (in_t4 (List.mem_of_getElem? (i := 167) (by decide +kernel))) rfl
theorem kv_774 : Cond.code yX9_ladle prog_11_method_32_code 3 (some .int) ∈ gtb := gtb_mem (in_t4 (List.mem_of_getElem? (i := 168) (rfl))) rfl
theorem kv_775 : Cond.methodLink "NoonShadeLaw" 45 yX8_pours ∈ gtb := gtb_mem (in_t3 (List.mem_of_getElem? (i := 16) (by decide +kernel))) rfl
theorem kv_776 : Cond.instanceMethod yX8_pours ∈ gtb := gtb_mem (in_t3 (List.mem_of_getElem? (i := 17) (by decide +kernel))) rfl
theorem kv_777 : Cond.selects "NoonShade" yX8_pours yX8_pours ∈ gtb := gtb_mem (in_t3 (List.mem_of_getElem? (i := 18) (by decide +kernel))) rfl
theorem kv_778 : Cond.code yX8_pours prog_1_method_9_code 3 (some .int) ∈ gtb := gtb_mem (in_t3 (List.mem_of_getElem? (i := 19) (rfl))) rfl
theorem kv_779 : Cond.methodLink "NoonShadeLaw" 48 yX9_pours ∈ gtb := gtb_mem (in_t4 (List.mem_of_getElem? (i := 200) (by decide +kernel))) rfl
theorem kv_780 : Cond.instanceMethod yX9_pours ∈ gtb := gtb_mem (in_t4 (List.mem_of_getElem? (i := 201) (by decide +kernel))) rfl
theorem kv_781 : Cond.selects "NoonShadeModel" yX9_pours yX9_pours ∈ gtb := gtb_mem (in_t4 (List.mem_of_getElem? (i := 202) (by decide +kernel))) rfl
theorem kv_782 : Cond.code yX9_pours prog_11_method_33_code 3 (some .int) ∈ gtb := gtb_mem (in_t4 (List.mem_of_getElem? (i := 203) (rfl))) rfl
theorem kv_783 : Cond.methodLink "NoonShadeLaw" 49 yX8_sells ∈ gtb := gtb_mem (in_t3 (List.mem_of_getElem? (i := 21) (by decide +kernel))) rfl
theorem kv_784 : Cond.instanceMethod yX8_sells ∈ gtb := gtb_mem (in_t3 (List.mem_of_getElem? (i := 22) (by decide +kernel))) rfl
theorem kv_785 : Cond.selects "NoonShade" yX8_sells yX8_sells ∈ gtb := gtb_mem (in_t3 (List.mem_of_getElem? (i := 23) (by decide +kernel))) rfl
theorem kv_786 : Cond.code yX8_sells prog_1_method_10_code 2 (some .int) ∈ gtb := gtb_mem (in_t3 (List.mem_of_getElem? (i := 24) (rfl))) rfl
theorem kv_787 : Cond.methodLink "NoonShadeLaw" 52 yX9_sells ∈ gtb := gtb_mem (in_t4 (List.mem_of_getElem? (i := 207) (by decide +kernel))) rfl
theorem kv_788 : Cond.instanceMethod yX9_sells ∈ gtb := gtb_mem (in_t4 (List.mem_of_getElem? (i := 208) (by decide +kernel))) rfl
theorem kv_789 : Cond.selects "NoonShadeModel" yX9_sells yX9_sells ∈ gtb := gtb_mem (in_t4 (List.mem_of_getElem? (i := 209) (by decide +kernel))) rfl
theorem kv_790 : Cond.code yX9_sells prog_11_method_34_code 4 (some .int) ∈ gtb := gtb_mem (in_t4 (List.mem_of_getElem? (i := 210) (rfl))) rfl
theorem kv_791 : Cond.methodLink "NoonShadeLaw" 53 yX8_hours ∈ gtb := gtb_mem (in_t3 (List.mem_of_getElem? (i := 29) (by decide +kernel))) rfl
theorem kv_792 : Cond.instanceMethod yX8_hours ∈ gtb := gtb_mem (in_t3 (List.mem_of_getElem? (i := 30) (by decide +kernel))) rfl
theorem kv_793 : Cond.selects "NoonShade" yX8_hours yX8_hours ∈ gtb := gtb_mem (in_t3 (List.mem_of_getElem? (i := 31) (by decide +kernel))) rfl
theorem kv_794 : Cond.code yX8_hours prog_1_method_11_code 2 (some .int) ∈ gtb := gtb_mem (in_t3 (List.mem_of_getElem? (i := 32) (rfl))) rfl
theorem kv_795 : Cond.methodLink "NoonShadeLaw" 56 yX9_hours ∈ gtb := gtb_mem (in_t4 (List.mem_of_getElem? (i := 211) (by decide +kernel))) rfl
theorem kv_796 : Cond.instanceMethod yX9_hours ∈ gtb := gtb_mem (in_t4 (List.mem_of_getElem? (i := 212) (by decide +kernel))) rfl
theorem kv_797 : Cond.selects "NoonShadeModel" yX9_hours yX9_hours ∈ gtb := gtb_mem (in_t4 (List.mem_of_getElem? (i := 213) (by decide +kernel))) rfl
theorem kv_798 : Cond.code yX9_hours prog_11_method_35_code 2 (some .int) ∈ gtb := gtb_mem (in_t4 (List.mem_of_getElem? (i := 214) (rfl))) rfl
theorem kv_799 : Cond.methodLink "NoonShadeLaw" 57 yX8_undo ∈ gtb := gtb_mem (in_t3 (List.mem_of_getElem? (i := 34) (by decide +kernel))) rfl
theorem kv_800 : Cond.instanceMethod yX8_undo ∈ gtb := gtb_mem (in_t3 (List.mem_of_getElem? (i := 35) (by decide +kernel))) rfl
theorem kv_801 : Cond.selects "NoonShade" yX8_undo yX8_undo ∈ gtb := gtb_mem (in_t3 (List.mem_of_getElem? (i := 36) (by decide +kernel))) rfl
theorem kv_802 : Cond.code yX8_undo prog_1_method_12_code 1 (some .int) ∈ gtb := gtb_mem (in_t3 (List.mem_of_getElem? (i := 37) (rfl))) rfl
theorem kv_803 : Cond.methodLink "NoonShadeLaw" 60 yX9_undo ∈ gtb := gtb_mem (in_t4 (List.mem_of_getElem? (i := 228) (by decide +kernel))) rfl
theorem kv_804 : Cond.instanceMethod yX9_undo ∈ gtb := gtb_mem (in_t4 (List.mem_of_getElem? (i := 229) (by decide +kernel))) rfl
theorem kv_805 : Cond.selects "NoonShadeModel" yX9_undo yX9_undo ∈ gtb := gtb_mem (in_t4 (List.mem_of_getElem? (i := 230) (by decide +kernel))) rfl
theorem kv_806 : Cond.code yX9_undo prog_11_method_36_code 2 (some .int) ∈ gtb := gtb_mem (in_t4 (List.mem_of_getElem? (i := 231) (rfl))) rfl
theorem kv_807 : Cond.methodLink "NoonShadeLaw" 61 yX8_of ∈ gtb := gtb_mem (in_t3 (List.mem_of_getElem? (i := 42) (by decide +kernel))) rfl
theorem kv_808 : Cond.instanceMethod yX8_of ∈ gtb := gtb_mem (in_t3 (List.mem_of_getElem? (i := 43) (by decide +kernel))) rfl
theorem kv_809 : Cond.selects "NoonShade" yX8_of yX8_of ∈ gtb := gtb_mem (in_t3 (List.mem_of_getElem? (i := 44) (by decide +kernel))) rfl
theorem kv_810 : Cond.code yX8_of prog_1_method_13_code 3 (some .int) ∈ gtb := gtb_mem (in_t3 (List.mem_of_getElem? (i := 45) (rfl))) rfl
theorem kv_811 : Cond.methodLink "NoonShadeLaw" 64 yX9_of ∈ gtb := gtb_mem (in_t4 (List.mem_of_getElem? (i := 232) (by decide +kernel))) rfl
theorem kv_812 : Cond.instanceMethod yX9_of ∈ gtb := gtb_mem (in_t4 (List.mem_of_getElem? (i := 233) (by decide +kernel))) rfl
theorem kv_813 : Cond.selects "NoonShadeModel" yX9_of yX9_of ∈ gtb := gtb_mem (in_t4 (List.mem_of_getElem? (i := 234) (by decide +kernel))) rfl
theorem kv_814 : Cond.code yX9_of prog_11_method_38_code 3 (some .int) ∈ gtb := gtb_mem (in_t4 (List.mem_of_getElem? (i := 235) (rfl))) rfl
theorem kv_815 : Cond.methodLink "NoonShadeLaw" 65 yX8_about ∈ gtb := gtb_mem (in_t3 (List.mem_of_getElem? (i := 47) (by decide +kernel))) rfl
theorem kv_816 : Cond.instanceMethod yX8_about ∈ gtb := gtb_mem (in_t3 (List.mem_of_getElem? (i := 48) (by decide +kernel))) rfl
theorem kv_817 : Cond.selects "NoonShade" yX8_about yX8_about ∈ gtb := gtb_mem (in_t3 (List.mem_of_getElem? (i := 49) (by decide +kernel))) rfl
theorem kv_818 : Cond.code yX8_about prog_1_method_14_code 3 (some .int) ∈ gtb := gtb_mem (in_t3 (List.mem_of_getElem? (i := 50) (rfl))) rfl
theorem kv_819 : Cond.methodLink "NoonShadeLaw" 68 yX9_about ∈ gtb := gtb_mem (in_t5 (List.mem_of_getElem? (i := 1) (by decide +kernel))) rfl
theorem kv_820 : Cond.instanceMethod yX9_about ∈ gtb := gtb_mem (in_t5 (List.mem_of_getElem? (i := 2) (by decide +kernel))) rfl
theorem kv_821 : Cond.selects "NoonShadeModel" yX9_about yX9_about ∈ gtb := gtb_mem (in_t5 (List.mem_of_getElem? (i := 3) (by decide +kernel))) rfl
theorem kv_822 : Cond.code yX9_about prog_11_method_40_code 3 (some .int) ∈ gtb := gtb_mem (in_t5 (List.mem_of_getElem? (i := 4) (rfl))) rfl
theorem kv_823 : Cond.methodLink "NoonShadeLaw" 69 yX8_gives ∈ gtb := gtb_mem (in_t3 (List.mem_of_getElem? (i := 59) (by decide +kernel))) rfl
theorem kv_824 : Cond.instanceMethod yX8_gives ∈ gtb := gtb_mem (in_t3 (List.mem_of_getElem? (i := 60) (by decide +kernel))) rfl
theorem kv_825 : Cond.selects "NoonShade" yX8_gives yX8_gives ∈ gtb := gtb_mem (in_t3 (List.mem_of_getElem? (i := 61) (by decide +kernel))) rfl
theorem kv_826 : Cond.code yX8_gives prog_1_method_15_code 3 (some .int) ∈ gtb := gtb_mem (in_t3 (List.mem_of_getElem? (i := 62) (rfl))) rfl
theorem kv_827 : Cond.methodLink "NoonShadeLaw" 72 yX9_gives ∈ gtb := gtb_mem (in_t5 (List.mem_of_getElem? (i := 9) (by decide +kernel))) rfl
theorem kv_828 : Cond.instanceMethod yX9_gives ∈ gtb := gtb_mem (in_t5 (List.mem_of_getElem? (i := 10) (by decide +kernel))) rfl
theorem kv_829 : Cond.selects "NoonShadeModel" yX9_gives yX9_gives ∈ gtb := gtb_mem (in_t5 (List.mem_of_getElem? (i := 11) (by decide +kernel))) rfl
theorem kv_830 : Cond.code yX9_gives prog_11_method_42_code 3 (some .int) ∈ gtb := gtb_mem (in_t5 (List.mem_of_getElem? (i := 12) (rfl))) rfl
theorem kv_831 : Cond.methodLink "NoonShadeLaw" 73 yX8_keeps ∈ gtb := gtb_mem (in_t3 (List.mem_of_getElem? (i := 63) (by decide +kernel))) rfl
theorem kv_832 : Cond.instanceMethod yX8_keeps ∈ gtb := gtb_mem (in_t3 (List.mem_of_getElem? (i := 64) (by decide +kernel))) rfl
theorem kv_833 : Cond.selects "NoonShade" yX8_keeps yX8_keeps ∈ gtb := gtb_mem (in_t3 (List.mem_of_getElem? (i := 65) (by decide +kernel))) rfl
theorem kv_834 : Cond.code yX8_keeps prog_1_method_16_code 3 (some .int) ∈ gtb := gtb_mem (in_t3 (List.mem_of_getElem? (i := 66) (rfl))) rfl
theorem kv_835 : Cond.methodLink "NoonShadeLaw" 76 yX9_keeps ∈ gtb := gtb_mem (in_t5 (List.mem_of_getElem? (i := 13) (by decide +kernel))) rfl
theorem kv_836 : Cond.instanceMethod yX9_keeps ∈ gtb := gtb_mem (in_t5 (List.mem_of_getElem? (i := 14) (by decide +kernel))) rfl
theorem kv_837 : Cond.selects "NoonShadeModel" yX9_keeps yX9_keeps ∈ gtb := gtb_mem (in_t5 (List.mem_of_getElem? (i := 15) (by decide +kernel))) rfl
theorem kv_838 : Cond.code yX9_keeps prog_11_method_43_code 4 (some .int) ∈ gtb := gtb_mem (in_t5 (List.mem_of_getElem? (i := 16) (rfl))) rfl
theorem kv_839 : Cond.methodLink "NoonShadeLaw" 77 yX8_when ∈ gtb := gtb_mem (in_t3 (List.mem_of_getElem? (i := 67) (by decide +kernel))) rfl
theorem kv_840 : Cond.instanceMethod yX8_when ∈ gtb := gtb_mem (in_t3 (List.mem_of_getElem? (i := 68) (by decide +kernel))) rfl
theorem kv_841 : Cond.selects "NoonShade" yX8_when yX8_when ∈ gtb := gtb_mem (in_t3 (List.mem_of_getElem? (i := 69) (by decide +kernel))) rfl
theorem kv_842 : Cond.code yX8_when prog_1_method_17_code 4 (some .int) ∈ gtb := gtb_mem (in_t3 (List.mem_of_getElem? (i := 70) (rfl))) rfl
theorem kv_843 : Cond.methodLink "NoonShadeLaw" 80 yX9_when ∈ gtb := gtb_mem (in_t5 (List.mem_of_getElem? (i := 21) (by decide +kernel))) rfl
theorem kv_844 : Cond.instanceMethod yX9_when ∈ gtb := gtb_mem (in_t5 (List.mem_of_getElem? (i := 22) (by decide +kernel))) rfl
theorem kv_845 : Cond.selects "NoonShadeModel" yX9_when yX9_when ∈ gtb := gtb_mem (in_t5 (List.mem_of_getElem? (i := 23) (by decide +kernel))) rfl
theorem kv_846 : Cond.code yX9_when prog_11_method_44_code 4 (some .int) ∈ gtb := gtb_mem (in_t5 (List.mem_of_getElem? (i := 24) (rfl))) rfl
theorem kv_847 : Cond.methodLink "NoonShadeLaw" 81 yX8_gone ∈ gtb := gtb_mem (in_t3 (List.mem_of_getElem? (i := 71) (by decide +kernel))) rfl
theorem kv_848 : Cond.instanceMethod yX8_gone ∈ gtb := gtb_mem (in_t3 (List.mem_of_getElem? (i := 72) (by decide +kernel))) rfl
theorem kv_849 : Cond.selects "NoonShade" yX8_gone yX8_gone ∈ gtb := gtb_mem (in_t3 (List.mem_of_getElem? (i := 73) (by decide +kernel))) rfl
theorem kv_850 : Cond.code yX8_gone prog_1_method_18_code 4 (some .int) ∈ gtb := gtb_mem (in_t3 (List.mem_of_getElem? (i := 74) (rfl))) rfl
theorem kv_851 : Cond.methodLink "NoonShadeLaw" 84 yX9_gone ∈ gtb := gtb_mem (in_t5 (List.mem_of_getElem? (i := 25) (by decide +kernel))) rfl
theorem kv_852 : Cond.instanceMethod yX9_gone ∈ gtb := gtb_mem (in_t5 (List.mem_of_getElem? (i := 26) (by decide +kernel))) rfl
theorem kv_853 : Cond.selects "NoonShadeModel" yX9_gone yX9_gone ∈ gtb := gtb_mem (in_t5 (List.mem_of_getElem? (i := 27) (by decide +kernel))) rfl
theorem kv_854 : Cond.code yX9_gone prog_11_method_45_code 3 (some .int) ∈ gtb := gtb_mem (in_t5 (List.mem_of_getElem? (i := 28) (rfl))) rfl
theorem kv_855 : Cond.methodLink "NoonShadeLaw" 85 yX8_round ∈ gtb := gtb_mem (in_t3 (List.mem_of_getElem? (i := 76) (by decide +kernel))) rfl
theorem kv_856 : Cond.instanceMethod yX8_round ∈ gtb := gtb_mem (in_t3 (List.mem_of_getElem? (i := 77) (by decide +kernel))) rfl
theorem kv_857 : Cond.selects "NoonShade" yX8_round yX8_round ∈ gtb := gtb_mem (in_t3 (List.mem_of_getElem? (i := 78) (by decide +kernel))) rfl
theorem kv_858 : Cond.code yX8_round prog_1_method_19_code 4 (some .int) ∈ gtb := gtb_mem (in_t3 (List.mem_of_getElem? (i := 79) (rfl))) rfl
theorem kv_859 : Cond.methodLink "NoonShadeLaw" 88 yX9_round ∈ gtb := gtb_mem (in_t5 (List.mem_of_getElem? (i := 29) (by decide +kernel))) rfl
theorem kv_860 : Cond.instanceMethod yX9_round ∈ gtb := gtb_mem (in_t5 (List.mem_of_getElem? (i := 30) (by decide +kernel))) rfl
theorem kv_861 : Cond.selects "NoonShadeModel" yX9_round yX9_round ∈ gtb := gtb_mem (in_t5 (List.mem_of_getElem? (i := 31) (by decide +kernel))) rfl
theorem kv_862 : Cond.code yX9_round prog_11_method_49_code 6 (some .int) ∈ gtb := gtb_mem (in_t5 (List.mem_of_getElem? (i := 32) (rfl))) rfl
theorem kv_863 : Cond.methodLink "NoonShadeLaw" 89 yX8_few ∈ gtb := gtb_mem (in_t3 (List.mem_of_getElem? (i := 113) (by decide +kernel))) rfl
theorem kv_864 : Cond.instanceMethod yX8_few ∈ gtb := gtb_mem (in_t3 (List.mem_of_getElem? (i := 114) (by decide +kernel))) rfl
theorem kv_865 : Cond.selects "NoonShade" yX8_few yX8_few ∈ gtb := gtb_mem (in_t3 (List.mem_of_getElem? (i := 115) (by decide +kernel))) rfl
theorem kv_866 : Cond.code yX8_few prog_1_method_20_code 6 (some .int) ∈ gtb := gtb_mem (in_t3 (List.mem_of_getElem? (i := 116) (rfl))) rfl
theorem kv_867 : Cond.methodLink "NoonShadeLaw" 93 yX9_few ∈ gtb := gtb_mem (in_t5 (List.mem_of_getElem? (i := 44) (by decide +kernel))) rfl
theorem kv_868 : Cond.instanceMethod yX9_few ∈ gtb := gtb_mem (in_t5 (List.mem_of_getElem? (i := 45) (by decide +kernel))) rfl
theorem kv_869 : Cond.selects "NoonShadeModel" yX9_few yX9_few ∈ gtb := gtb_mem (in_t5 (List.mem_of_getElem? (i := 46) (by decide +kernel))) rfl
theorem kv_870 : Cond.code yX9_few prog_11_method_52_code 9 (some .int) ∈ gtb := gtb_mem (in_t5 (List.mem_of_getElem? (i := 47) (rfl))) rfl
theorem kv_871 : Cond.methodLink "NoonShadeLaw" 94 yX8_into ∈ gtb := gtb_mem (in_t3 (List.mem_of_getElem? (i := 136) (by decide +kernel))) rfl
theorem kv_872 : Cond.instanceMethod yX8_into ∈ gtb := gtb_mem (in_t3 (List.mem_of_getElem? (i := 137) (by decide +kernel))) rfl
theorem kv_873 : Cond.selects "NoonShade" yX8_into yX8_into ∈ gtb := gtb_mem (in_t3 (List.mem_of_getElem? (i := 138) (by decide +kernel))) rfl
theorem kv_874 : Cond.code yX8_into prog_1_method_21_code 8 (some .int) ∈ gtb := gtb_mem (in_t3 (List.mem_of_getElem? (i := 139) (rfl))) rfl
theorem kv_875 : Cond.methodLink "NoonShadeLaw" 97 yX9_into ∈ gtb := gtb_mem (in_t5 (List.mem_of_getElem? (i := 59) (by decide +kernel))) rfl
theorem kv_876 : Cond.instanceMethod yX9_into ∈ gtb := gtb_mem (in_t5 (List.mem_of_getElem? (i := 60) (by decide +kernel))) rfl
theorem kv_877 : Cond.selects "NoonShadeModel" yX9_into yX9_into ∈ gtb := gtb_mem (in_t5 (List.mem_of_getElem? (i := 61) (by decide +kernel))) rfl
theorem kv_878 : Cond.code yX9_into prog_11_method_53_code 9 (some .int) ∈ gtb := gtb_mem (in_t5 (List.mem_of_getElem? (i := 62) (rfl))) rfl
theorem kv_879 : Cond.methodLink "NoonShadeLaw" 98 yX8_note ∈ gtb := gtb_mem (in_t3 (List.mem_of_getElem? (i := 146) (by decide +kernel))) rfl
theorem kv_880 : Cond.instanceMethod yX8_note ∈ gtb := gtb_mem (in_t3 (List.mem_of_getElem? (i := 147) (by decide +kernel))) rfl
theorem kv_881 : Cond.selects "NoonShade" yX8_note yX8_note ∈ gtb := gtb_mem (in_t3 (List.mem_of_getElem? (i := 148) (by decide +kernel))) rfl
theorem kv_882 : Cond.code yX8_note prog_1_method_22_code 5 (some .int) ∈ gtb := gtb_mem (in_t3 (List.mem_of_getElem? (i := 149) (rfl))) rfl
theorem kv_883 : Cond.methodLink "NoonShadeLaw" 101 yX9_note ∈ gtb := gtb_mem (in_t5 (List.mem_of_getElem? (i := 64) (by decide +kernel))) rfl
theorem kv_884 : Cond.instanceMethod yX9_note ∈ gtb := gtb_mem (in_t5 (List.mem_of_getElem? (i := 65) (by decide +kernel))) rfl
theorem kv_885 : Cond.selects "NoonShadeModel" yX9_note yX9_note ∈ gtb := gtb_mem (in_t5 (List.mem_of_getElem? (i := 66) (by decide +kernel))) rfl
theorem kv_886 : Cond.code yX9_note prog_11_method_55_code 5 (some .int) ∈ gtb := gtb_mem (in_t5 (List.mem_of_getElem? (i := 67) (rfl))) rfl
theorem kv_887 : Cond.methodLink "NoonShadeLaw" 102 yX8_mark ∈ gtb := gtb_mem (in_t3 (List.mem_of_getElem? (i := 159) (by decide +kernel))) rfl
theorem kv_888 : Cond.instanceMethod yX8_mark ∈ gtb := gtb_mem (in_t3 (List.mem_of_getElem? (i := 160) (by decide +kernel))) rfl
theorem kv_889 : Cond.selects "NoonShade" yX8_mark yX8_mark ∈ gtb := gtb_mem (in_t3 (List.mem_of_getElem? (i := 161) (by decide +kernel))) rfl
theorem kv_890 : Cond.code yX8_mark prog_1_method_23_code 5 (some .int) ∈ gtb := gtb_mem (in_t3 (List.mem_of_getElem? (i := 162) (rfl))) rfl
theorem kv_891 : Cond.methodLink "NoonShadeLaw" 105 yX9_mark ∈ gtb := gtb_mem (in_t5 (List.mem_of_getElem? (i := 77) (by decide +kernel))) rfl
theorem kv_892 : Cond.instanceMethod yX9_mark ∈ gtb := gtb_mem (in_t5 (List.mem_of_getElem? (i := 78) (by decide +kernel))) rfl
theorem kv_893 : Cond.selects "NoonShadeModel" yX9_mark yX9_mark ∈ gtb := gtb_mem (in_t5 (List.mem_of_getElem? (i := 79) (by decide +kernel))) rfl
theorem kv_894 : Cond.code yX9_mark prog_11_method_56_code 5 (some .int) ∈ gtb := gtb_mem (in_t5 (List.mem_of_getElem? (i := 80) (rfl))) rfl
theorem kv_895 : Cond.methodLink "NoonShadeLaw" 106 yX8_forget ∈ gtb := gtb_mem (in_t3 (List.mem_of_getElem? (i := 163) (by decide +kernel))) rfl
theorem kv_896 : Cond.instanceMethod yX8_forget ∈ gtb := gtb_mem (in_t3 (List.mem_of_getElem? (i := 164) (by decide +kernel))) rfl
theorem kv_897 : Cond.selects "NoonShade" yX8_forget yX8_forget ∈ gtb := gtb_mem (in_t3 (List.mem_of_getElem? (i := 165) (by decide +kernel))) rfl
theorem kv_898 : Cond.code yX8_forget prog_1_method_24_code 2 (some .int) ∈ gtb := gtb_mem (in_t3 (List.mem_of_getElem? (i := 166) (rfl))) rfl
theorem kv_899 : Cond.methodLink "NoonShadeLaw" 109 yX9_forget ∈ gtb := gtb_mem (in_t5 (List.mem_of_getElem? (i := 84) (by decide +kernel))) rfl
theorem kv_900 : Cond.instanceMethod yX9_forget ∈ gtb := gtb_mem (in_t5 (List.mem_of_getElem? (i := 85) (by decide +kernel))) rfl
theorem kv_901 : Cond.selects "NoonShadeModel" yX9_forget yX9_forget ∈ gtb := gtb_mem (in_t5 (List.mem_of_getElem? (i := 86) (by decide +kernel))) rfl
theorem kv_902 : Cond.code yX9_forget prog_11_method_57_code 3 (some .int) ∈ gtb := gtb_mem (in_t5 (List.mem_of_getElem? (i := 87) (rfl))) rfl
theorem kv_903 : Cond.methodLink "NoonShadeLaw" 110 yX8_is ∈ gtb := gtb_mem (in_t3 (List.mem_of_getElem? (i := 168) (by decide +kernel))) rfl
theorem kv_904 : Cond.instanceMethod yX8_is ∈ gtb := gtb_mem (in_t3 (List.mem_of_getElem? (i := 169) (by decide +kernel))) rfl
theorem kv_905 : Cond.selects "NoonShade" yX8_is yX8_is ∈ gtb := gtb_mem (in_t3 (List.mem_of_getElem? (i := 170) (by decide +kernel))) rfl
theorem kv_906 : Cond.code yX8_is prog_1_method_25_code 2 (some .int) ∈ gtb := gtb_mem (in_t3 (List.mem_of_getElem? (i := 171) (rfl))) rfl
theorem kv_907 : Cond.methodLink "NoonShadeLaw" 113 yX9_is ∈ gtb := gtb_mem (in_t5 (List.mem_of_getElem? (i := 88) (by decide +kernel))) rfl
theorem kv_908 : Cond.instanceMethod yX9_is ∈ gtb := gtb_mem (in_t5 (List.mem_of_getElem? (i := 89) (by decide +kernel))) rfl
theorem kv_909 : Cond.selects "NoonShadeModel" yX9_is yX9_is ∈ gtb := gtb_mem (in_t5 (List.mem_of_getElem? (i := 90) (by decide +kernel))) rfl
theorem kv_910 : Cond.code yX9_is prog_11_method_61_code 2 (some .int) ∈ gtb := gtb_mem (in_t5 (List.mem_of_getElem? (i := 91) (rfl))) rfl
theorem kv_911 : Cond.methodLink "NoonShadeLaw" 114 yX8_look ∈ gtb := gtb_mem (in_t3 (List.mem_of_getElem? (i := 185) (by decide +kernel))) rfl
theorem kv_912 : Cond.instanceMethod yX8_look ∈ gtb := gtb_mem (in_t3 (List.mem_of_getElem? (i := 186) (by decide +kernel))) rfl
theorem kv_913 : Cond.selects "NoonShade" yX8_look yX8_look ∈ gtb := gtb_mem (in_t3 (List.mem_of_getElem? (i := 187) (by decide +kernel))) rfl
theorem kv_914 : Cond.code yX8_look prog_1_method_26_code 4 (some .int) ∈ gtb := gtb_mem (in_t3 (List.mem_of_getElem? (i := 188) (rfl))) rfl
theorem kv_915 : Cond.methodLink "NoonShadeLaw" 117 yX9_look ∈ gtb := gtb_mem (in_t5 (List.mem_of_getElem? (i := 100) (by decide +kernel))) rfl
theorem kv_916 : Cond.instanceMethod yX9_look ∈ gtb := gtb_mem (in_t5 (List.mem_of_getElem? (i := 101) (by decide +kernel))) rfl
theorem kv_917 : Cond.selects "NoonShadeModel" yX9_look yX9_look ∈ gtb := gtb_mem (in_t5 (List.mem_of_getElem? (i := 102) (by decide +kernel))) rfl
theorem kv_918 : Cond.code yX9_look prog_11_method_63_code 7 (some .int) ∈ gtb := gtb_mem (in_t5 (List.mem_of_getElem? (i := 103) (rfl))) rfl
theorem kv_919 : Cond.methodLink "NoonShadeLaw" 118 yX8_kinds ∈ gtb := gtb_mem (in_t3 (List.mem_of_getElem? (i := 203) (by decide +kernel))) rfl
theorem kv_920 : Cond.instanceMethod yX8_kinds ∈ gtb := gtb_mem (in_t3 (List.mem_of_getElem? (i := 204) (by decide +kernel))) rfl
theorem kv_921 : Cond.selects "NoonShade" yX8_kinds yX8_kinds ∈ gtb := gtb_mem (in_t3 (List.mem_of_getElem? (i := 205) (by decide +kernel))) rfl
theorem kv_922 : Cond.code yX8_kinds prog_1_method_27_code 2 (some .int) ∈ gtb := gtb_mem (in_t3 (List.mem_of_getElem? (i := 206) (rfl))) rfl
theorem kv_923 : Cond.methodLink "NoonShadeLaw" 121 yX9_kinds ∈ gtb := gtb_mem (in_t5 (List.mem_of_getElem? (i := 109) (by decide +kernel))) rfl
theorem kv_924 : Cond.instanceMethod yX9_kinds ∈ gtb := gtb_mem (in_t5 (List.mem_of_getElem? (i := 110) (by decide +kernel))) rfl
theorem kv_925 : Cond.selects "NoonShadeModel" yX9_kinds yX9_kinds ∈ gtb := gtb_mem (in_t5 (List.mem_of_getElem? (i := 111) (by decide +kernel))) rfl
theorem kv_926 : Cond.code yX9_kinds prog_11_method_64_code 2 (some .int) ∈ gtb := gtb_mem (in_t5 (List.mem_of_getElem? (i := 112) (rfl))) rfl
theorem kv_927 : Cond.methodLink "NoonShadeLaw" 122 yX8_ask ∈ gtb := gtb_mem (in_t3 (List.mem_of_getElem? (i := 207) (by decide +kernel))) rfl
theorem kv_928 : Cond.instanceMethod yX8_ask ∈ gtb := gtb_mem (in_t3 (List.mem_of_getElem? (i := 208) (by decide +kernel))) rfl
theorem kv_929 : Cond.selects "NoonShade" yX8_ask yX8_ask ∈ gtb := gtb_mem (in_t3 (List.mem_of_getElem? (i := 209) (by decide +kernel))) rfl
theorem kv_930 : Cond.code yX8_ask prog_1_method_28_code 3 (some .int) ∈ gtb := gtb_mem (in_t3 (List.mem_of_getElem? (i := 210) (rfl))) rfl
theorem kv_931 : Cond.methodLink "NoonShadeLaw" 125 yX9_ask ∈ gtb := gtb_mem (in_t5 (List.mem_of_getElem? (i := 117) (by decide +kernel))) rfl
theorem kv_932 : Cond.instanceMethod yX9_ask ∈ gtb := gtb_mem (in_t5 (List.mem_of_getElem? (i := 118) (by decide +kernel))) rfl
theorem kv_933 : Cond.selects "NoonShadeModel" yX9_ask yX9_ask ∈ gtb := gtb_mem (in_t5 (List.mem_of_getElem? (i := 119) (by decide +kernel))) rfl
theorem kv_934 : Cond.code yX9_ask prog_11_method_65_code 8 (some .int) ∈ gtb := gtb_mem (in_t5 (List.mem_of_getElem? (i := 120) (rfl))) rfl
theorem kv_935 : Cond.methodLink "NoonShadeLaw" 126 yX8_two ∈ gtb := gtb_mem (in_t3 (List.mem_of_getElem? (i := 211) (by decide +kernel))) rfl
theorem kv_936 : Cond.instanceMethod yX8_two ∈ gtb := gtb_mem (in_t3 (List.mem_of_getElem? (i := 212) (by decide +kernel))) rfl
theorem kv_937 : Cond.selects "NoonShade" yX8_two yX8_two ∈ gtb := gtb_mem (in_t3 (List.mem_of_getElem? (i := 213) (by decide +kernel))) rfl
theorem kv_938 : Cond.code yX8_two prog_1_method_29_code 5 (some .int) ∈ gtb := gtb_mem (in_t3 (List.mem_of_getElem? (i := 214) (rfl))) rfl
theorem kv_939 : Cond.methodLink "NoonShadeLaw" 129 yX9_two ∈ gtb := gtb_mem (in_t5 (List.mem_of_getElem? (i := 121) (by decide +kernel))) rfl
theorem kv_940 : Cond.instanceMethod yX9_two ∈ gtb := gtb_mem (in_t5 (List.mem_of_getElem? (i := 122) (by decide +kernel))) rfl
theorem kv_941 : Cond.selects "NoonShadeModel" yX9_two yX9_two ∈ gtb := gtb_mem (in_t5 (List.mem_of_getElem? (i := 123) (by decide +kernel))) rfl
theorem kv_942 : Cond.code yX9_two prog_11_method_69_code 5 (some .int) ∈ gtb := gtb_mem (in_t5 (List.mem_of_getElem? (i := 124) (rfl))) rfl
theorem kv_943 : Cond.methodLink "NoonShadeLaw" 130 yX8_spilt ∈ gtb := gtb_mem (in_t3 (List.mem_of_getElem? (i := 223) (by decide +kernel))) rfl
theorem kv_944 : Cond.instanceMethod yX8_spilt ∈ gtb := gtb_mem (in_t3 (List.mem_of_getElem? (i := 224) (by decide +kernel))) rfl
theorem kv_945 : Cond.selects "NoonShade" yX8_spilt yX8_spilt ∈ gtb := gtb_mem (in_t3 (List.mem_of_getElem? (i := 225) (by decide +kernel))) rfl
theorem kv_946 : Cond.code yX8_spilt prog_1_method_30_code 5 (some .int) ∈ gtb := gtb_mem (in_t3 (List.mem_of_getElem? (i := 226) (rfl))) rfl
theorem kv_947 : Cond.methodLink "NoonShadeLaw" 133 yX9_spilt ∈ gtb := gtb_mem (in_t5 (List.mem_of_getElem? (i := 137) (by decide +kernel))) rfl
theorem kv_948 : Cond.instanceMethod yX9_spilt ∈ gtb := gtb_mem (in_t5 (List.mem_of_getElem? (i := 138) (by decide +kernel))) rfl
theorem kv_949 : Cond.selects "NoonShadeModel" yX9_spilt yX9_spilt ∈ gtb := gtb_mem (in_t5 (List.mem_of_getElem? (i := 139) (by decide +kernel))) rfl
theorem kv_950 : Cond.code yX9_spilt prog_11_method_71_code 14 (some .int) ∈ gtb := gtb_mem (in_t5 (List.mem_of_getElem? (i := 140) (rfl))) rfl
theorem kv_951 : Cond.methodLink "NoonShadeLaw" 134 yX8_noons ∈ gtb := gtb_mem (in_t4 (List.mem_of_getElem? (i := 3) (by decide +kernel))) rfl
theorem kv_952 : Cond.instanceMethod yX8_noons ∈ gtb := gtb_mem (in_t4 (List.mem_of_getElem? (i := 4) (by decide +kernel))) rfl
theorem kv_953 : Cond.selects "NoonShade" yX8_noons yX8_noons ∈ gtb := gtb_mem (in_t4 (List.mem_of_getElem? (i := 5) (by decide +kernel))) rfl
theorem kv_954 : Cond.code yX8_noons prog_1_method_31_code 8 (some .int) ∈ gtb := gtb_mem (in_t4 (List.mem_of_getElem? (i := 6) (rfl))) rfl
theorem kv_955 : Cond.methodLink "NoonShadeLaw" 137 yX9_noons ∈ gtb := gtb_mem (in_t5 (List.mem_of_getElem? (i := 146) (by decide +kernel))) rfl
theorem kv_956 : Cond.instanceMethod yX9_noons ∈ gtb := gtb_mem (in_t5 (List.mem_of_getElem? (i := 147) (by decide +kernel))) rfl
theorem kv_957 : Cond.selects "NoonShadeModel" yX9_noons yX9_noons ∈ gtb := gtb_mem (in_t5 (List.mem_of_getElem? (i := 148) (by decide +kernel))) rfl
theorem kv_958 : Cond.code yX9_noons prog_11_method_72_code 9 (some .int) ∈ gtb := gtb_mem (in_t5 (List.mem_of_getElem? (i := 149) (rfl))) rfl
theorem kv_959 : Cond.methodLink "NoonShadeLaw" 138 yX8_part ∈ gtb := gtb_mem (in_t4 (List.mem_of_getElem? (i := 22) (by decide +kernel))) rfl
theorem kv_960 : Cond.instanceMethod yX8_part ∈ gtb := gtb_mem (in_t4 (List.mem_of_getElem? (i := 23) (by decide +kernel))) rfl
theorem kv_961 : Cond.selects "NoonShade" yX8_part yX8_part ∈ gtb := gtb_mem (in_t4 (List.mem_of_getElem? (i := 24) (by decide +kernel))) rfl
theorem kv_962 : Cond.code yX8_part prog_1_method_32_code 2 (some .long) ∈ gtb := gtb_mem (in_t4 (List.mem_of_getElem? (i := 25) (rfl))) rfl
theorem kv_963 : Cond.methodLink "NoonShadeLaw" 142 yX9_part ∈ gtb := gtb_mem (in_t5 (List.mem_of_getElem? (i := 225) (by decide +kernel))) rfl
theorem kv_964 : Cond.instanceMethod yX9_part ∈ gtb := gtb_mem (in_t5 (List.mem_of_getElem? (i := 226) (by decide +kernel))) rfl
theorem kv_965 : Cond.selects "NoonShadeModel" yX9_part yX9_part ∈ gtb := gtb_mem (in_t5 (List.mem_of_getElem? (i := 227) (by decide +kernel))) rfl
theorem kv_966 : Cond.code yX9_part prog_11_method_88_code 2 (some .long) ∈ gtb := gtb_mem (in_t5 (List.mem_of_getElem? (i := 228) (rfl))) rfl
theorem kv_967 : Cond.methodLink "NoonShadeLaw" 143 yX8_image ∈ gtb := gtb_mem (in_t4 (List.mem_of_getElem? (i := 26) (by decide +kernel))) rfl
theorem kv_968 : Cond.instanceMethod yX8_image ∈ gtb := gtb_mem (in_t4 (List.mem_of_getElem? (i := 27) (by decide +kernel))) rfl
theorem kv_969 : Cond.selects "NoonShade" yX8_image yX8_image ∈ gtb := gtb_mem (in_t4 (List.mem_of_getElem? (i := 28) (by decide +kernel))) rfl
theorem kv_970 : Cond.code yX8_image prog_1_method_33_code 2 (some .int) ∈ gtb := gtb_mem (in_t4 (List.mem_of_getElem? (i := 29) (rfl))) rfl
theorem kv_971 : Cond.methodLink "NoonShadeLaw" 146 yX9_image ∈ gtb := gtb_mem (in_t5 (List.mem_of_getElem? (i := 229) (by decide +kernel))) rfl
theorem kv_972 : Cond.instanceMethod yX9_image ∈ gtb := gtb_mem (in_t5 (List.mem_of_getElem? (i := 230) (by decide +kernel))) rfl
theorem kv_973 : Cond.selects "NoonShadeModel" yX9_image yX9_image ∈ gtb := gtb_mem (in_t5 (List.mem_of_getElem? (i := 231) (by decide +kernel))) rfl
theorem kv_974 : Cond.code yX9_image prog_11_method_89_code 3 (some .int) ∈ gtb := gtb_mem (in_t5 (List.mem_of_getElem? (i := 232) (rfl))) rfl
theorem kv_975 : Cond.methodLink "NoonShadeLaw" 147 yX8_from ∈ gtb := gtb_mem (in_t4 (List.mem_of_getElem? (i := 30) (by decide +kernel))) rfl
theorem kv_976 : Cond.instanceMethod yX8_from ∈ gtb := gtb_mem (in_t4 (List.mem_of_getElem? (i := 31) (by decide +kernel))) rfl
theorem kv_977 : Cond.selects "NoonShade" yX8_from yX8_from ∈ gtb := gtb_mem (in_t4 (List.mem_of_getElem? (i := 32) (by decide +kernel))) rfl
theorem kv_978 : Cond.code yX8_from prog_1_method_34_code 2 (some .int) ∈ gtb := gtb_mem (in_t4 (List.mem_of_getElem? (i := 33) (rfl))) rfl
theorem kv_979 : Cond.methodLink "NoonShadeLaw" 150 yX9_from ∈ gtb := gtb_mem (in_t5 (List.mem_of_getElem? (i := 233) (by decide +kernel))) rfl
theorem kv_980 : Cond.instanceMethod yX9_from ∈ gtb := gtb_mem (in_t5 (List.mem_of_getElem? (i := 234) (by decide +kernel))) rfl
theorem kv_981 : Cond.selects "NoonShadeModel" yX9_from yX9_from ∈ gtb := gtb_mem (in_t5 (List.mem_of_getElem? (i := 235) (by decide +kernel))) rfl
theorem kv_982 : Cond.code yX9_from prog_11_method_90_code 3 (some .int) ∈ gtb := gtb_mem (in_t5 (List.mem_of_getElem? (i := 236) (rfl))) rfl
theorem kv_983 : Cond.methodLink "NoonShadeLaw" 151 yX8_status ∈ gtb := gtb_mem (in_t4 (List.mem_of_getElem? (i := 34) (by decide +kernel))) rfl
theorem kv_984 : Cond.instanceMethod yX8_status ∈ gtb := gtb_mem (in_t4 (List.mem_of_getElem? (i := 35) (by decide +kernel))) rfl
theorem kv_985 : Cond.selects "NoonShade" yX8_status yX8_status ∈ gtb := gtb_mem (in_t4 (List.mem_of_getElem? (i := 36) (by decide +kernel))) rfl
theorem kv_986 : Cond.code yX8_status prog_1_method_35_code 2 (some .int) ∈ gtb := gtb_mem (in_t4 (List.mem_of_getElem? (i := 37) (rfl))) rfl
theorem kv_987 : Cond.methodLink "NoonShadeLaw" 154 yX9_status ∈ gtb := gtb_mem (in_t5 (List.mem_of_getElem? (i := 237) (by decide +kernel))) rfl
theorem kv_988 : Cond.instanceMethod yX9_status ∈ gtb := gtb_mem (in_t5 (List.mem_of_getElem? (i := 238) (by decide +kernel))) rfl
theorem kv_989 : Cond.selects "NoonShadeModel" yX9_status yX9_status ∈ gtb := gtb_mem (in_t5 (List.mem_of_getElem? (i := 239) (by decide +kernel))) rfl
theorem kv_990 : Cond.code yX9_status prog_11_method_91_code 2 (some .int) ∈ gtb := gtb_mem (in_t6 (List.mem_of_getElem? (i := 0) (rfl))) rfl
theorem kv_991 : Cond.methodLink "NoonShadeLaw" 155 yX8_count ∈ gtb := gtb_mem (in_t4 (List.mem_of_getElem? (i := 38) (by decide +kernel))) rfl
theorem kv_992 : Cond.instanceMethod yX8_count ∈ gtb := gtb_mem (in_t4 (List.mem_of_getElem? (i := 39) (by decide +kernel))) rfl
theorem kv_993 : Cond.selects "NoonShade" yX8_count yX8_count ∈ gtb := gtb_mem (in_t4 (List.mem_of_getElem? (i := 40) (by decide +kernel))) rfl
theorem kv_994 : Cond.code yX8_count prog_1_method_36_code 2 (some .int) ∈ gtb := gtb_mem (in_t4 (List.mem_of_getElem? (i := 41) (rfl))) rfl
theorem kv_995 : Cond.methodLink "NoonShadeLaw" 158 yX9_count ∈ gtb := gtb_mem (in_t6 (List.mem_of_getElem? (i := 1) (by decide +kernel))) rfl
theorem kv_996 : Cond.instanceMethod yX9_count ∈ gtb := gtb_mem (in_t6 (List.mem_of_getElem? (i := 2) (by decide +kernel))) rfl
theorem kv_997 : Cond.selects "NoonShadeModel" yX9_count yX9_count ∈ gtb := gtb_mem (in_t6 (List.mem_of_getElem? (i := 3) (by decide +kernel))) rfl
theorem kv_998 : Cond.code yX9_count prog_11_method_94_code 2 (some .int) ∈ gtb := gtb_mem (in_t6 (List.mem_of_getElem? (i := 4) (rfl))) rfl
theorem kv_999 : Cond.methodLink "NoonShadeLaw" 159 yX8_digest ∈ gtb := gtb_mem (in_t4 (List.mem_of_getElem? (i := 46) (by decide +kernel))) rfl
theorem kv_1000 : Cond.instanceMethod yX8_digest ∈ gtb := gtb_mem (in_t4 (List.mem_of_getElem? (i := 47) (by decide +kernel))) rfl
theorem kv_1001 : Cond.selects "NoonShade" yX8_digest yX8_digest ∈ gtb := gtb_mem (in_t4 (List.mem_of_getElem? (i := 48) (by decide +kernel))) rfl
theorem kv_1002 : Cond.code yX8_digest prog_1_method_37_code 4 (some .long) ∈ gtb := gtb_mem (in_t4 (List.mem_of_getElem? (i := 49) (rfl))) rfl
theorem kv_1003 : Cond.methodLink "NoonShadeLaw" 163 yX9_digest ∈ gtb := gtb_mem (in_t6 (List.mem_of_getElem? (i := 9) (by decide +kernel))) rfl
theorem kv_1004 : Cond.instanceMethod yX9_digest ∈ gtb := gtb_mem (in_t6 (List.mem_of_getElem? (i := 10) (by decide +kernel))) rfl
theorem kv_1005 : Cond.selects "NoonShadeModel" yX9_digest yX9_digest ∈ gtb := gtb_mem (in_t6 (List.mem_of_getElem? (i := 11) (by decide +kernel))) rfl
theorem kv_1006 : Cond.code yX9_digest prog_11_method_96_code 5 (some .long) ∈ gtb := gtb_mem (in_t6 (List.mem_of_getElem? (i := 12) (rfl))) rfl
