theorem kv_499 : Cond.methodLink "NoonShadeModel" 147 yX9_power ∈ gtb := gtb_mem (in_t5 (List.mem_of_getElem? (i := 37) (by decide +kernel))) rfl
theorem kv_500 : Cond.static yX9_power ∈ gtb := gtb_mem (in_t5 (List.mem_of_getElem? (i := 38) (by decide +kernel))) rfl
theorem kv_501 : Cond.code yX9_power prog_11_method_46_code 4 (some .int) ∈ gtb := gtb_mem (in_t5 (List.mem_of_getElem? (i := 39) (rfl))) rfl
theorem kv_502 : Cond.fieldLink "NoonShadeModel" 150 "NoonShadeModel" "mostBy" "I" ∈ gtb := gtb_mem (in_t4 (List.mem_of_getElem? (i := 78) (by decide +kernel))) rfl
theorem kv_503 : Cond.methodLink "NoonShadeModel" 144 yX9_layHand ∈ gtb := gtb_mem (in_t5 (List.mem_of_getElem? (i := 17) (by decide +kernel))) rfl
theorem kv_504 : Cond.instanceMethod yX9_layHand ∈ gtb := gtb_mem (in_t5 (List.mem_of_getElem? (i := 19) (by decide +kernel))) rfl
theorem kv_505 : Cond.selects "NoonShadeModel" yX9_layHand yX9_layHand ∈ gtb := gtb_mem (in_t0 (List.mem_of_getElem? (i := 33) (by decide +kernel))) rfl
theorem kv_506 : Cond.code yX9_layHand prog_11_method_41_code 2 none ∈ gtb := gtb_mem (in_t5 (List.mem_of_getElem? (i := 20) (rfl))) rfl
theorem kv_507 : Cond.methodLink "NoonShadeModel" 154 yX9_casterBy ∈ gtb := gtb_mem (in_t5 (List.mem_of_getElem? (i := 40) (by decide +kernel))) rfl
theorem kv_508 : Cond.instanceMethod yX9_casterBy ∈ gtb := gtb_mem (in_t5 (List.mem_of_getElem? (i := 42) (by decide +kernel))) rfl
theorem kv_509 : Cond.selects "NoonShadeModel" yX9_casterBy yX9_casterBy ∈ gtb := gtb_mem (in_t0 (List.mem_of_getElem? (i := 35) (by decide +kernel))) rfl
theorem kv_510 : Cond.code yX9_casterBy prog_11_method_47_code 4 (some .int) ∈ gtb := gtb_mem (in_t5 (List.mem_of_getElem? (i := 43) (rfl))) rfl
theorem kv_511 : Cond.methodLink "NoonShadeModel" 126 yX9_goLadle ∈ gtb := gtb_mem (in_t4 (List.mem_of_getElem? (i := 188) (by decide +kernel))) rfl
theorem kv_512 : Cond.static yX9_goLadle ∈ gtb := gtb_mem (in_t4 (List.mem_of_getElem? (i := 189) (by decide +kernel))) rfl
theorem kv_513 : Cond.code yX9_goLadle prog_11_method_27_code 3 (some .int) ∈ gtb := gtb_mem (in_t4 (List.mem_of_getElem? (i := 190) (rfl))) rfl
theorem kv_514 : Cond.methodLink "NoonShadeModel" 183 yX9_kindsBy ∈ gtb := gtb_mem (in_t5 (List.mem_of_getElem? (i := 96) (by decide +kernel))) rfl
theorem kv_515 : Cond.instanceMethod yX9_kindsBy ∈ gtb := gtb_mem (in_t5 (List.mem_of_getElem? (i := 98) (by decide +kernel))) rfl
theorem kv_516 : Cond.selects "NoonShadeModel" yX9_kindsBy yX9_kindsBy ∈ gtb := gtb_mem (in_t0 (List.mem_of_getElem? (i := 40) (by decide +kernel))) rfl
theorem kv_517 : Cond.code yX9_kindsBy prog_11_method_58_code 11 (some .int) ∈ gtb := gtb_mem (in_t5 (List.mem_of_getElem? (i := 99) (rfl))) rfl
theorem kv_518 : Cond.fieldLink "NoonShadeModel" 30 "NoonShadeModel" "tells" "[I" ∈ gtb := gtb_mem (in_t4 (List.mem_of_getElem? (i := 79) (by decide +kernel))) rfl
theorem kv_519 : Cond.methodLink "NoonShadeModel" 110 yX9_isCaster ∈ gtb := gtb_mem (in_t4 (List.mem_of_getElem? (i := 169) (by decide +kernel))) rfl
theorem kv_520 : Cond.instanceMethod yX9_isCaster ∈ gtb := gtb_mem (in_t4 (List.mem_of_getElem? (i := 171) (by decide +kernel))) rfl
theorem kv_521 : Cond.selects "NoonShadeModel" yX9_isCaster yX9_isCaster ∈ gtb := gtb_mem (in_t0 (List.mem_of_getElem? (i := 27) (by decide +kernel))) rfl
theorem kv_522 : Cond.code yX9_isCaster prog_11_method_10_code 2 (some .boolean) ∈ gtb := gtb_mem (in_t4 (List.mem_of_getElem? (i := 172) (rfl))) rfl
theorem kv_523 : Cond.methodLink "NoonShadeModel" 197 yX9_mayName ∈ gtb := gtb_mem (in_t5 (List.mem_of_getElem? (i := 125) (by decide +kernel))) rfl
theorem kv_524 : Cond.instanceMethod yX9_mayName ∈ gtb := gtb_mem (in_t5 (List.mem_of_getElem? (i := 127) (by decide +kernel))) rfl
theorem kv_525 : Cond.selects "NoonShadeModel" yX9_mayName yX9_mayName ∈ gtb := gtb_mem (in_t0 (List.mem_of_getElem? (i := 43) (by decide +kernel))) rfl
theorem kv_526 : Cond.code yX9_mayName prog_11_method_67_code 2 (some .boolean) ∈ gtb := gtb_mem (in_t5 (List.mem_of_getElem? (i := 128) (rfl))) rfl
theorem kv_527 : Cond.methodLink "NoonShadeModel" 200 yX9_gets ∈ gtb := gtb_mem (in_t5 (List.mem_of_getElem? (i := 133) (by decide +kernel))) rfl
theorem kv_528 : Cond.instanceMethod yX9_gets ∈ gtb := gtb_mem (in_t5 (List.mem_of_getElem? (i := 135) (by decide +kernel))) rfl
theorem kv_529 : Cond.selects "NoonShadeModel" yX9_gets yX9_gets ∈ gtb := gtb_mem (in_t0 (List.mem_of_getElem? (i := 45) (by decide +kernel))) rfl
theorem kv_530 : Cond.code yX9_gets prog_11_method_66_code 4 (some .int) ∈ gtb := gtb_mem (in_t5 (List.mem_of_getElem? (i := 136) (rfl))) rfl
theorem kv_531 : Cond.fieldLink "NoonShadeModel" 206 "NoonShadeModel" "above" "J" ∈ gtb := gtb_mem (in_t4 (List.mem_of_getElem? (i := 75) (by decide +kernel))) rfl
theorem kv_532 : Cond.fieldLink "NoonShadeModel" 23 "NoonShadeModel" "below" "J" ∈ gtb := gtb_mem (in_t4 (List.mem_of_getElem? (i := 76) (by decide +kernel))) rfl
theorem kv_533 : Cond.methodLink "NoonShadeModel" 233 yX9_coolOf ∈ gtb := gtb_mem (in_t5 (List.mem_of_getElem? (i := 159) (by decide +kernel))) rfl
theorem kv_534 : Cond.static yX9_coolOf ∈ gtb := gtb_mem (in_t5 (List.mem_of_getElem? (i := 160) (by decide +kernel))) rfl
theorem kv_535 : Cond.code yX9_coolOf prog_11_method_92_code 3 (some .int) ∈ gtb := gtb_mem (in_t5 (List.mem_of_getElem? (i := 161) (rfl))) rfl
theorem kv_536 : Cond.methodLink "NoonShadeModel" 166 yX9_bits ∈ gtb := gtb_mem (in_t5 (List.mem_of_getElem? (i := 56) (by decide +kernel))) rfl
theorem kv_537 : Cond.static yX9_bits ∈ gtb := gtb_mem (in_t5 (List.mem_of_getElem? (i := 57) (by decide +kernel))) rfl
theorem kv_538 : Cond.code yX9_bits prog_11_method_8_code 3 (some .int) ∈ gtb := gtb_mem (in_t5 (List.mem_of_getElem? (i := 58) (rfl))) rfl
theorem kv_539 : Cond.fieldLink "NoonShadeModel" 239 "NoonShadeModel" "bytesLong" "I" ∈ gtb := gtb_mem (in_t4 (List.mem_of_getElem? (i := 81) (by decide +kernel))) rfl
theorem kv_540 : Cond.constantLong "NoonShadeModel" 305 31 ∈ gtb := gtb_mem (in_t6 (List.mem_of_getElem? (i := 14) (by decide +kernel))) rfl
theorem kv_541 : Cond.methodLink "NoonShadeModel" 113 yX9_isJar ∈ gtb := gtb_mem (in_t4 (List.mem_of_getElem? (i := 173) (by decide +kernel))) rfl
theorem kv_542 : Cond.instanceMethod yX9_isJar ∈ gtb := gtb_mem (in_t4 (List.mem_of_getElem? (i := 175) (by decide +kernel))) rfl
theorem kv_543 : Cond.selects "NoonShadeModel" yX9_isJar yX9_isJar ∈ gtb := gtb_mem (in_t0 (List.mem_of_getElem? (i := 28) (by decide +kernel))) rfl
theorem kv_544 : Cond.code yX9_isJar prog_11_method_11_code 2 (some .boolean) ∈ gtb := gtb_mem (in_t4 (List.mem_of_getElem? (i := 176) (rfl))) rfl
theorem kv_545 : Cond.methodLink "NoonShadeModel" 120 yX9_no ∈ gtb := gtb_mem (in_t4 (List.mem_of_getElem? (i := 180) (by decide +kernel))) rfl
theorem kv_546 : Cond.instanceMethod yX9_no ∈ gtb := gtb_mem (in_t4 (List.mem_of_getElem? (i := 182) (by decide +kernel))) rfl
theorem kv_547 : Cond.selects "NoonShadeModel" yX9_no yX9_no ∈ gtb := gtb_mem (in_t0 (List.mem_of_getElem? (i := 29) (by decide +kernel))) rfl
theorem kv_548 : Cond.code yX9_no prog_11_method_5_code 1 (some .int) ∈ gtb := gtb_mem (in_t4 (List.mem_of_getElem? (i := 183) (rfl))) rfl
theorem kv_549 : Cond.methodLink "NoonShadeModel" 123 yX9_save ∈ gtb := gtb_mem (in_t4 (List.mem_of_getElem? (i := 184) (by decide +kernel))) rfl
theorem kv_550 : Cond.instanceMethod yX9_save ∈ gtb := gtb_mem (in_t4 (List.mem_of_getElem? (i := 186) (by decide +kernel))) rfl
theorem kv_551 : Cond.selects "NoonShadeModel" yX9_save yX9_save ∈ gtb := gtb_mem (in_t0 (List.mem_of_getElem? (i := 30) (by decide +kernel))) rfl
theorem kv_552 : Cond.code yX9_save prog_11_method_31_code 2 none ∈ gtb := gtb_mem (in_t4 (List.mem_of_getElem? (i := 187) (rfl))) rfl
theorem kv_553 : Cond.methodLink "NoonShadeModel" 62 yX9_bad ∈ gtb := gtb_mem (in_t4 (List.mem_of_getElem? (i := 131) (by decide +kernel))) rfl
theorem kv_554 : Cond.instanceMethod yX9_bad ∈ gtb := gtb_mem (in_t4 (List.mem_of_getElem? (i := 133) (by decide +kernel))) rfl
theorem kv_555 : Cond.selects "NoonShadeModel" yX9_bad yX9_bad ∈ gtb := gtb_mem (in_t0 (List.mem_of_getElem? (i := 25) (by decide +kernel))) rfl
theorem kv_556 : Cond.code yX9_bad prog_11_method_4_code 2 (some .int) ∈ gtb := gtb_mem (in_t4 (List.mem_of_getElem? (i := 134) (rfl))) rfl
theorem kv_557 : Cond.methodLink "NoonShadeModel" 129 yX9_goPour ∈ gtb := gtb_mem (in_t4 (List.mem_of_getElem? (i := 204) (by decide +kernel))) rfl
theorem kv_558 : Cond.static yX9_goPour ∈ gtb := gtb_mem (in_t4 (List.mem_of_getElem? (i := 205) (by decide +kernel))) rfl
theorem kv_559 : Cond.code yX9_goPour prog_11_method_28_code 4 (some .int) ∈ gtb := gtb_mem (in_t4 (List.mem_of_getElem? (i := 206) (rfl))) rfl
theorem kv_560 : Cond.methodLink "NoonShadeModel" 132 yX9_goHours ∈ gtb := gtb_mem (in_t4 (List.mem_of_getElem? (i := 216) (by decide +kernel))) rfl
theorem kv_561 : Cond.static yX9_goHours ∈ gtb := gtb_mem (in_t4 (List.mem_of_getElem? (i := 217) (by decide +kernel))) rfl
theorem kv_562 : Cond.code yX9_goHours prog_11_method_30_code 3 none ∈ gtb := gtb_mem (in_t4 (List.mem_of_getElem? (i := 218) (rfl))) rfl
theorem kv_563 : Cond.constantLong "NoonShadeModel" 135 4 ∈ gtb := gtb_mem (in_t4 (List.mem_of_getElem? (i := 236) (by decide +kernel))) rfl
theorem kv_564 : Cond.methodLink "NoonShadeModel" 137 yX9_toldCaster ∈ gtb := gtb_mem (in_t4 (List.mem_of_getElem? (i := 237) (by decide +kernel))) rfl
theorem kv_565 : Cond.instanceMethod yX9_toldCaster ∈ gtb := gtb_mem (in_t4 (List.mem_of_getElem? (i := 239) (by decide +kernel))) rfl
theorem kv_566 : Cond.selects "NoonShadeModel" yX9_toldCaster yX9_toldCaster ∈ gtb := gtb_mem (in_t0 (List.mem_of_getElem? (i := 31) (by decide +kernel))) rfl
theorem kv_567 : Cond.code yX9_toldCaster prog_11_method_37_code 3 (some .int) ∈ gtb := gtb_mem (in_t5 (List.mem_of_getElem? (i := 0) (rfl))) rfl
theorem kv_568 : Cond.methodLink "NoonShadeModel" 141 yX9_toldJar ∈ gtb := gtb_mem (in_t5 (List.mem_of_getElem? (i := 5) (by decide +kernel))) rfl
theorem kv_569 : Cond.instanceMethod yX9_toldJar ∈ gtb := gtb_mem (in_t5 (List.mem_of_getElem? (i := 7) (by decide +kernel))) rfl
theorem kv_570 : Cond.selects "NoonShadeModel" yX9_toldJar yX9_toldJar ∈ gtb := gtb_mem (in_t0 (List.mem_of_getElem? (i := 32) (by decide +kernel))) rfl
theorem kv_571 : Cond.code yX9_toldJar prog_11_method_39_code 3 (some .int) ∈ gtb := gtb_mem (in_t5 (List.mem_of_getElem? (i := 8) (rfl))) rfl
theorem kv_572 : Cond.methodLink "NoonShadeModel" 157 yX9_bestRow ∈ gtb := gtb_mem (in_t5 (List.mem_of_getElem? (i := 33) (by decide +kernel))) rfl
theorem kv_573 : Cond.instanceMethod yX9_bestRow ∈ gtb := gtb_mem (in_t5 (List.mem_of_getElem? (i := 35) (by decide +kernel))) rfl
theorem kv_574 : Cond.selects "NoonShadeModel" yX9_bestRow yX9_bestRow ∈ gtb := gtb_mem (in_t0 (List.mem_of_getElem? (i := 34) (by decide +kernel))) rfl
theorem kv_575 : Cond.code yX9_bestRow prog_11_method_48_code 9 (some .int) ∈ gtb := gtb_mem (in_t5 (List.mem_of_getElem? (i := 36) (rfl))) rfl
theorem kv_576 : Cond.methodLink "NoonShadeModel" 73 yX9_isTaste ∈ gtb := gtb_mem (in_t4 (List.mem_of_getElem? (i := 147) (by decide +kernel))) rfl
theorem kv_577 : Cond.static yX9_isTaste ∈ gtb := gtb_mem (in_t4 (List.mem_of_getElem? (i := 148) (by decide +kernel))) rfl
theorem kv_578 : Cond.code yX9_isTaste prog_11_method_14_code 1 (some .boolean) ∈ gtb := gtb_mem (in_t4 (List.mem_of_getElem? (i := 149) (rfl))) rfl
theorem kv_579 : Cond.methodLink "NoonShadeModel" 160 yX9_isOfTaste ∈ gtb := gtb_mem (in_t5 (List.mem_of_getElem? (i := 48) (by decide +kernel))) rfl
theorem kv_580 : Cond.instanceMethod yX9_isOfTaste ∈ gtb := gtb_mem (in_t5 (List.mem_of_getElem? (i := 50) (by decide +kernel))) rfl
theorem kv_581 : Cond.selects "NoonShadeModel" yX9_isOfTaste yX9_isOfTaste ∈ gtb := gtb_mem (in_t0 (List.mem_of_getElem? (i := 36) (by decide +kernel))) rfl
theorem kv_582 : Cond.code yX9_isOfTaste prog_11_method_50_code 5 (some .boolean) ∈ gtb := gtb_mem (in_t5 (List.mem_of_getElem? (i := 51) (rfl))) rfl
theorem kv_583 : Cond.methodLink "NoonShadeModel" 163 yX9_givenBy ∈ gtb := gtb_mem (in_t5 (List.mem_of_getElem? (i := 52) (by decide +kernel))) rfl
theorem kv_584 : Cond.instanceMethod yX9_givenBy ∈ gtb := gtb_mem (in_t5 (List.mem_of_getElem? (i := 54) (by decide +kernel))) rfl
theorem kv_585 : Cond.selects "NoonShadeModel" yX9_givenBy yX9_givenBy ∈ gtb := gtb_mem (in_t0 (List.mem_of_getElem? (i := 37) (by decide +kernel))) rfl
theorem kv_586 : Cond.code yX9_givenBy prog_11_method_51_code 4 (some .int) ∈ gtb := gtb_mem (in_t5 (List.mem_of_getElem? (i := 55) (rfl))) rfl
theorem kv_587 : Cond.constantLong "NoonShadeModel" 169 30 ∈ gtb := gtb_mem (in_t5 (List.mem_of_getElem? (i := 63) (by decide +kernel))) rfl
theorem kv_588 : Cond.methodLink "NoonShadeModel" 187 yX9_kindsOfCaster ∈ gtb := gtb_mem (in_t5 (List.mem_of_getElem? (i := 92) (by decide +kernel))) rfl
theorem kv_589 : Cond.instanceMethod yX9_kindsOfCaster ∈ gtb := gtb_mem (in_t5 (List.mem_of_getElem? (i := 94) (by decide +kernel))) rfl
theorem kv_590 : Cond.selects "NoonShadeModel" yX9_kindsOfCaster yX9_kindsOfCaster ∈ gtb := gtb_mem (in_t0 (List.mem_of_getElem? (i := 39) (by decide +kernel))) rfl
theorem kv_591 : Cond.code yX9_kindsOfCaster prog_11_method_59_code 2 (some .int) ∈ gtb := gtb_mem (in_t5 (List.mem_of_getElem? (i := 95) (rfl))) rfl
theorem kv_592 : Cond.methodLink "NoonShadeModel" 194 yX9_kindsOfJar ∈ gtb := gtb_mem (in_t5 (List.mem_of_getElem? (i := 113) (by decide +kernel))) rfl
theorem kv_593 : Cond.instanceMethod yX9_kindsOfJar ∈ gtb := gtb_mem (in_t5 (List.mem_of_getElem? (i := 115) (by decide +kernel))) rfl
theorem kv_594 : Cond.selects "NoonShadeModel" yX9_kindsOfJar yX9_kindsOfJar ∈ gtb := gtb_mem (in_t0 (List.mem_of_getElem? (i := 42) (by decide +kernel))) rfl
theorem kv_595 : Cond.code yX9_kindsOfJar prog_11_method_60_code 2 (some .int) ∈ gtb := gtb_mem (in_t5 (List.mem_of_getElem? (i := 116) (rfl))) rfl
theorem kv_596 : Cond.constant "NoonShadeModel" 190 1000000 ∈ gtb := gtb_mem (in_t5 (List.mem_of_getElem? (i := 104) (by decide +kernel))) rfl
theorem kv_597 : Cond.methodLink "NoonShadeModel" 191 yX9_mostAlike ∈ gtb := gtb_mem (in_t5 (List.mem_of_getElem? (i := 105) (by decide +kernel))) rfl
theorem kv_598 : Cond.instanceMethod yX9_mostAlike ∈ gtb := gtb_mem (in_t5 (List.mem_of_getElem? (i := 107) (by decide +kernel))) rfl
theorem kv_599 : Cond.selects "NoonShadeModel" yX9_mostAlike yX9_mostAlike ∈ gtb := gtb_mem (in_t0 (List.mem_of_getElem? (i := 41) (by decide +kernel))) rfl
theorem kv_600 : Cond.code yX9_mostAlike prog_11_method_62_code 6 (some .int) ∈ gtb := gtb_mem (in_t5 (List.mem_of_getElem? (i := 108) (rfl))) rfl
theorem kv_601 : Cond.methodLink "NoonShadeModel" 203 yX9_rests ∈ gtb := gtb_mem (in_t5 (List.mem_of_getElem? (i := 129) (by decide +kernel))) rfl
theorem kv_602 : Cond.instanceMethod yX9_rests ∈ gtb := gtb_mem (in_t5 (List.mem_of_getElem? (i := 131) (by decide +kernel))) rfl
theorem kv_603 : Cond.selects "NoonShadeModel" yX9_rests yX9_rests ∈ gtb := gtb_mem (in_t0 (List.mem_of_getElem? (i := 44) (by decide +kernel))) rfl
theorem kv_604 : Cond.code yX9_rests prog_11_method_68_code 5 (some .boolean) ∈ gtb := gtb_mem (in_t5 (List.mem_of_getElem? (i := 132) (rfl))) rfl
theorem kv_605 : Cond.methodLink "NoonShadeModel" 180 yX9_isCool ∈ gtb := gtb_mem (in_t5 (List.mem_of_getElem? (i := 81) (by decide +kernel))) rfl
theorem kv_606 : Cond.static yX9_isCool ∈ gtb := gtb_mem (in_t5 (List.mem_of_getElem? (i := 82) (by decide +kernel))) rfl
theorem kv_607 : Cond.code yX9_isCool prog_11_method_16_code 1 (some .boolean) ∈ gtb := gtb_mem (in_t5 (List.mem_of_getElem? (i := 83) (rfl))) rfl
theorem kv_608 : Cond.constantLong "NoonShadeModel" 209 10 ∈ gtb := gtb_mem (in_t5 (List.mem_of_getElem? (i := 141) (by decide +kernel))) rfl
theorem kv_609 : Cond.methodLink "NoonShadeModel" 211 yX9_fraction ∈ gtb := gtb_mem (in_t5 (List.mem_of_getElem? (i := 142) (by decide +kernel))) rfl
theorem kv_610 : Cond.instanceMethod yX9_fraction ∈ gtb := gtb_mem (in_t5 (List.mem_of_getElem? (i := 144) (by decide +kernel))) rfl
theorem kv_611 : Cond.selects "NoonShadeModel" yX9_fraction yX9_fraction ∈ gtb := gtb_mem (in_t0 (List.mem_of_getElem? (i := 46) (by decide +kernel))) rfl
theorem kv_612 : Cond.code yX9_fraction prog_11_method_70_code 11 none ∈ gtb := gtb_mem (in_t5 (List.mem_of_getElem? (i := 145) (rfl))) rfl
theorem kv_613 : Cond.constantLong "NoonShadeModel" 215 999999 ∈ gtb := gtb_mem (in_t5 (List.mem_of_getElem? (i := 150) (by decide +kernel))) rfl
theorem kv_614 : Cond.constantLong "NoonShadeModel" 217 1103515245 ∈ gtb := gtb_mem (in_t5 (List.mem_of_getElem? (i := 151) (by decide +kernel))) rfl
theorem kv_615 : Cond.constantLong "NoonShadeModel" 219 12345 ∈ gtb := gtb_mem (in_t5 (List.mem_of_getElem? (i := 152) (by decide +kernel))) rfl
theorem kv_616 : Cond.constantLong "NoonShadeModel" 221 2147483648 ∈ gtb := gtb_mem (in_t5 (List.mem_of_getElem? (i := 153) (by decide +kernel))) rfl
theorem kv_617 : Cond.constantLong "NoonShadeModel" 223 65536 ∈ gtb := gtb_mem (in_t5 (List.mem_of_getElem? (i := 154) (by decide +kernel))) rfl
theorem kv_618 : Cond.constantLong "NoonShadeModel" 225 7 ∈ gtb := gtb_mem (in_t5 (List.mem_of_getElem? (i := 155) (by decide +kernel))) rfl
theorem kv_619 : Cond.constantLong "NoonShadeModel" 227 1048576 ∈ gtb := gtb_mem (in_t5 (List.mem_of_getElem? (i := 156) (by decide +kernel))) rfl
theorem kv_620 : Cond.constantLong "NoonShadeModel" 229 16384 ∈ gtb := gtb_mem (in_t5 (List.mem_of_getElem? (i := 157) (by decide +kernel))) rfl
theorem kv_621 : Cond.constantLong "NoonShadeModel" 231 2 ∈ gtb := gtb_mem (in_t5 (List.mem_of_getElem? (i := 158) (by decide +kernel))) rfl
theorem kv_622 : Cond.methodLink "NoonShadeModel" 302 yX9_counted ∈ gtb := gtb_mem (in_t6 (List.mem_of_getElem? (i := 5) (by decide +kernel))) rfl
theorem kv_623 : Cond.instanceMethod yX9_counted ∈ gtb := gtb_mem (in_t6 (List.mem_of_getElem? (i := 7) (by decide +kernel))) rfl
theorem kv_624 : Cond.selects "NoonShadeModel" yX9_counted yX9_counted ∈ gtb := gtb_mem (in_t0 (List.mem_of_getElem? (i := 57) (by decide +kernel))) rfl
theorem kv_625 : Cond.code yX9_counted prog_11_method_93_code 2 (some .int) ∈ gtb := gtb_mem (in_t6 (List.mem_of_getElem? (i := 8) (rfl))) rfl
theorem kv_626 : Cond.constantLong "NoonShadeModel" 307 1879 ∈ gtb := gtb_mem (in_t6 (List.mem_of_getElem? (i := 13) (by decide +kernel))) rfl
theorem kv_627 : Cond.methodLink "NoonShadeModel" 309 yX9_sums ∈ gtb := gtb_mem (in_t6 (List.mem_of_getElem? (i := 15) (by decide +kernel))) rfl
theorem kv_628 : Cond.instanceMethod yX9_sums ∈ gtb := gtb_mem (in_t6 (List.mem_of_getElem? (i := 17) (by decide +kernel))) rfl
theorem kv_629 : Cond.selects "NoonShadeModel" yX9_sums yX9_sums ∈ gtb := gtb_mem (in_t0 (List.mem_of_getElem? (i := 58) (by decide +kernel))) rfl
theorem kv_630 : Cond.code yX9_sums prog_11_method_95_code 8 (some .long) ∈ gtb := gtb_mem (in_t6 (List.mem_of_getElem? (i := 18) (rfl))) rfl
theorem kv_631 : Cond.constantLong "NoonShadeModel" 60 99 ∈ gtb := gtb_mem (in_t4 (List.mem_of_getElem? (i := 127) (by decide +kernel))) rfl
theorem kv_632 : Cond.methodLink "NoonShadeModel" 42 yX9_begin ∈ gtb := gtb_mem (in_t4 (List.mem_of_getElem? (i := 68) (by decide +kernel))) rfl
theorem kv_633 : Cond.static yX9_begin ∈ gtb := gtb_mem (in_t4 (List.mem_of_getElem? (i := 69) (by decide +kernel))) rfl
theorem kv_634 : Cond.code yX9_begin prog_11_method_9_code 3 none ∈ gtb := gtb_mem (in_t4 (List.mem_of_getElem? (i := 70) (rfl))) rfl
theorem kv_635 : Cond.methodLink "NoonShadeModel" 66 yX9_isKind ∈ gtb := gtb_mem (in_t4 (List.mem_of_getElem? (i := 139) (by decide +kernel))) rfl
theorem kv_636 : Cond.static yX9_isKind ∈ gtb := gtb_mem (in_t4 (List.mem_of_getElem? (i := 140) (by decide +kernel))) rfl
theorem kv_637 : Cond.code yX9_isKind prog_11_method_12_code 1 (some .boolean) ∈ gtb := gtb_mem (in_t4 (List.mem_of_getElem? (i := 141) (rfl))) rfl
theorem kv_638 : Cond.methodLink "NoonShadeModel" 70 yX9_isHeight ∈ gtb := gtb_mem (in_t4 (List.mem_of_getElem? (i := 143) (by decide +kernel))) rfl
theorem kv_639 : Cond.static yX9_isHeight ∈ gtb := gtb_mem (in_t4 (List.mem_of_getElem? (i := 144) (by decide +kernel))) rfl
theorem kv_640 : Cond.code yX9_isHeight prog_11_method_13_code 1 (some .boolean) ∈ gtb := gtb_mem (in_t4 (List.mem_of_getElem? (i := 145) (rfl))) rfl
theorem kv_641 : Cond.methodLink "NoonShadeModel" 80 yX9_layCaster ∈ gtb := gtb_mem (in_t4 (List.mem_of_getElem? (i := 155) (by decide +kernel))) rfl
theorem kv_642 : Cond.static yX9_layCaster ∈ gtb := gtb_mem (in_t4 (List.mem_of_getElem? (i := 156) (by decide +kernel))) rfl
theorem kv_643 : Cond.code yX9_layCaster prog_11_method_18_code 4 none ∈ gtb := gtb_mem (in_t4 (List.mem_of_getElem? (i := 157) (rfl))) rfl
theorem kv_644 : Cond.methodLink "NoonShadeModel" 76 yX9_full ∈ gtb := gtb_mem (in_t4 (List.mem_of_getElem? (i := 151) (by decide +kernel))) rfl
theorem kv_645 : Cond.instanceMethod yX9_full ∈ gtb := gtb_mem (in_t4 (List.mem_of_getElem? (i := 153) (by decide +kernel))) rfl
theorem kv_646 : Cond.selects "NoonShadeModel" yX9_full yX9_full ∈ gtb := gtb_mem (in_t0 (List.mem_of_getElem? (i := 26) (by decide +kernel))) rfl
theorem kv_647 : Cond.code yX9_full prog_11_method_6_code 1 (some .int) ∈ gtb := gtb_mem (in_t4 (List.mem_of_getElem? (i := 154) (rfl))) rfl
theorem kv_648 : Cond.methodLink "NoonShadeModel" 84 yX9_layJar ∈ gtb := gtb_mem (in_t4 (List.mem_of_getElem? (i := 162) (by decide +kernel))) rfl
theorem kv_649 : Cond.static yX9_layJar ∈ gtb := gtb_mem (in_t4 (List.mem_of_getElem? (i := 163) (by decide +kernel))) rfl
theorem kv_650 : Cond.code yX9_layJar prog_11_method_20_code 2 none ∈ gtb := gtb_mem (in_t4 (List.mem_of_getElem? (i := 164) (rfl))) rfl
theorem kv_651 : Cond.methodLink "NoonShadeModel" 171 yX9_isHour ∈ gtb := gtb_mem (in_t5 (List.mem_of_getElem? (i := 68) (by decide +kernel))) rfl
theorem kv_652 : Cond.static yX9_isHour ∈ gtb := gtb_mem (in_t5 (List.mem_of_getElem? (i := 69) (by decide +kernel))) rfl
theorem kv_653 : Cond.code yX9_isHour prog_11_method_15_code 1 (some .boolean) ∈ gtb := gtb_mem (in_t5 (List.mem_of_getElem? (i := 70) (rfl))) rfl
theorem kv_654 : Cond.constantLong "NoonShadeModel" 174 40 ∈ gtb := gtb_mem (in_t5 (List.mem_of_getElem? (i := 72) (by decide +kernel))) rfl
theorem kv_655 : Cond.methodLink "NoonShadeModel" 176 yX9_layFour ∈ gtb := gtb_mem (in_t5 (List.mem_of_getElem? (i := 73) (by decide +kernel))) rfl
theorem kv_656 : Cond.instanceMethod yX9_layFour ∈ gtb := gtb_mem (in_t5 (List.mem_of_getElem? (i := 75) (by decide +kernel))) rfl
theorem kv_657 : Cond.selects "NoonShadeModel" yX9_layFour yX9_layFour ∈ gtb := gtb_mem (in_t0 (List.mem_of_getElem? (i := 38) (by decide +kernel))) rfl
theorem kv_658 : Cond.code yX9_layFour prog_11_method_54_code 6 none ∈ gtb := gtb_mem (in_t5 (List.mem_of_getElem? (i := 76) (rfl))) rfl
