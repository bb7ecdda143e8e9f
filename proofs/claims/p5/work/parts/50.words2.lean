set_option maxRecDepth 20000 in
theorem qw_545 : Cond.selects RX0 yX0_carryOut yX0_carryOut ∈ lw_tbl := List.mem_of_getElem? (i := 545) rfl
set_option maxRecDepth 20000 in
theorem qw_544 : Cond.instanceMethod yX0_carryOut ∈ lw_tbl := List.mem_of_getElem? (i := 544) rfl
set_option maxRecDepth 20000 in
theorem qw_543 : Cond.methodLink RX5 326 yX0_carryOut ∈ lw_tbl := List.mem_of_getElem? (i := 543) rfl
set_option maxRecDepth 20000 in
theorem qw_549 : Cond.code yX5_toldSet cX5_toldSet 2 (some .int) ∈ lw_tbl := List.mem_of_getElem? (i := 549) rfl
set_option maxRecDepth 20000 in
theorem qw_548 : Cond.static yX5_toldSet ∈ lw_tbl := List.mem_of_getElem? (i := 548) rfl
set_option maxRecDepth 20000 in
theorem qw_547 : Cond.methodLink RX5 233 yX5_toldSet ∈ lw_tbl := List.mem_of_getElem? (i := 547) rfl
set_option maxRecDepth 20000 in
theorem qw_1011 : Cond.selects RX6 yX6_outs yX6_outs ∈ lw_tbl := List.mem_of_getElem? (i := 1011) rfl
set_option maxRecDepth 20000 in
theorem qw_1010 : Cond.instanceMethod yX6_outs ∈ lw_tbl := List.mem_of_getElem? (i := 1010) rfl
set_option maxRecDepth 20000 in
theorem qw_1009 : Cond.methodLink RL 101 yX6_outs ∈ lw_tbl := List.mem_of_getElem? (i := 1009) rfl
set_option maxRecDepth 20000 in
theorem qw_1012 : Cond.code yX6_outs cX6_outs 8 (some .int) ∈ lw_tbl := List.mem_of_getElem? (i := 1012) rfl
set_option maxRecDepth 20000 in
theorem qw_1017 : Cond.code yX6_inside cX6_inside 1 (some .int) ∈ lw_tbl := List.mem_of_getElem? (i := 1017) rfl
set_option maxRecDepth 20000 in
theorem qw_41 : Cond.selects RX6 yX6_inside yX6_inside ∈ lw_tbl := List.mem_of_getElem? (i := 41) rfl
set_option maxRecDepth 20000 in
theorem qw_1016 : Cond.instanceMethod yX6_inside ∈ lw_tbl := List.mem_of_getElem? (i := 1016) rfl
set_option maxRecDepth 20000 in
theorem qw_1014 : Cond.methodLink RX6 237 yX6_inside ∈ lw_tbl := List.mem_of_getElem? (i := 1014) rfl
set_option maxRecDepth 20000 in
theorem qw_1013 : Cond.constantLong RX6 235 (30) ∈ lw_tbl := List.mem_of_getElem? (i := 1013) rfl
set_option maxRecDepth 20000 in
theorem qw_1027 : Cond.code yX6_has cX6_has 2 (some .boolean) ∈ lw_tbl := List.mem_of_getElem? (i := 1027) rfl
set_option maxRecDepth 20000 in
theorem qw_1026 : Cond.static yX6_has ∈ lw_tbl := List.mem_of_getElem? (i := 1026) rfl
set_option maxRecDepth 20000 in
theorem qw_1025 : Cond.methodLink RX6 231 yX6_has ∈ lw_tbl := List.mem_of_getElem? (i := 1025) rfl
set_option maxRecDepth 20000 in
theorem qw_1024 : Cond.code yX6_layOut cX6_layOut 3 none ∈ lw_tbl := List.mem_of_getElem? (i := 1024) rfl
set_option maxRecDepth 20000 in
theorem qw_42 : Cond.selects RX6 yX6_layOut yX6_layOut ∈ lw_tbl := List.mem_of_getElem? (i := 42) rfl
set_option maxRecDepth 20000 in
theorem qw_1023 : Cond.instanceMethod yX6_layOut ∈ lw_tbl := List.mem_of_getElem? (i := 1023) rfl
set_option maxRecDepth 20000 in
theorem qw_1021 : Cond.methodLink RX6 244 yX6_layOut ∈ lw_tbl := List.mem_of_getElem? (i := 1021) rfl
set_option maxRecDepth 20000 in
theorem qw_1020 : Cond.code yX6_bits cX6_bits 3 (some .int) ∈ lw_tbl := List.mem_of_getElem? (i := 1020) rfl
set_option maxRecDepth 20000 in
theorem qw_1019 : Cond.static yX6_bits ∈ lw_tbl := List.mem_of_getElem? (i := 1019) rfl
set_option maxRecDepth 20000 in
theorem qw_1018 : Cond.methodLink RX6 241 yX6_bits ∈ lw_tbl := List.mem_of_getElem? (i := 1018) rfl
set_option maxRecDepth 20000 in
theorem qw_552 : Cond.selects RX5 yX5_shakes yX5_shakes ∈ lw_tbl := List.mem_of_getElem? (i := 552) rfl
set_option maxRecDepth 20000 in
theorem qw_551 : Cond.instanceMethod yX5_shakes ∈ lw_tbl := List.mem_of_getElem? (i := 551) rfl
set_option maxRecDepth 20000 in
theorem qw_550 : Cond.methodLink RL 102 yX5_shakes ∈ lw_tbl := List.mem_of_getElem? (i := 550) rfl
set_option maxRecDepth 20000 in
theorem qw_553 : Cond.code yX5_shakes cX5_shakes 7 (some .int) ∈ lw_tbl := List.mem_of_getElem? (i := 553) rfl
set_option maxRecDepth 20000 in
theorem qw_557 : Cond.code yX5_isWarmShaken cX5_isWarmShaken 4 (some .boolean) ∈ lw_tbl := List.mem_of_getElem? (i := 557) rfl
set_option maxRecDepth 20000 in
theorem qw_18 : Cond.selects RX5 yX5_isWarmShaken yX5_isWarmShaken ∈ lw_tbl := List.mem_of_getElem? (i := 18) rfl
set_option maxRecDepth 20000 in
theorem qw_556 : Cond.instanceMethod yX5_isWarmShaken ∈ lw_tbl := List.mem_of_getElem? (i := 556) rfl
set_option maxRecDepth 20000 in
theorem qw_554 : Cond.methodLink RX5 236 yX5_isWarmShaken ∈ lw_tbl := List.mem_of_getElem? (i := 554) rfl
set_option maxRecDepth 20000 in
theorem qw_562 : Cond.methodLink RX0 85 yX0_letDown ∈ lw_tbl := List.mem_of_getElem? (i := 562) rfl
set_option maxRecDepth 20000 in
theorem qw_561 : Cond.code yX0_letDownAll cX0_letDownAll 3 none ∈ lw_tbl := List.mem_of_getElem? (i := 561) rfl
set_option maxRecDepth 20000 in
theorem qw_560 : Cond.selects RX0 yX0_letDownAll yX0_letDownAll ∈ lw_tbl := List.mem_of_getElem? (i := 560) rfl
set_option maxRecDepth 20000 in
theorem qw_559 : Cond.instanceMethod yX0_letDownAll ∈ lw_tbl := List.mem_of_getElem? (i := 559) rfl
set_option maxRecDepth 20000 in
theorem qw_558 : Cond.methodLink RX5 329 yX0_letDownAll ∈ lw_tbl := List.mem_of_getElem? (i := 558) rfl
set_option maxRecDepth 20000 in
theorem qw_1030 : Cond.selects RX6 yX6_shakes yX6_shakes ∈ lw_tbl := List.mem_of_getElem? (i := 1030) rfl
set_option maxRecDepth 20000 in
theorem qw_1029 : Cond.instanceMethod yX6_shakes ∈ lw_tbl := List.mem_of_getElem? (i := 1029) rfl
set_option maxRecDepth 20000 in
theorem qw_1028 : Cond.methodLink RL 105 yX6_shakes ∈ lw_tbl := List.mem_of_getElem? (i := 1028) rfl
set_option maxRecDepth 20000 in
theorem qw_1031 : Cond.code yX6_shakes cX6_shakes 7 (some .int) ∈ lw_tbl := List.mem_of_getElem? (i := 1031) rfl
set_option maxRecDepth 20000 in
theorem qw_1032 : Cond.methodLink RX6 247 yX6_layShaken ∈ lw_tbl := List.mem_of_getElem? (i := 1032) rfl
set_option maxRecDepth 20000 in
theorem qw_1035 : Cond.code yX6_layShaken cX6_layShaken 4 none ∈ lw_tbl := List.mem_of_getElem? (i := 1035) rfl
set_option maxRecDepth 20000 in
theorem qw_43 : Cond.selects RX6 yX6_layShaken yX6_layShaken ∈ lw_tbl := List.mem_of_getElem? (i := 43) rfl
set_option maxRecDepth 20000 in
theorem qw_1034 : Cond.instanceMethod yX6_layShaken ∈ lw_tbl := List.mem_of_getElem? (i := 1034) rfl
set_option maxRecDepth 20000 in
theorem qw_565 : Cond.selects RX5 yX5_hang yX5_hang ∈ lw_tbl := List.mem_of_getElem? (i := 565) rfl
set_option maxRecDepth 20000 in
theorem qw_564 : Cond.instanceMethod yX5_hang ∈ lw_tbl := List.mem_of_getElem? (i := 564) rfl
set_option maxRecDepth 20000 in
theorem qw_563 : Cond.methodLink RL 106 yX5_hang ∈ lw_tbl := List.mem_of_getElem? (i := 563) rfl
set_option maxRecDepth 20000 in
theorem qw_566 : Cond.code yX5_hang cX5_hang 7 (some .int) ∈ lw_tbl := List.mem_of_getElem? (i := 566) rfl
set_option maxRecDepth 20000 in
theorem qw_1038 : Cond.selects RX6 yX6_hang yX6_hang ∈ lw_tbl := List.mem_of_getElem? (i := 1038) rfl
set_option maxRecDepth 20000 in
theorem qw_1037 : Cond.instanceMethod yX6_hang ∈ lw_tbl := List.mem_of_getElem? (i := 1037) rfl
set_option maxRecDepth 20000 in
theorem qw_1036 : Cond.methodLink RL 109 yX6_hang ∈ lw_tbl := List.mem_of_getElem? (i := 1036) rfl
set_option maxRecDepth 20000 in
theorem qw_1039 : Cond.code yX6_hang cX6_hang 8 (some .int) ∈ lw_tbl := List.mem_of_getElem? (i := 1039) rfl
set_option maxRecDepth 20000 in
theorem qw_569 : Cond.selects RX5 yX5_fire yX5_fire ∈ lw_tbl := List.mem_of_getElem? (i := 569) rfl
set_option maxRecDepth 20000 in
theorem qw_568 : Cond.instanceMethod yX5_fire ∈ lw_tbl := List.mem_of_getElem? (i := 568) rfl
set_option maxRecDepth 20000 in
theorem qw_567 : Cond.methodLink RL 110 yX5_fire ∈ lw_tbl := List.mem_of_getElem? (i := 567) rfl
set_option maxRecDepth 20000 in
theorem qw_570 : Cond.code yX5_fire cX5_fire 4 (some .int) ∈ lw_tbl := List.mem_of_getElem? (i := 570) rfl
set_option maxRecDepth 20000 in
theorem qw_1042 : Cond.selects RX6 yX6_fire yX6_fire ∈ lw_tbl := List.mem_of_getElem? (i := 1042) rfl
set_option maxRecDepth 20000 in
theorem qw_1041 : Cond.instanceMethod yX6_fire ∈ lw_tbl := List.mem_of_getElem? (i := 1041) rfl
set_option maxRecDepth 20000 in
theorem qw_1040 : Cond.methodLink RL 113 yX6_fire ∈ lw_tbl := List.mem_of_getElem? (i := 1040) rfl
set_option maxRecDepth 20000 in
theorem qw_1043 : Cond.code yX6_fire cX6_fire 4 (some .int) ∈ lw_tbl := List.mem_of_getElem? (i := 1043) rfl
set_option maxRecDepth 20000 in
theorem qw_573 : Cond.selects RX5 yX5_pours yX5_pours ∈ lw_tbl := List.mem_of_getElem? (i := 573) rfl
set_option maxRecDepth 20000 in
theorem qw_572 : Cond.instanceMethod yX5_pours ∈ lw_tbl := List.mem_of_getElem? (i := 572) rfl
set_option maxRecDepth 20000 in
theorem qw_571 : Cond.methodLink RL 114 yX5_pours ∈ lw_tbl := List.mem_of_getElem? (i := 571) rfl
set_option maxRecDepth 20000 in
theorem qw_574 : Cond.code yX5_pours cX5_pours 5 (some .int) ∈ lw_tbl := List.mem_of_getElem? (i := 574) rfl
set_option maxRecDepth 20000 in
theorem qw_577 : Cond.code yX5_canPour cX5_canPour 12 (some .boolean) ∈ lw_tbl := List.mem_of_getElem? (i := 577) rfl
set_option maxRecDepth 20000 in
theorem qw_576 : Cond.static yX5_canPour ∈ lw_tbl := List.mem_of_getElem? (i := 576) rfl
set_option maxRecDepth 20000 in
theorem qw_575 : Cond.methodLink RX5 242 yX5_canPour ∈ lw_tbl := List.mem_of_getElem? (i := 575) rfl
set_option maxRecDepth 20000 in
theorem qw_1046 : Cond.selects RX6 yX6_pours yX6_pours ∈ lw_tbl := List.mem_of_getElem? (i := 1046) rfl
set_option maxRecDepth 20000 in
theorem qw_1045 : Cond.instanceMethod yX6_pours ∈ lw_tbl := List.mem_of_getElem? (i := 1045) rfl
set_option maxRecDepth 20000 in
theorem qw_1044 : Cond.methodLink RL 117 yX6_pours ∈ lw_tbl := List.mem_of_getElem? (i := 1044) rfl
set_option maxRecDepth 20000 in
theorem qw_1047 : Cond.code yX6_pours cX6_pours 9 (some .int) ∈ lw_tbl := List.mem_of_getElem? (i := 1047) rfl
set_option maxRecDepth 20000 in
theorem qw_1052 : Cond.code yX6_doPour cX6_doPour 8 (some .boolean) ∈ lw_tbl := List.mem_of_getElem? (i := 1052) rfl
set_option maxRecDepth 20000 in
theorem qw_44 : Cond.selects RX6 yX6_doPour yX6_doPour ∈ lw_tbl := List.mem_of_getElem? (i := 44) rfl
set_option maxRecDepth 20000 in
theorem qw_1051 : Cond.instanceMethod yX6_doPour ∈ lw_tbl := List.mem_of_getElem? (i := 1051) rfl
set_option maxRecDepth 20000 in
theorem qw_1049 : Cond.methodLink RX6 252 yX6_doPour ∈ lw_tbl := List.mem_of_getElem? (i := 1049) rfl
set_option maxRecDepth 20000 in
theorem qw_1048 : Cond.constantLong RX6 250 (40) ∈ lw_tbl := List.mem_of_getElem? (i := 1048) rfl
set_option maxRecDepth 20000 in
theorem qw_580 : Cond.selects RX5 yX5_mix yX5_mix ∈ lw_tbl := List.mem_of_getElem? (i := 580) rfl
set_option maxRecDepth 20000 in
theorem qw_579 : Cond.instanceMethod yX5_mix ∈ lw_tbl := List.mem_of_getElem? (i := 579) rfl
set_option maxRecDepth 20000 in
theorem qw_578 : Cond.methodLink RL 118 yX5_mix ∈ lw_tbl := List.mem_of_getElem? (i := 578) rfl
set_option maxRecDepth 20000 in
theorem qw_581 : Cond.code yX5_mix cX5_mix 8 (some .int) ∈ lw_tbl := List.mem_of_getElem? (i := 581) rfl
set_option maxRecDepth 20000 in
theorem qw_586 : Cond.methodLink RX5 249 Lib.Math.min.name ∈ lw_tbl := List.mem_of_getElem? (i := 586) rfl
set_option maxRecDepth 20000 in
theorem qw_585 : Cond.code yX0_upIn cX0_upIn 4 (some .int) ∈ lw_tbl := List.mem_of_getElem? (i := 585) rfl
set_option maxRecDepth 20000 in
theorem qw_584 : Cond.selects RX0 yX0_upIn yX0_upIn ∈ lw_tbl := List.mem_of_getElem? (i := 584) rfl
set_option maxRecDepth 20000 in
theorem qw_583 : Cond.instanceMethod yX0_upIn ∈ lw_tbl := List.mem_of_getElem? (i := 583) rfl
set_option maxRecDepth 20000 in
theorem qw_582 : Cond.methodLink RX5 246 yX0_upIn ∈ lw_tbl := List.mem_of_getElem? (i := 582) rfl
set_option maxRecDepth 20000 in
theorem qw_1055 : Cond.selects RX6 yX6_mix yX6_mix ∈ lw_tbl := List.mem_of_getElem? (i := 1055) rfl
set_option maxRecDepth 20000 in
theorem qw_1054 : Cond.instanceMethod yX6_mix ∈ lw_tbl := List.mem_of_getElem? (i := 1054) rfl
set_option maxRecDepth 20000 in
theorem qw_1053 : Cond.methodLink RL 121 yX6_mix ∈ lw_tbl := List.mem_of_getElem? (i := 1053) rfl
set_option maxRecDepth 20000 in
theorem qw_1056 : Cond.code yX6_mix cX6_mix 9 (some .int) ∈ lw_tbl := List.mem_of_getElem? (i := 1056) rfl
set_option maxRecDepth 20000 in
theorem qw_1057 : Cond.constantLong RX6 256 (999) ∈ lw_tbl := List.mem_of_getElem? (i := 1057) rfl
set_option maxRecDepth 20000 in
theorem qw_589 : Cond.selects RX5 yX5_degrees yX5_degrees ∈ lw_tbl := List.mem_of_getElem? (i := 589) rfl
set_option maxRecDepth 20000 in
theorem qw_588 : Cond.instanceMethod yX5_degrees ∈ lw_tbl := List.mem_of_getElem? (i := 588) rfl
set_option maxRecDepth 20000 in
theorem qw_587 : Cond.methodLink RL 122 yX5_degrees ∈ lw_tbl := List.mem_of_getElem? (i := 587) rfl
set_option maxRecDepth 20000 in
theorem qw_590 : Cond.code yX5_degrees cX5_degrees 1 (some .int) ∈ lw_tbl := List.mem_of_getElem? (i := 590) rfl
set_option maxRecDepth 20000 in
theorem qw_595 : Cond.methodLink RX0 55 yX0_upIn ∈ lw_tbl := List.mem_of_getElem? (i := 595) rfl
set_option maxRecDepth 20000 in
theorem qw_594 : Cond.code yX0_all cX0_all 3 (some .int) ∈ lw_tbl := List.mem_of_getElem? (i := 594) rfl
set_option maxRecDepth 20000 in
theorem qw_593 : Cond.selects RX0 yX0_all yX0_all ∈ lw_tbl := List.mem_of_getElem? (i := 593) rfl
set_option maxRecDepth 20000 in
theorem qw_592 : Cond.instanceMethod yX0_all ∈ lw_tbl := List.mem_of_getElem? (i := 592) rfl
set_option maxRecDepth 20000 in
theorem qw_591 : Cond.methodLink RX5 254 yX0_all ∈ lw_tbl := List.mem_of_getElem? (i := 591) rfl
set_option maxRecDepth 20000 in
theorem qw_1060 : Cond.selects RX6 yX6_degrees yX6_degrees ∈ lw_tbl := List.mem_of_getElem? (i := 1060) rfl
set_option maxRecDepth 20000 in
theorem qw_1059 : Cond.instanceMethod yX6_degrees ∈ lw_tbl := List.mem_of_getElem? (i := 1059) rfl
set_option maxRecDepth 20000 in
theorem qw_1058 : Cond.methodLink RL 125 yX6_degrees ∈ lw_tbl := List.mem_of_getElem? (i := 1058) rfl
set_option maxRecDepth 20000 in
theorem qw_1061 : Cond.code yX6_degrees cX6_degrees 1 (some .int) ∈ lw_tbl := List.mem_of_getElem? (i := 1061) rfl
set_option maxRecDepth 20000 in
theorem qw_1067 : Cond.code yX6_upOf cX6_upOf 3 (some .int) ∈ lw_tbl := List.mem_of_getElem? (i := 1067) rfl
set_option maxRecDepth 20000 in
theorem qw_1066 : Cond.static yX6_upOf ∈ lw_tbl := List.mem_of_getElem? (i := 1066) rfl
set_option maxRecDepth 20000 in
theorem qw_1065 : Cond.methodLink RX6 185 yX6_upOf ∈ lw_tbl := List.mem_of_getElem? (i := 1065) rfl
set_option maxRecDepth 20000 in
theorem qw_1064 : Cond.code yX6_degreesOf cX6_degreesOf 3 (some .int) ∈ lw_tbl := List.mem_of_getElem? (i := 1064) rfl
set_option maxRecDepth 20000 in
theorem qw_1063 : Cond.static yX6_degreesOf ∈ lw_tbl := List.mem_of_getElem? (i := 1063) rfl
set_option maxRecDepth 20000 in
theorem qw_1062 : Cond.methodLink RX6 258 yX6_degreesOf ∈ lw_tbl := List.mem_of_getElem? (i := 1062) rfl
set_option maxRecDepth 20000 in
theorem qw_598 : Cond.selects RX5 yX5_sale yX5_sale ∈ lw_tbl := List.mem_of_getElem? (i := 598) rfl
set_option maxRecDepth 20000 in
theorem qw_597 : Cond.instanceMethod yX5_sale ∈ lw_tbl := List.mem_of_getElem? (i := 597) rfl
set_option maxRecDepth 20000 in
theorem qw_596 : Cond.methodLink RL 126 yX5_sale ∈ lw_tbl := List.mem_of_getElem? (i := 596) rfl
set_option maxRecDepth 20000 in
theorem qw_599 : Cond.code yX5_sale cX5_sale 10 (some .int) ∈ lw_tbl := List.mem_of_getElem? (i := 599) rfl
set_option maxRecDepth 20000 in
theorem qw_600 : Cond.methodLink RX5 257 Lib.Math.max.name ∈ lw_tbl := List.mem_of_getElem? (i := 600) rfl
set_option maxRecDepth 20000 in
theorem qw_1070 : Cond.selects RX6 yX6_sale yX6_sale ∈ lw_tbl := List.mem_of_getElem? (i := 1070) rfl
set_option maxRecDepth 20000 in
theorem qw_1069 : Cond.instanceMethod yX6_sale ∈ lw_tbl := List.mem_of_getElem? (i := 1069) rfl
set_option maxRecDepth 20000 in
theorem qw_1068 : Cond.methodLink RL 129 yX6_sale ∈ lw_tbl := List.mem_of_getElem? (i := 1068) rfl
set_option maxRecDepth 20000 in
theorem qw_1071 : Cond.code yX6_sale cX6_sale 11 (some .int) ∈ lw_tbl := List.mem_of_getElem? (i := 1071) rfl
set_option maxRecDepth 20000 in
theorem qw_1073 : Cond.constantLong RX6 263 (9) ∈ lw_tbl := List.mem_of_getElem? (i := 1073) rfl
set_option maxRecDepth 20000 in
theorem qw_1072 : Cond.constantLong RX6 261 (99) ∈ lw_tbl := List.mem_of_getElem? (i := 1072) rfl
set_option maxRecDepth 20000 in
theorem qw_603 : Cond.selects RX5 yX5_who yX5_who ∈ lw_tbl := List.mem_of_getElem? (i := 603) rfl
set_option maxRecDepth 20000 in
theorem qw_602 : Cond.instanceMethod yX5_who ∈ lw_tbl := List.mem_of_getElem? (i := 602) rfl
set_option maxRecDepth 20000 in
theorem qw_601 : Cond.methodLink RL 130 yX5_who ∈ lw_tbl := List.mem_of_getElem? (i := 601) rfl
set_option maxRecDepth 20000 in
theorem qw_604 : Cond.code yX5_who cX5_who 12 (some .int) ∈ lw_tbl := List.mem_of_getElem? (i := 604) rfl
set_option maxRecDepth 20000 in
theorem qw_612 : Cond.code yX5_comesTrue cX5_comesTrue 6 (some .boolean) ∈ lw_tbl := List.mem_of_getElem? (i := 612) rfl
set_option maxRecDepth 20000 in
theorem qw_19 : Cond.selects RX5 yX5_comesTrue yX5_comesTrue ∈ lw_tbl := List.mem_of_getElem? (i := 19) rfl
set_option maxRecDepth 20000 in
theorem qw_611 : Cond.instanceMethod yX5_comesTrue ∈ lw_tbl := List.mem_of_getElem? (i := 611) rfl
set_option maxRecDepth 20000 in
theorem qw_609 : Cond.methodLink RX5 263 yX5_comesTrue ∈ lw_tbl := List.mem_of_getElem? (i := 609) rfl
set_option maxRecDepth 20000 in
theorem qw_608 : Cond.code yX0_suppose cX0_suppose 4 none ∈ lw_tbl := List.mem_of_getElem? (i := 608) rfl
set_option maxRecDepth 20000 in
theorem qw_607 : Cond.selects RX0 yX0_suppose yX0_suppose ∈ lw_tbl := List.mem_of_getElem? (i := 607) rfl
set_option maxRecDepth 20000 in
theorem qw_606 : Cond.instanceMethod yX0_suppose ∈ lw_tbl := List.mem_of_getElem? (i := 606) rfl
set_option maxRecDepth 20000 in
theorem qw_605 : Cond.methodLink RX5 260 yX0_suppose ∈ lw_tbl := List.mem_of_getElem? (i := 605) rfl
set_option maxRecDepth 20000 in
theorem qw_1076 : Cond.selects RX6 yX6_who yX6_who ∈ lw_tbl := List.mem_of_getElem? (i := 1076) rfl
set_option maxRecDepth 20000 in
theorem qw_1075 : Cond.instanceMethod yX6_who ∈ lw_tbl := List.mem_of_getElem? (i := 1075) rfl
set_option maxRecDepth 20000 in
theorem qw_1074 : Cond.methodLink RL 134 yX6_who ∈ lw_tbl := List.mem_of_getElem? (i := 1074) rfl
set_option maxRecDepth 20000 in
theorem qw_1077 : Cond.code yX6_who cX6_who 11 (some .int) ∈ lw_tbl := List.mem_of_getElem? (i := 1077) rfl
set_option maxRecDepth 20000 in
theorem qw_1081 : Cond.instanceMethod yX6_rowFound ∈ lw_tbl := List.mem_of_getElem? (i := 1081) rfl
set_option maxRecDepth 20000 in
theorem qw_1079 : Cond.methodLink RX6 267 yX6_rowFound ∈ lw_tbl := List.mem_of_getElem? (i := 1079) rfl
set_option maxRecDepth 20000 in
theorem qw_1078 : Cond.constantLong RX6 265 (12) ∈ lw_tbl := List.mem_of_getElem? (i := 1078) rfl
set_option maxRecDepth 20000 in
theorem qw_1086 : Cond.code yX6_warmSo cX6_warmSo 6 (some .boolean) ∈ lw_tbl := List.mem_of_getElem? (i := 1086) rfl
set_option maxRecDepth 20000 in
theorem qw_46 : Cond.selects RX6 yX6_warmSo yX6_warmSo ∈ lw_tbl := List.mem_of_getElem? (i := 46) rfl
set_option maxRecDepth 20000 in
theorem qw_1085 : Cond.instanceMethod yX6_warmSo ∈ lw_tbl := List.mem_of_getElem? (i := 1085) rfl
set_option maxRecDepth 20000 in
theorem qw_1083 : Cond.methodLink RX6 271 yX6_warmSo ∈ lw_tbl := List.mem_of_getElem? (i := 1083) rfl
set_option maxRecDepth 20000 in
theorem qw_1082 : Cond.code yX6_rowFound cX6_rowFound 4 (some .int) ∈ lw_tbl := List.mem_of_getElem? (i := 1082) rfl
set_option maxRecDepth 20000 in
theorem qw_45 : Cond.selects RX6 yX6_rowFound yX6_rowFound ∈ lw_tbl := List.mem_of_getElem? (i := 45) rfl
set_option maxRecDepth 20000 in
theorem qw_615 : Cond.selects RX5 yX5_frosts yX5_frosts ∈ lw_tbl := List.mem_of_getElem? (i := 615) rfl
set_option maxRecDepth 20000 in
theorem qw_614 : Cond.instanceMethod yX5_frosts ∈ lw_tbl := List.mem_of_getElem? (i := 614) rfl
set_option maxRecDepth 20000 in
theorem qw_613 : Cond.methodLink RL 135 yX5_frosts ∈ lw_tbl := List.mem_of_getElem? (i := 613) rfl
set_option maxRecDepth 20000 in
theorem qw_616 : Cond.code yX5_frosts cX5_frosts 7 (some .int) ∈ lw_tbl := List.mem_of_getElem? (i := 616) rfl
set_option maxRecDepth 20000 in
theorem qw_125 : Cond.fieldLink RX5 332 "WarmTubes$House" "frost" "I" ∈ lw_tbl := List.mem_of_getElem? (i := 125) rfl
set_option maxRecDepth 20000 in
theorem qw_620 : Cond.code yX5_fittingFrosts cX5_fittingFrosts 7 (some .int) ∈ lw_tbl := List.mem_of_getElem? (i := 620) rfl
set_option maxRecDepth 20000 in
theorem qw_20 : Cond.selects RX5 yX5_fittingFrosts yX5_fittingFrosts ∈ lw_tbl := List.mem_of_getElem? (i := 20) rfl
set_option maxRecDepth 20000 in
theorem qw_619 : Cond.instanceMethod yX5_fittingFrosts ∈ lw_tbl := List.mem_of_getElem? (i := 619) rfl
set_option maxRecDepth 20000 in
theorem qw_617 : Cond.methodLink RX5 267 yX5_fittingFrosts ∈ lw_tbl := List.mem_of_getElem? (i := 617) rfl
set_option maxRecDepth 20000 in
theorem qw_624 : Cond.code yX5_fittingShaken cX5_fittingShaken 7 (some .int) ∈ lw_tbl := List.mem_of_getElem? (i := 624) rfl
set_option maxRecDepth 20000 in
theorem qw_21 : Cond.selects RX5 yX5_fittingShaken yX5_fittingShaken ∈ lw_tbl := List.mem_of_getElem? (i := 21) rfl
set_option maxRecDepth 20000 in
theorem qw_623 : Cond.instanceMethod yX5_fittingShaken ∈ lw_tbl := List.mem_of_getElem? (i := 623) rfl
set_option maxRecDepth 20000 in
theorem qw_621 : Cond.methodLink RX5 271 yX5_fittingShaken ∈ lw_tbl := List.mem_of_getElem? (i := 621) rfl
set_option maxRecDepth 20000 in
theorem qw_1089 : Cond.selects RX6 yX6_frosts yX6_frosts ∈ lw_tbl := List.mem_of_getElem? (i := 1089) rfl
set_option maxRecDepth 20000 in
theorem qw_1088 : Cond.instanceMethod yX6_frosts ∈ lw_tbl := List.mem_of_getElem? (i := 1088) rfl
set_option maxRecDepth 20000 in
theorem qw_1087 : Cond.methodLink RL 138 yX6_frosts ∈ lw_tbl := List.mem_of_getElem? (i := 1087) rfl
set_option maxRecDepth 20000 in
theorem qw_1090 : Cond.code yX6_frosts cX6_frosts 9 (some .int) ∈ lw_tbl := List.mem_of_getElem? (i := 1090) rfl
set_option maxRecDepth 20000 in
theorem qw_627 : Cond.selects RX5 yX5_forgotten yX5_forgotten ∈ lw_tbl := List.mem_of_getElem? (i := 627) rfl
set_option maxRecDepth 20000 in
theorem qw_626 : Cond.instanceMethod yX5_forgotten ∈ lw_tbl := List.mem_of_getElem? (i := 626) rfl
set_option maxRecDepth 20000 in
theorem qw_625 : Cond.methodLink RL 139 yX5_forgotten ∈ lw_tbl := List.mem_of_getElem? (i := 625) rfl
set_option maxRecDepth 20000 in
theorem qw_628 : Cond.code yX5_forgotten cX5_forgotten 12 (some .long) ∈ lw_tbl := List.mem_of_getElem? (i := 628) rfl
set_option maxRecDepth 20000 in
theorem qw_642 : Cond.code Lib.MathLoose.max_long.x Lib.MathLoose.max_long.code 4 (some .long) ∈ lw_tbl := List.mem_of_getElem? (i := 642) rfl
set_option maxRecDepth 20000 in
theorem qw_641 : Cond.static Lib.MathLoose.max_long.x ∈ lw_tbl := List.mem_of_getElem? (i := 641) rfl
set_option maxRecDepth 20000 in
theorem qw_640 : Cond.methodLink RX5 290 Lib.MathLoose.max_long.x ∈ lw_tbl := List.mem_of_getElem? (i := 640) rfl
set_option maxRecDepth 20000 in
theorem qw_629 : Cond.constantLong RX5 274 (-1000001) ∈ lw_tbl := List.mem_of_getElem? (i := 629) rfl
set_option maxRecDepth 20000 in
theorem qw_636 : Cond.code yX5_isWarmWithout cX5_isWarmWithout 4 (some .boolean) ∈ lw_tbl := List.mem_of_getElem? (i := 636) rfl
set_option maxRecDepth 20000 in
theorem qw_22 : Cond.selects RX5 yX5_isWarmWithout yX5_isWarmWithout ∈ lw_tbl := List.mem_of_getElem? (i := 22) rfl
set_option maxRecDepth 20000 in
theorem qw_635 : Cond.instanceMethod yX5_isWarmWithout ∈ lw_tbl := List.mem_of_getElem? (i := 635) rfl
set_option maxRecDepth 20000 in
theorem qw_633 : Cond.methodLink RX5 283 yX5_isWarmWithout ∈ lw_tbl := List.mem_of_getElem? (i := 633) rfl
set_option maxRecDepth 20000 in
theorem qw_632 : Cond.code yX5_power cX5_power 5 (some .long) ∈ lw_tbl := List.mem_of_getElem? (i := 632) rfl
set_option maxRecDepth 20000 in
theorem qw_631 : Cond.static yX5_power ∈ lw_tbl := List.mem_of_getElem? (i := 631) rfl
set_option maxRecDepth 20000 in
theorem qw_630 : Cond.methodLink RX5 279 yX5_power ∈ lw_tbl := List.mem_of_getElem? (i := 630) rfl
set_option maxRecDepth 20000 in
theorem qw_639 : Cond.code yX5_commonPart cX5_commonPart 11 (some .long) ∈ lw_tbl := List.mem_of_getElem? (i := 639) rfl
set_option maxRecDepth 20000 in
theorem qw_638 : Cond.static yX5_commonPart ∈ lw_tbl := List.mem_of_getElem? (i := 638) rfl
set_option maxRecDepth 20000 in
theorem qw_637 : Cond.methodLink RX5 286 yX5_commonPart ∈ lw_tbl := List.mem_of_getElem? (i := 637) rfl
set_option maxRecDepth 20000 in
theorem qw_1093 : Cond.selects RX6 yX6_forgotten yX6_forgotten ∈ lw_tbl := List.mem_of_getElem? (i := 1093) rfl
set_option maxRecDepth 20000 in
theorem qw_1092 : Cond.instanceMethod yX6_forgotten ∈ lw_tbl := List.mem_of_getElem? (i := 1092) rfl
set_option maxRecDepth 20000 in
theorem qw_1091 : Cond.methodLink RL 143 yX6_forgotten ∈ lw_tbl := List.mem_of_getElem? (i := 1091) rfl
set_option maxRecDepth 20000 in
theorem qw_1094 : Cond.code yX6_forgotten cX6_forgotten 16 (some .long) ∈ lw_tbl := List.mem_of_getElem? (i := 1094) rfl
set_option maxRecDepth 20000 in
theorem qw_1096 : Cond.constantLong RX6 276 (-1000001) ∈ lw_tbl := List.mem_of_getElem? (i := 1096) rfl
set_option maxRecDepth 20000 in
theorem qw_1095 : Cond.constantLong RX6 274 (10) ∈ lw_tbl := List.mem_of_getElem? (i := 1095) rfl
set_option maxRecDepth 20000 in
theorem qw_645 : Cond.selects RX5 yX5_drawn yX5_drawn ∈ lw_tbl := List.mem_of_getElem? (i := 645) rfl
set_option maxRecDepth 20000 in
theorem qw_644 : Cond.instanceMethod yX5_drawn ∈ lw_tbl := List.mem_of_getElem? (i := 644) rfl
set_option maxRecDepth 20000 in
theorem qw_643 : Cond.methodLink RL 144 yX5_drawn ∈ lw_tbl := List.mem_of_getElem? (i := 643) rfl
set_option maxRecDepth 20000 in
theorem qw_646 : Cond.code yX5_drawn cX5_drawn 7 (some .int) ∈ lw_tbl := List.mem_of_getElem? (i := 646) rfl
set_option maxRecDepth 20000 in
theorem qw_649 : Cond.constantLong RX5 295 (2147483647) ∈ lw_tbl := List.mem_of_getElem? (i := 649) rfl
set_option maxRecDepth 20000 in
theorem qw_648 : Cond.constantLong RX5 293 (16807) ∈ lw_tbl := List.mem_of_getElem? (i := 648) rfl
set_option maxRecDepth 20000 in
theorem qw_647 : Cond.constant RX5 292 (999999) ∈ lw_tbl := List.mem_of_getElem? (i := 647) rfl
set_option maxRecDepth 20000 in
theorem qw_655 : Cond.constantLong RX0 90 (5) ∈ lw_tbl := List.mem_of_getElem? (i := 655) rfl
set_option maxRecDepth 20000 in
theorem qw_654 : Cond.constantLong RX0 88 (4) ∈ lw_tbl := List.mem_of_getElem? (i := 654) rfl
set_option maxRecDepth 20000 in
theorem qw_653 : Cond.code yX0_obeyDraw cX0_obeyDraw 4 none ∈ lw_tbl := List.mem_of_getElem? (i := 653) rfl
set_option maxRecDepth 20000 in
theorem qw_652 : Cond.selects RX0 yX0_obeyDraw yX0_obeyDraw ∈ lw_tbl := List.mem_of_getElem? (i := 652) rfl
set_option maxRecDepth 20000 in
theorem qw_651 : Cond.instanceMethod yX0_obeyDraw ∈ lw_tbl := List.mem_of_getElem? (i := 651) rfl
set_option maxRecDepth 20000 in
theorem qw_650 : Cond.methodLink RX5 297 yX0_obeyDraw ∈ lw_tbl := List.mem_of_getElem? (i := 650) rfl
set_option maxRecDepth 20000 in
theorem qw_1099 : Cond.selects RX6 yX6_drawn yX6_drawn ∈ lw_tbl := List.mem_of_getElem? (i := 1099) rfl
set_option maxRecDepth 20000 in
theorem qw_1098 : Cond.instanceMethod yX6_drawn ∈ lw_tbl := List.mem_of_getElem? (i := 1098) rfl
set_option maxRecDepth 20000 in
theorem qw_1097 : Cond.methodLink RL 147 yX6_drawn ∈ lw_tbl := List.mem_of_getElem? (i := 1097) rfl
set_option maxRecDepth 20000 in
theorem qw_1100 : Cond.code yX6_drawn cX6_drawn 9 (some .int) ∈ lw_tbl := List.mem_of_getElem? (i := 1100) rfl
set_option maxRecDepth 20000 in
theorem qw_1104 : Cond.constantLong RX6 284 (5) ∈ lw_tbl := List.mem_of_getElem? (i := 1104) rfl
set_option maxRecDepth 20000 in
theorem qw_1103 : Cond.constantLong RX6 282 (2147483647) ∈ lw_tbl := List.mem_of_getElem? (i := 1103) rfl
set_option maxRecDepth 20000 in
theorem qw_1102 : Cond.constantLong RX6 280 (16807) ∈ lw_tbl := List.mem_of_getElem? (i := 1102) rfl
set_option maxRecDepth 20000 in
theorem qw_1101 : Cond.constantLong RX6 278 (999999) ∈ lw_tbl := List.mem_of_getElem? (i := 1101) rfl
set_option maxRecDepth 20000 in
theorem qw_658 : Cond.selects RX5 yX5_image yX5_image ∈ lw_tbl := List.mem_of_getElem? (i := 658) rfl
set_option maxRecDepth 20000 in
theorem qw_657 : Cond.instanceMethod yX5_image ∈ lw_tbl := List.mem_of_getElem? (i := 657) rfl
set_option maxRecDepth 20000 in
theorem qw_656 : Cond.methodLink RL 148 yX5_image ∈ lw_tbl := List.mem_of_getElem? (i := 656) rfl
set_option maxRecDepth 20000 in
theorem qw_659 : Cond.code yX5_image cX5_image 2 (some .int) ∈ lw_tbl := List.mem_of_getElem? (i := 659) rfl
set_option maxRecDepth 20000 in
theorem qw_1107 : Cond.selects RX6 yX6_image yX6_image ∈ lw_tbl := List.mem_of_getElem? (i := 1107) rfl
set_option maxRecDepth 20000 in
theorem qw_1106 : Cond.instanceMethod yX6_image ∈ lw_tbl := List.mem_of_getElem? (i := 1106) rfl
set_option maxRecDepth 20000 in
theorem qw_1105 : Cond.methodLink RL 151 yX6_image ∈ lw_tbl := List.mem_of_getElem? (i := 1105) rfl
set_option maxRecDepth 20000 in
theorem qw_1108 : Cond.code yX6_image cX6_image 3 (some .int) ∈ lw_tbl := List.mem_of_getElem? (i := 1108) rfl
set_option maxRecDepth 20000 in
theorem qw_662 : Cond.selects RX5 yX5_restore yX5_restore ∈ lw_tbl := List.mem_of_getElem? (i := 662) rfl
set_option maxRecDepth 20000 in
theorem qw_661 : Cond.instanceMethod yX5_restore ∈ lw_tbl := List.mem_of_getElem? (i := 661) rfl
set_option maxRecDepth 20000 in
theorem qw_660 : Cond.methodLink RL 152 yX5_restore ∈ lw_tbl := List.mem_of_getElem? (i := 660) rfl
set_option maxRecDepth 20000 in
theorem qw_663 : Cond.code yX5_restore cX5_restore 2 (some .int) ∈ lw_tbl := List.mem_of_getElem? (i := 663) rfl
set_option maxRecDepth 20000 in
theorem qw_1111 : Cond.selects RX6 yX6_restore yX6_restore ∈ lw_tbl := List.mem_of_getElem? (i := 1111) rfl
set_option maxRecDepth 20000 in
theorem qw_1110 : Cond.instanceMethod yX6_restore ∈ lw_tbl := List.mem_of_getElem? (i := 1110) rfl
set_option maxRecDepth 20000 in
theorem qw_1109 : Cond.methodLink RL 155 yX6_restore ∈ lw_tbl := List.mem_of_getElem? (i := 1109) rfl
set_option maxRecDepth 20000 in
theorem qw_1112 : Cond.code yX6_restore cX6_restore 3 (some .int) ∈ lw_tbl := List.mem_of_getElem? (i := 1112) rfl
set_option maxRecDepth 20000 in
theorem qw_666 : Cond.selects RX5 yX5_kind yX5_kind ∈ lw_tbl := List.mem_of_getElem? (i := 666) rfl
set_option maxRecDepth 20000 in
theorem qw_665 : Cond.instanceMethod yX5_kind ∈ lw_tbl := List.mem_of_getElem? (i := 665) rfl
set_option maxRecDepth 20000 in
theorem qw_664 : Cond.methodLink RL 156 yX5_kind ∈ lw_tbl := List.mem_of_getElem? (i := 664) rfl
set_option maxRecDepth 20000 in
theorem qw_667 : Cond.code yX5_kind cX5_kind 2 (some .int) ∈ lw_tbl := List.mem_of_getElem? (i := 667) rfl
set_option maxRecDepth 20000 in
theorem qw_145 : Cond.fieldLink RX5 301 "WarmTubes$House" "sort" "[I" ∈ lw_tbl := List.mem_of_getElem? (i := 145) rfl
set_option maxRecDepth 20000 in
theorem qw_1115 : Cond.selects RX6 yX6_kind yX6_kind ∈ lw_tbl := List.mem_of_getElem? (i := 1115) rfl
set_option maxRecDepth 20000 in
theorem qw_1114 : Cond.instanceMethod yX6_kind ∈ lw_tbl := List.mem_of_getElem? (i := 1114) rfl
set_option maxRecDepth 20000 in
theorem qw_1113 : Cond.methodLink RL 159 yX6_kind ∈ lw_tbl := List.mem_of_getElem? (i := 1113) rfl
set_option maxRecDepth 20000 in
theorem qw_1116 : Cond.code yX6_kind cX6_kind 2 (some .int) ∈ lw_tbl := List.mem_of_getElem? (i := 1116) rfl
set_option maxRecDepth 20000 in
theorem qw_670 : Cond.selects RX5 yX5_as yX5_as ∈ lw_tbl := List.mem_of_getElem? (i := 670) rfl
set_option maxRecDepth 20000 in
theorem qw_669 : Cond.instanceMethod yX5_as ∈ lw_tbl := List.mem_of_getElem? (i := 669) rfl
set_option maxRecDepth 20000 in
theorem qw_668 : Cond.methodLink RL 160 yX5_as ∈ lw_tbl := List.mem_of_getElem? (i := 668) rfl
set_option maxRecDepth 20000 in
theorem qw_671 : Cond.code yX5_as cX5_as 5 (some .int) ∈ lw_tbl := List.mem_of_getElem? (i := 671) rfl
set_option maxRecDepth 20000 in
theorem qw_672 : Cond.fieldLink RX5 304 "WarmTubes" "ABOVE" "[I" ∈ lw_tbl := List.mem_of_getElem? (i := 672) rfl
set_option maxRecDepth 20000 in
theorem qw_1119 : Cond.selects RX6 yX6_as yX6_as ∈ lw_tbl := List.mem_of_getElem? (i := 1119) rfl
set_option maxRecDepth 20000 in
theorem qw_1118 : Cond.instanceMethod yX6_as ∈ lw_tbl := List.mem_of_getElem? (i := 1118) rfl
set_option maxRecDepth 20000 in
theorem qw_1117 : Cond.methodLink RL 163 yX6_as ∈ lw_tbl := List.mem_of_getElem? (i := 1117) rfl
set_option maxRecDepth 20000 in
theorem qw_1120 : Cond.code yX6_as cX6_as 3 (some .int) ∈ lw_tbl := List.mem_of_getElem? (i := 1120) rfl
set_option maxRecDepth 20000 in
theorem qw_1123 : Cond.code yX6_isOf cX6_isOf 2 (some .boolean) ∈ lw_tbl := List.mem_of_getElem? (i := 1123) rfl
set_option maxRecDepth 20000 in
theorem qw_1122 : Cond.static yX6_isOf ∈ lw_tbl := List.mem_of_getElem? (i := 1122) rfl
set_option maxRecDepth 20000 in
theorem qw_1121 : Cond.methodLink RX6 286 yX6_isOf ∈ lw_tbl := List.mem_of_getElem? (i := 1121) rfl
set_option maxRecDepth 20000 in
theorem qw_676 : Cond.selects RX5 yX5_ask yX5_ask ∈ lw_tbl := List.mem_of_getElem? (i := 676) rfl
set_option maxRecDepth 20000 in
theorem qw_675 : Cond.instanceMethod yX5_ask ∈ lw_tbl := List.mem_of_getElem? (i := 675) rfl
set_option maxRecDepth 20000 in
theorem qw_674 : Cond.methodLink RL 164 yX5_ask ∈ lw_tbl := List.mem_of_getElem? (i := 674) rfl
set_option maxRecDepth 20000 in
theorem qw_677 : Cond.code yX5_ask cX5_ask 3 (some .int) ∈ lw_tbl := List.mem_of_getElem? (i := 677) rfl
set_option maxRecDepth 20000 in
theorem qw_689 : Cond.static yX5_begin ∈ lw_tbl := List.mem_of_getElem? (i := 689) rfl
set_option maxRecDepth 20000 in
theorem qw_688 : Cond.methodLink RX5 315 yX5_begin ∈ lw_tbl := List.mem_of_getElem? (i := 688) rfl
set_option maxRecDepth 20000 in
theorem qw_686 : Cond.fieldLink RX5 338 "WarmTubes" "MARK_BODY" "[I" ∈ lw_tbl := List.mem_of_getElem? (i := 686) rfl
set_option maxRecDepth 20000 in
theorem qw_685 : Cond.code yX5_markBody cX5_markBody 3 (some .int) ∈ lw_tbl := List.mem_of_getElem? (i := 685) rfl
set_option maxRecDepth 20000 in
theorem qw_684 : Cond.static yX5_markBody ∈ lw_tbl := List.mem_of_getElem? (i := 684) rfl
set_option maxRecDepth 20000 in
theorem qw_683 : Cond.methodLink RX5 312 yX5_markBody ∈ lw_tbl := List.mem_of_getElem? (i := 683) rfl
set_option maxRecDepth 20000 in
theorem qw_681 : Cond.fieldLink RX5 335 "WarmTubes" "SIZE_BODY" "[I" ∈ lw_tbl := List.mem_of_getElem? (i := 681) rfl
set_option maxRecDepth 20000 in
theorem qw_680 : Cond.code yX5_sizeBody cX5_sizeBody 3 (some .int) ∈ lw_tbl := List.mem_of_getElem? (i := 680) rfl
set_option maxRecDepth 20000 in
theorem qw_679 : Cond.static yX5_sizeBody ∈ lw_tbl := List.mem_of_getElem? (i := 679) rfl
set_option maxRecDepth 20000 in
theorem qw_678 : Cond.methodLink RX5 308 yX5_sizeBody ∈ lw_tbl := List.mem_of_getElem? (i := 678) rfl
set_option maxRecDepth 20000 in
theorem qw_210 : Cond.fieldLink RX5 307 "WarmTubes$Trace" "length" "I" ∈ lw_tbl := List.mem_of_getElem? (i := 210) rfl
set_option maxRecDepth 20000 in
theorem qw_694 : Cond.code yX4_leave cX4_leave 2 none ∈ lw_tbl := List.mem_of_getElem? (i := 694) rfl
set_option maxRecDepth 20000 in
theorem qw_693 : Cond.selects RX4 yX4_leave yX4_leave ∈ lw_tbl := List.mem_of_getElem? (i := 693) rfl
set_option maxRecDepth 20000 in
theorem qw_692 : Cond.instanceMethod yX4_leave ∈ lw_tbl := List.mem_of_getElem? (i := 692) rfl
set_option maxRecDepth 20000 in
theorem qw_691 : Cond.methodLink RX5 341 yX4_leave ∈ lw_tbl := List.mem_of_getElem? (i := 691) rfl
set_option maxRecDepth 20000 in
theorem qw_690 : Cond.code yX5_begin cX5_begin 6 (some .int) ∈ lw_tbl := List.mem_of_getElem? (i := 690) rfl
set_option maxRecDepth 20000 in
theorem qw_1126 : Cond.selects RX6 yX6_ask yX6_ask ∈ lw_tbl := List.mem_of_getElem? (i := 1126) rfl
set_option maxRecDepth 20000 in
theorem qw_1125 : Cond.instanceMethod yX6_ask ∈ lw_tbl := List.mem_of_getElem? (i := 1125) rfl
set_option maxRecDepth 20000 in
theorem qw_1124 : Cond.methodLink RL 167 yX6_ask ∈ lw_tbl := List.mem_of_getElem? (i := 1124) rfl
set_option maxRecDepth 20000 in
theorem qw_1127 : Cond.code yX6_ask cX6_ask 3 (some .int) ∈ lw_tbl := List.mem_of_getElem? (i := 1127) rfl
set_option maxRecDepth 20000 in
theorem qw_1136 : Cond.methodLink RX6 292 yX6_began ∈ lw_tbl := List.mem_of_getElem? (i := 1136) rfl
set_option maxRecDepth 20000 in
theorem qw_1135 : Cond.code yX6_woolSize cX6_woolSize 4 (some .int) ∈ lw_tbl := List.mem_of_getElem? (i := 1135) rfl
set_option maxRecDepth 20000 in
theorem qw_48 : Cond.selects RX6 yX6_woolSize yX6_woolSize ∈ lw_tbl := List.mem_of_getElem? (i := 48) rfl
set_option maxRecDepth 20000 in
theorem qw_1134 : Cond.instanceMethod yX6_woolSize ∈ lw_tbl := List.mem_of_getElem? (i := 1134) rfl
set_option maxRecDepth 20000 in
theorem qw_1132 : Cond.methodLink RX6 298 yX6_woolSize ∈ lw_tbl := List.mem_of_getElem? (i := 1132) rfl
set_option maxRecDepth 20000 in
theorem qw_1131 : Cond.code yX6_sizeOf cX6_sizeOf 4 (some .int) ∈ lw_tbl := List.mem_of_getElem? (i := 1131) rfl
set_option maxRecDepth 20000 in
theorem qw_47 : Cond.selects RX6 yX6_sizeOf yX6_sizeOf ∈ lw_tbl := List.mem_of_getElem? (i := 47) rfl
set_option maxRecDepth 20000 in
theorem qw_1130 : Cond.instanceMethod yX6_sizeOf ∈ lw_tbl := List.mem_of_getElem? (i := 1130) rfl
set_option maxRecDepth 20000 in
theorem qw_1128 : Cond.methodLink RX6 304 yX6_sizeOf ∈ lw_tbl := List.mem_of_getElem? (i := 1128) rfl
set_option maxRecDepth 20000 in
theorem qw_740 : Cond.fieldLink RX6 289 "WarmTubesModel" "traced" "I" ∈ lw_tbl := List.mem_of_getElem? (i := 740) rfl
set_option maxRecDepth 20000 in
theorem qw_1147 : Cond.code yX6_markOf cX6_markOf 4 (some .int) ∈ lw_tbl := List.mem_of_getElem? (i := 1147) rfl
set_option maxRecDepth 20000 in
theorem qw_51 : Cond.selects RX6 yX6_markOf yX6_markOf ∈ lw_tbl := List.mem_of_getElem? (i := 51) rfl
set_option maxRecDepth 20000 in
theorem qw_1146 : Cond.instanceMethod yX6_markOf ∈ lw_tbl := List.mem_of_getElem? (i := 1146) rfl
set_option maxRecDepth 20000 in
theorem qw_1144 : Cond.methodLink RX6 301 yX6_markOf ∈ lw_tbl := List.mem_of_getElem? (i := 1144) rfl
set_option maxRecDepth 20000 in
theorem qw_1143 : Cond.code yX6_plainSize cX6_plainSize 2 (some .int) ∈ lw_tbl := List.mem_of_getElem? (i := 1143) rfl
set_option maxRecDepth 20000 in
theorem qw_50 : Cond.selects RX6 yX6_plainSize yX6_plainSize ∈ lw_tbl := List.mem_of_getElem? (i := 50) rfl
set_option maxRecDepth 20000 in
theorem qw_1142 : Cond.instanceMethod yX6_plainSize ∈ lw_tbl := List.mem_of_getElem? (i := 1142) rfl
set_option maxRecDepth 20000 in
theorem qw_1140 : Cond.methodLink RX6 295 yX6_plainSize ∈ lw_tbl := List.mem_of_getElem? (i := 1140) rfl
set_option maxRecDepth 20000 in
theorem qw_1139 : Cond.code yX6_began cX6_began 2 none ∈ lw_tbl := List.mem_of_getElem? (i := 1139) rfl
set_option maxRecDepth 20000 in
theorem qw_49 : Cond.selects RX6 yX6_began yX6_began ∈ lw_tbl := List.mem_of_getElem? (i := 49) rfl
set_option maxRecDepth 20000 in
theorem qw_1138 : Cond.instanceMethod yX6_began ∈ lw_tbl := List.mem_of_getElem? (i := 1138) rfl
set_option maxRecDepth 20000 in
theorem qw_697 : Cond.selects RX5 yX5_trace yX5_trace ∈ lw_tbl := List.mem_of_getElem? (i := 697) rfl
set_option maxRecDepth 20000 in
theorem qw_696 : Cond.instanceMethod yX5_trace ∈ lw_tbl := List.mem_of_getElem? (i := 696) rfl
set_option maxRecDepth 20000 in
theorem qw_695 : Cond.methodLink RL 168 yX5_trace ∈ lw_tbl := List.mem_of_getElem? (i := 695) rfl
set_option maxRecDepth 20000 in
theorem qw_698 : Cond.code yX5_trace cX5_trace 2 (some .int) ∈ lw_tbl := List.mem_of_getElem? (i := 698) rfl
set_option maxRecDepth 20000 in
theorem qw_208 : Cond.fieldLink RX5 319 "WarmTubes$Trace" "begun" "[I" ∈ lw_tbl := List.mem_of_getElem? (i := 208) rfl
set_option maxRecDepth 20000 in
theorem qw_1150 : Cond.selects RX6 yX6_trace yX6_trace ∈ lw_tbl := List.mem_of_getElem? (i := 1150) rfl
set_option maxRecDepth 20000 in
theorem qw_1149 : Cond.instanceMethod yX6_trace ∈ lw_tbl := List.mem_of_getElem? (i := 1149) rfl
set_option maxRecDepth 20000 in
theorem qw_1148 : Cond.methodLink RL 171 yX6_trace ∈ lw_tbl := List.mem_of_getElem? (i := 1148) rfl
set_option maxRecDepth 20000 in
theorem qw_1151 : Cond.code yX6_trace cX6_trace 2 (some .int) ∈ lw_tbl := List.mem_of_getElem? (i := 1151) rfl
set_option maxRecDepth 20000 in
theorem qw_701 : Cond.selects RX5 yX5_count yX5_count ∈ lw_tbl := List.mem_of_getElem? (i := 701) rfl
set_option maxRecDepth 20000 in
theorem qw_700 : Cond.instanceMethod yX5_count ∈ lw_tbl := List.mem_of_getElem? (i := 700) rfl
set_option maxRecDepth 20000 in
theorem qw_699 : Cond.methodLink RL 172 yX5_count ∈ lw_tbl := List.mem_of_getElem? (i := 699) rfl
set_option maxRecDepth 20000 in
theorem qw_702 : Cond.code yX5_count cX5_count 2 (some .int) ∈ lw_tbl := List.mem_of_getElem? (i := 702) rfl
set_option maxRecDepth 20000 in
theorem qw_706 : Cond.code yX2_present cX2_present 3 (some .int) ∈ lw_tbl := List.mem_of_getElem? (i := 706) rfl
set_option maxRecDepth 20000 in
theorem qw_705 : Cond.selects RX2 yX2_present yX2_present ∈ lw_tbl := List.mem_of_getElem? (i := 705) rfl
set_option maxRecDepth 20000 in
theorem qw_704 : Cond.instanceMethod yX2_present ∈ lw_tbl := List.mem_of_getElem? (i := 704) rfl
set_option maxRecDepth 20000 in
theorem qw_703 : Cond.methodLink RX5 322 yX2_present ∈ lw_tbl := List.mem_of_getElem? (i := 703) rfl
set_option maxRecDepth 20000 in
theorem qw_1154 : Cond.selects RX6 yX6_count yX6_count ∈ lw_tbl := List.mem_of_getElem? (i := 1154) rfl
set_option maxRecDepth 20000 in
theorem qw_1153 : Cond.instanceMethod yX6_count ∈ lw_tbl := List.mem_of_getElem? (i := 1153) rfl
set_option maxRecDepth 20000 in
theorem qw_1152 : Cond.methodLink RL 175 yX6_count ∈ lw_tbl := List.mem_of_getElem? (i := 1152) rfl
set_option maxRecDepth 20000 in
theorem qw_1155 : Cond.code yX6_count cX6_count 4 (some .int) ∈ lw_tbl := List.mem_of_getElem? (i := 1155) rfl
set_option maxRecDepth 20000 in
theorem qw_709 : Cond.selects RX5 yX5_status yX5_status ∈ lw_tbl := List.mem_of_getElem? (i := 709) rfl
set_option maxRecDepth 20000 in
theorem qw_708 : Cond.instanceMethod yX5_status ∈ lw_tbl := List.mem_of_getElem? (i := 708) rfl
set_option maxRecDepth 20000 in
theorem qw_707 : Cond.methodLink RL 176 yX5_status ∈ lw_tbl := List.mem_of_getElem? (i := 707) rfl
set_option maxRecDepth 20000 in
theorem qw_710 : Cond.code yX5_status cX5_status 1 (some .int) ∈ lw_tbl := List.mem_of_getElem? (i := 710) rfl
set_option maxRecDepth 20000 in
theorem qw_1158 : Cond.selects RX6 yX6_status yX6_status ∈ lw_tbl := List.mem_of_getElem? (i := 1158) rfl
set_option maxRecDepth 20000 in
theorem qw_1157 : Cond.instanceMethod yX6_status ∈ lw_tbl := List.mem_of_getElem? (i := 1157) rfl
set_option maxRecDepth 20000 in
theorem qw_1156 : Cond.methodLink RL 179 yX6_status ∈ lw_tbl := List.mem_of_getElem? (i := 1156) rfl
set_option maxRecDepth 20000 in
theorem qw_1159 : Cond.code yX6_status cX6_status 1 (some .int) ∈ lw_tbl := List.mem_of_getElem? (i := 1159) rfl
