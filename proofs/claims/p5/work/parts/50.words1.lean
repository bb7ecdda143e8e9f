set_option maxRecDepth 20000 in
theorem qw_878 : Cond.code yX6_kindBy cX6_kindBy 1 (some .int) ∈ lw_tbl := List.mem_of_getElem? (i := 878) rfl
set_option maxRecDepth 20000 in
theorem qw_877 : Cond.static yX6_kindBy ∈ lw_tbl := List.mem_of_getElem? (i := 877) rfl
set_option maxRecDepth 20000 in
theorem qw_876 : Cond.methodLink RX6 119 yX6_kindBy ∈ lw_tbl := List.mem_of_getElem? (i := 876) rfl
set_option maxRecDepth 20000 in
theorem qw_875 : Cond.code yX6_isSort cX6_isSort 1 (some .boolean) ∈ lw_tbl := List.mem_of_getElem? (i := 875) rfl
set_option maxRecDepth 20000 in
theorem qw_32 : Cond.selects RX6 yX6_isSort yX6_isSort ∈ lw_tbl := List.mem_of_getElem? (i := 32) rfl
set_option maxRecDepth 20000 in
theorem qw_874 : Cond.instanceMethod yX6_isSort ∈ lw_tbl := List.mem_of_getElem? (i := 874) rfl
set_option maxRecDepth 20000 in
theorem qw_872 : Cond.methodLink RX6 138 yX6_isSort ∈ lw_tbl := List.mem_of_getElem? (i := 872) rfl
set_option maxRecDepth 20000 in
theorem qw_871 : Cond.code yX6_readRoom cX6_readRoom 3 none ∈ lw_tbl := List.mem_of_getElem? (i := 871) rfl
set_option maxRecDepth 20000 in
theorem qw_31 : Cond.selects RX6 yX6_readRoom yX6_readRoom ∈ lw_tbl := List.mem_of_getElem? (i := 31) rfl
set_option maxRecDepth 20000 in
theorem qw_870 : Cond.instanceMethod yX6_readRoom ∈ lw_tbl := List.mem_of_getElem? (i := 870) rfl
set_option maxRecDepth 20000 in
theorem qw_868 : Cond.methodLink RX6 135 yX6_readRoom ∈ lw_tbl := List.mem_of_getElem? (i := 868) rfl
set_option maxRecDepth 20000 in
theorem qw_867 : Cond.code yX6_mustSign cX6_mustSign 2 none ∈ lw_tbl := List.mem_of_getElem? (i := 867) rfl
set_option maxRecDepth 20000 in
theorem qw_30 : Cond.selects RX6 yX6_mustSign yX6_mustSign ∈ lw_tbl := List.mem_of_getElem? (i := 30) rfl
set_option maxRecDepth 20000 in
theorem qw_373 : Cond.selects RX5 yX5_fault yX5_fault ∈ lw_tbl := List.mem_of_getElem? (i := 373) rfl
set_option maxRecDepth 20000 in
theorem qw_372 : Cond.instanceMethod yX5_fault ∈ lw_tbl := List.mem_of_getElem? (i := 372) rfl
set_option maxRecDepth 20000 in
theorem qw_371 : Cond.methodLink RL 41 yX5_fault ∈ lw_tbl := List.mem_of_getElem? (i := 371) rfl
set_option maxRecDepth 20000 in
theorem qw_374 : Cond.code yX5_fault cX5_fault 1 (some .int) ∈ lw_tbl := List.mem_of_getElem? (i := 374) rfl
set_option maxRecDepth 20000 in
theorem qw_829 : Cond.selects RX6 yX6_fault yX6_fault ∈ lw_tbl := List.mem_of_getElem? (i := 829) rfl
set_option maxRecDepth 20000 in
theorem qw_828 : Cond.instanceMethod yX6_fault ∈ lw_tbl := List.mem_of_getElem? (i := 828) rfl
set_option maxRecDepth 20000 in
theorem qw_827 : Cond.methodLink RL 44 yX6_fault ∈ lw_tbl := List.mem_of_getElem? (i := 827) rfl
set_option maxRecDepth 20000 in
theorem qw_830 : Cond.code yX6_fault cX6_fault 1 (some .int) ∈ lw_tbl := List.mem_of_getElem? (i := 830) rfl
set_option maxRecDepth 20000 in
theorem qw_377 : Cond.selects RX5 yX5_undo yX5_undo ∈ lw_tbl := List.mem_of_getElem? (i := 377) rfl
set_option maxRecDepth 20000 in
theorem qw_376 : Cond.instanceMethod yX5_undo ∈ lw_tbl := List.mem_of_getElem? (i := 376) rfl
set_option maxRecDepth 20000 in
theorem qw_375 : Cond.methodLink RL 45 yX5_undo ∈ lw_tbl := List.mem_of_getElem? (i := 375) rfl
set_option maxRecDepth 20000 in
theorem qw_378 : Cond.code yX5_undo cX5_undo 1 (some .int) ∈ lw_tbl := List.mem_of_getElem? (i := 378) rfl
set_option maxRecDepth 20000 in
theorem qw_387 : Cond.code yX0_readChanging cX0_readChanging 3 none ∈ lw_tbl := List.mem_of_getElem? (i := 387) rfl
set_option maxRecDepth 20000 in
theorem qw_386 : Cond.selects RX0 yX0_readChanging yX0_readChanging ∈ lw_tbl := List.mem_of_getElem? (i := 386) rfl
set_option maxRecDepth 20000 in
theorem qw_385 : Cond.instanceMethod yX0_readChanging ∈ lw_tbl := List.mem_of_getElem? (i := 385) rfl
set_option maxRecDepth 20000 in
theorem qw_384 : Cond.methodLink RX1 32 yX0_readChanging ∈ lw_tbl := List.mem_of_getElem? (i := 384) rfl
set_option maxRecDepth 20000 in
theorem qw_383 : Cond.code yX1_bringBack cX1_bringBack 2 none ∈ lw_tbl := List.mem_of_getElem? (i := 383) rfl
set_option maxRecDepth 20000 in
theorem qw_382 : Cond.selects RX1 yX1_bringBack yX1_bringBack ∈ lw_tbl := List.mem_of_getElem? (i := 382) rfl
set_option maxRecDepth 20000 in
theorem qw_381 : Cond.instanceMethod yX1_bringBack ∈ lw_tbl := List.mem_of_getElem? (i := 381) rfl
set_option maxRecDepth 20000 in
theorem qw_380 : Cond.methodLink RX5 146 yX1_bringBack ∈ lw_tbl := List.mem_of_getElem? (i := 380) rfl
set_option maxRecDepth 20000 in
theorem qw_379 : Cond.constant RX5 145 (-1000002) ∈ lw_tbl := List.mem_of_getElem? (i := 379) rfl
set_option maxRecDepth 20000 in
theorem qw_193 : Cond.fieldLink RX5 143 "WarmTubes$Past" "size" "I" ∈ lw_tbl := List.mem_of_getElem? (i := 193) rfl
set_option maxRecDepth 20000 in
theorem qw_970 : Cond.selects RX6 yX6_undo yX6_undo ∈ lw_tbl := List.mem_of_getElem? (i := 970) rfl
set_option maxRecDepth 20000 in
theorem qw_969 : Cond.instanceMethod yX6_undo ∈ lw_tbl := List.mem_of_getElem? (i := 969) rfl
set_option maxRecDepth 20000 in
theorem qw_968 : Cond.methodLink RL 48 yX6_undo ∈ lw_tbl := List.mem_of_getElem? (i := 968) rfl
set_option maxRecDepth 20000 in
theorem qw_971 : Cond.code yX6_undo cX6_undo 2 (some .int) ∈ lw_tbl := List.mem_of_getElem? (i := 971) rfl
set_option maxRecDepth 20000 in
theorem qw_896 : Cond.constant RX6 189 (-1000002) ∈ lw_tbl := List.mem_of_getElem? (i := 896) rfl
set_option maxRecDepth 20000 in
theorem qw_390 : Cond.selects RX5 yX5_minutes yX5_minutes ∈ lw_tbl := List.mem_of_getElem? (i := 390) rfl
set_option maxRecDepth 20000 in
theorem qw_389 : Cond.instanceMethod yX5_minutes ∈ lw_tbl := List.mem_of_getElem? (i := 389) rfl
set_option maxRecDepth 20000 in
theorem qw_388 : Cond.methodLink RL 49 yX5_minutes ∈ lw_tbl := List.mem_of_getElem? (i := 388) rfl
set_option maxRecDepth 20000 in
theorem qw_391 : Cond.code yX5_minutes cX5_minutes 3 (some .int) ∈ lw_tbl := List.mem_of_getElem? (i := 391) rfl
set_option maxRecDepth 20000 in
theorem qw_399 : Cond.code yX1_keep cX1_keep 2 none ∈ lw_tbl := List.mem_of_getElem? (i := 399) rfl
set_option maxRecDepth 20000 in
theorem qw_398 : Cond.selects RX1 yX1_keep yX1_keep ∈ lw_tbl := List.mem_of_getElem? (i := 398) rfl
set_option maxRecDepth 20000 in
theorem qw_397 : Cond.instanceMethod yX1_keep ∈ lw_tbl := List.mem_of_getElem? (i := 397) rfl
set_option maxRecDepth 20000 in
theorem qw_396 : Cond.methodLink RX5 156 yX1_keep ∈ lw_tbl := List.mem_of_getElem? (i := 396) rfl
set_option maxRecDepth 20000 in
theorem qw_395 : Cond.code yX0_stands cX0_stands 1 (some .boolean) ∈ lw_tbl := List.mem_of_getElem? (i := 395) rfl
set_option maxRecDepth 20000 in
theorem qw_394 : Cond.selects RX0 yX0_stands yX0_stands ∈ lw_tbl := List.mem_of_getElem? (i := 394) rfl
set_option maxRecDepth 20000 in
theorem qw_393 : Cond.instanceMethod yX0_stands ∈ lw_tbl := List.mem_of_getElem? (i := 393) rfl
set_option maxRecDepth 20000 in
theorem qw_392 : Cond.methodLink RX5 149 yX0_stands ∈ lw_tbl := List.mem_of_getElem? (i := 392) rfl
set_option maxRecDepth 20000 in
theorem qw_136 : Cond.fieldLink RX5 153 "WarmTubes$House" "minute" "I" ∈ lw_tbl := List.mem_of_getElem? (i := 136) rfl
set_option maxRecDepth 20000 in
theorem qw_428 : Cond.methodLink RX0 70 Lib.Math.max.name ∈ lw_tbl := List.mem_of_getElem? (i := 428) rfl
set_option maxRecDepth 20000 in
theorem qw_410 : Cond.code yX0_passMinute cX0_passMinute 2 none ∈ lw_tbl := List.mem_of_getElem? (i := 410) rfl
set_option maxRecDepth 20000 in
theorem qw_409 : Cond.selects RX0 yX0_passMinute yX0_passMinute ∈ lw_tbl := List.mem_of_getElem? (i := 409) rfl
set_option maxRecDepth 20000 in
theorem qw_408 : Cond.instanceMethod yX0_passMinute ∈ lw_tbl := List.mem_of_getElem? (i := 408) rfl
set_option maxRecDepth 20000 in
theorem qw_407 : Cond.methodLink RX5 159 yX0_passMinute ∈ lw_tbl := List.mem_of_getElem? (i := 407) rfl
set_option maxRecDepth 20000 in
theorem qw_403 : Cond.code yX0_writeChanging cX0_writeChanging 3 none ∈ lw_tbl := List.mem_of_getElem? (i := 403) rfl
set_option maxRecDepth 20000 in
theorem qw_402 : Cond.selects RX0 yX0_writeChanging yX0_writeChanging ∈ lw_tbl := List.mem_of_getElem? (i := 402) rfl
set_option maxRecDepth 20000 in
theorem qw_401 : Cond.instanceMethod yX0_writeChanging ∈ lw_tbl := List.mem_of_getElem? (i := 401) rfl
set_option maxRecDepth 20000 in
theorem qw_400 : Cond.methodLink RX1 22 yX0_writeChanging ∈ lw_tbl := List.mem_of_getElem? (i := 400) rfl
set_option maxRecDepth 20000 in
theorem qw_406 : Cond.code Lib.Math.min.name Lib.Math.min.code 2 (some .int) ∈ lw_tbl := List.mem_of_getElem? (i := 406) rfl
set_option maxRecDepth 20000 in
theorem qw_61 : Cond.initialized "java/lang/Math" ∈ lw_tbl := List.mem_of_getElem? (i := 61) rfl
set_option maxRecDepth 20000 in
theorem qw_405 : Cond.static Lib.Math.min.name ∈ lw_tbl := List.mem_of_getElem? (i := 405) rfl
set_option maxRecDepth 20000 in
theorem qw_404 : Cond.methodLink RX1 26 Lib.Math.min.name ∈ lw_tbl := List.mem_of_getElem? (i := 404) rfl
set_option maxRecDepth 20000 in
theorem qw_431 : Cond.methodLink RX5 162 yX0_coldRooms ∈ lw_tbl := List.mem_of_getElem? (i := 431) rfl
set_option maxRecDepth 20000 in
theorem qw_426 : Cond.code yX0_isCold cX0_isCold 2 (some .boolean) ∈ lw_tbl := List.mem_of_getElem? (i := 426) rfl
set_option maxRecDepth 20000 in
theorem qw_425 : Cond.selects RX0 yX0_isCold yX0_isCold ∈ lw_tbl := List.mem_of_getElem? (i := 425) rfl
set_option maxRecDepth 20000 in
theorem qw_424 : Cond.instanceMethod yX0_isCold ∈ lw_tbl := List.mem_of_getElem? (i := 424) rfl
set_option maxRecDepth 20000 in
theorem qw_423 : Cond.methodLink RX0 59 yX0_isCold ∈ lw_tbl := List.mem_of_getElem? (i := 423) rfl
set_option maxRecDepth 20000 in
theorem qw_422 : Cond.code yX0_wants cX0_wants 2 (some .int) ∈ lw_tbl := List.mem_of_getElem? (i := 422) rfl
set_option maxRecDepth 20000 in
theorem qw_421 : Cond.selects RX0 yX0_wants yX0_wants ∈ lw_tbl := List.mem_of_getElem? (i := 421) rfl
set_option maxRecDepth 20000 in
theorem qw_420 : Cond.instanceMethod yX0_wants ∈ lw_tbl := List.mem_of_getElem? (i := 420) rfl
set_option maxRecDepth 20000 in
theorem qw_419 : Cond.methodLink RX0 82 yX0_wants ∈ lw_tbl := List.mem_of_getElem? (i := 419) rfl
set_option maxRecDepth 20000 in
theorem qw_418 : Cond.code yX0_drawUp cX0_drawUp 4 none ∈ lw_tbl := List.mem_of_getElem? (i := 418) rfl
set_option maxRecDepth 20000 in
theorem qw_12 : Cond.selects RX0 yX0_drawUp yX0_drawUp ∈ lw_tbl := List.mem_of_getElem? (i := 12) rfl
set_option maxRecDepth 20000 in
theorem qw_417 : Cond.instanceMethod yX0_drawUp ∈ lw_tbl := List.mem_of_getElem? (i := 417) rfl
set_option maxRecDepth 20000 in
theorem qw_415 : Cond.methodLink RX0 67 yX0_drawUp ∈ lw_tbl := List.mem_of_getElem? (i := 415) rfl
set_option maxRecDepth 20000 in
theorem qw_414 : Cond.code yX0_giveBack cX0_giveBack 2 none ∈ lw_tbl := List.mem_of_getElem? (i := 414) rfl
set_option maxRecDepth 20000 in
theorem qw_11 : Cond.selects RX0 yX0_giveBack yX0_giveBack ∈ lw_tbl := List.mem_of_getElem? (i := 11) rfl
set_option maxRecDepth 20000 in
theorem qw_413 : Cond.instanceMethod yX0_giveBack ∈ lw_tbl := List.mem_of_getElem? (i := 413) rfl
set_option maxRecDepth 20000 in
theorem qw_411 : Cond.methodLink RX0 63 yX0_giveBack ∈ lw_tbl := List.mem_of_getElem? (i := 411) rfl
set_option maxRecDepth 20000 in
theorem qw_427 : Cond.methodLink RX0 76 Lib.Math.min.name ∈ lw_tbl := List.mem_of_getElem? (i := 427) rfl
set_option maxRecDepth 20000 in
theorem qw_430 : Cond.code Lib.Math.max.name Lib.Math.max.code 2 (some .int) ∈ lw_tbl := List.mem_of_getElem? (i := 430) rfl
set_option maxRecDepth 20000 in
theorem qw_429 : Cond.static Lib.Math.max.name ∈ lw_tbl := List.mem_of_getElem? (i := 429) rfl
set_option maxRecDepth 20000 in
theorem qw_434 : Cond.code yX0_coldRooms cX0_coldRooms 3 (some .int) ∈ lw_tbl := List.mem_of_getElem? (i := 434) rfl
set_option maxRecDepth 20000 in
theorem qw_433 : Cond.selects RX0 yX0_coldRooms yX0_coldRooms ∈ lw_tbl := List.mem_of_getElem? (i := 433) rfl
set_option maxRecDepth 20000 in
theorem qw_432 : Cond.instanceMethod yX0_coldRooms ∈ lw_tbl := List.mem_of_getElem? (i := 432) rfl
set_option maxRecDepth 20000 in
theorem qw_890 : Cond.selects RX6 yX6_minutes yX6_minutes ∈ lw_tbl := List.mem_of_getElem? (i := 890) rfl
set_option maxRecDepth 20000 in
theorem qw_889 : Cond.instanceMethod yX6_minutes ∈ lw_tbl := List.mem_of_getElem? (i := 889) rfl
set_option maxRecDepth 20000 in
theorem qw_888 : Cond.methodLink RL 52 yX6_minutes ∈ lw_tbl := List.mem_of_getElem? (i := 888) rfl
set_option maxRecDepth 20000 in
theorem qw_891 : Cond.code yX6_minutes cX6_minutes 3 (some .int) ∈ lw_tbl := List.mem_of_getElem? (i := 891) rfl
set_option maxRecDepth 20000 in
theorem qw_905 : Cond.methodLink RX6 155 yX6_of ∈ lw_tbl := List.mem_of_getElem? (i := 905) rfl
set_option maxRecDepth 20000 in
theorem qw_904 : Cond.code yX6_minute cX6_minute 6 none ∈ lw_tbl := List.mem_of_getElem? (i := 904) rfl
set_option maxRecDepth 20000 in
theorem qw_903 : Cond.static yX6_minute ∈ lw_tbl := List.mem_of_getElem? (i := 903) rfl
set_option maxRecDepth 20000 in
theorem qw_902 : Cond.methodLink RX6 181 yX6_minute ∈ lw_tbl := List.mem_of_getElem? (i := 902) rfl
set_option maxRecDepth 20000 in
theorem qw_901 : Cond.code yX6_keep cX6_keep 2 none ∈ lw_tbl := List.mem_of_getElem? (i := 901) rfl
set_option maxRecDepth 20000 in
theorem qw_36 : Cond.selects RX6 yX6_keep yX6_keep ∈ lw_tbl := List.mem_of_getElem? (i := 36) rfl
set_option maxRecDepth 20000 in
theorem qw_900 : Cond.instanceMethod yX6_keep ∈ lw_tbl := List.mem_of_getElem? (i := 900) rfl
set_option maxRecDepth 20000 in
theorem qw_898 : Cond.methodLink RX6 192 yX6_keep ∈ lw_tbl := List.mem_of_getElem? (i := 898) rfl
set_option maxRecDepth 20000 in
theorem qw_895 : Cond.code yX6_isThere cX6_isThere 1 (some .boolean) ∈ lw_tbl := List.mem_of_getElem? (i := 895) rfl
set_option maxRecDepth 20000 in
theorem qw_35 : Cond.selects RX6 yX6_isThere yX6_isThere ∈ lw_tbl := List.mem_of_getElem? (i := 35) rfl
set_option maxRecDepth 20000 in
theorem qw_894 : Cond.instanceMethod yX6_isThere ∈ lw_tbl := List.mem_of_getElem? (i := 894) rfl
set_option maxRecDepth 20000 in
theorem qw_892 : Cond.methodLink RX6 152 yX6_isThere ∈ lw_tbl := List.mem_of_getElem? (i := 892) rfl
set_option maxRecDepth 20000 in
theorem qw_897 : Cond.constantLong RX6 190 (24) ∈ lw_tbl := List.mem_of_getElem? (i := 897) rfl
set_option maxRecDepth 20000 in
theorem qw_928 : Cond.code yX6_colds cX6_colds 3 (some .int) ∈ lw_tbl := List.mem_of_getElem? (i := 928) rfl
set_option maxRecDepth 20000 in
theorem qw_927 : Cond.static yX6_colds ∈ lw_tbl := List.mem_of_getElem? (i := 927) rfl
set_option maxRecDepth 20000 in
theorem qw_926 : Cond.methodLink RX6 195 yX6_colds ∈ lw_tbl := List.mem_of_getElem? (i := 926) rfl
set_option maxRecDepth 20000 in
theorem qw_925 : Cond.code yX6_isCold cX6_isCold 2 (some .boolean) ∈ lw_tbl := List.mem_of_getElem? (i := 925) rfl
set_option maxRecDepth 20000 in
theorem qw_924 : Cond.static yX6_isCold ∈ lw_tbl := List.mem_of_getElem? (i := 924) rfl
set_option maxRecDepth 20000 in
theorem qw_923 : Cond.methodLink RX6 167 yX6_isCold ∈ lw_tbl := List.mem_of_getElem? (i := 923) rfl
set_option maxRecDepth 20000 in
theorem qw_922 : Cond.code yX6_isOut cX6_isOut 2 (some .boolean) ∈ lw_tbl := List.mem_of_getElem? (i := 922) rfl
set_option maxRecDepth 20000 in
theorem qw_921 : Cond.static yX6_isOut ∈ lw_tbl := List.mem_of_getElem? (i := 921) rfl
set_option maxRecDepth 20000 in
theorem qw_920 : Cond.methodLink RX6 163 yX6_isOut ∈ lw_tbl := List.mem_of_getElem? (i := 920) rfl
set_option maxRecDepth 20000 in
theorem qw_919 : Cond.code yX6_wants cX6_wants 4 (some .int) ∈ lw_tbl := List.mem_of_getElem? (i := 919) rfl
set_option maxRecDepth 20000 in
theorem qw_918 : Cond.static yX6_wants ∈ lw_tbl := List.mem_of_getElem? (i := 918) rfl
set_option maxRecDepth 20000 in
theorem qw_917 : Cond.methodLink RX6 178 yX6_wants ∈ lw_tbl := List.mem_of_getElem? (i := 917) rfl
set_option maxRecDepth 20000 in
theorem qw_916 : Cond.code yX6_warmth cX6_warmth 2 (some .int) ∈ lw_tbl := List.mem_of_getElem? (i := 916) rfl
set_option maxRecDepth 20000 in
theorem qw_915 : Cond.static yX6_warmth ∈ lw_tbl := List.mem_of_getElem? (i := 915) rfl
set_option maxRecDepth 20000 in
theorem qw_914 : Cond.methodLink RX6 159 yX6_warmth ∈ lw_tbl := List.mem_of_getElem? (i := 914) rfl
set_option maxRecDepth 20000 in
theorem qw_913 : Cond.code yX6_gives cX6_gives 4 none ∈ lw_tbl := List.mem_of_getElem? (i := 913) rfl
set_option maxRecDepth 20000 in
theorem qw_912 : Cond.static yX6_gives ∈ lw_tbl := List.mem_of_getElem? (i := 912) rfl
set_option maxRecDepth 20000 in
theorem qw_911 : Cond.methodLink RX6 174 yX6_gives ∈ lw_tbl := List.mem_of_getElem? (i := 911) rfl
set_option maxRecDepth 20000 in
theorem qw_910 : Cond.code yX6_be cX6_be 4 none ∈ lw_tbl := List.mem_of_getElem? (i := 910) rfl
set_option maxRecDepth 20000 in
theorem qw_909 : Cond.static yX6_be ∈ lw_tbl := List.mem_of_getElem? (i := 909) rfl
set_option maxRecDepth 20000 in
theorem qw_908 : Cond.methodLink RX6 170 yX6_be ∈ lw_tbl := List.mem_of_getElem? (i := 908) rfl
set_option maxRecDepth 20000 in
theorem qw_907 : Cond.code yX6_of cX6_of 3 (some .int) ∈ lw_tbl := List.mem_of_getElem? (i := 907) rfl
set_option maxRecDepth 20000 in
theorem qw_906 : Cond.static yX6_of ∈ lw_tbl := List.mem_of_getElem? (i := 906) rfl
set_option maxRecDepth 20000 in
theorem qw_437 : Cond.selects RX5 yX5_carry yX5_carry ∈ lw_tbl := List.mem_of_getElem? (i := 437) rfl
set_option maxRecDepth 20000 in
theorem qw_436 : Cond.instanceMethod yX5_carry ∈ lw_tbl := List.mem_of_getElem? (i := 436) rfl
set_option maxRecDepth 20000 in
theorem qw_435 : Cond.methodLink RL 53 yX5_carry ∈ lw_tbl := List.mem_of_getElem? (i := 435) rfl
set_option maxRecDepth 20000 in
theorem qw_438 : Cond.code yX5_carry cX5_carry 4 (some .int) ∈ lw_tbl := List.mem_of_getElem? (i := 438) rfl
set_option maxRecDepth 20000 in
theorem qw_130 : Cond.fieldLink RX5 239 "WarmTubes$House" "rooms" "I" ∈ lw_tbl := List.mem_of_getElem? (i := 130) rfl
set_option maxRecDepth 20000 in
theorem qw_446 : Cond.code yX5_isPlace cX5_isPlace 2 (some .boolean) ∈ lw_tbl := List.mem_of_getElem? (i := 446) rfl
set_option maxRecDepth 20000 in
theorem qw_14 : Cond.selects RX5 yX5_isPlace yX5_isPlace ∈ lw_tbl := List.mem_of_getElem? (i := 14) rfl
set_option maxRecDepth 20000 in
theorem qw_445 : Cond.instanceMethod yX5_isPlace ∈ lw_tbl := List.mem_of_getElem? (i := 445) rfl
set_option maxRecDepth 20000 in
theorem qw_443 : Cond.methodLink RX5 169 yX5_isPlace ∈ lw_tbl := List.mem_of_getElem? (i := 443) rfl
set_option maxRecDepth 20000 in
theorem qw_442 : Cond.code yX5_isTube cX5_isTube 2 (some .boolean) ∈ lw_tbl := List.mem_of_getElem? (i := 442) rfl
set_option maxRecDepth 20000 in
theorem qw_13 : Cond.selects RX5 yX5_isTube yX5_isTube ∈ lw_tbl := List.mem_of_getElem? (i := 13) rfl
set_option maxRecDepth 20000 in
theorem qw_441 : Cond.instanceMethod yX5_isTube ∈ lw_tbl := List.mem_of_getElem? (i := 441) rfl
set_option maxRecDepth 20000 in
theorem qw_439 : Cond.methodLink RX5 166 yX5_isTube ∈ lw_tbl := List.mem_of_getElem? (i := 439) rfl
set_option maxRecDepth 20000 in
theorem qw_148 : Cond.fieldLink RX5 172 "WarmTubes$House" "where" "[I" ∈ lw_tbl := List.mem_of_getElem? (i := 148) rfl
set_option maxRecDepth 20000 in
theorem qw_931 : Cond.selects RX6 yX6_carry yX6_carry ∈ lw_tbl := List.mem_of_getElem? (i := 931) rfl
set_option maxRecDepth 20000 in
theorem qw_930 : Cond.instanceMethod yX6_carry ∈ lw_tbl := List.mem_of_getElem? (i := 930) rfl
set_option maxRecDepth 20000 in
theorem qw_929 : Cond.methodLink RL 57 yX6_carry ∈ lw_tbl := List.mem_of_getElem? (i := 929) rfl
set_option maxRecDepth 20000 in
theorem qw_932 : Cond.code yX6_carry cX6_carry 4 (some .int) ∈ lw_tbl := List.mem_of_getElem? (i := 932) rfl
set_option maxRecDepth 20000 in
theorem qw_940 : Cond.code yX6_isPlace cX6_isPlace 2 (some .boolean) ∈ lw_tbl := List.mem_of_getElem? (i := 940) rfl
set_option maxRecDepth 20000 in
theorem qw_38 : Cond.selects RX6 yX6_isPlace yX6_isPlace ∈ lw_tbl := List.mem_of_getElem? (i := 38) rfl
set_option maxRecDepth 20000 in
theorem qw_939 : Cond.instanceMethod yX6_isPlace ∈ lw_tbl := List.mem_of_getElem? (i := 939) rfl
set_option maxRecDepth 20000 in
theorem qw_937 : Cond.methodLink RX6 201 yX6_isPlace ∈ lw_tbl := List.mem_of_getElem? (i := 937) rfl
set_option maxRecDepth 20000 in
theorem qw_936 : Cond.code yX6_isTube cX6_isTube 2 (some .boolean) ∈ lw_tbl := List.mem_of_getElem? (i := 936) rfl
set_option maxRecDepth 20000 in
theorem qw_37 : Cond.selects RX6 yX6_isTube yX6_isTube ∈ lw_tbl := List.mem_of_getElem? (i := 37) rfl
set_option maxRecDepth 20000 in
theorem qw_935 : Cond.instanceMethod yX6_isTube ∈ lw_tbl := List.mem_of_getElem? (i := 935) rfl
set_option maxRecDepth 20000 in
theorem qw_933 : Cond.methodLink RX6 198 yX6_isTube ∈ lw_tbl := List.mem_of_getElem? (i := 933) rfl
set_option maxRecDepth 20000 in
theorem qw_449 : Cond.selects RX5 yX5_shake yX5_shake ∈ lw_tbl := List.mem_of_getElem? (i := 449) rfl
set_option maxRecDepth 20000 in
theorem qw_448 : Cond.instanceMethod yX5_shake ∈ lw_tbl := List.mem_of_getElem? (i := 448) rfl
set_option maxRecDepth 20000 in
theorem qw_447 : Cond.methodLink RL 58 yX5_shake ∈ lw_tbl := List.mem_of_getElem? (i := 447) rfl
set_option maxRecDepth 20000 in
theorem qw_450 : Cond.code yX5_shake cX5_shake 3 (some .int) ∈ lw_tbl := List.mem_of_getElem? (i := 450) rfl
set_option maxRecDepth 20000 in
theorem qw_157 : Cond.fieldLink RX5 175 "WarmTubes$House" "up" "[I" ∈ lw_tbl := List.mem_of_getElem? (i := 157) rfl
set_option maxRecDepth 20000 in
theorem qw_454 : Cond.code yX0_letDown cX0_letDown 3 none ∈ lw_tbl := List.mem_of_getElem? (i := 454) rfl
set_option maxRecDepth 20000 in
theorem qw_453 : Cond.selects RX0 yX0_letDown yX0_letDown ∈ lw_tbl := List.mem_of_getElem? (i := 453) rfl
set_option maxRecDepth 20000 in
theorem qw_452 : Cond.instanceMethod yX0_letDown ∈ lw_tbl := List.mem_of_getElem? (i := 452) rfl
set_option maxRecDepth 20000 in
theorem qw_451 : Cond.methodLink RX5 178 yX0_letDown ∈ lw_tbl := List.mem_of_getElem? (i := 451) rfl
set_option maxRecDepth 20000 in
theorem qw_943 : Cond.selects RX6 yX6_shake yX6_shake ∈ lw_tbl := List.mem_of_getElem? (i := 943) rfl
set_option maxRecDepth 20000 in
theorem qw_942 : Cond.instanceMethod yX6_shake ∈ lw_tbl := List.mem_of_getElem? (i := 942) rfl
set_option maxRecDepth 20000 in
theorem qw_941 : Cond.methodLink RL 61 yX6_shake ∈ lw_tbl := List.mem_of_getElem? (i := 941) rfl
set_option maxRecDepth 20000 in
theorem qw_944 : Cond.code yX6_shake cX6_shake 2 (some .int) ∈ lw_tbl := List.mem_of_getElem? (i := 944) rfl
set_option maxRecDepth 20000 in
theorem qw_947 : Cond.code yX6_shaken cX6_shaken 3 (some .int) ∈ lw_tbl := List.mem_of_getElem? (i := 947) rfl
set_option maxRecDepth 20000 in
theorem qw_946 : Cond.static yX6_shaken ∈ lw_tbl := List.mem_of_getElem? (i := 946) rfl
set_option maxRecDepth 20000 in
theorem qw_945 : Cond.methodLink RX6 204 yX6_shaken ∈ lw_tbl := List.mem_of_getElem? (i := 945) rfl
set_option maxRecDepth 20000 in
theorem qw_457 : Cond.selects RX5 yX5_pour yX5_pour ∈ lw_tbl := List.mem_of_getElem? (i := 457) rfl
set_option maxRecDepth 20000 in
theorem qw_456 : Cond.instanceMethod yX5_pour ∈ lw_tbl := List.mem_of_getElem? (i := 456) rfl
set_option maxRecDepth 20000 in
theorem qw_455 : Cond.methodLink RL 62 yX5_pour ∈ lw_tbl := List.mem_of_getElem? (i := 455) rfl
set_option maxRecDepth 20000 in
theorem qw_458 : Cond.code yX5_pour cX5_pour 4 (some .int) ∈ lw_tbl := List.mem_of_getElem? (i := 458) rfl
set_option maxRecDepth 20000 in
theorem qw_462 : Cond.code yX0_pourable cX0_pourable 3 (some .int) ∈ lw_tbl := List.mem_of_getElem? (i := 462) rfl
set_option maxRecDepth 20000 in
theorem qw_461 : Cond.selects RX0 yX0_pourable yX0_pourable ∈ lw_tbl := List.mem_of_getElem? (i := 461) rfl
set_option maxRecDepth 20000 in
theorem qw_460 : Cond.instanceMethod yX0_pourable ∈ lw_tbl := List.mem_of_getElem? (i := 460) rfl
set_option maxRecDepth 20000 in
theorem qw_459 : Cond.methodLink RX5 181 yX0_pourable ∈ lw_tbl := List.mem_of_getElem? (i := 459) rfl
set_option maxRecDepth 20000 in
theorem qw_465 : Cond.selects RX0 yX0_shift yX0_shift ∈ lw_tbl := List.mem_of_getElem? (i := 465) rfl
set_option maxRecDepth 20000 in
theorem qw_464 : Cond.instanceMethod yX0_shift ∈ lw_tbl := List.mem_of_getElem? (i := 464) rfl
set_option maxRecDepth 20000 in
theorem qw_463 : Cond.methodLink RX5 184 yX0_shift ∈ lw_tbl := List.mem_of_getElem? (i := 463) rfl
set_option maxRecDepth 20000 in
theorem qw_466 : Cond.code yX0_shift cX0_shift 4 none ∈ lw_tbl := List.mem_of_getElem? (i := 466) rfl
set_option maxRecDepth 20000 in
theorem qw_950 : Cond.selects RX6 yX6_pour yX6_pour ∈ lw_tbl := List.mem_of_getElem? (i := 950) rfl
set_option maxRecDepth 20000 in
theorem qw_949 : Cond.instanceMethod yX6_pour ∈ lw_tbl := List.mem_of_getElem? (i := 949) rfl
set_option maxRecDepth 20000 in
theorem qw_948 : Cond.methodLink RL 65 yX6_pour ∈ lw_tbl := List.mem_of_getElem? (i := 948) rfl
set_option maxRecDepth 20000 in
theorem qw_951 : Cond.code yX6_pour cX6_pour 3 (some .int) ∈ lw_tbl := List.mem_of_getElem? (i := 951) rfl
set_option maxRecDepth 20000 in
theorem qw_958 : Cond.code yX6_poured cX6_poured 5 (some .int) ∈ lw_tbl := List.mem_of_getElem? (i := 958) rfl
set_option maxRecDepth 20000 in
theorem qw_957 : Cond.static yX6_poured ∈ lw_tbl := List.mem_of_getElem? (i := 957) rfl
set_option maxRecDepth 20000 in
theorem qw_956 : Cond.methodLink RX6 210 yX6_poured ∈ lw_tbl := List.mem_of_getElem? (i := 956) rfl
set_option maxRecDepth 20000 in
theorem qw_955 : Cond.code yX6_layThen cX6_layThen 2 none ∈ lw_tbl := List.mem_of_getElem? (i := 955) rfl
set_option maxRecDepth 20000 in
theorem qw_39 : Cond.selects RX6 yX6_layThen yX6_layThen ∈ lw_tbl := List.mem_of_getElem? (i := 39) rfl
set_option maxRecDepth 20000 in
theorem qw_954 : Cond.instanceMethod yX6_layThen ∈ lw_tbl := List.mem_of_getElem? (i := 954) rfl
set_option maxRecDepth 20000 in
theorem qw_952 : Cond.methodLink RX6 207 yX6_layThen ∈ lw_tbl := List.mem_of_getElem? (i := 952) rfl
set_option maxRecDepth 20000 in
theorem qw_469 : Cond.selects RX5 yX5_stove yX5_stove ∈ lw_tbl := List.mem_of_getElem? (i := 469) rfl
set_option maxRecDepth 20000 in
theorem qw_468 : Cond.instanceMethod yX5_stove ∈ lw_tbl := List.mem_of_getElem? (i := 468) rfl
set_option maxRecDepth 20000 in
theorem qw_467 : Cond.methodLink RL 66 yX5_stove ∈ lw_tbl := List.mem_of_getElem? (i := 467) rfl
set_option maxRecDepth 20000 in
theorem qw_470 : Cond.code yX5_stove cX5_stove 4 (some .int) ∈ lw_tbl := List.mem_of_getElem? (i := 470) rfl
set_option maxRecDepth 20000 in
theorem qw_474 : Cond.code yX5_isRoom cX5_isRoom 2 (some .boolean) ∈ lw_tbl := List.mem_of_getElem? (i := 474) rfl
set_option maxRecDepth 20000 in
theorem qw_15 : Cond.selects RX5 yX5_isRoom yX5_isRoom ∈ lw_tbl := List.mem_of_getElem? (i := 15) rfl
set_option maxRecDepth 20000 in
theorem qw_473 : Cond.instanceMethod yX5_isRoom ∈ lw_tbl := List.mem_of_getElem? (i := 473) rfl
set_option maxRecDepth 20000 in
theorem qw_471 : Cond.methodLink RX5 187 yX5_isRoom ∈ lw_tbl := List.mem_of_getElem? (i := 471) rfl
set_option maxRecDepth 20000 in
theorem qw_142 : Cond.fieldLink RX5 190 "WarmTubes$House" "stove" "[I" ∈ lw_tbl := List.mem_of_getElem? (i := 142) rfl
set_option maxRecDepth 20000 in
theorem qw_961 : Cond.selects RX6 yX6_stove yX6_stove ∈ lw_tbl := List.mem_of_getElem? (i := 961) rfl
set_option maxRecDepth 20000 in
theorem qw_960 : Cond.instanceMethod yX6_stove ∈ lw_tbl := List.mem_of_getElem? (i := 960) rfl
set_option maxRecDepth 20000 in
theorem qw_959 : Cond.methodLink RL 69 yX6_stove ∈ lw_tbl := List.mem_of_getElem? (i := 959) rfl
set_option maxRecDepth 20000 in
theorem qw_962 : Cond.code yX6_stove cX6_stove 4 (some .int) ∈ lw_tbl := List.mem_of_getElem? (i := 962) rfl
set_option maxRecDepth 20000 in
theorem qw_966 : Cond.code yX6_isRoom cX6_isRoom 2 (some .boolean) ∈ lw_tbl := List.mem_of_getElem? (i := 966) rfl
set_option maxRecDepth 20000 in
theorem qw_40 : Cond.selects RX6 yX6_isRoom yX6_isRoom ∈ lw_tbl := List.mem_of_getElem? (i := 40) rfl
set_option maxRecDepth 20000 in
theorem qw_965 : Cond.instanceMethod yX6_isRoom ∈ lw_tbl := List.mem_of_getElem? (i := 965) rfl
set_option maxRecDepth 20000 in
theorem qw_963 : Cond.methodLink RX6 213 yX6_isRoom ∈ lw_tbl := List.mem_of_getElem? (i := 963) rfl
set_option maxRecDepth 20000 in
theorem qw_967 : Cond.constantLong RX6 216 (20) ∈ lw_tbl := List.mem_of_getElem? (i := 967) rfl
set_option maxRecDepth 20000 in
theorem qw_477 : Cond.selects RX5 yX5_tube yX5_tube ∈ lw_tbl := List.mem_of_getElem? (i := 477) rfl
set_option maxRecDepth 20000 in
theorem qw_476 : Cond.instanceMethod yX5_tube ∈ lw_tbl := List.mem_of_getElem? (i := 476) rfl
set_option maxRecDepth 20000 in
theorem qw_475 : Cond.methodLink RL 70 yX5_tube ∈ lw_tbl := List.mem_of_getElem? (i := 475) rfl
set_option maxRecDepth 20000 in
theorem qw_478 : Cond.code yX5_tube cX5_tube 3 (some .int) ∈ lw_tbl := List.mem_of_getElem? (i := 478) rfl
set_option maxRecDepth 20000 in
theorem qw_479 : Cond.methodLink RX5 199 yX0_wants ∈ lw_tbl := List.mem_of_getElem? (i := 479) rfl
set_option maxRecDepth 20000 in
theorem qw_154 : Cond.fieldLink RX5 196 "WarmTubes$House" "holds" "[I" ∈ lw_tbl := List.mem_of_getElem? (i := 154) rfl
set_option maxRecDepth 20000 in
theorem qw_151 : Cond.fieldLink RX5 193 "WarmTubes$House" "takes" "[I" ∈ lw_tbl := List.mem_of_getElem? (i := 151) rfl
set_option maxRecDepth 20000 in
theorem qw_974 : Cond.selects RX6 yX6_tube yX6_tube ∈ lw_tbl := List.mem_of_getElem? (i := 974) rfl
set_option maxRecDepth 20000 in
theorem qw_973 : Cond.instanceMethod yX6_tube ∈ lw_tbl := List.mem_of_getElem? (i := 973) rfl
set_option maxRecDepth 20000 in
theorem qw_972 : Cond.methodLink RL 73 yX6_tube ∈ lw_tbl := List.mem_of_getElem? (i := 972) rfl
set_option maxRecDepth 20000 in
theorem qw_975 : Cond.code yX6_tube cX6_tube 3 (some .int) ∈ lw_tbl := List.mem_of_getElem? (i := 975) rfl
set_option maxRecDepth 20000 in
theorem qw_976 : Cond.constantLong RX6 218 (4) ∈ lw_tbl := List.mem_of_getElem? (i := 976) rfl
set_option maxRecDepth 20000 in
theorem qw_482 : Cond.selects RX5 yX5_room yX5_room ∈ lw_tbl := List.mem_of_getElem? (i := 482) rfl
set_option maxRecDepth 20000 in
theorem qw_481 : Cond.instanceMethod yX5_room ∈ lw_tbl := List.mem_of_getElem? (i := 481) rfl
set_option maxRecDepth 20000 in
theorem qw_480 : Cond.methodLink RL 74 yX5_room ∈ lw_tbl := List.mem_of_getElem? (i := 480) rfl
set_option maxRecDepth 20000 in
theorem qw_483 : Cond.code yX5_room cX5_room 3 (some .int) ∈ lw_tbl := List.mem_of_getElem? (i := 483) rfl
set_option maxRecDepth 20000 in
theorem qw_487 : Cond.code yX0_tubesAt cX0_tubesAt 4 (some .int) ∈ lw_tbl := List.mem_of_getElem? (i := 487) rfl
set_option maxRecDepth 20000 in
theorem qw_486 : Cond.selects RX0 yX0_tubesAt yX0_tubesAt ∈ lw_tbl := List.mem_of_getElem? (i := 486) rfl
set_option maxRecDepth 20000 in
theorem qw_485 : Cond.instanceMethod yX0_tubesAt ∈ lw_tbl := List.mem_of_getElem? (i := 485) rfl
set_option maxRecDepth 20000 in
theorem qw_484 : Cond.methodLink RX5 202 yX0_tubesAt ∈ lw_tbl := List.mem_of_getElem? (i := 484) rfl
set_option maxRecDepth 20000 in
theorem qw_139 : Cond.fieldLink RX5 205 "WarmTubes$House" "warmth" "[I" ∈ lw_tbl := List.mem_of_getElem? (i := 139) rfl
set_option maxRecDepth 20000 in
theorem qw_488 : Cond.methodLink RX5 208 yX0_isCold ∈ lw_tbl := List.mem_of_getElem? (i := 488) rfl
set_option maxRecDepth 20000 in
theorem qw_979 : Cond.selects RX6 yX6_room yX6_room ∈ lw_tbl := List.mem_of_getElem? (i := 979) rfl
set_option maxRecDepth 20000 in
theorem qw_978 : Cond.instanceMethod yX6_room ∈ lw_tbl := List.mem_of_getElem? (i := 978) rfl
set_option maxRecDepth 20000 in
theorem qw_977 : Cond.methodLink RL 77 yX6_room ∈ lw_tbl := List.mem_of_getElem? (i := 977) rfl
set_option maxRecDepth 20000 in
theorem qw_980 : Cond.code yX6_room cX6_room 3 (some .int) ∈ lw_tbl := List.mem_of_getElem? (i := 980) rfl
set_option maxRecDepth 20000 in
theorem qw_983 : Cond.static yX6_tubesIn ∈ lw_tbl := List.mem_of_getElem? (i := 983) rfl
set_option maxRecDepth 20000 in
theorem qw_982 : Cond.methodLink RX6 222 yX6_tubesIn ∈ lw_tbl := List.mem_of_getElem? (i := 982) rfl
set_option maxRecDepth 20000 in
theorem qw_981 : Cond.constantLong RX6 220 (3) ∈ lw_tbl := List.mem_of_getElem? (i := 981) rfl
set_option maxRecDepth 20000 in
theorem qw_984 : Cond.code yX6_tubesIn cX6_tubesIn 4 (some .int) ∈ lw_tbl := List.mem_of_getElem? (i := 984) rfl
set_option maxRecDepth 20000 in
theorem qw_491 : Cond.selects RX5 yX5_ahead yX5_ahead ∈ lw_tbl := List.mem_of_getElem? (i := 491) rfl
set_option maxRecDepth 20000 in
theorem qw_490 : Cond.instanceMethod yX5_ahead ∈ lw_tbl := List.mem_of_getElem? (i := 490) rfl
set_option maxRecDepth 20000 in
theorem qw_489 : Cond.methodLink RL 78 yX5_ahead ∈ lw_tbl := List.mem_of_getElem? (i := 489) rfl
set_option maxRecDepth 20000 in
theorem qw_492 : Cond.code yX5_ahead cX5_ahead 3 (some .int) ∈ lw_tbl := List.mem_of_getElem? (i := 492) rfl
set_option maxRecDepth 20000 in
theorem qw_497 : Cond.methodLink RX0 79 yX0_passMinute ∈ lw_tbl := List.mem_of_getElem? (i := 497) rfl
set_option maxRecDepth 20000 in
theorem qw_496 : Cond.code yX0_passMinutes cX0_passMinutes 3 none ∈ lw_tbl := List.mem_of_getElem? (i := 496) rfl
set_option maxRecDepth 20000 in
theorem qw_495 : Cond.selects RX0 yX0_passMinutes yX0_passMinutes ∈ lw_tbl := List.mem_of_getElem? (i := 495) rfl
set_option maxRecDepth 20000 in
theorem qw_494 : Cond.instanceMethod yX0_passMinutes ∈ lw_tbl := List.mem_of_getElem? (i := 494) rfl
set_option maxRecDepth 20000 in
theorem qw_493 : Cond.methodLink RX5 211 yX0_passMinutes ∈ lw_tbl := List.mem_of_getElem? (i := 493) rfl
set_option maxRecDepth 20000 in
theorem qw_987 : Cond.selects RX6 yX6_ahead yX6_ahead ∈ lw_tbl := List.mem_of_getElem? (i := 987) rfl
set_option maxRecDepth 20000 in
theorem qw_986 : Cond.instanceMethod yX6_ahead ∈ lw_tbl := List.mem_of_getElem? (i := 986) rfl
set_option maxRecDepth 20000 in
theorem qw_985 : Cond.methodLink RL 81 yX6_ahead ∈ lw_tbl := List.mem_of_getElem? (i := 985) rfl
set_option maxRecDepth 20000 in
theorem qw_988 : Cond.code yX6_ahead cX6_ahead 3 (some .int) ∈ lw_tbl := List.mem_of_getElem? (i := 988) rfl
set_option maxRecDepth 20000 in
theorem qw_992 : Cond.code yX6_minutesOf cX6_minutesOf 3 none ∈ lw_tbl := List.mem_of_getElem? (i := 992) rfl
set_option maxRecDepth 20000 in
theorem qw_991 : Cond.static yX6_minutesOf ∈ lw_tbl := List.mem_of_getElem? (i := 991) rfl
set_option maxRecDepth 20000 in
theorem qw_990 : Cond.methodLink RX6 227 yX6_minutesOf ∈ lw_tbl := List.mem_of_getElem? (i := 990) rfl
set_option maxRecDepth 20000 in
theorem qw_989 : Cond.constantLong RX6 225 (60) ∈ lw_tbl := List.mem_of_getElem? (i := 989) rfl
set_option maxRecDepth 20000 in
theorem qw_500 : Cond.selects RX5 yX5_upAhead yX5_upAhead ∈ lw_tbl := List.mem_of_getElem? (i := 500) rfl
set_option maxRecDepth 20000 in
theorem qw_499 : Cond.instanceMethod yX5_upAhead ∈ lw_tbl := List.mem_of_getElem? (i := 499) rfl
set_option maxRecDepth 20000 in
theorem qw_498 : Cond.methodLink RL 82 yX5_upAhead ∈ lw_tbl := List.mem_of_getElem? (i := 498) rfl
set_option maxRecDepth 20000 in
theorem qw_501 : Cond.code yX5_upAhead cX5_upAhead 3 (some .int) ∈ lw_tbl := List.mem_of_getElem? (i := 501) rfl
set_option maxRecDepth 20000 in
theorem qw_995 : Cond.selects RX6 yX6_upAhead yX6_upAhead ∈ lw_tbl := List.mem_of_getElem? (i := 995) rfl
set_option maxRecDepth 20000 in
theorem qw_994 : Cond.instanceMethod yX6_upAhead ∈ lw_tbl := List.mem_of_getElem? (i := 994) rfl
set_option maxRecDepth 20000 in
theorem qw_993 : Cond.methodLink RL 85 yX6_upAhead ∈ lw_tbl := List.mem_of_getElem? (i := 993) rfl
set_option maxRecDepth 20000 in
theorem qw_996 : Cond.code yX6_upAhead cX6_upAhead 3 (some .int) ∈ lw_tbl := List.mem_of_getElem? (i := 996) rfl
set_option maxRecDepth 20000 in
theorem qw_504 : Cond.selects RX5 yX5_chill yX5_chill ∈ lw_tbl := List.mem_of_getElem? (i := 504) rfl
set_option maxRecDepth 20000 in
theorem qw_503 : Cond.instanceMethod yX5_chill ∈ lw_tbl := List.mem_of_getElem? (i := 503) rfl
set_option maxRecDepth 20000 in
theorem qw_502 : Cond.methodLink RL 86 yX5_chill ∈ lw_tbl := List.mem_of_getElem? (i := 502) rfl
set_option maxRecDepth 20000 in
theorem qw_505 : Cond.code yX5_chill cX5_chill 2 (some .int) ∈ lw_tbl := List.mem_of_getElem? (i := 505) rfl
set_option maxRecDepth 20000 in
theorem qw_510 : Cond.constant RX5 217 (-1000000) ∈ lw_tbl := List.mem_of_getElem? (i := 510) rfl
set_option maxRecDepth 20000 in
theorem qw_509 : Cond.code yX5_untilCold cX5_untilCold 3 (some .int) ∈ lw_tbl := List.mem_of_getElem? (i := 509) rfl
set_option maxRecDepth 20000 in
theorem qw_16 : Cond.selects RX5 yX5_untilCold yX5_untilCold ∈ lw_tbl := List.mem_of_getElem? (i := 16) rfl
set_option maxRecDepth 20000 in
theorem qw_508 : Cond.instanceMethod yX5_untilCold ∈ lw_tbl := List.mem_of_getElem? (i := 508) rfl
set_option maxRecDepth 20000 in
theorem qw_506 : Cond.methodLink RX5 214 yX5_untilCold ∈ lw_tbl := List.mem_of_getElem? (i := 506) rfl
set_option maxRecDepth 20000 in
theorem qw_999 : Cond.selects RX6 yX6_chill yX6_chill ∈ lw_tbl := List.mem_of_getElem? (i := 999) rfl
set_option maxRecDepth 20000 in
theorem qw_998 : Cond.instanceMethod yX6_chill ∈ lw_tbl := List.mem_of_getElem? (i := 998) rfl
set_option maxRecDepth 20000 in
theorem qw_997 : Cond.methodLink RL 89 yX6_chill ∈ lw_tbl := List.mem_of_getElem? (i := 997) rfl
set_option maxRecDepth 20000 in
theorem qw_1000 : Cond.code yX6_chill cX6_chill 3 (some .int) ∈ lw_tbl := List.mem_of_getElem? (i := 1000) rfl
set_option maxRecDepth 20000 in
theorem qw_513 : Cond.selects RX5 yX5_first yX5_first ∈ lw_tbl := List.mem_of_getElem? (i := 513) rfl
set_option maxRecDepth 20000 in
theorem qw_512 : Cond.instanceMethod yX5_first ∈ lw_tbl := List.mem_of_getElem? (i := 512) rfl
set_option maxRecDepth 20000 in
theorem qw_511 : Cond.methodLink RL 90 yX5_first ∈ lw_tbl := List.mem_of_getElem? (i := 511) rfl
set_option maxRecDepth 20000 in
theorem qw_514 : Cond.code yX5_first cX5_first 3 (some .int) ∈ lw_tbl := List.mem_of_getElem? (i := 514) rfl
set_option maxRecDepth 20000 in
theorem qw_62 : Cond.initialized RJ6 ∈ lw_tbl := List.mem_of_getElem? (i := 62) rfl
set_option maxRecDepth 20000 in
theorem qw_516 : Cond.static yJ6_numberOfTrailingZeros_0f7a4 ∈ lw_tbl := List.mem_of_getElem? (i := 516) rfl
set_option maxRecDepth 20000 in
theorem qw_515 : Cond.methodLink RX5 218 yJ6_numberOfTrailingZeros_0f7a4 ∈ lw_tbl := List.mem_of_getElem? (i := 515) rfl
set_option maxRecDepth 20000 in
theorem qw_518 : Cond.constant RJ6 264 (65536) ∈ lw_tbl := List.mem_of_getElem? (i := 518) rfl
set_option maxRecDepth 20000 in
theorem qw_517 : Cond.code yJ6_numberOfTrailingZeros_0f7a4 cJ6_numberOfTrailingZeros_0f7a4 2 (some .int) ∈ lw_tbl := List.mem_of_getElem? (i := 517) rfl
set_option maxRecDepth 20000 in
theorem qw_1003 : Cond.selects RX6 yX6_first yX6_first ∈ lw_tbl := List.mem_of_getElem? (i := 1003) rfl
set_option maxRecDepth 20000 in
theorem qw_1002 : Cond.instanceMethod yX6_first ∈ lw_tbl := List.mem_of_getElem? (i := 1002) rfl
set_option maxRecDepth 20000 in
theorem qw_1001 : Cond.methodLink RL 93 yX6_first ∈ lw_tbl := List.mem_of_getElem? (i := 1001) rfl
set_option maxRecDepth 20000 in
theorem qw_1004 : Cond.code yX6_first cX6_first 4 (some .int) ∈ lw_tbl := List.mem_of_getElem? (i := 1004) rfl
set_option maxRecDepth 20000 in
theorem qw_521 : Cond.selects RX5 yX5_filled yX5_filled ∈ lw_tbl := List.mem_of_getElem? (i := 521) rfl
set_option maxRecDepth 20000 in
theorem qw_520 : Cond.instanceMethod yX5_filled ∈ lw_tbl := List.mem_of_getElem? (i := 520) rfl
set_option maxRecDepth 20000 in
theorem qw_519 : Cond.methodLink RL 94 yX5_filled ∈ lw_tbl := List.mem_of_getElem? (i := 519) rfl
set_option maxRecDepth 20000 in
theorem qw_522 : Cond.code yX5_filled cX5_filled 3 (some .int) ∈ lw_tbl := List.mem_of_getElem? (i := 522) rfl
set_option maxRecDepth 20000 in
theorem qw_1007 : Cond.selects RX6 yX6_filled yX6_filled ∈ lw_tbl := List.mem_of_getElem? (i := 1007) rfl
set_option maxRecDepth 20000 in
theorem qw_1006 : Cond.instanceMethod yX6_filled ∈ lw_tbl := List.mem_of_getElem? (i := 1006) rfl
set_option maxRecDepth 20000 in
theorem qw_1005 : Cond.methodLink RL 97 yX6_filled ∈ lw_tbl := List.mem_of_getElem? (i := 1005) rfl
set_option maxRecDepth 20000 in
theorem qw_1008 : Cond.code yX6_filled cX6_filled 3 (some .int) ∈ lw_tbl := List.mem_of_getElem? (i := 1008) rfl
set_option maxRecDepth 20000 in
theorem qw_525 : Cond.selects RX5 yX5_outs yX5_outs ∈ lw_tbl := List.mem_of_getElem? (i := 525) rfl
set_option maxRecDepth 20000 in
theorem qw_524 : Cond.instanceMethod yX5_outs ∈ lw_tbl := List.mem_of_getElem? (i := 524) rfl
set_option maxRecDepth 20000 in
theorem qw_523 : Cond.methodLink RL 98 yX5_outs ∈ lw_tbl := List.mem_of_getElem? (i := 523) rfl
set_option maxRecDepth 20000 in
theorem qw_526 : Cond.code yX5_outs cX5_outs 7 (some .int) ∈ lw_tbl := List.mem_of_getElem? (i := 526) rfl
set_option maxRecDepth 20000 in
theorem qw_531 : Cond.static yX5_isFewer ∈ lw_tbl := List.mem_of_getElem? (i := 531) rfl
set_option maxRecDepth 20000 in
theorem qw_530 : Cond.methodLink RX5 227 yX5_isFewer ∈ lw_tbl := List.mem_of_getElem? (i := 530) rfl
set_option maxRecDepth 20000 in
theorem qw_529 : Cond.code yX5_isPart cX5_isPart 2 (some .boolean) ∈ lw_tbl := List.mem_of_getElem? (i := 529) rfl
set_option maxRecDepth 20000 in
theorem qw_528 : Cond.static yX5_isPart ∈ lw_tbl := List.mem_of_getElem? (i := 528) rfl
set_option maxRecDepth 20000 in
theorem qw_527 : Cond.methodLink RX5 223 yX5_isPart ∈ lw_tbl := List.mem_of_getElem? (i := 527) rfl
set_option maxRecDepth 20000 in
theorem qw_542 : Cond.code yX5_staysWarm cX5_staysWarm 5 (some .boolean) ∈ lw_tbl := List.mem_of_getElem? (i := 542) rfl
set_option maxRecDepth 20000 in
theorem qw_17 : Cond.selects RX5 yX5_staysWarm yX5_staysWarm ∈ lw_tbl := List.mem_of_getElem? (i := 17) rfl
set_option maxRecDepth 20000 in
theorem qw_541 : Cond.instanceMethod yX5_staysWarm ∈ lw_tbl := List.mem_of_getElem? (i := 541) rfl
set_option maxRecDepth 20000 in
theorem qw_539 : Cond.methodLink RX5 230 yX5_staysWarm ∈ lw_tbl := List.mem_of_getElem? (i := 539) rfl
set_option maxRecDepth 20000 in
theorem qw_538 : Cond.constant RJ6 267 (252645135) ∈ lw_tbl := List.mem_of_getElem? (i := 538) rfl
set_option maxRecDepth 20000 in
theorem qw_537 : Cond.constant RJ6 266 (858993459) ∈ lw_tbl := List.mem_of_getElem? (i := 537) rfl
set_option maxRecDepth 20000 in
theorem qw_536 : Cond.constant RJ6 265 (1431655765) ∈ lw_tbl := List.mem_of_getElem? (i := 536) rfl
set_option maxRecDepth 20000 in
theorem qw_535 : Cond.code yJ6_bitCount_0f7a4 cJ6_bitCount_0f7a4 1 (some .int) ∈ lw_tbl := List.mem_of_getElem? (i := 535) rfl
set_option maxRecDepth 20000 in
theorem qw_534 : Cond.static yJ6_bitCount_0f7a4 ∈ lw_tbl := List.mem_of_getElem? (i := 534) rfl
set_option maxRecDepth 20000 in
theorem qw_533 : Cond.methodLink RX5 276 yJ6_bitCount_0f7a4 ∈ lw_tbl := List.mem_of_getElem? (i := 533) rfl
set_option maxRecDepth 20000 in
theorem qw_532 : Cond.code yX5_isFewer cX5_isFewer 2 (some .boolean) ∈ lw_tbl := List.mem_of_getElem? (i := 532) rfl
set_option maxRecDepth 20000 in
theorem qw_546 : Cond.code yX0_carryOut cX0_carryOut 3 none ∈ lw_tbl := List.mem_of_getElem? (i := 546) rfl
