theorem qc {a : Cond} {l : List Cond} (ha : a ∈ lw_tbl) (hl : ∀ w ∈ l, w ∈ lw_tbl) : ∀ w ∈ a :: l, w ∈ lw_tbl := fun w h => (List.mem_cons.mp h).elim (fun e => e ▸ ha) (hl w)
theorem qa {l k : List Cond} (hl : ∀ w ∈ l, w ∈ lw_tbl) (hk : ∀ w ∈ k, w ∈ lw_tbl) : ∀ w ∈ l ++ k, w ∈ lw_tbl := fun w h => (List.mem_append.mp h).elim (hl w) (hk w)
theorem qn : ∀ w ∈ ([] : List Cond), w ∈ lw_tbl := fun _ h => absurd h List.not_mem_nil
set_option maxRecDepth 20000 in
theorem qw_67 : Cond.code yX5_init cX5_init 1 none ∈ lw_tbl := List.mem_of_getElem? (i := 67) rfl
set_option maxRecDepth 20000 in
theorem qw_201 : Cond.classLink RX5 48 RX4 ∈ lw_tbl := List.mem_of_getElem? (i := 201) rfl
set_option maxRecDepth 20000 in
theorem qw_222 : Cond.fieldLink RX5 44 "WarmTubes" "pourings" "[I" ∈ lw_tbl := List.mem_of_getElem? (i := 222) rfl
set_option maxRecDepth 20000 in
theorem qw_90 : Cond.arrayClass .int ∈ lw_tbl := List.mem_of_getElem? (i := 90) rfl
set_option maxRecDepth 20000 in
theorem qw_221 : Cond.fieldLink RX5 40 "WarmTubes" "past" "LWarmTubes$Past;" ∈ lw_tbl := List.mem_of_getElem? (i := 221) rfl
set_option maxRecDepth 20000 in
theorem qw_57 : Cond.initialized RX1 ∈ lw_tbl := List.mem_of_getElem? (i := 57) rfl
set_option maxRecDepth 20000 in
theorem qw_185 : Cond.instantiable RX1 3 ∈ lw_tbl := List.mem_of_getElem? (i := 185) rfl
set_option maxRecDepth 20000 in
theorem qw_184 : Cond.classLink RX5 37 RX1 ∈ lw_tbl := List.mem_of_getElem? (i := 184) rfl
set_option maxRecDepth 20000 in
theorem qw_220 : Cond.fieldLink RX5 33 "WarmTubes" "images" "[LWarmTubes$House;" ∈ lw_tbl := List.mem_of_getElem? (i := 220) rfl
set_option maxRecDepth 20000 in
theorem qw_219 : Cond.fieldLink RX5 30 "WarmTubes" "then" "LWarmTubes$House;" ∈ lw_tbl := List.mem_of_getElem? (i := 219) rfl
set_option maxRecDepth 20000 in
theorem qw_218 : Cond.fieldLink RX5 26 "WarmTubes" "now" "LWarmTubes$House;" ∈ lw_tbl := List.mem_of_getElem? (i := 218) rfl
set_option maxRecDepth 20000 in
theorem qw_56 : Cond.initialized RX0 ∈ lw_tbl := List.mem_of_getElem? (i := 56) rfl
set_option maxRecDepth 20000 in
theorem qw_118 : Cond.instantiable RX0 12 ∈ lw_tbl := List.mem_of_getElem? (i := 118) rfl
set_option maxRecDepth 20000 in
theorem qw_117 : Cond.classLink RX5 23 RX0 ∈ lw_tbl := List.mem_of_getElem? (i := 117) rfl
set_option maxRecDepth 20000 in
theorem qw_217 : Cond.fieldLink RX5 19 "WarmTubes" "tape" "LWarmTubes$Tape;" ∈ lw_tbl := List.mem_of_getElem? (i := 217) rfl
set_option maxRecDepth 20000 in
theorem qw_55 : Cond.initialized RX3 ∈ lw_tbl := List.mem_of_getElem? (i := 55) rfl
set_option maxRecDepth 20000 in
theorem qw_92 : Cond.instantiable RX3 5 ∈ lw_tbl := List.mem_of_getElem? (i := 92) rfl
set_option maxRecDepth 20000 in
theorem qw_91 : Cond.classLink RX5 16 RX3 ∈ lw_tbl := List.mem_of_getElem? (i := 91) rfl
set_option maxRecDepth 20000 in
theorem qw_216 : Cond.fieldLink RX5 10 "WarmTubes" "rows" "LWarmTubes$Rows;" ∈ lw_tbl := List.mem_of_getElem? (i := 216) rfl
set_option maxRecDepth 20000 in
theorem qw_54 : Cond.initialized RX2 ∈ lw_tbl := List.mem_of_getElem? (i := 54) rfl
set_option maxRecDepth 20000 in
theorem qw_72 : Cond.instantiable RX2 3 ∈ lw_tbl := List.mem_of_getElem? (i := 72) rfl
set_option maxRecDepth 20000 in
theorem qw_71 : Cond.classLink RX5 7 RX2 ∈ lw_tbl := List.mem_of_getElem? (i := 71) rfl
set_option maxRecDepth 20000 in
theorem qw_70 : Cond.code objectInit ⟨#[0xb1]⟩ 1 none ∈ lw_tbl := List.mem_of_getElem? (i := 70) rfl
set_option maxRecDepth 20000 in
theorem qw_69 : Cond.instanceMethod objectInit ∈ lw_tbl := List.mem_of_getElem? (i := 69) rfl
set_option maxRecDepth 20000 in
theorem qw_68 : Cond.methodLink RX5 1 objectInit ∈ lw_tbl := List.mem_of_getElem? (i := 68) rfl
set_option maxRecDepth 20000 in
theorem qw_126 : Cond.fieldLink RX0 15 "WarmTubes$House" "cold" "I" ∈ lw_tbl := List.mem_of_getElem? (i := 126) rfl
set_option maxRecDepth 20000 in
theorem qw_123 : Cond.fieldLink RX0 9 "WarmTubes$House" "frost" "I" ∈ lw_tbl := List.mem_of_getElem? (i := 123) rfl
set_option maxRecDepth 20000 in
theorem qw_122 : Cond.methodLink RX0 3 objectInit ∈ lw_tbl := List.mem_of_getElem? (i := 122) rfl
set_option maxRecDepth 20000 in
theorem qw_121 : Cond.code yX0_init cX0_init 1 none ∈ lw_tbl := List.mem_of_getElem? (i := 121) rfl
set_option maxRecDepth 20000 in
theorem qw_120 : Cond.instanceMethod yX0_init ∈ lw_tbl := List.mem_of_getElem? (i := 120) rfl
set_option maxRecDepth 20000 in
theorem qw_105 : Cond.fieldLink RX3 25 "WarmTubes$Tape" "at" "I" ∈ lw_tbl := List.mem_of_getElem? (i := 105) rfl
set_option maxRecDepth 20000 in
theorem qw_103 : Cond.fieldLink RX3 22 "WarmTubes$Tape" "place" "I" ∈ lw_tbl := List.mem_of_getElem? (i := 103) rfl
set_option maxRecDepth 20000 in
theorem qw_101 : Cond.fieldLink RX3 19 "WarmTubes$Tape" "fault" "I" ∈ lw_tbl := List.mem_of_getElem? (i := 101) rfl
set_option maxRecDepth 20000 in
theorem qw_99 : Cond.fieldLink RX3 15 "WarmTubes$Tape" "length" "I" ∈ lw_tbl := List.mem_of_getElem? (i := 99) rfl
set_option maxRecDepth 20000 in
theorem qw_97 : Cond.fieldLink RX3 11 "WarmTubes$Tape" "bytes" "[I" ∈ lw_tbl := List.mem_of_getElem? (i := 97) rfl
set_option maxRecDepth 20000 in
theorem qw_96 : Cond.methodLink RX3 3 objectInit ∈ lw_tbl := List.mem_of_getElem? (i := 96) rfl
set_option maxRecDepth 20000 in
theorem qw_95 : Cond.code yX3_init cX3_init 1 none ∈ lw_tbl := List.mem_of_getElem? (i := 95) rfl
set_option maxRecDepth 20000 in
theorem qw_94 : Cond.instanceMethod yX3_init ∈ lw_tbl := List.mem_of_getElem? (i := 94) rfl
set_option maxRecDepth 20000 in
theorem qw_81 : Cond.fieldLink RX2 18 "WarmTubes$Rows" "items" "[I" ∈ lw_tbl := List.mem_of_getElem? (i := 81) rfl
set_option maxRecDepth 20000 in
theorem qw_79 : Cond.fieldLink RX2 15 "WarmTubes$Rows" "size" "[I" ∈ lw_tbl := List.mem_of_getElem? (i := 79) rfl
set_option maxRecDepth 20000 in
theorem qw_77 : Cond.fieldLink RX2 11 "WarmTubes$Rows" "lane" "[I" ∈ lw_tbl := List.mem_of_getElem? (i := 77) rfl
set_option maxRecDepth 20000 in
theorem qw_76 : Cond.methodLink RX2 3 objectInit ∈ lw_tbl := List.mem_of_getElem? (i := 76) rfl
set_option maxRecDepth 20000 in
theorem qw_75 : Cond.code yX2_init cX2_init 1 none ∈ lw_tbl := List.mem_of_getElem? (i := 75) rfl
set_option maxRecDepth 20000 in
theorem qw_74 : Cond.instanceMethod yX2_init ∈ lw_tbl := List.mem_of_getElem? (i := 74) rfl
set_option maxRecDepth 20000 in
theorem qw_225 : Cond.fieldLink RX5 59 "WarmTubes" "latestFinding" "I" ∈ lw_tbl := List.mem_of_getElem? (i := 225) rfl
set_option maxRecDepth 20000 in
theorem qw_224 : Cond.fieldLink RX5 55 "WarmTubes" "latestFault" "I" ∈ lw_tbl := List.mem_of_getElem? (i := 224) rfl
set_option maxRecDepth 20000 in
theorem qw_223 : Cond.fieldLink RX5 51 "WarmTubes" "trace" "LWarmTubes$Trace;" ∈ lw_tbl := List.mem_of_getElem? (i := 223) rfl
set_option maxRecDepth 20000 in
theorem qw_58 : Cond.initialized RX4 ∈ lw_tbl := List.mem_of_getElem? (i := 58) rfl
set_option maxRecDepth 20000 in
theorem qw_202 : Cond.instantiable RX4 2 ∈ lw_tbl := List.mem_of_getElem? (i := 202) rfl
set_option maxRecDepth 20000 in
theorem qw_209 : Cond.fieldLink RX4 13 "WarmTubes$Trace" "length" "I" ∈ lw_tbl := List.mem_of_getElem? (i := 209) rfl
set_option maxRecDepth 20000 in
theorem qw_207 : Cond.fieldLink RX4 9 "WarmTubes$Trace" "begun" "[I" ∈ lw_tbl := List.mem_of_getElem? (i := 207) rfl
set_option maxRecDepth 20000 in
theorem qw_206 : Cond.methodLink RX4 1 objectInit ∈ lw_tbl := List.mem_of_getElem? (i := 206) rfl
set_option maxRecDepth 20000 in
theorem qw_205 : Cond.code yX4_init cX4_init 1 none ∈ lw_tbl := List.mem_of_getElem? (i := 205) rfl
set_option maxRecDepth 20000 in
theorem qw_204 : Cond.instanceMethod yX4_init ∈ lw_tbl := List.mem_of_getElem? (i := 204) rfl
set_option maxRecDepth 20000 in
theorem qw_192 : Cond.fieldLink RX1 19 "WarmTubes$Past" "size" "I" ∈ lw_tbl := List.mem_of_getElem? (i := 192) rfl
set_option maxRecDepth 20000 in
theorem qw_191 : Cond.fieldLink RX1 15 "WarmTubes$Past" "next" "I" ∈ lw_tbl := List.mem_of_getElem? (i := 191) rfl
set_option maxRecDepth 20000 in
theorem qw_190 : Cond.fieldLink RX1 11 "WarmTubes$Past" "found" "[I" ∈ lw_tbl := List.mem_of_getElem? (i := 190) rfl
set_option maxRecDepth 20000 in
theorem qw_189 : Cond.methodLink RX1 1 objectInit ∈ lw_tbl := List.mem_of_getElem? (i := 189) rfl
set_option maxRecDepth 20000 in
theorem qw_188 : Cond.code yX1_init cX1_init 1 none ∈ lw_tbl := List.mem_of_getElem? (i := 188) rfl
set_option maxRecDepth 20000 in
theorem qw_187 : Cond.instanceMethod yX1_init ∈ lw_tbl := List.mem_of_getElem? (i := 187) rfl
set_option maxRecDepth 20000 in
theorem qw_155 : Cond.fieldLink RX0 46 "WarmTubes$House" "up" "[I" ∈ lw_tbl := List.mem_of_getElem? (i := 155) rfl
set_option maxRecDepth 20000 in
theorem qw_152 : Cond.fieldLink RX0 43 "WarmTubes$House" "holds" "[I" ∈ lw_tbl := List.mem_of_getElem? (i := 152) rfl
set_option maxRecDepth 20000 in
theorem qw_149 : Cond.fieldLink RX0 40 "WarmTubes$House" "takes" "[I" ∈ lw_tbl := List.mem_of_getElem? (i := 149) rfl
set_option maxRecDepth 20000 in
theorem qw_146 : Cond.fieldLink RX0 37 "WarmTubes$House" "where" "[I" ∈ lw_tbl := List.mem_of_getElem? (i := 146) rfl
set_option maxRecDepth 20000 in
theorem qw_143 : Cond.fieldLink RX0 34 "WarmTubes$House" "sort" "[I" ∈ lw_tbl := List.mem_of_getElem? (i := 143) rfl
set_option maxRecDepth 20000 in
theorem qw_140 : Cond.fieldLink RX0 31 "WarmTubes$House" "stove" "[I" ∈ lw_tbl := List.mem_of_getElem? (i := 140) rfl
set_option maxRecDepth 20000 in
theorem qw_137 : Cond.fieldLink RX0 27 "WarmTubes$House" "warmth" "[I" ∈ lw_tbl := List.mem_of_getElem? (i := 137) rfl
set_option maxRecDepth 20000 in
theorem qw_134 : Cond.fieldLink RX0 24 "WarmTubes$House" "minute" "I" ∈ lw_tbl := List.mem_of_getElem? (i := 134) rfl
set_option maxRecDepth 20000 in
theorem qw_131 : Cond.fieldLink RX0 21 "WarmTubes$House" "tubes" "I" ∈ lw_tbl := List.mem_of_getElem? (i := 131) rfl
set_option maxRecDepth 20000 in
theorem qw_128 : Cond.fieldLink RX0 18 "WarmTubes$House" "rooms" "I" ∈ lw_tbl := List.mem_of_getElem? (i := 128) rfl
set_option maxRecDepth 20000 in
theorem qw_715 : Cond.code yX6_init cX6_init 1 none ∈ lw_tbl := List.mem_of_getElem? (i := 715) rfl
set_option maxRecDepth 20000 in
theorem qw_739 : Cond.fieldLink RX6 44 "WarmTubesModel" "trace" "[I" ∈ lw_tbl := List.mem_of_getElem? (i := 739) rfl
set_option maxRecDepth 20000 in
theorem qw_738 : Cond.fieldLink RX6 41 "WarmTubesModel" "kept" "[I" ∈ lw_tbl := List.mem_of_getElem? (i := 738) rfl
set_option maxRecDepth 20000 in
theorem qw_737 : Cond.fieldLink RX6 37 "WarmTubesModel" "isKept" "[Z" ∈ lw_tbl := List.mem_of_getElem? (i := 737) rfl
set_option maxRecDepth 20000 in
theorem qw_790 : Cond.arrayClass .boolean ∈ lw_tbl := List.mem_of_getElem? (i := 790) rfl
set_option maxRecDepth 20000 in
theorem qw_736 : Cond.fieldLink RX6 34 "WarmTubesModel" "tried" "[I" ∈ lw_tbl := List.mem_of_getElem? (i := 736) rfl
set_option maxRecDepth 20000 in
theorem qw_727 : Cond.fieldLink RX6 31 "WarmTubesModel" "tape" "[I" ∈ lw_tbl := List.mem_of_getElem? (i := 727) rfl
set_option maxRecDepth 20000 in
theorem qw_725 : Cond.fieldLink RX6 28 "WarmTubesModel" "was" "[I" ∈ lw_tbl := List.mem_of_getElem? (i := 725) rfl
set_option maxRecDepth 20000 in
theorem qw_724 : Cond.fieldLink RX6 25 "WarmTubesModel" "then" "[I" ∈ lw_tbl := List.mem_of_getElem? (i := 724) rfl
set_option maxRecDepth 20000 in
theorem qw_723 : Cond.fieldLink RX6 22 "WarmTubesModel" "fresh" "[I" ∈ lw_tbl := List.mem_of_getElem? (i := 723) rfl
set_option maxRecDepth 20000 in
theorem qw_722 : Cond.fieldLink RX6 19 "WarmTubesModel" "house" "[I" ∈ lw_tbl := List.mem_of_getElem? (i := 722) rfl
set_option maxRecDepth 20000 in
theorem qw_721 : Cond.fieldLink RX6 16 "WarmTubesModel" "item" "[I" ∈ lw_tbl := List.mem_of_getElem? (i := 721) rfl
set_option maxRecDepth 20000 in
theorem qw_720 : Cond.fieldLink RX6 13 "WarmTubesModel" "many" "[I" ∈ lw_tbl := List.mem_of_getElem? (i := 720) rfl
set_option maxRecDepth 20000 in
theorem qw_719 : Cond.fieldLink RX6 7 "WarmTubesModel" "lane" "[I" ∈ lw_tbl := List.mem_of_getElem? (i := 719) rfl
set_option maxRecDepth 20000 in
theorem qw_716 : Cond.methodLink RX6 1 objectInit ∈ lw_tbl := List.mem_of_getElem? (i := 716) rfl
set_option maxRecDepth 20000 in
theorem qw_53 : Cond.initialized RX5 ∈ lw_tbl := List.mem_of_getElem? (i := 53) rfl
set_option maxRecDepth 20000 in
theorem qw_249 : Cond.selects RX5 yX5_row yX5_row ∈ lw_tbl := List.mem_of_getElem? (i := 249) rfl
set_option maxRecDepth 20000 in
theorem qw_248 : Cond.instanceMethod yX5_row ∈ lw_tbl := List.mem_of_getElem? (i := 248) rfl
set_option maxRecDepth 20000 in
theorem qw_247 : Cond.methodLink RL 13 yX5_row ∈ lw_tbl := List.mem_of_getElem? (i := 247) rfl
set_option maxRecDepth 20000 in
theorem qw_250 : Cond.code yX5_row cX5_row 4 (some .int) ∈ lw_tbl := List.mem_of_getElem? (i := 250) rfl
set_option maxRecDepth 20000 in
theorem qw_267 : Cond.methodLink RX2 21 yX2_at ∈ lw_tbl := List.mem_of_getElem? (i := 267) rfl
set_option maxRecDepth 20000 in
theorem qw_266 : Cond.code yX2_lay cX2_lay 5 none ∈ lw_tbl := List.mem_of_getElem? (i := 266) rfl
set_option maxRecDepth 20000 in
theorem qw_265 : Cond.selects RX2 yX2_lay yX2_lay ∈ lw_tbl := List.mem_of_getElem? (i := 265) rfl
set_option maxRecDepth 20000 in
theorem qw_264 : Cond.instanceMethod yX2_lay ∈ lw_tbl := List.mem_of_getElem? (i := 264) rfl
set_option maxRecDepth 20000 in
theorem qw_263 : Cond.methodLink RX5 75 yX2_lay ∈ lw_tbl := List.mem_of_getElem? (i := 263) rfl
set_option maxRecDepth 20000 in
theorem qw_262 : Cond.constant RX5 325 (-1000010) ∈ lw_tbl := List.mem_of_getElem? (i := 262) rfl
set_option maxRecDepth 20000 in
theorem qw_261 : Cond.code yX5_found cX5_found 2 (some .int) ∈ lw_tbl := List.mem_of_getElem? (i := 261) rfl
set_option maxRecDepth 20000 in
theorem qw_0 : Cond.selects RX5 yX5_found yX5_found ∈ lw_tbl := List.mem_of_getElem? (i := 0) rfl
set_option maxRecDepth 20000 in
theorem qw_260 : Cond.instanceMethod yX5_found ∈ lw_tbl := List.mem_of_getElem? (i := 260) rfl
set_option maxRecDepth 20000 in
theorem qw_258 : Cond.methodLink RX5 71 yX5_found ∈ lw_tbl := List.mem_of_getElem? (i := 258) rfl
set_option maxRecDepth 20000 in
theorem qw_256 : Cond.code yX5_within cX5_within 3 (some .boolean) ∈ lw_tbl := List.mem_of_getElem? (i := 256) rfl
set_option maxRecDepth 20000 in
theorem qw_255 : Cond.static yX5_within ∈ lw_tbl := List.mem_of_getElem? (i := 255) rfl
set_option maxRecDepth 20000 in
theorem qw_254 : Cond.methodLink RX5 66 yX5_within ∈ lw_tbl := List.mem_of_getElem? (i := 254) rfl
set_option maxRecDepth 20000 in
theorem qw_253 : Cond.code yX5_isRow cX5_isRow 1 (some .boolean) ∈ lw_tbl := List.mem_of_getElem? (i := 253) rfl
set_option maxRecDepth 20000 in
theorem qw_252 : Cond.static yX5_isRow ∈ lw_tbl := List.mem_of_getElem? (i := 252) rfl
set_option maxRecDepth 20000 in
theorem qw_251 : Cond.methodLink RX5 62 yX5_isRow ∈ lw_tbl := List.mem_of_getElem? (i := 251) rfl
set_option maxRecDepth 20000 in
theorem qw_257 : Cond.constant RX5 70 (-1000001) ∈ lw_tbl := List.mem_of_getElem? (i := 257) rfl
set_option maxRecDepth 20000 in
theorem qw_274 : Cond.code yX5_plain cX5_plain 2 (some .int) ∈ lw_tbl := List.mem_of_getElem? (i := 274) rfl
set_option maxRecDepth 20000 in
theorem qw_1 : Cond.selects RX5 yX5_plain yX5_plain ∈ lw_tbl := List.mem_of_getElem? (i := 1) rfl
set_option maxRecDepth 20000 in
theorem qw_273 : Cond.instanceMethod yX5_plain ∈ lw_tbl := List.mem_of_getElem? (i := 273) rfl
set_option maxRecDepth 20000 in
theorem qw_271 : Cond.methodLink RX5 79 yX5_plain ∈ lw_tbl := List.mem_of_getElem? (i := 271) rfl
set_option maxRecDepth 20000 in
theorem qw_270 : Cond.code yX2_at cX2_at 3 (some .int) ∈ lw_tbl := List.mem_of_getElem? (i := 270) rfl
set_option maxRecDepth 20000 in
theorem qw_269 : Cond.selects RX2 yX2_at yX2_at ∈ lw_tbl := List.mem_of_getElem? (i := 269) rfl
set_option maxRecDepth 20000 in
theorem qw_268 : Cond.instanceMethod yX2_at ∈ lw_tbl := List.mem_of_getElem? (i := 268) rfl
set_option maxRecDepth 20000 in
theorem qw_59 : Cond.initialized RX6 ∈ lw_tbl := List.mem_of_getElem? (i := 59) rfl
set_option maxRecDepth 20000 in
theorem qw_793 : Cond.selects RX6 yX6_row yX6_row ∈ lw_tbl := List.mem_of_getElem? (i := 793) rfl
set_option maxRecDepth 20000 in
theorem qw_792 : Cond.instanceMethod yX6_row ∈ lw_tbl := List.mem_of_getElem? (i := 792) rfl
set_option maxRecDepth 20000 in
theorem qw_791 : Cond.methodLink RL 17 yX6_row ∈ lw_tbl := List.mem_of_getElem? (i := 791) rfl
set_option maxRecDepth 20000 in
theorem qw_794 : Cond.code yX6_row cX6_row 5 (some .int) ∈ lw_tbl := List.mem_of_getElem? (i := 794) rfl
set_option maxRecDepth 20000 in
theorem qw_808 : Cond.constant RX6 54 (-1000010) ∈ lw_tbl := List.mem_of_getElem? (i := 808) rfl
set_option maxRecDepth 20000 in
theorem qw_807 : Cond.code yX6_finding cX6_finding 2 (some .int) ∈ lw_tbl := List.mem_of_getElem? (i := 807) rfl
set_option maxRecDepth 20000 in
theorem qw_23 : Cond.selects RX6 yX6_finding yX6_finding ∈ lw_tbl := List.mem_of_getElem? (i := 23) rfl
set_option maxRecDepth 20000 in
theorem qw_806 : Cond.instanceMethod yX6_finding ∈ lw_tbl := List.mem_of_getElem? (i := 806) rfl
set_option maxRecDepth 20000 in
theorem qw_804 : Cond.methodLink RX6 68 yX6_finding ∈ lw_tbl := List.mem_of_getElem? (i := 804) rfl
set_option maxRecDepth 20000 in
theorem qw_801 : Cond.code yX6_in cX6_in 6 (some .boolean) ∈ lw_tbl := List.mem_of_getElem? (i := 801) rfl
set_option maxRecDepth 20000 in
theorem qw_800 : Cond.static yX6_in ∈ lw_tbl := List.mem_of_getElem? (i := 800) rfl
set_option maxRecDepth 20000 in
theorem qw_799 : Cond.methodLink RX6 57 yX6_in ∈ lw_tbl := List.mem_of_getElem? (i := 799) rfl
set_option maxRecDepth 20000 in
theorem qw_798 : Cond.constantLong RX6 55 (7) ∈ lw_tbl := List.mem_of_getElem? (i := 798) rfl
set_option maxRecDepth 20000 in
theorem qw_797 : Cond.code yX6_isRow cX6_isRow 1 (some .boolean) ∈ lw_tbl := List.mem_of_getElem? (i := 797) rfl
set_option maxRecDepth 20000 in
theorem qw_796 : Cond.static yX6_isRow ∈ lw_tbl := List.mem_of_getElem? (i := 796) rfl
set_option maxRecDepth 20000 in
theorem qw_795 : Cond.methodLink RX6 61 yX6_isRow ∈ lw_tbl := List.mem_of_getElem? (i := 795) rfl
set_option maxRecDepth 20000 in
theorem qw_718 : Cond.fieldLink RX6 51 "WarmTubesModel" "status" "I" ∈ lw_tbl := List.mem_of_getElem? (i := 718) rfl
set_option maxRecDepth 20000 in
theorem qw_803 : Cond.constant RX6 67 (-1000001) ∈ lw_tbl := List.mem_of_getElem? (i := 803) rfl
set_option maxRecDepth 20000 in
theorem qw_802 : Cond.constantLong RX6 65 (2) ∈ lw_tbl := List.mem_of_getElem? (i := 802) rfl
set_option maxRecDepth 20000 in
theorem qw_717 : Cond.fieldLink RX6 47 "WarmTubesModel" "thrown" "I" ∈ lw_tbl := List.mem_of_getElem? (i := 717) rfl
set_option maxRecDepth 20000 in
theorem qw_277 : Cond.selects RX5 yX5_set yX5_set ∈ lw_tbl := List.mem_of_getElem? (i := 277) rfl
set_option maxRecDepth 20000 in
theorem qw_276 : Cond.instanceMethod yX5_set ∈ lw_tbl := List.mem_of_getElem? (i := 276) rfl
set_option maxRecDepth 20000 in
theorem qw_275 : Cond.methodLink RL 18 yX5_set ∈ lw_tbl := List.mem_of_getElem? (i := 275) rfl
set_option maxRecDepth 20000 in
theorem qw_278 : Cond.code yX5_set cX5_set 5 (some .int) ∈ lw_tbl := List.mem_of_getElem? (i := 278) rfl
set_option maxRecDepth 20000 in
theorem qw_286 : Cond.code yX2_isMissing cX2_isMissing 2 (some .boolean) ∈ lw_tbl := List.mem_of_getElem? (i := 286) rfl
set_option maxRecDepth 20000 in
theorem qw_285 : Cond.selects RX2 yX2_isMissing yX2_isMissing ∈ lw_tbl := List.mem_of_getElem? (i := 285) rfl
set_option maxRecDepth 20000 in
theorem qw_284 : Cond.instanceMethod yX2_isMissing ∈ lw_tbl := List.mem_of_getElem? (i := 284) rfl
set_option maxRecDepth 20000 in
theorem qw_283 : Cond.methodLink RX2 25 yX2_isMissing ∈ lw_tbl := List.mem_of_getElem? (i := 283) rfl
set_option maxRecDepth 20000 in
theorem qw_282 : Cond.code yX2_reach cX2_reach 4 (some .int) ∈ lw_tbl := List.mem_of_getElem? (i := 282) rfl
set_option maxRecDepth 20000 in
theorem qw_281 : Cond.selects RX2 yX2_reach yX2_reach ∈ lw_tbl := List.mem_of_getElem? (i := 281) rfl
set_option maxRecDepth 20000 in
theorem qw_280 : Cond.instanceMethod yX2_reach ∈ lw_tbl := List.mem_of_getElem? (i := 280) rfl
set_option maxRecDepth 20000 in
theorem qw_279 : Cond.methodLink RX5 82 yX2_reach ∈ lw_tbl := List.mem_of_getElem? (i := 279) rfl
set_option maxRecDepth 20000 in
theorem qw_290 : Cond.code yX2_put cX2_put 5 (some .int) ∈ lw_tbl := List.mem_of_getElem? (i := 290) rfl
set_option maxRecDepth 20000 in
theorem qw_289 : Cond.selects RX2 yX2_put yX2_put ∈ lw_tbl := List.mem_of_getElem? (i := 289) rfl
set_option maxRecDepth 20000 in
theorem qw_288 : Cond.instanceMethod yX2_put ∈ lw_tbl := List.mem_of_getElem? (i := 288) rfl
set_option maxRecDepth 20000 in
theorem qw_287 : Cond.methodLink RX5 86 yX2_put ∈ lw_tbl := List.mem_of_getElem? (i := 287) rfl
set_option maxRecDepth 20000 in
theorem qw_811 : Cond.selects RX6 yX6_set yX6_set ∈ lw_tbl := List.mem_of_getElem? (i := 811) rfl
set_option maxRecDepth 20000 in
theorem qw_810 : Cond.instanceMethod yX6_set ∈ lw_tbl := List.mem_of_getElem? (i := 810) rfl
set_option maxRecDepth 20000 in
theorem qw_809 : Cond.methodLink RL 21 yX6_set ∈ lw_tbl := List.mem_of_getElem? (i := 809) rfl
set_option maxRecDepth 20000 in
theorem qw_812 : Cond.code yX6_set cX6_set 4 (some .int) ∈ lw_tbl := List.mem_of_getElem? (i := 812) rfl
set_option maxRecDepth 20000 in
theorem qw_293 : Cond.selects RX5 yX5_copy yX5_copy ∈ lw_tbl := List.mem_of_getElem? (i := 293) rfl
set_option maxRecDepth 20000 in
theorem qw_292 : Cond.instanceMethod yX5_copy ∈ lw_tbl := List.mem_of_getElem? (i := 292) rfl
set_option maxRecDepth 20000 in
theorem qw_291 : Cond.methodLink RL 22 yX5_copy ∈ lw_tbl := List.mem_of_getElem? (i := 291) rfl
set_option maxRecDepth 20000 in
theorem qw_294 : Cond.code yX5_copy cX5_copy 6 (some .int) ∈ lw_tbl := List.mem_of_getElem? (i := 294) rfl
set_option maxRecDepth 20000 in
theorem qw_295 : Cond.methodLink RX5 89 yX2_isMissing ∈ lw_tbl := List.mem_of_getElem? (i := 295) rfl
set_option maxRecDepth 20000 in
theorem qw_60 : Cond.initialized "java/lang/System" ∈ lw_tbl := List.mem_of_getElem? (i := 60) rfl
set_option maxRecDepth 20000 in
theorem qw_298 : Cond.static arraycopyName ∈ lw_tbl := List.mem_of_getElem? (i := 298) rfl
set_option maxRecDepth 20000 in
theorem qw_299 : Cond.native arraycopyName ∈ lw_tbl := List.mem_of_getElem? (i := 299) rfl
set_option maxRecDepth 20000 in
theorem qw_297 : Cond.methodLink RX5 102 arraycopyName ∈ lw_tbl := List.mem_of_getElem? (i := 297) rfl
set_option maxRecDepth 20000 in
theorem qw_82 : Cond.fieldLink RX5 95 "WarmTubes$Rows" "items" "[I" ∈ lw_tbl := List.mem_of_getElem? (i := 82) rfl
set_option maxRecDepth 20000 in
theorem qw_78 : Cond.fieldLink RX5 92 "WarmTubes$Rows" "lane" "[I" ∈ lw_tbl := List.mem_of_getElem? (i := 78) rfl
set_option maxRecDepth 20000 in
theorem qw_296 : Cond.methodLink RX5 98 yX2_at ∈ lw_tbl := List.mem_of_getElem? (i := 296) rfl
set_option maxRecDepth 20000 in
theorem qw_815 : Cond.selects RX6 yX6_copy yX6_copy ∈ lw_tbl := List.mem_of_getElem? (i := 815) rfl
set_option maxRecDepth 20000 in
theorem qw_814 : Cond.instanceMethod yX6_copy ∈ lw_tbl := List.mem_of_getElem? (i := 814) rfl
set_option maxRecDepth 20000 in
theorem qw_813 : Cond.methodLink RL 26 yX6_copy ∈ lw_tbl := List.mem_of_getElem? (i := 813) rfl
set_option maxRecDepth 20000 in
theorem qw_816 : Cond.code yX6_copy cX6_copy 9 (some .int) ∈ lw_tbl := List.mem_of_getElem? (i := 816) rfl
set_option maxRecDepth 20000 in
theorem qw_302 : Cond.selects RX5 yX5_drop yX5_drop ∈ lw_tbl := List.mem_of_getElem? (i := 302) rfl
set_option maxRecDepth 20000 in
theorem qw_301 : Cond.instanceMethod yX5_drop ∈ lw_tbl := List.mem_of_getElem? (i := 301) rfl
set_option maxRecDepth 20000 in
theorem qw_300 : Cond.methodLink RL 27 yX5_drop ∈ lw_tbl := List.mem_of_getElem? (i := 300) rfl
set_option maxRecDepth 20000 in
theorem qw_303 : Cond.code yX5_drop cX5_drop 3 (some .int) ∈ lw_tbl := List.mem_of_getElem? (i := 303) rfl
set_option maxRecDepth 20000 in
theorem qw_305 : Cond.instanceMethod yX2_lose ∈ lw_tbl := List.mem_of_getElem? (i := 305) rfl
set_option maxRecDepth 20000 in
theorem qw_304 : Cond.methodLink RX5 111 yX2_lose ∈ lw_tbl := List.mem_of_getElem? (i := 304) rfl
set_option maxRecDepth 20000 in
theorem qw_80 : Cond.fieldLink RX5 108 "WarmTubes$Rows" "size" "[I" ∈ lw_tbl := List.mem_of_getElem? (i := 80) rfl
set_option maxRecDepth 20000 in
theorem qw_307 : Cond.code yX2_lose cX2_lose 2 none ∈ lw_tbl := List.mem_of_getElem? (i := 307) rfl
set_option maxRecDepth 20000 in
theorem qw_306 : Cond.selects RX2 yX2_lose yX2_lose ∈ lw_tbl := List.mem_of_getElem? (i := 306) rfl
set_option maxRecDepth 20000 in
theorem qw_819 : Cond.selects RX6 yX6_drop yX6_drop ∈ lw_tbl := List.mem_of_getElem? (i := 819) rfl
set_option maxRecDepth 20000 in
theorem qw_818 : Cond.instanceMethod yX6_drop ∈ lw_tbl := List.mem_of_getElem? (i := 818) rfl
set_option maxRecDepth 20000 in
theorem qw_817 : Cond.methodLink RL 31 yX6_drop ∈ lw_tbl := List.mem_of_getElem? (i := 817) rfl
set_option maxRecDepth 20000 in
theorem qw_820 : Cond.code yX6_drop cX6_drop 2 (some .int) ∈ lw_tbl := List.mem_of_getElem? (i := 820) rfl
set_option maxRecDepth 20000 in
theorem qw_310 : Cond.selects RX5 yX5_feed yX5_feed ∈ lw_tbl := List.mem_of_getElem? (i := 310) rfl
set_option maxRecDepth 20000 in
theorem qw_309 : Cond.instanceMethod yX5_feed ∈ lw_tbl := List.mem_of_getElem? (i := 309) rfl
set_option maxRecDepth 20000 in
theorem qw_308 : Cond.methodLink RL 32 yX5_feed ∈ lw_tbl := List.mem_of_getElem? (i := 308) rfl
set_option maxRecDepth 20000 in
theorem qw_311 : Cond.code yX5_feed cX5_feed 2 (some .int) ∈ lw_tbl := List.mem_of_getElem? (i := 311) rfl
set_option maxRecDepth 20000 in
theorem qw_98 : Cond.fieldLink RX5 119 "WarmTubes$Tape" "bytes" "[I" ∈ lw_tbl := List.mem_of_getElem? (i := 98) rfl
set_option maxRecDepth 20000 in
theorem qw_312 : Cond.constant RX5 118 (-1000003) ∈ lw_tbl := List.mem_of_getElem? (i := 312) rfl
set_option maxRecDepth 20000 in
theorem qw_100 : Cond.fieldLink RX5 115 "WarmTubes$Tape" "length" "I" ∈ lw_tbl := List.mem_of_getElem? (i := 100) rfl
set_option maxRecDepth 20000 in
theorem qw_823 : Cond.selects RX6 yX6_feed yX6_feed ∈ lw_tbl := List.mem_of_getElem? (i := 823) rfl
set_option maxRecDepth 20000 in
theorem qw_822 : Cond.instanceMethod yX6_feed ∈ lw_tbl := List.mem_of_getElem? (i := 822) rfl
set_option maxRecDepth 20000 in
theorem qw_821 : Cond.methodLink RL 35 yX6_feed ∈ lw_tbl := List.mem_of_getElem? (i := 821) rfl
set_option maxRecDepth 20000 in
theorem qw_824 : Cond.code yX6_feed cX6_feed 2 (some .int) ∈ lw_tbl := List.mem_of_getElem? (i := 824) rfl
set_option maxRecDepth 20000 in
theorem qw_826 : Cond.constant RX6 77 (-1000003) ∈ lw_tbl := List.mem_of_getElem? (i := 826) rfl
set_option maxRecDepth 20000 in
theorem qw_728 : Cond.fieldLink RX6 74 "WarmTubesModel" "taped" "I" ∈ lw_tbl := List.mem_of_getElem? (i := 728) rfl
set_option maxRecDepth 20000 in
theorem qw_825 : Cond.constantLong RX6 72 (255) ∈ lw_tbl := List.mem_of_getElem? (i := 825) rfl
set_option maxRecDepth 20000 in
theorem qw_315 : Cond.selects RX5 yX5_house yX5_house ∈ lw_tbl := List.mem_of_getElem? (i := 315) rfl
set_option maxRecDepth 20000 in
theorem qw_314 : Cond.instanceMethod yX5_house ∈ lw_tbl := List.mem_of_getElem? (i := 314) rfl
set_option maxRecDepth 20000 in
theorem qw_313 : Cond.methodLink RL 36 yX5_house ∈ lw_tbl := List.mem_of_getElem? (i := 313) rfl
set_option maxRecDepth 20000 in
theorem qw_316 : Cond.code yX5_house cX5_house 2 (some .int) ∈ lw_tbl := List.mem_of_getElem? (i := 316) rfl
set_option maxRecDepth 20000 in
theorem qw_124 : Cond.fieldLink RX3 57 "WarmTubes$House" "frost" "I" ∈ lw_tbl := List.mem_of_getElem? (i := 124) rfl
set_option maxRecDepth 20000 in
theorem qw_324 : Cond.code yX3_tellLaw cX3_tellLaw 2 (some .boolean) ∈ lw_tbl := List.mem_of_getElem? (i := 324) rfl
set_option maxRecDepth 20000 in
theorem qw_2 : Cond.selects RX3 yX3_tellLaw yX3_tellLaw ∈ lw_tbl := List.mem_of_getElem? (i := 2) rfl
set_option maxRecDepth 20000 in
theorem qw_323 : Cond.instanceMethod yX3_tellLaw ∈ lw_tbl := List.mem_of_getElem? (i := 323) rfl
set_option maxRecDepth 20000 in
theorem qw_321 : Cond.methodLink RX3 39 yX3_tellLaw ∈ lw_tbl := List.mem_of_getElem? (i := 321) rfl
set_option maxRecDepth 20000 in
theorem qw_135 : Cond.fieldLink RX3 36 "WarmTubes$House" "minute" "I" ∈ lw_tbl := List.mem_of_getElem? (i := 135) rfl
set_option maxRecDepth 20000 in
theorem qw_132 : Cond.fieldLink RX3 33 "WarmTubes$House" "tubes" "I" ∈ lw_tbl := List.mem_of_getElem? (i := 132) rfl
set_option maxRecDepth 20000 in
theorem qw_129 : Cond.fieldLink RX3 28 "WarmTubes$House" "rooms" "I" ∈ lw_tbl := List.mem_of_getElem? (i := 129) rfl
set_option maxRecDepth 20000 in
theorem qw_320 : Cond.code yX3_tell cX3_tell 2 (some .boolean) ∈ lw_tbl := List.mem_of_getElem? (i := 320) rfl
set_option maxRecDepth 20000 in
theorem qw_319 : Cond.selects RX3 yX3_tell yX3_tell ∈ lw_tbl := List.mem_of_getElem? (i := 319) rfl
set_option maxRecDepth 20000 in
theorem qw_318 : Cond.instanceMethod yX3_tell ∈ lw_tbl := List.mem_of_getElem? (i := 318) rfl
set_option maxRecDepth 20000 in
theorem qw_317 : Cond.methodLink RX5 122 yX3_tell ∈ lw_tbl := List.mem_of_getElem? (i := 317) rfl
set_option maxRecDepth 20000 in
theorem qw_133 : Cond.fieldLink RX5 140 "WarmTubes$House" "tubes" "I" ∈ lw_tbl := List.mem_of_getElem? (i := 133) rfl
set_option maxRecDepth 20000 in
theorem qw_104 : Cond.fieldLink RX5 130 "WarmTubes$Tape" "place" "I" ∈ lw_tbl := List.mem_of_getElem? (i := 104) rfl
set_option maxRecDepth 20000 in
theorem qw_361 : Cond.constant RX5 129 (-1000100) ∈ lw_tbl := List.mem_of_getElem? (i := 361) rfl
set_option maxRecDepth 20000 in
theorem qw_102 : Cond.fieldLink RX5 126 "WarmTubes$Tape" "fault" "I" ∈ lw_tbl := List.mem_of_getElem? (i := 102) rfl
set_option maxRecDepth 20000 in
theorem qw_340 : Cond.code yX3_number cX3_number 7 (some .int) ∈ lw_tbl := List.mem_of_getElem? (i := 340) rfl
set_option maxRecDepth 20000 in
theorem qw_6 : Cond.selects RX3 yX3_number yX3_number ∈ lw_tbl := List.mem_of_getElem? (i := 6) rfl
set_option maxRecDepth 20000 in
theorem qw_339 : Cond.instanceMethod yX3_number ∈ lw_tbl := List.mem_of_getElem? (i := 339) rfl
set_option maxRecDepth 20000 in
theorem qw_337 : Cond.methodLink RX3 53 yX3_number ∈ lw_tbl := List.mem_of_getElem? (i := 337) rfl
set_option maxRecDepth 20000 in
theorem qw_336 : Cond.code yX3_fail cX3_fail 2 (some .boolean) ∈ lw_tbl := List.mem_of_getElem? (i := 336) rfl
set_option maxRecDepth 20000 in
theorem qw_5 : Cond.selects RX3 yX3_fail yX3_fail ∈ lw_tbl := List.mem_of_getElem? (i := 5) rfl
set_option maxRecDepth 20000 in
theorem qw_335 : Cond.instanceMethod yX3_fail ∈ lw_tbl := List.mem_of_getElem? (i := 335) rfl
set_option maxRecDepth 20000 in
theorem qw_333 : Cond.methodLink RX3 67 yX3_fail ∈ lw_tbl := List.mem_of_getElem? (i := 333) rfl
set_option maxRecDepth 20000 in
theorem qw_332 : Cond.code yX3_peek cX3_peek 1 (some .int) ∈ lw_tbl := List.mem_of_getElem? (i := 332) rfl
set_option maxRecDepth 20000 in
theorem qw_4 : Cond.selects RX3 yX3_peek yX3_peek ∈ lw_tbl := List.mem_of_getElem? (i := 4) rfl
set_option maxRecDepth 20000 in
theorem qw_331 : Cond.instanceMethod yX3_peek ∈ lw_tbl := List.mem_of_getElem? (i := 331) rfl
set_option maxRecDepth 20000 in
theorem qw_329 : Cond.methodLink RX3 63 yX3_peek ∈ lw_tbl := List.mem_of_getElem? (i := 329) rfl
set_option maxRecDepth 20000 in
theorem qw_328 : Cond.code yX3_pass cX3_pass 2 (some .boolean) ∈ lw_tbl := List.mem_of_getElem? (i := 328) rfl
set_option maxRecDepth 20000 in
theorem qw_3 : Cond.selects RX3 yX3_pass yX3_pass ∈ lw_tbl := List.mem_of_getElem? (i := 3) rfl
set_option maxRecDepth 20000 in
theorem qw_327 : Cond.instanceMethod yX3_pass ∈ lw_tbl := List.mem_of_getElem? (i := 327) rfl
set_option maxRecDepth 20000 in
theorem qw_325 : Cond.methodLink RX3 49 yX3_pass ∈ lw_tbl := List.mem_of_getElem? (i := 325) rfl
set_option maxRecDepth 20000 in
theorem qw_127 : Cond.fieldLink RX3 60 "WarmTubes$House" "cold" "I" ∈ lw_tbl := List.mem_of_getElem? (i := 127) rfl
set_option maxRecDepth 20000 in
theorem qw_147 : Cond.fieldLink RX3 93 "WarmTubes$House" "where" "[I" ∈ lw_tbl := List.mem_of_getElem? (i := 147) rfl
set_option maxRecDepth 20000 in
theorem qw_156 : Cond.fieldLink RX3 90 "WarmTubes$House" "up" "[I" ∈ lw_tbl := List.mem_of_getElem? (i := 156) rfl
set_option maxRecDepth 20000 in
theorem qw_360 : Cond.code yX3_tellTube cX3_tellTube 3 (some .boolean) ∈ lw_tbl := List.mem_of_getElem? (i := 360) rfl
set_option maxRecDepth 20000 in
theorem qw_10 : Cond.selects RX3 yX3_tellTube yX3_tellTube ∈ lw_tbl := List.mem_of_getElem? (i := 10) rfl
set_option maxRecDepth 20000 in
theorem qw_359 : Cond.instanceMethod yX3_tellTube ∈ lw_tbl := List.mem_of_getElem? (i := 359) rfl
set_option maxRecDepth 20000 in
theorem qw_357 : Cond.methodLink RX3 87 yX3_tellTube ∈ lw_tbl := List.mem_of_getElem? (i := 357) rfl
set_option maxRecDepth 20000 in
theorem qw_356 : Cond.code yX3_sortOf cX3_sortOf 1 (some .int) ∈ lw_tbl := List.mem_of_getElem? (i := 356) rfl
set_option maxRecDepth 20000 in
theorem qw_355 : Cond.static yX3_sortOf ∈ lw_tbl := List.mem_of_getElem? (i := 355) rfl
set_option maxRecDepth 20000 in
theorem qw_354 : Cond.methodLink RX3 80 yX3_sortOf ∈ lw_tbl := List.mem_of_getElem? (i := 354) rfl
set_option maxRecDepth 20000 in
theorem qw_144 : Cond.fieldLink RX3 84 "WarmTubes$House" "sort" "[I" ∈ lw_tbl := List.mem_of_getElem? (i := 144) rfl
set_option maxRecDepth 20000 in
theorem qw_353 : Cond.code yX3_tellTubes cX3_tellTubes 4 (some .boolean) ∈ lw_tbl := List.mem_of_getElem? (i := 353) rfl
set_option maxRecDepth 20000 in
theorem qw_9 : Cond.selects RX3 yX3_tellTubes yX3_tellTubes ∈ lw_tbl := List.mem_of_getElem? (i := 9) rfl
set_option maxRecDepth 20000 in
theorem qw_352 : Cond.instanceMethod yX3_tellTubes ∈ lw_tbl := List.mem_of_getElem? (i := 352) rfl
set_option maxRecDepth 20000 in
theorem qw_350 : Cond.methodLink RX3 46 yX3_tellTubes ∈ lw_tbl := List.mem_of_getElem? (i := 350) rfl
set_option maxRecDepth 20000 in
theorem qw_141 : Cond.fieldLink RX3 77 "WarmTubes$House" "stove" "[I" ∈ lw_tbl := List.mem_of_getElem? (i := 141) rfl
set_option maxRecDepth 20000 in
theorem qw_138 : Cond.fieldLink RX3 74 "WarmTubes$House" "warmth" "[I" ∈ lw_tbl := List.mem_of_getElem? (i := 138) rfl
set_option maxRecDepth 20000 in
theorem qw_349 : Cond.code yX3_tellRoom cX3_tellRoom 3 (some .boolean) ∈ lw_tbl := List.mem_of_getElem? (i := 349) rfl
set_option maxRecDepth 20000 in
theorem qw_8 : Cond.selects RX3 yX3_tellRoom yX3_tellRoom ∈ lw_tbl := List.mem_of_getElem? (i := 8) rfl
set_option maxRecDepth 20000 in
theorem qw_348 : Cond.instanceMethod yX3_tellRoom ∈ lw_tbl := List.mem_of_getElem? (i := 348) rfl
set_option maxRecDepth 20000 in
theorem qw_346 : Cond.methodLink RX3 70 yX3_tellRoom ∈ lw_tbl := List.mem_of_getElem? (i := 346) rfl
set_option maxRecDepth 20000 in
theorem qw_345 : Cond.code yX3_tellRooms cX3_tellRooms 3 (some .boolean) ∈ lw_tbl := List.mem_of_getElem? (i := 345) rfl
set_option maxRecDepth 20000 in
theorem qw_7 : Cond.selects RX3 yX3_tellRooms yX3_tellRooms ∈ lw_tbl := List.mem_of_getElem? (i := 7) rfl
set_option maxRecDepth 20000 in
theorem qw_344 : Cond.instanceMethod yX3_tellRooms ∈ lw_tbl := List.mem_of_getElem? (i := 344) rfl
set_option maxRecDepth 20000 in
theorem qw_342 : Cond.methodLink RX3 43 yX3_tellRooms ∈ lw_tbl := List.mem_of_getElem? (i := 342) rfl
set_option maxRecDepth 20000 in
theorem qw_367 : Cond.methodLink RX5 137 yX1_forget ∈ lw_tbl := List.mem_of_getElem? (i := 367) rfl
set_option maxRecDepth 20000 in
theorem qw_366 : Cond.methodLink RX0 49 arraycopyName ∈ lw_tbl := List.mem_of_getElem? (i := 366) rfl
set_option maxRecDepth 20000 in
theorem qw_365 : Cond.code yX0_become cX0_become 2 none ∈ lw_tbl := List.mem_of_getElem? (i := 365) rfl
set_option maxRecDepth 20000 in
theorem qw_364 : Cond.selects RX0 yX0_become yX0_become ∈ lw_tbl := List.mem_of_getElem? (i := 364) rfl
set_option maxRecDepth 20000 in
theorem qw_363 : Cond.instanceMethod yX0_become ∈ lw_tbl := List.mem_of_getElem? (i := 363) rfl
set_option maxRecDepth 20000 in
theorem qw_362 : Cond.methodLink RX5 133 yX0_become ∈ lw_tbl := List.mem_of_getElem? (i := 362) rfl
set_option maxRecDepth 20000 in
theorem qw_153 : Cond.fieldLink RX3 99 "WarmTubes$House" "holds" "[I" ∈ lw_tbl := List.mem_of_getElem? (i := 153) rfl
set_option maxRecDepth 20000 in
theorem qw_150 : Cond.fieldLink RX3 96 "WarmTubes$House" "takes" "[I" ∈ lw_tbl := List.mem_of_getElem? (i := 150) rfl
set_option maxRecDepth 20000 in
theorem qw_370 : Cond.code yX1_forget cX1_forget 1 none ∈ lw_tbl := List.mem_of_getElem? (i := 370) rfl
set_option maxRecDepth 20000 in
theorem qw_369 : Cond.selects RX1 yX1_forget yX1_forget ∈ lw_tbl := List.mem_of_getElem? (i := 369) rfl
set_option maxRecDepth 20000 in
theorem qw_368 : Cond.instanceMethod yX1_forget ∈ lw_tbl := List.mem_of_getElem? (i := 368) rfl
set_option maxRecDepth 20000 in
theorem qw_833 : Cond.selects RX6 yX6_house yX6_house ∈ lw_tbl := List.mem_of_getElem? (i := 833) rfl
set_option maxRecDepth 20000 in
theorem qw_832 : Cond.instanceMethod yX6_house ∈ lw_tbl := List.mem_of_getElem? (i := 832) rfl
set_option maxRecDepth 20000 in
theorem qw_831 : Cond.methodLink RL 40 yX6_house ∈ lw_tbl := List.mem_of_getElem? (i := 831) rfl
set_option maxRecDepth 20000 in
theorem qw_834 : Cond.code yX6_house cX6_house 2 (some .int) ∈ lw_tbl := List.mem_of_getElem? (i := 834) rfl
set_option maxRecDepth 20000 in
theorem qw_845 : Cond.constantLong RX6 96 (122) ∈ lw_tbl := List.mem_of_getElem? (i := 845) rfl
set_option maxRecDepth 20000 in
theorem qw_844 : Cond.constantLong RX6 94 (97) ∈ lw_tbl := List.mem_of_getElem? (i := 844) rfl
set_option maxRecDepth 20000 in
theorem qw_732 : Cond.fieldLink RX6 91 "WarmTubesModel" "value" "I" ∈ lw_tbl := List.mem_of_getElem? (i := 732) rfl
set_option maxRecDepth 20000 in
theorem qw_843 : Cond.constant RX6 90 (-1000000) ∈ lw_tbl := List.mem_of_getElem? (i := 843) rfl
set_option maxRecDepth 20000 in
theorem qw_730 : Cond.fieldLink RX6 81 "WarmTubesModel" "start" "I" ∈ lw_tbl := List.mem_of_getElem? (i := 730) rfl
set_option maxRecDepth 20000 in
theorem qw_842 : Cond.code yX6_nextToken cX6_nextToken 1 none ∈ lw_tbl := List.mem_of_getElem? (i := 842) rfl
set_option maxRecDepth 20000 in
theorem qw_25 : Cond.selects RX6 yX6_nextToken yX6_nextToken ∈ lw_tbl := List.mem_of_getElem? (i := 25) rfl
set_option maxRecDepth 20000 in
theorem qw_841 : Cond.instanceMethod yX6_nextToken ∈ lw_tbl := List.mem_of_getElem? (i := 841) rfl
set_option maxRecDepth 20000 in
theorem qw_839 : Cond.methodLink RX6 109 yX6_nextToken ∈ lw_tbl := List.mem_of_getElem? (i := 839) rfl
set_option maxRecDepth 20000 in
theorem qw_733 : Cond.fieldLink RX6 78 "WarmTubesModel" "fault" "I" ∈ lw_tbl := List.mem_of_getElem? (i := 733) rfl
set_option maxRecDepth 20000 in
theorem qw_729 : Cond.fieldLink RX6 87 "WarmTubesModel" "cursor" "I" ∈ lw_tbl := List.mem_of_getElem? (i := 729) rfl
set_option maxRecDepth 20000 in
theorem qw_838 : Cond.code yX6_begin cX6_begin 1 none ∈ lw_tbl := List.mem_of_getElem? (i := 838) rfl
set_option maxRecDepth 20000 in
theorem qw_24 : Cond.selects RX6 yX6_begin yX6_begin ∈ lw_tbl := List.mem_of_getElem? (i := 24) rfl
set_option maxRecDepth 20000 in
theorem qw_837 : Cond.instanceMethod yX6_begin ∈ lw_tbl := List.mem_of_getElem? (i := 837) rfl
set_option maxRecDepth 20000 in
theorem qw_835 : Cond.methodLink RX6 132 yX6_begin ∈ lw_tbl := List.mem_of_getElem? (i := 835) rfl
set_option maxRecDepth 20000 in
theorem qw_726 : Cond.fieldLink RX6 149 "WarmTubesModel" "acts" "I" ∈ lw_tbl := List.mem_of_getElem? (i := 726) rfl
set_option maxRecDepth 20000 in
theorem qw_734 : Cond.fieldLink RX6 84 "WarmTubesModel" "faultAt" "I" ∈ lw_tbl := List.mem_of_getElem? (i := 734) rfl
set_option maxRecDepth 20000 in
theorem qw_887 : Cond.constant RX6 148 (-1000100) ∈ lw_tbl := List.mem_of_getElem? (i := 887) rfl
set_option maxRecDepth 20000 in
theorem qw_866 : Cond.instanceMethod yX6_mustSign ∈ lw_tbl := List.mem_of_getElem? (i := 866) rfl
set_option maxRecDepth 20000 in
theorem qw_864 : Cond.methodLink RX6 129 yX6_mustSign ∈ lw_tbl := List.mem_of_getElem? (i := 864) rfl
set_option maxRecDepth 20000 in
theorem qw_863 : Cond.code yX6_number cX6_number 4 (some .int) ∈ lw_tbl := List.mem_of_getElem? (i := 863) rfl
set_option maxRecDepth 20000 in
theorem qw_29 : Cond.selects RX6 yX6_number yX6_number ∈ lw_tbl := List.mem_of_getElem? (i := 29) rfl
set_option maxRecDepth 20000 in
theorem qw_862 : Cond.instanceMethod yX6_number ∈ lw_tbl := List.mem_of_getElem? (i := 862) rfl
set_option maxRecDepth 20000 in
theorem qw_860 : Cond.methodLink RX6 125 yX6_number ∈ lw_tbl := List.mem_of_getElem? (i := 860) rfl
set_option maxRecDepth 20000 in
theorem qw_859 : Cond.code yX6_bad cX6_bad 2 none ∈ lw_tbl := List.mem_of_getElem? (i := 859) rfl
set_option maxRecDepth 20000 in
theorem qw_28 : Cond.selects RX6 yX6_bad yX6_bad ∈ lw_tbl := List.mem_of_getElem? (i := 28) rfl
set_option maxRecDepth 20000 in
theorem qw_858 : Cond.instanceMethod yX6_bad ∈ lw_tbl := List.mem_of_getElem? (i := 858) rfl
set_option maxRecDepth 20000 in
theorem qw_856 : Cond.methodLink RX6 105 yX6_bad ∈ lw_tbl := List.mem_of_getElem? (i := 856) rfl
set_option maxRecDepth 20000 in
theorem qw_855 : Cond.code yX6_must cX6_must 2 none ∈ lw_tbl := List.mem_of_getElem? (i := 855) rfl
set_option maxRecDepth 20000 in
theorem qw_27 : Cond.selects RX6 yX6_must yX6_must ∈ lw_tbl := List.mem_of_getElem? (i := 27) rfl
set_option maxRecDepth 20000 in
theorem qw_854 : Cond.instanceMethod yX6_must ∈ lw_tbl := List.mem_of_getElem? (i := 854) rfl
set_option maxRecDepth 20000 in
theorem qw_852 : Cond.methodLink RX6 112 yX6_must ∈ lw_tbl := List.mem_of_getElem? (i := 852) rfl
set_option maxRecDepth 20000 in
theorem qw_851 : Cond.code yX6_isLetter cX6_isLetter 2 (some .boolean) ∈ lw_tbl := List.mem_of_getElem? (i := 851) rfl
set_option maxRecDepth 20000 in
theorem qw_26 : Cond.selects RX6 yX6_isLetter yX6_isLetter ∈ lw_tbl := List.mem_of_getElem? (i := 26) rfl
set_option maxRecDepth 20000 in
theorem qw_850 : Cond.instanceMethod yX6_isLetter ∈ lw_tbl := List.mem_of_getElem? (i := 850) rfl
set_option maxRecDepth 20000 in
theorem qw_848 : Cond.methodLink RX6 122 yX6_isLetter ∈ lw_tbl := List.mem_of_getElem? (i := 848) rfl
set_option maxRecDepth 20000 in
theorem qw_731 : Cond.fieldLink RX6 102 "WarmTubesModel" "token" "I" ∈ lw_tbl := List.mem_of_getElem? (i := 731) rfl
set_option maxRecDepth 20000 in
theorem qw_847 : Cond.constantLong RX6 100 (57) ∈ lw_tbl := List.mem_of_getElem? (i := 847) rfl
set_option maxRecDepth 20000 in
theorem qw_846 : Cond.constantLong RX6 98 (48) ∈ lw_tbl := List.mem_of_getElem? (i := 846) rfl
set_option maxRecDepth 20000 in
theorem qw_735 : Cond.fieldLink RX6 116 "WarmTubesModel" "latest" "I" ∈ lw_tbl := List.mem_of_getElem? (i := 735) rfl
set_option maxRecDepth 20000 in
theorem qw_886 : Cond.code yX6_failed cX6_failed 1 (some .boolean) ∈ lw_tbl := List.mem_of_getElem? (i := 886) rfl
set_option maxRecDepth 20000 in
theorem qw_34 : Cond.selects RX6 yX6_failed yX6_failed ∈ lw_tbl := List.mem_of_getElem? (i := 34) rfl
set_option maxRecDepth 20000 in
theorem qw_885 : Cond.instanceMethod yX6_failed ∈ lw_tbl := List.mem_of_getElem? (i := 885) rfl
set_option maxRecDepth 20000 in
theorem qw_883 : Cond.methodLink RX6 145 yX6_failed ∈ lw_tbl := List.mem_of_getElem? (i := 883) rfl
set_option maxRecDepth 20000 in
theorem qw_882 : Cond.code yX6_readTube cX6_readTube 6 none ∈ lw_tbl := List.mem_of_getElem? (i := 882) rfl
set_option maxRecDepth 20000 in
theorem qw_33 : Cond.selects RX6 yX6_readTube yX6_readTube ∈ lw_tbl := List.mem_of_getElem? (i := 33) rfl
set_option maxRecDepth 20000 in
theorem qw_881 : Cond.instanceMethod yX6_readTube ∈ lw_tbl := List.mem_of_getElem? (i := 881) rfl
set_option maxRecDepth 20000 in
theorem qw_879 : Cond.methodLink RX6 142 yX6_readTube ∈ lw_tbl := List.mem_of_getElem? (i := 879) rfl
