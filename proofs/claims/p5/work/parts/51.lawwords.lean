set_option maxRecDepth 20000 in
theorem qI_X0 : ∀ w ∈ wsX00, w ∈ lw_tbl := fun w h => (goodIn_r wsX00 [158, 160, 162, 164, 166, 168, 170, 172, 174, 176, 178, 180] (by decide +kernel) (by decide +kernel) w h).1
set_option maxRecDepth 20000 in
theorem qI_X1 : ∀ w ∈ wsX10, w ∈ lw_tbl := fun w h => (goodIn_r wsX10 [194, 196, 198] (by decide +kernel) (by decide +kernel) w h).1
set_option maxRecDepth 20000 in
theorem qI_X2 : ∀ w ∈ wsX20, w ∈ lw_tbl := fun w h => (goodIn_r wsX20 [83, 85, 87] (by decide +kernel) (by decide +kernel) w h).1
set_option maxRecDepth 20000 in
theorem qI_X3 : ∀ w ∈ wsX30, w ∈ lw_tbl := fun w h => (goodIn_r wsX30 [106, 108, 110, 112, 114] (by decide +kernel) (by decide +kernel) w h).1
set_option maxRecDepth 20000 in
theorem qI_X4 : ∀ w ∈ wsX40, w ∈ lw_tbl := fun w h => (goodIn_r wsX40 [211, 213] (by decide +kernel) (by decide +kernel) w h).1
set_option maxRecDepth 20000 in
theorem qI_X5 : ∀ w ∈ wsX50, w ∈ lw_tbl := fun w h => (goodIn_r wsX50 [226, 228, 230, 232, 234, 236, 238, 240, 242, 244] (by decide +kernel) (by decide +kernel) w h).1
set_option maxRecDepth 20000 in
theorem qI_X6 : ∀ w ∈ wsX60, w ∈ lw_tbl := fun w h => (goodIn_r wsX60 [741, 743, 745, 747, 749, 751, 753, 755, 757, 759, 761, 763, 765, 767, 769, 771, 773, 775, 777, 779, 781, 783, 785, 787] (by decide +kernel) (by decide +kernel) w h).1
set_option maxRecDepth 20000 in
theorem qm_wsX5_init_r1 : ∀ w ∈ wsX5_init_r1, w ∈ lw_tbl := (qc qw_68 (qc qw_69 (qc qw_70 (qc qw_71 (qc qw_72 (qc qw_54 (qc qw_216 (qc qw_91 (qc qw_92 (qc qw_55 (qc qw_217 (qc qw_117 (qc qw_118 (qc qw_56 (qc qw_218 (qc qw_219 (qc qw_220 (qc qw_184 (qc qw_185 (qc qw_57 (qc qw_221 (qc qw_90 (qc qw_222 (qc qw_201 qn))))))))))))))))))))))))
set_option maxRecDepth 20000 in
theorem qm_wsX5_init_r2 : ∀ w ∈ wsX5_init_r2, w ∈ lw_tbl := (qc qw_202 (qc qw_58 (qc qw_223 (qc qw_224 (qc qw_225 (qc qw_74 (qc qw_75 (qc qw_76 (qc qw_77 (qc qw_79 (qc qw_81 (qc qw_94 (qc qw_95 (qc qw_96 (qc qw_97 (qc qw_99 (qc qw_101 (qc qw_103 (qc qw_105 (qc qw_120 (qc qw_121 (qc qw_122 (qc qw_123 (qc qw_126 qn))))))))))))))))))))))))
set_option maxRecDepth 20000 in
theorem qm_wsX5_init_r3 : ∀ w ∈ wsX5_init_r3, w ∈ lw_tbl := (qc qw_128 (qc qw_131 (qc qw_134 (qc qw_137 (qc qw_140 (qc qw_143 (qc qw_146 (qc qw_149 (qc qw_152 (qc qw_155 (qc qw_187 (qc qw_188 (qc qw_189 (qc qw_190 (qc qw_191 (qc qw_192 (qc qw_204 (qc qw_205 (qc qw_206 (qc qw_207 (qc qw_209 qn)))))))))))))))))))))
set_option maxRecDepth 20000 in
theorem qm_wsX5_init : ∀ w ∈ wsX5_init, w ∈ lw_tbl := (qc qw_67 (qa (qa (qa (qa (qa (qa (qa qm_wsX5_init_r1 (qa qm_wsX5_init_r2 qm_wsX5_init_r3)) qI_X2) qI_X5) qI_X3) qI_X0) qI_X1) qI_X4))
set_option maxRecDepth 20000 in
theorem qL_X5_init : GoodIn lw_tbl (wsX5_init) := goodIn_sub qm_wsX5_init (by decide +kernel)
set_option maxRecDepth 20000 in
theorem qm_wsX6_init : ∀ w ∈ wsX6_init, w ∈ lw_tbl := (qc qw_715 (qa (qc qw_716 (qc qw_69 (qc qw_70 (qc qw_90 (qc qw_719 (qc qw_720 (qc qw_721 (qc qw_722 (qc qw_723 (qc qw_724 (qc qw_725 (qc qw_727 (qc qw_736 (qc qw_790 (qc qw_737 (qc qw_738 (qc qw_739 qn))))))))))))))))) qI_X6))
set_option maxRecDepth 20000 in
theorem qL_X6_init : GoodIn lw_tbl (wsX6_init) := goodIn_sub qm_wsX6_init (by decide +kernel)
set_option maxRecDepth 20000 in
theorem qm_wsX5_row_r1 : ∀ w ∈ wsX5_row_r1, w ∈ lw_tbl := (qc qw_257 (qc qw_216 (qc qw_251 (qc qw_252 (qc qw_53 (qc qw_253 (qc qw_254 (qc qw_255 (qc qw_256 (qc qw_258 (qc qw_260 (qc qw_0 (qc qw_261 (qc qw_225 (qc qw_262 (qc qw_263 (qc qw_264 (qc qw_265 (qc qw_54 (qc qw_266 (qc qw_77 (qc qw_79 (qc qw_81 (qc qw_267 qn))))))))))))))))))))))))
set_option maxRecDepth 20000 in
theorem qm_wsX5_row_r2 : ∀ w ∈ wsX5_row_r2, w ∈ lw_tbl := (qc qw_268 (qc qw_269 (qc qw_270 (qc qw_271 (qc qw_273 (qc qw_1 (qc qw_274 qn)))))))
set_option maxRecDepth 20000 in
theorem qm_wsX5_row : ∀ w ∈ wsX5_row, w ∈ lw_tbl := (qc qw_250 (qa (qa (qa qm_wsX5_row_r1 qm_wsX5_row_r2) qI_X5) qI_X2))
set_option maxRecDepth 20000 in
theorem qL_X5_row : GoodIn lw_tbl (wsV RL 13 RX5 yX5_row wsX5_row) := goodIn_sub (qa (qc qw_247 (qc qw_248 (qc qw_249 (qc qw_53 qn)))) qm_wsX5_row) (by decide +kernel)
set_option maxRecDepth 20000 in
theorem qm_wsX6_row : ∀ w ∈ wsX6_row, w ∈ lw_tbl := (qc qw_794 (qa (qc qw_717 (qc qw_802 (qc qw_803 (qc qw_718 (qc qw_719 (qc qw_720 (qc qw_721 (qc qw_795 (qc qw_796 (qc qw_59 (qc qw_797 (qc qw_798 (qc qw_799 (qc qw_800 (qc qw_801 (qc qw_804 (qc qw_806 (qc qw_23 (qc qw_807 (qc qw_808 qn)))))))))))))))))))) qI_X6))
set_option maxRecDepth 20000 in
theorem qL_X6_row : GoodIn lw_tbl (wsV RL 17 RX6 yX6_row wsX6_row) := goodIn_sub (qa (qc qw_791 (qc qw_792 (qc qw_793 (qc qw_59 qn)))) qm_wsX6_row) (by decide +kernel)
set_option maxRecDepth 20000 in
theorem qm_wsX5_set_r1 : ∀ w ∈ wsX5_set_r1, w ∈ lw_tbl := (qc qw_257 (qc qw_216 (qc qw_251 (qc qw_252 (qc qw_53 (qc qw_253 (qc qw_254 (qc qw_255 (qc qw_256 (qc qw_279 (qc qw_280 (qc qw_281 (qc qw_54 (qc qw_282 (qc qw_79 (qc qw_283 (qc qw_284 (qc qw_285 (qc qw_286 (qc qw_77 (qc qw_258 (qc qw_260 (qc qw_0 (qc qw_261 qn))))))))))))))))))))))))
set_option maxRecDepth 20000 in
theorem qm_wsX5_set_r2 : ∀ w ∈ wsX5_set_r2, w ∈ lw_tbl := (qc qw_225 (qc qw_262 (qc qw_287 (qc qw_288 (qc qw_289 (qc qw_290 (qc qw_81 (qc qw_267 (qc qw_268 (qc qw_269 (qc qw_270 (qc qw_271 (qc qw_273 (qc qw_1 (qc qw_274 qn)))))))))))))))
set_option maxRecDepth 20000 in
theorem qm_wsX5_set : ∀ w ∈ wsX5_set, w ∈ lw_tbl := (qc qw_278 (qa (qa (qa qm_wsX5_set_r1 qm_wsX5_set_r2) qI_X5) qI_X2))
set_option maxRecDepth 20000 in
theorem qL_X5_set : GoodIn lw_tbl (wsV RL 18 RX5 yX5_set wsX5_set) := goodIn_sub (qa (qc qw_275 (qc qw_276 (qc qw_277 (qc qw_53 qn)))) qm_wsX5_set) (by decide +kernel)
set_option maxRecDepth 20000 in
theorem qm_wsX6_set : ∀ w ∈ wsX6_set, w ∈ lw_tbl := (qc qw_812 (qa (qc qw_717 (qc qw_803 (qc qw_718 (qc qw_719 (qc qw_720 (qc qw_721 (qc qw_795 (qc qw_796 (qc qw_59 (qc qw_797 (qc qw_798 (qc qw_799 (qc qw_800 (qc qw_801 (qc qw_804 (qc qw_806 (qc qw_23 (qc qw_807 (qc qw_808 qn))))))))))))))))))) qI_X6))
set_option maxRecDepth 20000 in
theorem qL_X6_set : GoodIn lw_tbl (wsV RL 21 RX6 yX6_set wsX6_set) := goodIn_sub (qa (qc qw_809 (qc qw_810 (qc qw_811 (qc qw_59 qn)))) qm_wsX6_set) (by decide +kernel)
set_option maxRecDepth 20000 in
theorem qm_wsX5_copy_r1 : ∀ w ∈ wsX5_copy_r1, w ∈ lw_tbl := (qc qw_257 (qc qw_216 (qc qw_78 (qc qw_82 (qc qw_297 (qc qw_299 (qc qw_298 (qc qw_60 (qc qw_251 (qc qw_252 (qc qw_53 (qc qw_253 (qc qw_254 (qc qw_255 (qc qw_256 (qc qw_295 (qc qw_284 (qc qw_285 (qc qw_54 (qc qw_286 (qc qw_77 (qc qw_258 (qc qw_260 (qc qw_0 qn))))))))))))))))))))))))
set_option maxRecDepth 20000 in
theorem qm_wsX5_copy_r2 : ∀ w ∈ wsX5_copy_r2, w ∈ lw_tbl := (qc qw_261 (qc qw_225 (qc qw_262 (qc qw_279 (qc qw_280 (qc qw_281 (qc qw_282 (qc qw_79 (qc qw_283 (qc qw_296 (qc qw_268 (qc qw_269 (qc qw_270 (qc qw_271 (qc qw_273 (qc qw_1 (qc qw_274 qn)))))))))))))))))
set_option maxRecDepth 20000 in
theorem qm_wsX5_copy : ∀ w ∈ wsX5_copy, w ∈ lw_tbl := (qc qw_294 (qa (qa (qa qm_wsX5_copy_r1 qm_wsX5_copy_r2) qI_X5) qI_X2))
set_option maxRecDepth 20000 in
theorem qL_X5_copy : GoodIn lw_tbl (wsV RL 22 RX5 yX5_copy wsX5_copy) := goodIn_sub (qa (qc qw_291 (qc qw_292 (qc qw_293 (qc qw_53 qn)))) qm_wsX5_copy) (by decide +kernel)
set_option maxRecDepth 20000 in
theorem qm_wsX6_copy : ∀ w ∈ wsX6_copy, w ∈ lw_tbl := (qc qw_816 (qa (qc qw_717 (qc qw_803 (qc qw_718 (qc qw_719 (qc qw_720 (qc qw_721 (qc qw_795 (qc qw_796 (qc qw_59 (qc qw_797 (qc qw_798 (qc qw_799 (qc qw_800 (qc qw_801 (qc qw_804 (qc qw_806 (qc qw_23 (qc qw_807 (qc qw_808 qn))))))))))))))))))) qI_X6))
set_option maxRecDepth 20000 in
theorem qL_X6_copy : GoodIn lw_tbl (wsV RL 26 RX6 yX6_copy wsX6_copy) := goodIn_sub (qa (qc qw_813 (qc qw_814 (qc qw_815 (qc qw_59 qn)))) qm_wsX6_copy) (by decide +kernel)
set_option maxRecDepth 20000 in
theorem qm_wsX5_drop_r1 : ∀ w ∈ wsX5_drop_r1, w ∈ lw_tbl := (qc qw_257 (qc qw_216 (qc qw_80 (qc qw_251 (qc qw_252 (qc qw_53 (qc qw_253 (qc qw_254 (qc qw_255 (qc qw_256 (qc qw_295 (qc qw_284 (qc qw_285 (qc qw_54 (qc qw_286 (qc qw_77 (qc qw_258 (qc qw_260 (qc qw_0 (qc qw_261 (qc qw_225 (qc qw_262 (qc qw_304 (qc qw_305 qn))))))))))))))))))))))))
set_option maxRecDepth 20000 in
theorem qm_wsX5_drop_r2 : ∀ w ∈ wsX5_drop_r2, w ∈ lw_tbl := (qc qw_306 (qc qw_307 (qc qw_79 (qc qw_271 (qc qw_273 (qc qw_1 (qc qw_274 qn)))))))
set_option maxRecDepth 20000 in
theorem qm_wsX5_drop : ∀ w ∈ wsX5_drop, w ∈ lw_tbl := (qc qw_303 (qa (qa (qa qm_wsX5_drop_r1 qm_wsX5_drop_r2) qI_X5) qI_X2))
set_option maxRecDepth 20000 in
theorem qL_X5_drop : GoodIn lw_tbl (wsV RL 27 RX5 yX5_drop wsX5_drop) := goodIn_sub (qa (qc qw_300 (qc qw_301 (qc qw_302 (qc qw_53 qn)))) qm_wsX5_drop) (by decide +kernel)
set_option maxRecDepth 20000 in
theorem qm_wsX6_drop : ∀ w ∈ wsX6_drop, w ∈ lw_tbl := (qc qw_820 (qa (qc qw_717 (qc qw_803 (qc qw_718 (qc qw_719 (qc qw_720 (qc qw_795 (qc qw_796 (qc qw_59 (qc qw_797 (qc qw_798 (qc qw_799 (qc qw_800 (qc qw_801 (qc qw_804 (qc qw_806 (qc qw_23 (qc qw_807 (qc qw_808 qn)))))))))))))))))) qI_X6))
set_option maxRecDepth 20000 in
theorem qL_X6_drop : GoodIn lw_tbl (wsV RL 31 RX6 yX6_drop wsX6_drop) := goodIn_sub (qa (qc qw_817 (qc qw_818 (qc qw_819 (qc qw_59 qn)))) qm_wsX6_drop) (by decide +kernel)
set_option maxRecDepth 20000 in
theorem qm_wsX5_feed : ∀ w ∈ wsX5_feed, w ∈ lw_tbl := (qc qw_311 (qa (qa (qc qw_257 (qc qw_217 (qc qw_100 (qc qw_312 (qc qw_98 (qc qw_254 (qc qw_255 (qc qw_53 (qc qw_256 qn))))))))) qI_X5) qI_X3))
set_option maxRecDepth 20000 in
theorem qL_X5_feed : GoodIn lw_tbl (wsV RL 32 RX5 yX5_feed wsX5_feed) := goodIn_sub (qa (qc qw_308 (qc qw_309 (qc qw_310 (qc qw_53 qn)))) qm_wsX5_feed) (by decide +kernel)
set_option maxRecDepth 20000 in
theorem qm_wsX6_feed : ∀ w ∈ wsX6_feed, w ∈ lw_tbl := (qc qw_824 (qa (qc qw_717 (qc qw_825 (qc qw_803 (qc qw_728 (qc qw_826 (qc qw_727 (qc qw_799 (qc qw_800 (qc qw_59 (qc qw_801 qn)))))))))) qI_X6))
set_option maxRecDepth 20000 in
theorem qL_X6_feed : GoodIn lw_tbl (wsV RL 35 RX6 yX6_feed wsX6_feed) := goodIn_sub (qa (qc qw_821 (qc qw_822 (qc qw_823 (qc qw_59 qn)))) qm_wsX6_feed) (by decide +kernel)
set_option maxRecDepth 20000 in
theorem qm_wsX5_house_r1 : ∀ w ∈ wsX5_house_r1, w ∈ lw_tbl := (qc qw_217 (qc qw_219 (qc qw_100 (qc qw_102 (qc qw_224 (qc qw_361 (qc qw_104 (qc qw_218 (qc qw_221 (qc qw_133 (qc qw_317 (qc qw_318 (qc qw_319 (qc qw_55 (qc qw_320 (qc qw_105 (qc qw_129 (qc qw_132 (qc qw_135 (qc qw_321 (qc qw_323 (qc qw_2 (qc qw_324 (qc qw_124 qn))))))))))))))))))))))))
set_option maxRecDepth 20000 in
theorem qm_wsX5_house_r2 : ∀ w ∈ wsX5_house_r2, w ∈ lw_tbl := (qc qw_127 (qc qw_325 (qc qw_327 (qc qw_3 (qc qw_328 (qc qw_329 (qc qw_331 (qc qw_4 (qc qw_332 (qc qw_99 (qc qw_97 (qc qw_333 (qc qw_335 (qc qw_5 (qc qw_336 (qc qw_101 (qc qw_103 (qc qw_337 (qc qw_339 (qc qw_6 (qc qw_340 (qc qw_255 (qc qw_53 (qc qw_256 qn))))))))))))))))))))))))
set_option maxRecDepth 20000 in
theorem qm_wsX5_house_r3 : ∀ w ∈ wsX5_house_r3, w ∈ lw_tbl := (qc qw_342 (qc qw_344 (qc qw_7 (qc qw_345 (qc qw_346 (qc qw_348 (qc qw_8 (qc qw_349 (qc qw_138 (qc qw_141 (qc qw_350 (qc qw_352 (qc qw_9 (qc qw_353 (qc qw_144 (qc qw_354 (qc qw_355 (qc qw_356 (qc qw_357 (qc qw_359 (qc qw_10 (qc qw_360 (qc qw_156 (qc qw_147 qn))))))))))))))))))))))))
set_option maxRecDepth 20000 in
theorem qm_wsX5_house_r4 : ∀ w ∈ wsX5_house_r4, w ∈ lw_tbl := (qc qw_150 (qc qw_153 (qc qw_362 (qc qw_363 (qc qw_364 (qc qw_56 (qc qw_365 (qc qw_123 (qc qw_126 (qc qw_128 (qc qw_131 (qc qw_134 (qc qw_137 (qc qw_366 (qc qw_299 (qc qw_298 (qc qw_60 (qc qw_140 (qc qw_143 (qc qw_146 (qc qw_149 (qc qw_152 (qc qw_155 (qc qw_367 qn))))))))))))))))))))))))
set_option maxRecDepth 20000 in
theorem qm_wsX5_house_r5 : ∀ w ∈ wsX5_house_r5, w ∈ lw_tbl := (qc qw_368 (qc qw_369 (qc qw_57 (qc qw_370 (qc qw_192 qn)))))
set_option maxRecDepth 20000 in
theorem qm_wsX5_house : ∀ w ∈ wsX5_house, w ∈ lw_tbl := (qc qw_316 (qa (qa (qa (qa (qa qm_wsX5_house_r1 (qa qm_wsX5_house_r2 (qa qm_wsX5_house_r3 (qa qm_wsX5_house_r4 qm_wsX5_house_r5)))) qI_X5) qI_X3) qI_X0) qI_X1))
set_option maxRecDepth 20000 in
theorem qL_X5_house : GoodIn lw_tbl (wsV RL 36 RX5 yX5_house wsX5_house) := goodIn_sub (qa (qc qw_313 (qc qw_314 (qc qw_315 (qc qw_53 qn)))) qm_wsX5_house) (by decide +kernel)
set_option maxRecDepth 20000 in
theorem qm_wsX6_house_r1 : ∀ w ∈ wsX6_house_r1, w ∈ lw_tbl := (qc qw_717 (qc qw_723 (qc qw_887 (qc qw_734 (qc qw_726 (qc qw_722 (qc qw_835 (qc qw_837 (qc qw_24 (qc qw_59 (qc qw_838 (qc qw_729 (qc qw_733 (qc qw_839 (qc qw_841 (qc qw_25 (qc qw_842 (qc qw_730 (qc qw_728 (qc qw_727 (qc qw_843 (qc qw_732 (qc qw_844 (qc qw_845 qn))))))))))))))))))))))))
set_option maxRecDepth 20000 in
theorem qm_wsX6_house_r2 : ∀ w ∈ wsX6_house_r2, w ∈ lw_tbl := (qc qw_846 (qc qw_847 (qc qw_731 (qc qw_799 (qc qw_800 (qc qw_801 (qc qw_848 (qc qw_850 (qc qw_26 (qc qw_851 (qc qw_852 (qc qw_854 (qc qw_27 (qc qw_855 (qc qw_856 (qc qw_858 (qc qw_28 (qc qw_859 (qc qw_860 (qc qw_862 (qc qw_29 (qc qw_863 (qc qw_864 (qc qw_866 qn))))))))))))))))))))))))
set_option maxRecDepth 20000 in
theorem qm_wsX6_house_r3 : ∀ w ∈ wsX6_house_r3, w ∈ lw_tbl := (qc qw_30 (qc qw_867 (qc qw_868 (qc qw_870 (qc qw_31 (qc qw_871 (qc qw_872 (qc qw_874 (qc qw_32 (qc qw_875 (qc qw_876 (qc qw_877 (qc qw_878 (qc qw_879 (qc qw_881 (qc qw_33 (qc qw_882 (qc qw_883 (qc qw_885 (qc qw_34 (qc qw_886 (qc qw_735 qn))))))))))))))))))))))
set_option maxRecDepth 20000 in
theorem qm_wsX6_house : ∀ w ∈ wsX6_house, w ∈ lw_tbl := (qc qw_834 (qa (qa qm_wsX6_house_r1 (qa qm_wsX6_house_r2 qm_wsX6_house_r3)) qI_X6))
set_option maxRecDepth 20000 in
theorem qL_X6_house : GoodIn lw_tbl (wsV RL 40 RX6 yX6_house wsX6_house) := goodIn_sub (qa (qc qw_831 (qc qw_832 (qc qw_833 (qc qw_59 qn)))) qm_wsX6_house) (by decide +kernel)
set_option maxRecDepth 20000 in
theorem qm_wsX5_fault : ∀ w ∈ wsX5_fault, w ∈ lw_tbl := (qc qw_374 (qa (qc qw_224 qn) qI_X5))
set_option maxRecDepth 20000 in
theorem qL_X5_fault : GoodIn lw_tbl (wsV RL 41 RX5 yX5_fault wsX5_fault) := goodIn_sub (qa (qc qw_371 (qc qw_372 (qc qw_373 (qc qw_53 qn)))) qm_wsX5_fault) (by decide +kernel)
set_option maxRecDepth 20000 in
theorem qm_wsX6_fault : ∀ w ∈ wsX6_fault, w ∈ lw_tbl := (qc qw_830 (qa (qc qw_717 (qc qw_735 qn)) qI_X6))
set_option maxRecDepth 20000 in
theorem qL_X6_fault : GoodIn lw_tbl (wsV RL 44 RX6 yX6_fault wsX6_fault) := goodIn_sub (qa (qc qw_827 (qc qw_828 (qc qw_829 (qc qw_59 qn)))) qm_wsX6_fault) (by decide +kernel)
set_option maxRecDepth 20000 in
theorem qm_wsX5_undo_r1 : ∀ w ∈ wsX5_undo_r1, w ∈ lw_tbl := (qc qw_221 (qc qw_193 (qc qw_379 (qc qw_218 (qc qw_380 (qc qw_381 (qc qw_382 (qc qw_57 (qc qw_383 (qc qw_192 (qc qw_191 (qc qw_190 (qc qw_384 (qc qw_385 (qc qw_386 (qc qw_56 (qc qw_387 (qc qw_134 (qc qw_137 (qc qw_366 (qc qw_299 (qc qw_298 (qc qw_60 (qc qw_140 qn))))))))))))))))))))))))
set_option maxRecDepth 20000 in
theorem qm_wsX5_undo_r2 : ∀ w ∈ wsX5_undo_r2, w ∈ lw_tbl := (qc qw_146 (qc qw_155 qn))
set_option maxRecDepth 20000 in
theorem qm_wsX5_undo : ∀ w ∈ wsX5_undo, w ∈ lw_tbl := (qc qw_378 (qa (qa (qa (qa qm_wsX5_undo_r1 qm_wsX5_undo_r2) qI_X5) qI_X1) qI_X0))
set_option maxRecDepth 20000 in
theorem qL_X5_undo : GoodIn lw_tbl (wsV RL 45 RX5 yX5_undo wsX5_undo) := goodIn_sub (qa (qc qw_375 (qc qw_376 (qc qw_377 (qc qw_53 qn)))) qm_wsX5_undo) (by decide +kernel)
set_option maxRecDepth 20000 in
theorem qm_wsX6_undo : ∀ w ∈ wsX6_undo, w ∈ lw_tbl := (qc qw_971 (qa (qc qw_717 (qc qw_726 (qc qw_896 (qc qw_722 (qc qw_725 qn))))) qI_X6))
set_option maxRecDepth 20000 in
theorem qL_X6_undo : GoodIn lw_tbl (wsV RL 48 RX6 yX6_undo wsX6_undo) := goodIn_sub (qa (qc qw_968 (qc qw_969 (qc qw_970 (qc qw_59 qn)))) qm_wsX6_undo) (by decide +kernel)
set_option maxRecDepth 20000 in
theorem qm_wsX5_minutes_r1 : ∀ w ∈ wsX5_minutes_r1, w ∈ lw_tbl := (qc qw_218 (qc qw_379 (qc qw_257 (qc qw_136 (qc qw_312 (qc qw_221 (qc qw_392 (qc qw_393 (qc qw_394 (qc qw_56 (qc qw_395 (qc qw_128 (qc qw_254 (qc qw_255 (qc qw_53 (qc qw_256 (qc qw_396 (qc qw_397 (qc qw_398 (qc qw_57 (qc qw_399 (qc qw_190 (qc qw_191 (qc qw_192 qn))))))))))))))))))))))))
set_option maxRecDepth 20000 in
theorem qm_wsX5_minutes_r2 : ∀ w ∈ wsX5_minutes_r2, w ∈ lw_tbl := (qc qw_404 (qc qw_405 (qc qw_61 (qc qw_406 (qc qw_400 (qc qw_401 (qc qw_402 (qc qw_403 (qc qw_134 (qc qw_137 (qc qw_366 (qc qw_299 (qc qw_298 (qc qw_60 (qc qw_140 (qc qw_146 (qc qw_155 (qc qw_407 (qc qw_408 (qc qw_409 (qc qw_410 (qc qw_131 (qc qw_123 (qc qw_428 qn))))))))))))))))))))))))
set_option maxRecDepth 20000 in
theorem qm_wsX5_minutes_r3 : ∀ w ∈ wsX5_minutes_r3, w ∈ lw_tbl := (qc qw_429 (qc qw_430 (qc qw_427 (qc qw_411 (qc qw_413 (qc qw_11 (qc qw_414 (qc qw_143 (qc qw_415 (qc qw_417 (qc qw_12 (qc qw_418 (qc qw_152 (qc qw_419 (qc qw_420 (qc qw_421 (qc qw_422 (qc qw_149 (qc qw_423 (qc qw_424 (qc qw_425 (qc qw_426 (qc qw_126 (qc qw_431 qn))))))))))))))))))))))))
set_option maxRecDepth 20000 in
theorem qm_wsX5_minutes_r4 : ∀ w ∈ wsX5_minutes_r4, w ∈ lw_tbl := (qc qw_432 (qc qw_433 (qc qw_434 qn)))
set_option maxRecDepth 20000 in
theorem qm_wsX5_minutes : ∀ w ∈ wsX5_minutes, w ∈ lw_tbl := (qc qw_391 (qa (qa (qa (qa qm_wsX5_minutes_r1 (qa qm_wsX5_minutes_r2 (qa qm_wsX5_minutes_r3 qm_wsX5_minutes_r4))) qI_X5) qI_X0) qI_X1))
set_option maxRecDepth 20000 in
theorem qL_X5_minutes : GoodIn lw_tbl (wsV RL 49 RX5 yX5_minutes wsX5_minutes) := goodIn_sub (qa (qc qw_388 (qc qw_389 (qc qw_390 (qc qw_53 qn)))) qm_wsX5_minutes) (by decide +kernel)
set_option maxRecDepth 20000 in
theorem qm_wsX6_minutes_r1 : ∀ w ∈ wsX6_minutes_r1, w ∈ lw_tbl := (qc qw_717 (qc qw_896 (qc qw_897 (qc qw_803 (qc qw_722 (qc qw_826 (qc qw_892 (qc qw_894 (qc qw_35 (qc qw_59 (qc qw_895 (qc qw_799 (qc qw_800 (qc qw_801 (qc qw_898 (qc qw_900 (qc qw_36 (qc qw_901 (qc qw_726 (qc qw_725 (qc qw_902 (qc qw_903 (qc qw_904 (qc qw_905 qn))))))))))))))))))))))))
set_option maxRecDepth 20000 in
theorem qm_wsX6_minutes_r2 : ∀ w ∈ wsX6_minutes_r2, w ∈ lw_tbl := (qc qw_906 (qc qw_907 (qc qw_908 (qc qw_909 (qc qw_910 (qc qw_911 (qc qw_912 (qc qw_913 (qc qw_914 (qc qw_915 (qc qw_916 (qc qw_917 (qc qw_918 (qc qw_919 (qc qw_920 (qc qw_921 (qc qw_922 (qc qw_923 (qc qw_924 (qc qw_925 (qc qw_926 (qc qw_927 (qc qw_928 qn)))))))))))))))))))))))
set_option maxRecDepth 20000 in
theorem qm_wsX6_minutes : ∀ w ∈ wsX6_minutes, w ∈ lw_tbl := (qc qw_891 (qa (qa qm_wsX6_minutes_r1 qm_wsX6_minutes_r2) qI_X6))
set_option maxRecDepth 20000 in
theorem qL_X6_minutes : GoodIn lw_tbl (wsV RL 52 RX6 yX6_minutes wsX6_minutes) := goodIn_sub (qa (qc qw_888 (qc qw_889 (qc qw_890 (qc qw_59 qn)))) qm_wsX6_minutes) (by decide +kernel)
set_option maxRecDepth 20000 in
theorem qm_wsX5_carry_r1 : ∀ w ∈ wsX5_carry_r1, w ∈ lw_tbl := (qc qw_257 (qc qw_218 (qc qw_148 (qc qw_379 (qc qw_221 (qc qw_439 (qc qw_441 (qc qw_13 (qc qw_53 (qc qw_442 (qc qw_133 (qc qw_254 (qc qw_255 (qc qw_256 (qc qw_443 (qc qw_445 (qc qw_14 (qc qw_446 (qc qw_130 (qc qw_392 (qc qw_393 (qc qw_394 (qc qw_56 (qc qw_395 qn))))))))))))))))))))))))
set_option maxRecDepth 20000 in
theorem qm_wsX5_carry_r2 : ∀ w ∈ wsX5_carry_r2, w ∈ lw_tbl := (qc qw_128 (qc qw_396 (qc qw_397 (qc qw_398 (qc qw_57 (qc qw_399 (qc qw_190 (qc qw_191 (qc qw_192 (qc qw_404 (qc qw_405 (qc qw_61 (qc qw_406 (qc qw_400 (qc qw_401 (qc qw_402 (qc qw_403 (qc qw_134 (qc qw_137 (qc qw_366 (qc qw_299 (qc qw_298 (qc qw_60 (qc qw_140 qn))))))))))))))))))))))))
set_option maxRecDepth 20000 in
theorem qm_wsX5_carry_r3 : ∀ w ∈ wsX5_carry_r3, w ∈ lw_tbl := (qc qw_146 (qc qw_155 qn))
set_option maxRecDepth 20000 in
theorem qm_wsX5_carry : ∀ w ∈ wsX5_carry, w ∈ lw_tbl := (qc qw_438 (qa (qa (qa (qa qm_wsX5_carry_r1 (qa qm_wsX5_carry_r2 qm_wsX5_carry_r3)) qI_X5) qI_X0) qI_X1))
set_option maxRecDepth 20000 in
theorem qL_X5_carry : GoodIn lw_tbl (wsV RL 53 RX5 yX5_carry wsX5_carry) := goodIn_sub (qa (qc qw_435 (qc qw_436 (qc qw_437 (qc qw_53 qn)))) qm_wsX5_carry) (by decide +kernel)
set_option maxRecDepth 20000 in
theorem qm_wsX6_carry_r1 : ∀ w ∈ wsX6_carry_r1, w ∈ lw_tbl := (qc qw_717 (qc qw_803 (qc qw_722 (qc qw_896 (qc qw_933 (qc qw_935 (qc qw_37 (qc qw_59 (qc qw_936 (qc qw_799 (qc qw_800 (qc qw_801 (qc qw_937 (qc qw_939 (qc qw_38 (qc qw_940 (qc qw_892 (qc qw_894 (qc qw_35 (qc qw_895 (qc qw_905 (qc qw_906 (qc qw_907 (qc qw_898 qn))))))))))))))))))))))))
set_option maxRecDepth 20000 in
theorem qm_wsX6_carry_r2 : ∀ w ∈ wsX6_carry_r2, w ∈ lw_tbl := (qc qw_900 (qc qw_36 (qc qw_901 (qc qw_726 (qc qw_725 (qc qw_908 (qc qw_909 (qc qw_910 qn))))))))
set_option maxRecDepth 20000 in
theorem qm_wsX6_carry : ∀ w ∈ wsX6_carry, w ∈ lw_tbl := (qc qw_932 (qa (qa qm_wsX6_carry_r1 qm_wsX6_carry_r2) qI_X6))
set_option maxRecDepth 20000 in
theorem qL_X6_carry : GoodIn lw_tbl (wsV RL 57 RX6 yX6_carry wsX6_carry) := goodIn_sub (qa (qc qw_929 (qc qw_930 (qc qw_931 (qc qw_59 qn)))) qm_wsX6_carry) (by decide +kernel)
set_option maxRecDepth 20000 in
theorem qm_wsX5_shake_r1 : ∀ w ∈ wsX5_shake_r1, w ∈ lw_tbl := (qc qw_257 (qc qw_218 (qc qw_157 (qc qw_379 (qc qw_221 (qc qw_439 (qc qw_441 (qc qw_13 (qc qw_53 (qc qw_442 (qc qw_133 (qc qw_254 (qc qw_255 (qc qw_256 (qc qw_396 (qc qw_397 (qc qw_398 (qc qw_57 (qc qw_399 (qc qw_190 (qc qw_191 (qc qw_192 (qc qw_404 (qc qw_405 qn))))))))))))))))))))))))
set_option maxRecDepth 20000 in
theorem qm_wsX5_shake_r2 : ∀ w ∈ wsX5_shake_r2, w ∈ lw_tbl := (qc qw_61 (qc qw_406 (qc qw_400 (qc qw_401 (qc qw_402 (qc qw_56 (qc qw_403 (qc qw_134 (qc qw_137 (qc qw_366 (qc qw_299 (qc qw_298 (qc qw_60 (qc qw_140 (qc qw_146 (qc qw_155 (qc qw_451 (qc qw_452 (qc qw_453 (qc qw_454 (qc qw_128 (qc qw_427 qn))))))))))))))))))))))
set_option maxRecDepth 20000 in
theorem qm_wsX5_shake : ∀ w ∈ wsX5_shake, w ∈ lw_tbl := (qc qw_450 (qa (qa (qa (qa qm_wsX5_shake_r1 qm_wsX5_shake_r2) qI_X5) qI_X0) qI_X1))
set_option maxRecDepth 20000 in
theorem qL_X5_shake : GoodIn lw_tbl (wsV RL 58 RX5 yX5_shake wsX5_shake) := goodIn_sub (qa (qc qw_447 (qc qw_448 (qc qw_449 (qc qw_53 qn)))) qm_wsX5_shake) (by decide +kernel)
set_option maxRecDepth 20000 in
theorem qm_wsX6_shake_r1 : ∀ w ∈ wsX6_shake_r1, w ∈ lw_tbl := (qc qw_717 (qc qw_803 (qc qw_722 (qc qw_896 (qc qw_933 (qc qw_935 (qc qw_37 (qc qw_59 (qc qw_936 (qc qw_799 (qc qw_800 (qc qw_801 (qc qw_905 (qc qw_906 (qc qw_907 (qc qw_898 (qc qw_900 (qc qw_36 (qc qw_901 (qc qw_726 (qc qw_725 (qc qw_945 (qc qw_946 (qc qw_947 qn))))))))))))))))))))))))
set_option maxRecDepth 20000 in
theorem qm_wsX6_shake_r2 : ∀ w ∈ wsX6_shake_r2, w ∈ lw_tbl := (qc qw_911 (qc qw_912 (qc qw_913 (qc qw_914 (qc qw_915 (qc qw_916 (qc qw_908 (qc qw_909 (qc qw_910 qn)))))))))
set_option maxRecDepth 20000 in
theorem qm_wsX6_shake : ∀ w ∈ wsX6_shake, w ∈ lw_tbl := (qc qw_944 (qa (qa qm_wsX6_shake_r1 qm_wsX6_shake_r2) qI_X6))
set_option maxRecDepth 20000 in
theorem qL_X6_shake : GoodIn lw_tbl (wsV RL 61 RX6 yX6_shake wsX6_shake) := goodIn_sub (qa (qc qw_941 (qc qw_942 (qc qw_943 (qc qw_59 qn)))) qm_wsX6_shake) (by decide +kernel)
set_option maxRecDepth 20000 in
theorem qm_wsX5_pour_r1 : ∀ w ∈ wsX5_pour_r1, w ∈ lw_tbl := (qc qw_257 (qc qw_218 (qc qw_379 (qc qw_221 (qc qw_439 (qc qw_441 (qc qw_13 (qc qw_53 (qc qw_442 (qc qw_133 (qc qw_254 (qc qw_255 (qc qw_256 (qc qw_459 (qc qw_460 (qc qw_461 (qc qw_56 (qc qw_462 (qc qw_146 (qc qw_155 (qc qw_152 (qc qw_427 (qc qw_405 (qc qw_61 qn))))))))))))))))))))))))
set_option maxRecDepth 20000 in
theorem qm_wsX5_pour_r2 : ∀ w ∈ wsX5_pour_r2, w ∈ lw_tbl := (qc qw_406 (qc qw_396 (qc qw_397 (qc qw_398 (qc qw_57 (qc qw_399 (qc qw_190 (qc qw_191 (qc qw_192 (qc qw_404 (qc qw_400 (qc qw_401 (qc qw_402 (qc qw_403 (qc qw_134 (qc qw_137 (qc qw_366 (qc qw_299 (qc qw_298 (qc qw_60 (qc qw_140 (qc qw_463 (qc qw_464 (qc qw_465 qn))))))))))))))))))))))))
set_option maxRecDepth 20000 in
theorem qm_wsX5_pour_r3 : ∀ w ∈ wsX5_pour_r3, w ∈ lw_tbl := (qc qw_466 qn)
set_option maxRecDepth 20000 in
theorem qm_wsX5_pour : ∀ w ∈ wsX5_pour, w ∈ lw_tbl := (qc qw_458 (qa (qa (qa (qa qm_wsX5_pour_r1 (qa qm_wsX5_pour_r2 qm_wsX5_pour_r3)) qI_X5) qI_X0) qI_X1))
set_option maxRecDepth 20000 in
theorem qL_X5_pour : GoodIn lw_tbl (wsV RL 62 RX5 yX5_pour wsX5_pour) := goodIn_sub (qa (qc qw_455 (qc qw_456 (qc qw_457 (qc qw_53 qn)))) qm_wsX5_pour) (by decide +kernel)
set_option maxRecDepth 20000 in
theorem qm_wsX6_pour_r1 : ∀ w ∈ wsX6_pour_r1, w ∈ lw_tbl := (qc qw_717 (qc qw_803 (qc qw_724 (qc qw_896 (qc qw_722 (qc qw_933 (qc qw_935 (qc qw_37 (qc qw_59 (qc qw_936 (qc qw_799 (qc qw_800 (qc qw_801 (qc qw_952 (qc qw_954 (qc qw_39 (qc qw_955 (qc qw_956 (qc qw_957 (qc qw_958 (qc qw_905 (qc qw_906 (qc qw_907 (qc qw_908 qn))))))))))))))))))))))))
set_option maxRecDepth 20000 in
theorem qm_wsX6_pour_r2 : ∀ w ∈ wsX6_pour_r2, w ∈ lw_tbl := (qc qw_909 (qc qw_910 (qc qw_898 (qc qw_900 (qc qw_36 (qc qw_901 (qc qw_726 (qc qw_725 qn))))))))
set_option maxRecDepth 20000 in
theorem qm_wsX6_pour : ∀ w ∈ wsX6_pour, w ∈ lw_tbl := (qc qw_951 (qa (qa qm_wsX6_pour_r1 qm_wsX6_pour_r2) qI_X6))
set_option maxRecDepth 20000 in
theorem qL_X6_pour : GoodIn lw_tbl (wsV RL 65 RX6 yX6_pour wsX6_pour) := goodIn_sub (qa (qc qw_948 (qc qw_949 (qc qw_950 (qc qw_59 qn)))) qm_wsX6_pour) (by decide +kernel)
set_option maxRecDepth 20000 in
theorem qm_wsX5_stove_r1 : ∀ w ∈ wsX5_stove_r1, w ∈ lw_tbl := (qc qw_257 (qc qw_218 (qc qw_142 (qc qw_221 (qc qw_471 (qc qw_473 (qc qw_15 (qc qw_53 (qc qw_474 (qc qw_130 (qc qw_254 (qc qw_255 (qc qw_256 (qc qw_396 (qc qw_397 (qc qw_398 (qc qw_57 (qc qw_399 (qc qw_190 (qc qw_191 (qc qw_192 (qc qw_404 (qc qw_405 (qc qw_61 qn))))))))))))))))))))))))
set_option maxRecDepth 20000 in
theorem qm_wsX5_stove_r2 : ∀ w ∈ wsX5_stove_r2, w ∈ lw_tbl := (qc qw_406 (qc qw_400 (qc qw_401 (qc qw_402 (qc qw_56 (qc qw_403 (qc qw_134 (qc qw_137 (qc qw_366 (qc qw_299 (qc qw_298 (qc qw_60 (qc qw_140 (qc qw_146 (qc qw_155 qn)))))))))))))))
set_option maxRecDepth 20000 in
theorem qm_wsX5_stove : ∀ w ∈ wsX5_stove, w ∈ lw_tbl := (qc qw_470 (qa (qa (qa (qa qm_wsX5_stove_r1 qm_wsX5_stove_r2) qI_X5) qI_X0) qI_X1))
set_option maxRecDepth 20000 in
theorem qL_X5_stove : GoodIn lw_tbl (wsV RL 66 RX5 yX5_stove wsX5_stove) := goodIn_sub (qa (qc qw_467 (qc qw_468 (qc qw_469 (qc qw_53 qn)))) qm_wsX5_stove) (by decide +kernel)
set_option maxRecDepth 20000 in
theorem qm_wsX6_stove : ∀ w ∈ wsX6_stove, w ∈ lw_tbl := (qc qw_962 (qa (qc qw_717 (qc qw_967 (qc qw_803 (qc qw_722 (qc qw_963 (qc qw_965 (qc qw_40 (qc qw_59 (qc qw_966 (qc qw_799 (qc qw_800 (qc qw_801 (qc qw_898 (qc qw_900 (qc qw_36 (qc qw_901 (qc qw_726 (qc qw_725 qn)))))))))))))))))) qI_X6))
set_option maxRecDepth 20000 in
theorem qL_X6_stove : GoodIn lw_tbl (wsV RL 69 RX6 yX6_stove wsX6_stove) := goodIn_sub (qa (qc qw_959 (qc qw_960 (qc qw_961 (qc qw_59 qn)))) qm_wsX6_stove) (by decide +kernel)
set_option maxRecDepth 20000 in
theorem qm_wsX5_tube_r1 : ∀ w ∈ wsX5_tube_r1, w ∈ lw_tbl := (qc qw_257 (qc qw_218 (qc qw_148 (qc qw_151 (qc qw_154 (qc qw_157 (qc qw_439 (qc qw_441 (qc qw_13 (qc qw_53 (qc qw_442 (qc qw_133 (qc qw_254 (qc qw_255 (qc qw_256 (qc qw_479 (qc qw_420 (qc qw_421 (qc qw_56 (qc qw_422 (qc qw_143 (qc qw_149 (qc qw_155 (qc qw_134 qn))))))))))))))))))))))))
set_option maxRecDepth 20000 in
theorem qm_wsX5_tube_r2 : ∀ w ∈ wsX5_tube_r2, w ∈ lw_tbl := (qc qw_146 (qc qw_423 (qc qw_424 (qc qw_425 (qc qw_426 (qc qw_128 (qc qw_137 (qc qw_126 qn))))))))
set_option maxRecDepth 20000 in
theorem qm_wsX5_tube : ∀ w ∈ wsX5_tube, w ∈ lw_tbl := (qc qw_478 (qa (qa (qa qm_wsX5_tube_r1 qm_wsX5_tube_r2) qI_X5) qI_X0))
set_option maxRecDepth 20000 in
theorem qL_X5_tube : GoodIn lw_tbl (wsV RL 70 RX5 yX5_tube wsX5_tube) := goodIn_sub (qa (qc qw_475 (qc qw_476 (qc qw_477 (qc qw_53 qn)))) qm_wsX5_tube) (by decide +kernel)
set_option maxRecDepth 20000 in
theorem qm_wsX6_tube_r1 : ∀ w ∈ wsX6_tube_r1, w ∈ lw_tbl := (qc qw_717 (qc qw_976 (qc qw_803 (qc qw_722 (qc qw_933 (qc qw_935 (qc qw_37 (qc qw_59 (qc qw_936 (qc qw_799 (qc qw_800 (qc qw_801 (qc qw_905 (qc qw_906 (qc qw_907 (qc qw_917 (qc qw_918 (qc qw_919 (qc qw_920 (qc qw_921 (qc qw_922 (qc qw_923 (qc qw_924 (qc qw_925 qn))))))))))))))))))))))))
set_option maxRecDepth 20000 in
theorem qm_wsX6_tube_r2 : ∀ w ∈ wsX6_tube_r2, w ∈ lw_tbl := (qc qw_914 (qc qw_915 (qc qw_916 qn)))
set_option maxRecDepth 20000 in
theorem qm_wsX6_tube : ∀ w ∈ wsX6_tube, w ∈ lw_tbl := (qc qw_975 (qa (qa qm_wsX6_tube_r1 qm_wsX6_tube_r2) qI_X6))
set_option maxRecDepth 20000 in
theorem qL_X6_tube : GoodIn lw_tbl (wsV RL 73 RX6 yX6_tube wsX6_tube) := goodIn_sub (qa (qc qw_972 (qc qw_973 (qc qw_974 (qc qw_59 qn)))) qm_wsX6_tube) (by decide +kernel)
set_option maxRecDepth 20000 in
theorem qm_wsX5_room_r1 : ∀ w ∈ wsX5_room_r1, w ∈ lw_tbl := (qc qw_257 (qc qw_218 (qc qw_139 (qc qw_142 (qc qw_443 (qc qw_445 (qc qw_14 (qc qw_53 (qc qw_446 (qc qw_130 (qc qw_392 (qc qw_393 (qc qw_394 (qc qw_56 (qc qw_395 (qc qw_128 (qc qw_254 (qc qw_255 (qc qw_256 (qc qw_484 (qc qw_485 (qc qw_486 (qc qw_487 (qc qw_131 qn))))))))))))))))))))))))
set_option maxRecDepth 20000 in
theorem qm_wsX5_room_r2 : ∀ w ∈ wsX5_room_r2, w ∈ lw_tbl := (qc qw_146 (qc qw_471 (qc qw_473 (qc qw_15 (qc qw_474 (qc qw_488 (qc qw_424 (qc qw_425 (qc qw_426 (qc qw_137 (qc qw_126 qn)))))))))))
set_option maxRecDepth 20000 in
theorem qm_wsX5_room : ∀ w ∈ wsX5_room, w ∈ lw_tbl := (qc qw_483 (qa (qa (qa qm_wsX5_room_r1 qm_wsX5_room_r2) qI_X5) qI_X0))
set_option maxRecDepth 20000 in
theorem qL_X5_room : GoodIn lw_tbl (wsV RL 74 RX5 yX5_room wsX5_room) := goodIn_sub (qa (qc qw_480 (qc qw_481 (qc qw_482 (qc qw_53 qn)))) qm_wsX5_room) (by decide +kernel)
set_option maxRecDepth 20000 in
theorem qm_wsX6_room_r1 : ∀ w ∈ wsX6_room_r1, w ∈ lw_tbl := (qc qw_717 (qc qw_981 (qc qw_722 (qc qw_803 (qc qw_937 (qc qw_939 (qc qw_38 (qc qw_59 (qc qw_940 (qc qw_892 (qc qw_894 (qc qw_35 (qc qw_895 (qc qw_799 (qc qw_800 (qc qw_801 (qc qw_923 (qc qw_924 (qc qw_925 (qc qw_914 (qc qw_915 (qc qw_916 (qc qw_982 (qc qw_983 qn))))))))))))))))))))))))
set_option maxRecDepth 20000 in
theorem qm_wsX6_room_r2 : ∀ w ∈ wsX6_room_r2, w ∈ lw_tbl := (qc qw_984 (qc qw_905 (qc qw_906 (qc qw_907 qn))))
set_option maxRecDepth 20000 in
theorem qm_wsX6_room : ∀ w ∈ wsX6_room, w ∈ lw_tbl := (qc qw_980 (qa (qa qm_wsX6_room_r1 qm_wsX6_room_r2) qI_X6))
set_option maxRecDepth 20000 in
theorem qL_X6_room : GoodIn lw_tbl (wsV RL 77 RX6 yX6_room wsX6_room) := goodIn_sub (qa (qc qw_977 (qc qw_978 (qc qw_979 (qc qw_59 qn)))) qm_wsX6_room) (by decide +kernel)
set_option maxRecDepth 20000 in
theorem qm_wsX5_ahead_r1 : ∀ w ∈ wsX5_ahead_r1, w ∈ lw_tbl := (qc qw_257 (qc qw_219 (qc qw_218 (qc qw_139 (qc qw_471 (qc qw_473 (qc qw_15 (qc qw_53 (qc qw_474 (qc qw_130 (qc qw_254 (qc qw_255 (qc qw_256 (qc qw_362 (qc qw_363 (qc qw_364 (qc qw_56 (qc qw_365 (qc qw_123 (qc qw_126 (qc qw_128 (qc qw_131 (qc qw_134 (qc qw_137 qn))))))))))))))))))))))))
set_option maxRecDepth 20000 in
theorem qm_wsX5_ahead_r2 : ∀ w ∈ wsX5_ahead_r2, w ∈ lw_tbl := (qc qw_366 (qc qw_299 (qc qw_298 (qc qw_60 (qc qw_140 (qc qw_143 (qc qw_146 (qc qw_149 (qc qw_152 (qc qw_155 (qc qw_493 (qc qw_494 (qc qw_495 (qc qw_496 (qc qw_497 (qc qw_408 (qc qw_409 (qc qw_410 (qc qw_428 (qc qw_429 (qc qw_61 (qc qw_430 (qc qw_427 (qc qw_405 qn))))))))))))))))))))))))
set_option maxRecDepth 20000 in
theorem qm_wsX5_ahead_r3 : ∀ w ∈ wsX5_ahead_r3, w ∈ lw_tbl := (qc qw_406 (qc qw_411 (qc qw_413 (qc qw_11 (qc qw_414 (qc qw_415 (qc qw_417 (qc qw_12 (qc qw_418 (qc qw_419 (qc qw_420 (qc qw_421 (qc qw_422 (qc qw_423 (qc qw_424 (qc qw_425 (qc qw_426 qn)))))))))))))))))
set_option maxRecDepth 20000 in
theorem qm_wsX5_ahead : ∀ w ∈ wsX5_ahead, w ∈ lw_tbl := (qc qw_492 (qa (qa (qa qm_wsX5_ahead_r1 (qa qm_wsX5_ahead_r2 qm_wsX5_ahead_r3)) qI_X5) qI_X0))
set_option maxRecDepth 20000 in
theorem qL_X5_ahead : GoodIn lw_tbl (wsV RL 78 RX5 yX5_ahead wsX5_ahead) := goodIn_sub (qa (qc qw_489 (qc qw_490 (qc qw_491 (qc qw_53 qn)))) qm_wsX5_ahead) (by decide +kernel)
set_option maxRecDepth 20000 in
theorem qm_wsX6_ahead_r1 : ∀ w ∈ wsX6_ahead_r1, w ∈ lw_tbl := (qc qw_717 (qc qw_989 (qc qw_803 (qc qw_724 (qc qw_963 (qc qw_965 (qc qw_40 (qc qw_59 (qc qw_966 (qc qw_722 (qc qw_799 (qc qw_800 (qc qw_801 (qc qw_952 (qc qw_954 (qc qw_39 (qc qw_955 (qc qw_990 (qc qw_991 (qc qw_992 (qc qw_902 (qc qw_903 (qc qw_904 (qc qw_905 qn))))))))))))))))))))))))
set_option maxRecDepth 20000 in
theorem qm_wsX6_ahead_r2 : ∀ w ∈ wsX6_ahead_r2, w ∈ lw_tbl := (qc qw_906 (qc qw_907 (qc qw_908 (qc qw_909 (qc qw_910 (qc qw_911 (qc qw_912 (qc qw_913 (qc qw_914 (qc qw_915 (qc qw_916 (qc qw_917 (qc qw_918 (qc qw_919 (qc qw_920 (qc qw_921 (qc qw_922 (qc qw_923 (qc qw_924 (qc qw_925 qn))))))))))))))))))))
set_option maxRecDepth 20000 in
theorem qm_wsX6_ahead : ∀ w ∈ wsX6_ahead, w ∈ lw_tbl := (qc qw_988 (qa (qa qm_wsX6_ahead_r1 qm_wsX6_ahead_r2) qI_X6))
set_option maxRecDepth 20000 in
theorem qL_X6_ahead : GoodIn lw_tbl (wsV RL 81 RX6 yX6_ahead wsX6_ahead) := goodIn_sub (qa (qc qw_985 (qc qw_986 (qc qw_987 (qc qw_59 qn)))) qm_wsX6_ahead) (by decide +kernel)
set_option maxRecDepth 20000 in
theorem qm_wsX5_upAhead_r1 : ∀ w ∈ wsX5_upAhead_r1, w ∈ lw_tbl := (qc qw_257 (qc qw_219 (qc qw_218 (qc qw_157 (qc qw_439 (qc qw_441 (qc qw_13 (qc qw_53 (qc qw_442 (qc qw_133 (qc qw_254 (qc qw_255 (qc qw_256 (qc qw_362 (qc qw_363 (qc qw_364 (qc qw_56 (qc qw_365 (qc qw_123 (qc qw_126 (qc qw_128 (qc qw_131 (qc qw_134 (qc qw_137 qn))))))))))))))))))))))))
set_option maxRecDepth 20000 in
theorem qm_wsX5_upAhead_r2 : ∀ w ∈ wsX5_upAhead_r2, w ∈ lw_tbl := (qc qw_366 (qc qw_299 (qc qw_298 (qc qw_60 (qc qw_140 (qc qw_143 (qc qw_146 (qc qw_149 (qc qw_152 (qc qw_155 (qc qw_493 (qc qw_494 (qc qw_495 (qc qw_496 (qc qw_497 (qc qw_408 (qc qw_409 (qc qw_410 (qc qw_428 (qc qw_429 (qc qw_61 (qc qw_430 (qc qw_427 (qc qw_405 qn))))))))))))))))))))))))
set_option maxRecDepth 20000 in
theorem qm_wsX5_upAhead_r3 : ∀ w ∈ wsX5_upAhead_r3, w ∈ lw_tbl := (qc qw_406 (qc qw_411 (qc qw_413 (qc qw_11 (qc qw_414 (qc qw_415 (qc qw_417 (qc qw_12 (qc qw_418 (qc qw_419 (qc qw_420 (qc qw_421 (qc qw_422 (qc qw_423 (qc qw_424 (qc qw_425 (qc qw_426 qn)))))))))))))))))
set_option maxRecDepth 20000 in
theorem qm_wsX5_upAhead : ∀ w ∈ wsX5_upAhead, w ∈ lw_tbl := (qc qw_501 (qa (qa (qa qm_wsX5_upAhead_r1 (qa qm_wsX5_upAhead_r2 qm_wsX5_upAhead_r3)) qI_X5) qI_X0))
set_option maxRecDepth 20000 in
theorem qL_X5_upAhead : GoodIn lw_tbl (wsV RL 82 RX5 yX5_upAhead wsX5_upAhead) := goodIn_sub (qa (qc qw_498 (qc qw_499 (qc qw_500 (qc qw_53 qn)))) qm_wsX5_upAhead) (by decide +kernel)
set_option maxRecDepth 20000 in
theorem qm_wsX6_upAhead_r1 : ∀ w ∈ wsX6_upAhead_r1, w ∈ lw_tbl := (qc qw_717 (qc qw_989 (qc qw_803 (qc qw_724 (qc qw_933 (qc qw_935 (qc qw_37 (qc qw_59 (qc qw_936 (qc qw_722 (qc qw_799 (qc qw_800 (qc qw_801 (qc qw_952 (qc qw_954 (qc qw_39 (qc qw_955 (qc qw_990 (qc qw_991 (qc qw_992 (qc qw_902 (qc qw_903 (qc qw_904 (qc qw_905 qn))))))))))))))))))))))))
set_option maxRecDepth 20000 in
theorem qm_wsX6_upAhead_r2 : ∀ w ∈ wsX6_upAhead_r2, w ∈ lw_tbl := (qc qw_906 (qc qw_907 (qc qw_908 (qc qw_909 (qc qw_910 (qc qw_911 (qc qw_912 (qc qw_913 (qc qw_914 (qc qw_915 (qc qw_916 (qc qw_917 (qc qw_918 (qc qw_919 (qc qw_920 (qc qw_921 (qc qw_922 (qc qw_923 (qc qw_924 (qc qw_925 qn))))))))))))))))))))
set_option maxRecDepth 20000 in
theorem qm_wsX6_upAhead : ∀ w ∈ wsX6_upAhead, w ∈ lw_tbl := (qc qw_996 (qa (qa qm_wsX6_upAhead_r1 qm_wsX6_upAhead_r2) qI_X6))
set_option maxRecDepth 20000 in
theorem qL_X6_upAhead : GoodIn lw_tbl (wsV RL 85 RX6 yX6_upAhead wsX6_upAhead) := goodIn_sub (qa (qc qw_993 (qc qw_994 (qc qw_995 (qc qw_59 qn)))) qm_wsX6_upAhead) (by decide +kernel)
set_option maxRecDepth 20000 in
theorem qm_wsX5_chill_r1 : ∀ w ∈ wsX5_chill_r1, w ∈ lw_tbl := (qc qw_257 (qc qw_471 (qc qw_473 (qc qw_15 (qc qw_53 (qc qw_474 (qc qw_218 (qc qw_130 (qc qw_254 (qc qw_255 (qc qw_256 (qc qw_506 (qc qw_508 (qc qw_16 (qc qw_509 (qc qw_219 (qc qw_510 (qc qw_362 (qc qw_363 (qc qw_364 (qc qw_56 (qc qw_365 (qc qw_123 (qc qw_126 qn))))))))))))))))))))))))
set_option maxRecDepth 20000 in
theorem qm_wsX5_chill_r2 : ∀ w ∈ wsX5_chill_r2, w ∈ lw_tbl := (qc qw_128 (qc qw_131 (qc qw_134 (qc qw_137 (qc qw_366 (qc qw_299 (qc qw_298 (qc qw_60 (qc qw_140 (qc qw_143 (qc qw_146 (qc qw_149 (qc qw_152 (qc qw_155 (qc qw_431 (qc qw_432 (qc qw_433 (qc qw_434 (qc qw_407 (qc qw_408 (qc qw_409 (qc qw_410 (qc qw_428 (qc qw_429 qn))))))))))))))))))))))))
set_option maxRecDepth 20000 in
theorem qm_wsX5_chill_r3 : ∀ w ∈ wsX5_chill_r3, w ∈ lw_tbl := (qc qw_61 (qc qw_430 (qc qw_427 (qc qw_405 (qc qw_406 (qc qw_411 (qc qw_413 (qc qw_11 (qc qw_414 (qc qw_415 (qc qw_417 (qc qw_12 (qc qw_418 (qc qw_419 (qc qw_420 (qc qw_421 (qc qw_422 (qc qw_423 (qc qw_424 (qc qw_425 (qc qw_426 qn)))))))))))))))))))))
set_option maxRecDepth 20000 in
theorem qm_wsX5_chill : ∀ w ∈ wsX5_chill, w ∈ lw_tbl := (qc qw_505 (qa (qa (qa qm_wsX5_chill_r1 (qa qm_wsX5_chill_r2 qm_wsX5_chill_r3)) qI_X5) qI_X0))
set_option maxRecDepth 20000 in
theorem qL_X5_chill : GoodIn lw_tbl (wsV RL 86 RX5 yX5_chill wsX5_chill) := goodIn_sub (qa (qc qw_502 (qc qw_503 (qc qw_504 (qc qw_53 qn)))) qm_wsX5_chill) (by decide +kernel)
set_option maxRecDepth 20000 in
theorem qm_wsX6_chill_r1 : ∀ w ∈ wsX6_chill_r1, w ∈ lw_tbl := (qc qw_717 (qc qw_803 (qc qw_724 (qc qw_843 (qc qw_963 (qc qw_965 (qc qw_40 (qc qw_59 (qc qw_966 (qc qw_722 (qc qw_799 (qc qw_800 (qc qw_801 (qc qw_952 (qc qw_954 (qc qw_39 (qc qw_955 (qc qw_923 (qc qw_924 (qc qw_925 (qc qw_914 (qc qw_915 (qc qw_916 (qc qw_902 qn))))))))))))))))))))))))
set_option maxRecDepth 20000 in
theorem qm_wsX6_chill_r2 : ∀ w ∈ wsX6_chill_r2, w ∈ lw_tbl := (qc qw_903 (qc qw_904 (qc qw_905 (qc qw_906 (qc qw_907 (qc qw_908 (qc qw_909 (qc qw_910 (qc qw_911 (qc qw_912 (qc qw_913 (qc qw_917 (qc qw_918 (qc qw_919 (qc qw_920 (qc qw_921 (qc qw_922 qn)))))))))))))))))
set_option maxRecDepth 20000 in
theorem qm_wsX6_chill : ∀ w ∈ wsX6_chill, w ∈ lw_tbl := (qc qw_1000 (qa (qa qm_wsX6_chill_r1 qm_wsX6_chill_r2) qI_X6))
set_option maxRecDepth 20000 in
theorem qL_X6_chill : GoodIn lw_tbl (wsV RL 89 RX6 yX6_chill wsX6_chill) := goodIn_sub (qa (qc qw_997 (qc qw_998 (qc qw_999 (qc qw_59 qn)))) qm_wsX6_chill) (by decide +kernel)
set_option maxRecDepth 20000 in
theorem qm_wsX5_first_r1 : ∀ w ∈ wsX5_first_r1, w ∈ lw_tbl := (qc qw_218 (qc qw_379 (qc qw_257 (qc qw_510 (qc qw_219 (qc qw_392 (qc qw_393 (qc qw_394 (qc qw_56 (qc qw_395 (qc qw_128 (qc qw_254 (qc qw_255 (qc qw_53 (qc qw_256 (qc qw_506 (qc qw_508 (qc qw_16 (qc qw_509 (qc qw_362 (qc qw_363 (qc qw_364 (qc qw_365 (qc qw_123 qn))))))))))))))))))))))))
set_option maxRecDepth 20000 in
theorem qm_wsX5_first_r2 : ∀ w ∈ wsX5_first_r2, w ∈ lw_tbl := (qc qw_126 (qc qw_131 (qc qw_134 (qc qw_137 (qc qw_366 (qc qw_299 (qc qw_298 (qc qw_60 (qc qw_140 (qc qw_143 (qc qw_146 (qc qw_149 (qc qw_152 (qc qw_155 (qc qw_431 (qc qw_432 (qc qw_433 (qc qw_434 (qc qw_407 (qc qw_408 (qc qw_409 (qc qw_410 (qc qw_428 (qc qw_429 qn))))))))))))))))))))))))
set_option maxRecDepth 20000 in
theorem qm_wsX5_first_r3 : ∀ w ∈ wsX5_first_r3, w ∈ lw_tbl := (qc qw_61 (qc qw_430 (qc qw_427 (qc qw_405 (qc qw_406 (qc qw_411 (qc qw_413 (qc qw_11 (qc qw_414 (qc qw_415 (qc qw_417 (qc qw_12 (qc qw_418 (qc qw_419 (qc qw_420 (qc qw_421 (qc qw_422 (qc qw_423 (qc qw_424 (qc qw_425 (qc qw_426 (qc qw_515 (qc qw_516 (qc qw_62 qn))))))))))))))))))))))))
set_option maxRecDepth 20000 in
theorem qm_wsX5_first_r4 : ∀ w ∈ wsX5_first_r4, w ∈ lw_tbl := (qc qw_517 (qc qw_518 qn))
set_option maxRecDepth 20000 in
theorem qm_wsX5_first : ∀ w ∈ wsX5_first, w ∈ lw_tbl := (qc qw_514 (qa (qa (qa qm_wsX5_first_r1 (qa qm_wsX5_first_r2 (qa qm_wsX5_first_r3 qm_wsX5_first_r4))) qI_X5) qI_X0))
set_option maxRecDepth 20000 in
theorem qL_X5_first : GoodIn lw_tbl (wsV RL 90 RX5 yX5_first wsX5_first) := goodIn_sub (qa (qc qw_511 (qc qw_512 (qc qw_513 (qc qw_53 qn)))) qm_wsX5_first) (by decide +kernel)
set_option maxRecDepth 20000 in
theorem qm_wsX6_first_r1 : ∀ w ∈ wsX6_first_r1, w ∈ lw_tbl := (qc qw_717 (qc qw_896 (qc qw_803 (qc qw_722 (qc qw_724 (qc qw_843 (qc qw_892 (qc qw_894 (qc qw_35 (qc qw_59 (qc qw_895 (qc qw_799 (qc qw_800 (qc qw_801 (qc qw_952 (qc qw_954 (qc qw_39 (qc qw_955 (qc qw_923 (qc qw_924 (qc qw_925 (qc qw_914 (qc qw_915 (qc qw_916 qn))))))))))))))))))))))))
set_option maxRecDepth 20000 in
theorem qm_wsX6_first_r2 : ∀ w ∈ wsX6_first_r2, w ∈ lw_tbl := (qc qw_902 (qc qw_903 (qc qw_904 (qc qw_905 (qc qw_906 (qc qw_907 (qc qw_908 (qc qw_909 (qc qw_910 (qc qw_911 (qc qw_912 (qc qw_913 (qc qw_917 (qc qw_918 (qc qw_919 (qc qw_920 (qc qw_921 (qc qw_922 qn))))))))))))))))))
set_option maxRecDepth 20000 in
theorem qm_wsX6_first : ∀ w ∈ wsX6_first, w ∈ lw_tbl := (qc qw_1004 (qa (qa qm_wsX6_first_r1 qm_wsX6_first_r2) qI_X6))
set_option maxRecDepth 20000 in
theorem qL_X6_first : GoodIn lw_tbl (wsV RL 93 RX6 yX6_first wsX6_first) := goodIn_sub (qa (qc qw_1001 (qc qw_1002 (qc qw_1003 (qc qw_59 qn)))) qm_wsX6_first) (by decide +kernel)
set_option maxRecDepth 20000 in
theorem qm_wsX5_filled_r1 : ∀ w ∈ wsX5_filled_r1, w ∈ lw_tbl := (qc qw_257 (qc qw_219 (qc qw_218 (qc qw_157 (qc qw_154 (qc qw_510 (qc qw_439 (qc qw_441 (qc qw_13 (qc qw_53 (qc qw_442 (qc qw_133 (qc qw_254 (qc qw_255 (qc qw_256 (qc qw_362 (qc qw_363 (qc qw_364 (qc qw_56 (qc qw_365 (qc qw_123 (qc qw_126 (qc qw_128 (qc qw_131 qn))))))))))))))))))))))))
set_option maxRecDepth 20000 in
theorem qm_wsX5_filled_r2 : ∀ w ∈ wsX5_filled_r2, w ∈ lw_tbl := (qc qw_134 (qc qw_137 (qc qw_366 (qc qw_299 (qc qw_298 (qc qw_60 (qc qw_140 (qc qw_143 (qc qw_146 (qc qw_149 (qc qw_152 (qc qw_155 (qc qw_407 (qc qw_408 (qc qw_409 (qc qw_410 (qc qw_428 (qc qw_429 (qc qw_61 (qc qw_430 (qc qw_427 (qc qw_405 (qc qw_406 (qc qw_411 qn))))))))))))))))))))))))
set_option maxRecDepth 20000 in
theorem qm_wsX5_filled_r3 : ∀ w ∈ wsX5_filled_r3, w ∈ lw_tbl := (qc qw_413 (qc qw_11 (qc qw_414 (qc qw_415 (qc qw_417 (qc qw_12 (qc qw_418 (qc qw_419 (qc qw_420 (qc qw_421 (qc qw_422 (qc qw_423 (qc qw_424 (qc qw_425 (qc qw_426 qn)))))))))))))))
set_option maxRecDepth 20000 in
theorem qm_wsX5_filled : ∀ w ∈ wsX5_filled, w ∈ lw_tbl := (qc qw_522 (qa (qa (qa qm_wsX5_filled_r1 (qa qm_wsX5_filled_r2 qm_wsX5_filled_r3)) qI_X5) qI_X0))
set_option maxRecDepth 20000 in
theorem qL_X5_filled : GoodIn lw_tbl (wsV RL 94 RX5 yX5_filled wsX5_filled) := goodIn_sub (qa (qc qw_519 (qc qw_520 (qc qw_521 (qc qw_53 qn)))) qm_wsX5_filled) (by decide +kernel)
set_option maxRecDepth 20000 in
theorem qm_wsX6_filled_r1 : ∀ w ∈ wsX6_filled_r1, w ∈ lw_tbl := (qc qw_717 (qc qw_803 (qc qw_724 (qc qw_843 (qc qw_933 (qc qw_935 (qc qw_37 (qc qw_59 (qc qw_936 (qc qw_722 (qc qw_799 (qc qw_800 (qc qw_801 (qc qw_952 (qc qw_954 (qc qw_39 (qc qw_955 (qc qw_905 (qc qw_906 (qc qw_907 (qc qw_902 (qc qw_903 (qc qw_904 (qc qw_908 qn))))))))))))))))))))))))
set_option maxRecDepth 20000 in
theorem qm_wsX6_filled_r2 : ∀ w ∈ wsX6_filled_r2, w ∈ lw_tbl := (qc qw_909 (qc qw_910 (qc qw_911 (qc qw_912 (qc qw_913 (qc qw_914 (qc qw_915 (qc qw_916 (qc qw_917 (qc qw_918 (qc qw_919 (qc qw_920 (qc qw_921 (qc qw_922 (qc qw_923 (qc qw_924 (qc qw_925 qn)))))))))))))))))
set_option maxRecDepth 20000 in
theorem qm_wsX6_filled : ∀ w ∈ wsX6_filled, w ∈ lw_tbl := (qc qw_1008 (qa (qa qm_wsX6_filled_r1 qm_wsX6_filled_r2) qI_X6))
set_option maxRecDepth 20000 in
theorem qL_X6_filled : GoodIn lw_tbl (wsV RL 97 RX6 yX6_filled wsX6_filled) := goodIn_sub (qa (qc qw_1005 (qc qw_1006 (qc qw_1007 (qc qw_59 qn)))) qm_wsX6_filled) (by decide +kernel)
set_option maxRecDepth 20000 in
theorem qm_wsX5_outs_r1 : ∀ w ∈ wsX5_outs_r1, w ∈ lw_tbl := (qc qw_257 (qc qw_510 (qc qw_218 (qc qw_471 (qc qw_473 (qc qw_15 (qc qw_53 (qc qw_474 (qc qw_130 (qc qw_254 (qc qw_255 (qc qw_256 (qc qw_484 (qc qw_485 (qc qw_486 (qc qw_56 (qc qw_487 (qc qw_131 (qc qw_146 (qc qw_527 (qc qw_528 (qc qw_529 (qc qw_530 (qc qw_531 qn))))))))))))))))))))))))
set_option maxRecDepth 20000 in
theorem qm_wsX5_outs_r2 : ∀ w ∈ wsX5_outs_r2, w ∈ lw_tbl := (qc qw_532 (qc qw_533 (qc qw_534 (qc qw_62 (qc qw_535 (qc qw_536 (qc qw_537 (qc qw_538 (qc qw_539 (qc qw_541 (qc qw_17 (qc qw_542 (qc qw_219 (qc qw_362 (qc qw_363 (qc qw_364 (qc qw_365 (qc qw_123 (qc qw_126 (qc qw_128 (qc qw_134 (qc qw_137 (qc qw_366 (qc qw_299 qn))))))))))))))))))))))))
set_option maxRecDepth 20000 in
theorem qm_wsX5_outs_r3 : ∀ w ∈ wsX5_outs_r3, w ∈ lw_tbl := (qc qw_298 (qc qw_60 (qc qw_140 (qc qw_143 (qc qw_149 (qc qw_152 (qc qw_155 (qc qw_543 (qc qw_544 (qc qw_545 (qc qw_546 (qc qw_407 (qc qw_408 (qc qw_409 (qc qw_410 (qc qw_428 (qc qw_429 (qc qw_61 (qc qw_430 (qc qw_427 (qc qw_405 (qc qw_406 (qc qw_411 (qc qw_413 qn))))))))))))))))))))))))
set_option maxRecDepth 20000 in
theorem qm_wsX5_outs_r4 : ∀ w ∈ wsX5_outs_r4, w ∈ lw_tbl := (qc qw_11 (qc qw_414 (qc qw_415 (qc qw_417 (qc qw_12 (qc qw_418 (qc qw_419 (qc qw_420 (qc qw_421 (qc qw_422 (qc qw_423 (qc qw_424 (qc qw_425 (qc qw_426 (qc qw_488 (qc qw_547 (qc qw_548 (qc qw_549 qn))))))))))))))))))
set_option maxRecDepth 20000 in
theorem qm_wsX5_outs : ∀ w ∈ wsX5_outs, w ∈ lw_tbl := (qc qw_526 (qa (qa (qa qm_wsX5_outs_r1 (qa qm_wsX5_outs_r2 (qa qm_wsX5_outs_r3 qm_wsX5_outs_r4))) qI_X5) qI_X0))
set_option maxRecDepth 20000 in
theorem qL_X5_outs : GoodIn lw_tbl (wsV RL 98 RX5 yX5_outs wsX5_outs) := goodIn_sub (qa (qc qw_523 (qc qw_524 (qc qw_525 (qc qw_53 qn)))) qm_wsX5_outs) (by decide +kernel)
set_option maxRecDepth 20000 in
theorem qm_wsX6_outs_r1 : ∀ w ∈ wsX6_outs_r1, w ∈ lw_tbl := (qc qw_717 (qc qw_1013 (qc qw_803 (qc qw_843 (qc qw_724 (qc qw_963 (qc qw_965 (qc qw_40 (qc qw_59 (qc qw_966 (qc qw_722 (qc qw_799 (qc qw_800 (qc qw_801 (qc qw_1014 (qc qw_1016 (qc qw_41 (qc qw_1017 (qc qw_982 (qc qw_983 (qc qw_984 (qc qw_905 (qc qw_906 (qc qw_907 qn))))))))))))))))))))))))
set_option maxRecDepth 20000 in
theorem qm_wsX6_outs_r2 : ∀ w ∈ wsX6_outs_r2, w ∈ lw_tbl := (qc qw_1018 (qc qw_1019 (qc qw_1020 (qc qw_1021 (qc qw_1023 (qc qw_42 (qc qw_1024 (qc qw_952 (qc qw_954 (qc qw_39 (qc qw_955 (qc qw_1025 (qc qw_1026 (qc qw_1027 (qc qw_908 (qc qw_909 (qc qw_910 (qc qw_902 (qc qw_903 (qc qw_904 (qc qw_911 (qc qw_912 (qc qw_913 (qc qw_914 qn))))))))))))))))))))))))
set_option maxRecDepth 20000 in
theorem qm_wsX6_outs_r3 : ∀ w ∈ wsX6_outs_r3, w ∈ lw_tbl := (qc qw_915 (qc qw_916 (qc qw_917 (qc qw_918 (qc qw_919 (qc qw_920 (qc qw_921 (qc qw_922 (qc qw_923 (qc qw_924 (qc qw_925 qn)))))))))))
set_option maxRecDepth 20000 in
theorem qm_wsX6_outs : ∀ w ∈ wsX6_outs, w ∈ lw_tbl := (qc qw_1012 (qa (qa qm_wsX6_outs_r1 (qa qm_wsX6_outs_r2 qm_wsX6_outs_r3)) qI_X6))
set_option maxRecDepth 20000 in
theorem qL_X6_outs : GoodIn lw_tbl (wsV RL 101 RX6 yX6_outs wsX6_outs) := goodIn_sub (qa (qc qw_1009 (qc qw_1010 (qc qw_1011 (qc qw_59 qn)))) qm_wsX6_outs) (by decide +kernel)
set_option maxRecDepth 20000 in
theorem qm_wsX5_shakes_r1 : ∀ w ∈ wsX5_shakes_r1, w ∈ lw_tbl := (qc qw_257 (qc qw_510 (qc qw_218 (qc qw_471 (qc qw_473 (qc qw_15 (qc qw_53 (qc qw_474 (qc qw_130 (qc qw_254 (qc qw_255 (qc qw_256 (qc qw_484 (qc qw_485 (qc qw_486 (qc qw_56 (qc qw_487 (qc qw_131 (qc qw_146 (qc qw_527 (qc qw_528 (qc qw_529 (qc qw_530 (qc qw_531 qn))))))))))))))))))))))))
set_option maxRecDepth 20000 in
theorem qm_wsX5_shakes_r2 : ∀ w ∈ wsX5_shakes_r2, w ∈ lw_tbl := (qc qw_532 (qc qw_533 (qc qw_534 (qc qw_62 (qc qw_535 (qc qw_536 (qc qw_537 (qc qw_538 (qc qw_554 (qc qw_556 (qc qw_18 (qc qw_557 (qc qw_219 (qc qw_362 (qc qw_363 (qc qw_364 (qc qw_365 (qc qw_123 (qc qw_126 (qc qw_128 (qc qw_134 (qc qw_137 (qc qw_366 (qc qw_299 qn))))))))))))))))))))))))
set_option maxRecDepth 20000 in
theorem qm_wsX5_shakes_r3 : ∀ w ∈ wsX5_shakes_r3, w ∈ lw_tbl := (qc qw_298 (qc qw_60 (qc qw_140 (qc qw_143 (qc qw_149 (qc qw_152 (qc qw_155 (qc qw_558 (qc qw_559 (qc qw_560 (qc qw_561 (qc qw_562 (qc qw_452 (qc qw_453 (qc qw_454 (qc qw_427 (qc qw_405 (qc qw_61 (qc qw_406 (qc qw_493 (qc qw_494 (qc qw_495 (qc qw_496 (qc qw_497 qn))))))))))))))))))))))))
set_option maxRecDepth 20000 in
theorem qm_wsX5_shakes_r4 : ∀ w ∈ wsX5_shakes_r4, w ∈ lw_tbl := (qc qw_408 (qc qw_409 (qc qw_410 (qc qw_428 (qc qw_429 (qc qw_430 (qc qw_411 (qc qw_413 (qc qw_11 (qc qw_414 (qc qw_415 (qc qw_417 (qc qw_12 (qc qw_418 (qc qw_419 (qc qw_420 (qc qw_421 (qc qw_422 (qc qw_423 (qc qw_424 (qc qw_425 (qc qw_426 (qc qw_488 (qc qw_547 qn))))))))))))))))))))))))
set_option maxRecDepth 20000 in
theorem qm_wsX5_shakes_r5 : ∀ w ∈ wsX5_shakes_r5, w ∈ lw_tbl := (qc qw_548 (qc qw_549 qn))
set_option maxRecDepth 20000 in
theorem qm_wsX5_shakes : ∀ w ∈ wsX5_shakes, w ∈ lw_tbl := (qc qw_553 (qa (qa (qa qm_wsX5_shakes_r1 (qa qm_wsX5_shakes_r2 (qa qm_wsX5_shakes_r3 (qa qm_wsX5_shakes_r4 qm_wsX5_shakes_r5)))) qI_X5) qI_X0))
set_option maxRecDepth 20000 in
theorem qL_X5_shakes : GoodIn lw_tbl (wsV RL 102 RX5 yX5_shakes wsX5_shakes) := goodIn_sub (qa (qc qw_550 (qc qw_551 (qc qw_552 (qc qw_53 qn)))) qm_wsX5_shakes) (by decide +kernel)
set_option maxRecDepth 20000 in
theorem qm_wsX6_shakes_r1 : ∀ w ∈ wsX6_shakes_r1, w ∈ lw_tbl := (qc qw_717 (qc qw_1013 (qc qw_803 (qc qw_722 (qc qw_843 (qc qw_724 (qc qw_963 (qc qw_965 (qc qw_40 (qc qw_59 (qc qw_966 (qc qw_799 (qc qw_800 (qc qw_801 (qc qw_982 (qc qw_983 (qc qw_984 (qc qw_905 (qc qw_906 (qc qw_907 (qc qw_1018 (qc qw_1019 (qc qw_1020 (qc qw_1032 qn))))))))))))))))))))))))
set_option maxRecDepth 20000 in
theorem qm_wsX6_shakes_r2 : ∀ w ∈ wsX6_shakes_r2, w ∈ lw_tbl := (qc qw_1034 (qc qw_43 (qc qw_1035 (qc qw_952 (qc qw_954 (qc qw_39 (qc qw_955 (qc qw_1025 (qc qw_1026 (qc qw_1027 (qc qw_945 (qc qw_946 (qc qw_947 (qc qw_911 (qc qw_912 (qc qw_913 (qc qw_914 (qc qw_915 (qc qw_916 (qc qw_908 (qc qw_909 (qc qw_910 (qc qw_990 (qc qw_991 qn))))))))))))))))))))))))
set_option maxRecDepth 20000 in
theorem qm_wsX6_shakes_r3 : ∀ w ∈ wsX6_shakes_r3, w ∈ lw_tbl := (qc qw_992 (qc qw_902 (qc qw_903 (qc qw_904 (qc qw_917 (qc qw_918 (qc qw_919 (qc qw_920 (qc qw_921 (qc qw_922 (qc qw_923 (qc qw_924 (qc qw_925 qn)))))))))))))
set_option maxRecDepth 20000 in
theorem qm_wsX6_shakes : ∀ w ∈ wsX6_shakes, w ∈ lw_tbl := (qc qw_1031 (qa (qa qm_wsX6_shakes_r1 (qa qm_wsX6_shakes_r2 qm_wsX6_shakes_r3)) qI_X6))
set_option maxRecDepth 20000 in
theorem qL_X6_shakes : GoodIn lw_tbl (wsV RL 105 RX6 yX6_shakes wsX6_shakes) := goodIn_sub (qa (qc qw_1028 (qc qw_1029 (qc qw_1030 (qc qw_59 qn)))) qm_wsX6_shakes) (by decide +kernel)
set_option maxRecDepth 20000 in
theorem qm_wsX5_hang_r1 : ∀ w ∈ wsX5_hang_r1, w ∈ lw_tbl := (qc qw_257 (qc qw_218 (qc qw_130 (qc qw_219 (qc qw_148 (qc qw_157 (qc qw_439 (qc qw_441 (qc qw_13 (qc qw_53 (qc qw_442 (qc qw_133 (qc qw_254 (qc qw_255 (qc qw_256 (qc qw_362 (qc qw_363 (qc qw_364 (qc qw_56 (qc qw_365 (qc qw_123 (qc qw_126 (qc qw_128 (qc qw_131 qn))))))))))))))))))))))))
set_option maxRecDepth 20000 in
theorem qm_wsX5_hang_r2 : ∀ w ∈ wsX5_hang_r2, w ∈ lw_tbl := (qc qw_134 (qc qw_137 (qc qw_366 (qc qw_299 (qc qw_298 (qc qw_60 (qc qw_140 (qc qw_143 (qc qw_146 (qc qw_149 (qc qw_152 (qc qw_155 (qc qw_493 (qc qw_494 (qc qw_495 (qc qw_496 (qc qw_497 (qc qw_408 (qc qw_409 (qc qw_410 (qc qw_428 (qc qw_429 (qc qw_61 (qc qw_430 qn))))))))))))))))))))))))
set_option maxRecDepth 20000 in
theorem qm_wsX5_hang_r3 : ∀ w ∈ wsX5_hang_r3, w ∈ lw_tbl := (qc qw_427 (qc qw_405 (qc qw_406 (qc qw_411 (qc qw_413 (qc qw_11 (qc qw_414 (qc qw_415 (qc qw_417 (qc qw_12 (qc qw_418 (qc qw_419 (qc qw_420 (qc qw_421 (qc qw_422 (qc qw_423 (qc qw_424 (qc qw_425 (qc qw_426 qn)))))))))))))))))))
set_option maxRecDepth 20000 in
theorem qm_wsX5_hang : ∀ w ∈ wsX5_hang, w ∈ lw_tbl := (qc qw_566 (qa (qa (qa qm_wsX5_hang_r1 (qa qm_wsX5_hang_r2 qm_wsX5_hang_r3)) qI_X5) qI_X0))
set_option maxRecDepth 20000 in
theorem qL_X5_hang : GoodIn lw_tbl (wsV RL 106 RX5 yX5_hang wsX5_hang) := goodIn_sub (qa (qc qw_563 (qc qw_564 (qc qw_565 (qc qw_53 qn)))) qm_wsX5_hang) (by decide +kernel)
set_option maxRecDepth 20000 in
theorem qm_wsX6_hang_r1 : ∀ w ∈ wsX6_hang_r1, w ∈ lw_tbl := (qc qw_717 (qc qw_1013 (qc qw_803 (qc qw_843 (qc qw_722 (qc qw_724 (qc qw_933 (qc qw_935 (qc qw_37 (qc qw_59 (qc qw_936 (qc qw_799 (qc qw_800 (qc qw_801 (qc qw_952 (qc qw_954 (qc qw_39 (qc qw_955 (qc qw_908 (qc qw_909 (qc qw_910 (qc qw_990 (qc qw_991 (qc qw_992 qn))))))))))))))))))))))))
set_option maxRecDepth 20000 in
theorem qm_wsX6_hang_r2 : ∀ w ∈ wsX6_hang_r2, w ∈ lw_tbl := (qc qw_902 (qc qw_903 (qc qw_904 (qc qw_905 (qc qw_906 (qc qw_907 (qc qw_911 (qc qw_912 (qc qw_913 (qc qw_914 (qc qw_915 (qc qw_916 (qc qw_917 (qc qw_918 (qc qw_919 (qc qw_920 (qc qw_921 (qc qw_922 (qc qw_923 (qc qw_924 (qc qw_925 qn)))))))))))))))))))))
set_option maxRecDepth 20000 in
theorem qm_wsX6_hang : ∀ w ∈ wsX6_hang, w ∈ lw_tbl := (qc qw_1039 (qa (qa qm_wsX6_hang_r1 qm_wsX6_hang_r2) qI_X6))
set_option maxRecDepth 20000 in
theorem qL_X6_hang : GoodIn lw_tbl (wsV RL 109 RX6 yX6_hang wsX6_hang) := goodIn_sub (qa (qc qw_1036 (qc qw_1037 (qc qw_1038 (qc qw_59 qn)))) qm_wsX6_hang) (by decide +kernel)
set_option maxRecDepth 20000 in
theorem qm_wsX5_fire_r1 : ∀ w ∈ wsX5_fire_r1, w ∈ lw_tbl := (qc qw_257 (qc qw_219 (qc qw_218 (qc qw_142 (qc qw_510 (qc qw_471 (qc qw_473 (qc qw_15 (qc qw_53 (qc qw_474 (qc qw_130 (qc qw_254 (qc qw_255 (qc qw_256 (qc qw_362 (qc qw_363 (qc qw_364 (qc qw_56 (qc qw_365 (qc qw_123 (qc qw_126 (qc qw_128 (qc qw_131 (qc qw_134 qn))))))))))))))))))))))))
set_option maxRecDepth 20000 in
theorem qm_wsX5_fire_r2 : ∀ w ∈ wsX5_fire_r2, w ∈ lw_tbl := (qc qw_137 (qc qw_366 (qc qw_299 (qc qw_298 (qc qw_60 (qc qw_140 (qc qw_143 (qc qw_146 (qc qw_149 (qc qw_152 (qc qw_155 (qc qw_493 (qc qw_494 (qc qw_495 (qc qw_496 (qc qw_497 (qc qw_408 (qc qw_409 (qc qw_410 (qc qw_428 (qc qw_429 (qc qw_61 (qc qw_430 (qc qw_427 qn))))))))))))))))))))))))
set_option maxRecDepth 20000 in
theorem qm_wsX5_fire_r3 : ∀ w ∈ wsX5_fire_r3, w ∈ lw_tbl := (qc qw_405 (qc qw_406 (qc qw_411 (qc qw_413 (qc qw_11 (qc qw_414 (qc qw_415 (qc qw_417 (qc qw_12 (qc qw_418 (qc qw_419 (qc qw_420 (qc qw_421 (qc qw_422 (qc qw_423 (qc qw_424 (qc qw_425 (qc qw_426 (qc qw_488 qn)))))))))))))))))))
set_option maxRecDepth 20000 in
theorem qm_wsX5_fire : ∀ w ∈ wsX5_fire, w ∈ lw_tbl := (qc qw_570 (qa (qa (qa qm_wsX5_fire_r1 (qa qm_wsX5_fire_r2 qm_wsX5_fire_r3)) qI_X5) qI_X0))
set_option maxRecDepth 20000 in
theorem qL_X5_fire : GoodIn lw_tbl (wsV RL 110 RX5 yX5_fire wsX5_fire) := goodIn_sub (qa (qc qw_567 (qc qw_568 (qc qw_569 (qc qw_53 qn)))) qm_wsX5_fire) (by decide +kernel)
set_option maxRecDepth 20000 in
theorem qm_wsX6_fire_r1 : ∀ w ∈ wsX6_fire_r1, w ∈ lw_tbl := (qc qw_717 (qc qw_1013 (qc qw_803 (qc qw_724 (qc qw_843 (qc qw_963 (qc qw_965 (qc qw_40 (qc qw_59 (qc qw_966 (qc qw_722 (qc qw_799 (qc qw_800 (qc qw_801 (qc qw_952 (qc qw_954 (qc qw_39 (qc qw_955 (qc qw_990 (qc qw_991 (qc qw_992 (qc qw_902 (qc qw_903 (qc qw_904 qn))))))))))))))))))))))))
set_option maxRecDepth 20000 in
theorem qm_wsX6_fire_r2 : ∀ w ∈ wsX6_fire_r2, w ∈ lw_tbl := (qc qw_905 (qc qw_906 (qc qw_907 (qc qw_908 (qc qw_909 (qc qw_910 (qc qw_911 (qc qw_912 (qc qw_913 (qc qw_914 (qc qw_915 (qc qw_916 (qc qw_917 (qc qw_918 (qc qw_919 (qc qw_920 (qc qw_921 (qc qw_922 (qc qw_923 (qc qw_924 (qc qw_925 qn)))))))))))))))))))))
set_option maxRecDepth 20000 in
theorem qm_wsX6_fire : ∀ w ∈ wsX6_fire, w ∈ lw_tbl := (qc qw_1043 (qa (qa qm_wsX6_fire_r1 qm_wsX6_fire_r2) qI_X6))
set_option maxRecDepth 20000 in
theorem qL_X6_fire : GoodIn lw_tbl (wsV RL 113 RX6 yX6_fire wsX6_fire) := goodIn_sub (qa (qc qw_1040 (qc qw_1041 (qc qw_1042 (qc qw_59 qn)))) qm_wsX6_fire) (by decide +kernel)
set_option maxRecDepth 20000 in
theorem qm_wsX5_pours_r1 : ∀ w ∈ wsX5_pours_r1, w ∈ lw_tbl := (qc qw_257 (qc qw_219 (qc qw_218 (qc qw_222 (qc qw_510 (qc qw_439 (qc qw_441 (qc qw_13 (qc qw_53 (qc qw_442 (qc qw_133 (qc qw_254 (qc qw_255 (qc qw_256 (qc qw_362 (qc qw_363 (qc qw_364 (qc qw_56 (qc qw_365 (qc qw_123 (qc qw_126 (qc qw_128 (qc qw_131 (qc qw_134 qn))))))))))))))))))))))))
set_option maxRecDepth 20000 in
theorem qm_wsX5_pours_r2 : ∀ w ∈ wsX5_pours_r2, w ∈ lw_tbl := (qc qw_137 (qc qw_366 (qc qw_299 (qc qw_298 (qc qw_60 (qc qw_140 (qc qw_143 (qc qw_146 (qc qw_149 (qc qw_152 (qc qw_155 (qc qw_575 (qc qw_576 (qc qw_577 (qc qw_157 (qc qw_148 (qc qw_484 (qc qw_485 (qc qw_486 (qc qw_487 (qc qw_527 (qc qw_528 (qc qw_529 (qc qw_459 qn))))))))))))))))))))))))
set_option maxRecDepth 20000 in
theorem qm_wsX5_pours_r3 : ∀ w ∈ wsX5_pours_r3, w ∈ lw_tbl := (qc qw_460 (qc qw_461 (qc qw_462 (qc qw_427 (qc qw_405 (qc qw_61 (qc qw_406 (qc qw_463 (qc qw_464 (qc qw_465 (qc qw_466 qn)))))))))))
set_option maxRecDepth 20000 in
theorem qm_wsX5_pours : ∀ w ∈ wsX5_pours, w ∈ lw_tbl := (qc qw_574 (qa (qa (qa qm_wsX5_pours_r1 (qa qm_wsX5_pours_r2 qm_wsX5_pours_r3)) qI_X5) qI_X0))
set_option maxRecDepth 20000 in
theorem qL_X5_pours : GoodIn lw_tbl (wsV RL 114 RX5 yX5_pours wsX5_pours) := goodIn_sub (qa (qc qw_571 (qc qw_572 (qc qw_573 (qc qw_53 qn)))) qm_wsX5_pours) (by decide +kernel)
set_option maxRecDepth 20000 in
theorem qm_wsX6_pours_r1 : ∀ w ∈ wsX6_pours_r1, w ∈ lw_tbl := (qc qw_717 (qc qw_1048 (qc qw_803 (qc qw_736 (qc qw_843 (qc qw_933 (qc qw_935 (qc qw_37 (qc qw_59 (qc qw_936 (qc qw_722 (qc qw_799 (qc qw_800 (qc qw_801 (qc qw_1049 (qc qw_1051 (qc qw_44 (qc qw_1052 (qc qw_724 (qc qw_952 (qc qw_954 (qc qw_39 (qc qw_955 (qc qw_905 qn))))))))))))))))))))))))
set_option maxRecDepth 20000 in
theorem qm_wsX6_pours_r2 : ∀ w ∈ wsX6_pours_r2, w ∈ lw_tbl := (qc qw_906 (qc qw_907 (qc qw_956 (qc qw_957 (qc qw_958 (qc qw_908 (qc qw_909 (qc qw_910 qn))))))))
set_option maxRecDepth 20000 in
theorem qm_wsX6_pours : ∀ w ∈ wsX6_pours, w ∈ lw_tbl := (qc qw_1047 (qa (qa qm_wsX6_pours_r1 qm_wsX6_pours_r2) qI_X6))
set_option maxRecDepth 20000 in
theorem qL_X6_pours : GoodIn lw_tbl (wsV RL 117 RX6 yX6_pours wsX6_pours) := goodIn_sub (qa (qc qw_1044 (qc qw_1045 (qc qw_1046 (qc qw_59 qn)))) qm_wsX6_pours) (by decide +kernel)
set_option maxRecDepth 20000 in
theorem qm_wsX5_mix_r1 : ∀ w ∈ wsX5_mix_r1, w ∈ lw_tbl := (qc qw_257 (qc qw_510 (qc qw_218 (qc qw_139 (qc qw_586 (qc qw_405 (qc qw_61 (qc qw_406 (qc qw_471 (qc qw_473 (qc qw_15 (qc qw_53 (qc qw_474 (qc qw_130 (qc qw_254 (qc qw_255 (qc qw_256 (qc qw_484 (qc qw_485 (qc qw_486 (qc qw_56 (qc qw_487 (qc qw_131 (qc qw_146 qn))))))))))))))))))))))))
set_option maxRecDepth 20000 in
theorem qm_wsX5_mix_r2 : ∀ w ∈ wsX5_mix_r2, w ∈ lw_tbl := (qc qw_527 (qc qw_528 (qc qw_529 (qc qw_582 (qc qw_583 (qc qw_584 (qc qw_585 (qc qw_155 qn))))))))
set_option maxRecDepth 20000 in
theorem qm_wsX5_mix : ∀ w ∈ wsX5_mix, w ∈ lw_tbl := (qc qw_581 (qa (qa (qa qm_wsX5_mix_r1 qm_wsX5_mix_r2) qI_X5) qI_X0))
set_option maxRecDepth 20000 in
theorem qL_X5_mix : GoodIn lw_tbl (wsV RL 118 RX5 yX5_mix wsX5_mix) := goodIn_sub (qa (qc qw_578 (qc qw_579 (qc qw_580 (qc qw_53 qn)))) qm_wsX5_mix) (by decide +kernel)
set_option maxRecDepth 20000 in
theorem qm_wsX6_mix_r1 : ∀ w ∈ wsX6_mix_r1, w ∈ lw_tbl := (qc qw_717 (qc qw_1057 (qc qw_803 (qc qw_722 (qc qw_843 (qc qw_724 (qc qw_963 (qc qw_965 (qc qw_40 (qc qw_59 (qc qw_966 (qc qw_799 (qc qw_800 (qc qw_801 (qc qw_982 (qc qw_983 (qc qw_984 (qc qw_905 (qc qw_906 (qc qw_907 (qc qw_1032 (qc qw_1034 (qc qw_43 (qc qw_1035 qn))))))))))))))))))))))))
set_option maxRecDepth 20000 in
theorem qm_wsX6_mix_r2 : ∀ w ∈ wsX6_mix_r2, w ∈ lw_tbl := (qc qw_952 (qc qw_954 (qc qw_39 (qc qw_955 (qc qw_1025 (qc qw_1026 (qc qw_1027 (qc qw_945 (qc qw_946 (qc qw_947 (qc qw_911 (qc qw_912 (qc qw_913 (qc qw_914 (qc qw_915 (qc qw_916 (qc qw_908 (qc qw_909 (qc qw_910 qn)))))))))))))))))))
set_option maxRecDepth 20000 in
theorem qm_wsX6_mix : ∀ w ∈ wsX6_mix, w ∈ lw_tbl := (qc qw_1056 (qa (qa qm_wsX6_mix_r1 qm_wsX6_mix_r2) qI_X6))
set_option maxRecDepth 20000 in
theorem qL_X6_mix : GoodIn lw_tbl (wsV RL 121 RX6 yX6_mix wsX6_mix) := goodIn_sub (qa (qc qw_1053 (qc qw_1054 (qc qw_1055 (qc qw_59 qn)))) qm_wsX6_mix) (by decide +kernel)
set_option maxRecDepth 20000 in
theorem qm_wsX5_degrees : ∀ w ∈ wsX5_degrees, w ∈ lw_tbl := (qc qw_590 (qa (qa (qc qw_218 (qc qw_379 (qc qw_392 (qc qw_393 (qc qw_394 (qc qw_56 (qc qw_395 (qc qw_128 (qc qw_591 (qc qw_592 (qc qw_593 (qc qw_594 (qc qw_137 (qc qw_595 (qc qw_583 (qc qw_584 (qc qw_585 (qc qw_131 (qc qw_155 qn))))))))))))))))))) qI_X5) qI_X0))
set_option maxRecDepth 20000 in
theorem qL_X5_degrees : GoodIn lw_tbl (wsV RL 122 RX5 yX5_degrees wsX5_degrees) := goodIn_sub (qa (qc qw_587 (qc qw_588 (qc qw_589 (qc qw_53 qn)))) qm_wsX5_degrees) (by decide +kernel)
set_option maxRecDepth 20000 in
theorem qm_wsX6_degrees : ∀ w ∈ wsX6_degrees, w ∈ lw_tbl := (qc qw_1061 (qa (qc qw_717 (qc qw_722 (qc qw_896 (qc qw_892 (qc qw_894 (qc qw_35 (qc qw_59 (qc qw_895 (qc qw_1062 (qc qw_1063 (qc qw_1064 (qc qw_1065 (qc qw_1066 (qc qw_1067 (qc qw_905 (qc qw_906 (qc qw_907 (qc qw_914 (qc qw_915 (qc qw_916 qn)))))))))))))))))))) qI_X6))
set_option maxRecDepth 20000 in
theorem qL_X6_degrees : GoodIn lw_tbl (wsV RL 125 RX6 yX6_degrees wsX6_degrees) := goodIn_sub (qa (qc qw_1058 (qc qw_1059 (qc qw_1060 (qc qw_59 qn)))) qm_wsX6_degrees) (by decide +kernel)
set_option maxRecDepth 20000 in
theorem qm_wsX5_sale_r1 : ∀ w ∈ wsX5_sale_r1, w ∈ lw_tbl := (qc qw_257 (qc qw_219 (qc qw_218 (qc qw_157 (qc qw_600 (qc qw_429 (qc qw_61 (qc qw_430 (qc qw_439 (qc qw_441 (qc qw_13 (qc qw_53 (qc qw_442 (qc qw_133 (qc qw_254 (qc qw_255 (qc qw_256 (qc qw_362 (qc qw_363 (qc qw_364 (qc qw_56 (qc qw_365 (qc qw_123 (qc qw_126 qn))))))))))))))))))))))))
set_option maxRecDepth 20000 in
theorem qm_wsX5_sale_r2 : ∀ w ∈ wsX5_sale_r2, w ∈ lw_tbl := (qc qw_128 (qc qw_131 (qc qw_134 (qc qw_137 (qc qw_366 (qc qw_299 (qc qw_298 (qc qw_60 (qc qw_140 (qc qw_143 (qc qw_146 (qc qw_149 (qc qw_152 (qc qw_155 (qc qw_407 (qc qw_408 (qc qw_409 (qc qw_410 (qc qw_428 (qc qw_427 (qc qw_405 (qc qw_406 (qc qw_411 (qc qw_413 qn))))))))))))))))))))))))
set_option maxRecDepth 20000 in
theorem qm_wsX5_sale_r3 : ∀ w ∈ wsX5_sale_r3, w ∈ lw_tbl := (qc qw_11 (qc qw_414 (qc qw_415 (qc qw_417 (qc qw_12 (qc qw_418 (qc qw_419 (qc qw_420 (qc qw_421 (qc qw_422 (qc qw_423 (qc qw_424 (qc qw_425 (qc qw_426 qn))))))))))))))
set_option maxRecDepth 20000 in
theorem qm_wsX5_sale : ∀ w ∈ wsX5_sale, w ∈ lw_tbl := (qc qw_599 (qa (qa (qa qm_wsX5_sale_r1 (qa qm_wsX5_sale_r2 qm_wsX5_sale_r3)) qI_X5) qI_X0))
set_option maxRecDepth 20000 in
theorem qL_X5_sale : GoodIn lw_tbl (wsV RL 126 RX5 yX5_sale wsX5_sale) := goodIn_sub (qa (qc qw_596 (qc qw_597 (qc qw_598 (qc qw_53 qn)))) qm_wsX5_sale) (by decide +kernel)
set_option maxRecDepth 20000 in
theorem qm_wsX6_sale_r1 : ∀ w ∈ wsX6_sale_r1, w ∈ lw_tbl := (qc qw_717 (qc qw_1013 (qc qw_1072 (qc qw_1073 (qc qw_803 (qc qw_843 (qc qw_724 (qc qw_933 (qc qw_935 (qc qw_37 (qc qw_59 (qc qw_936 (qc qw_722 (qc qw_799 (qc qw_800 (qc qw_801 (qc qw_952 (qc qw_954 (qc qw_39 (qc qw_955 (qc qw_905 (qc qw_906 (qc qw_907 (qc qw_902 qn))))))))))))))))))))))))
set_option maxRecDepth 20000 in
theorem qm_wsX6_sale_r2 : ∀ w ∈ wsX6_sale_r2, w ∈ lw_tbl := (qc qw_903 (qc qw_904 (qc qw_908 (qc qw_909 (qc qw_910 (qc qw_911 (qc qw_912 (qc qw_913 (qc qw_914 (qc qw_915 (qc qw_916 (qc qw_917 (qc qw_918 (qc qw_919 (qc qw_920 (qc qw_921 (qc qw_922 (qc qw_923 (qc qw_924 (qc qw_925 qn))))))))))))))))))))
set_option maxRecDepth 20000 in
theorem qm_wsX6_sale : ∀ w ∈ wsX6_sale, w ∈ lw_tbl := (qc qw_1071 (qa (qa qm_wsX6_sale_r1 qm_wsX6_sale_r2) qI_X6))
set_option maxRecDepth 20000 in
theorem qL_X6_sale : GoodIn lw_tbl (wsV RL 129 RX6 yX6_sale wsX6_sale) := goodIn_sub (qa (qc qw_1068 (qc qw_1069 (qc qw_1070 (qc qw_59 qn)))) qm_wsX6_sale) (by decide +kernel)
set_option maxRecDepth 20000 in
theorem qm_wsX5_who_r1 : ∀ w ∈ wsX5_who_r1, w ∈ lw_tbl := (qc qw_257 (qc qw_216 (qc qw_218 (qc qw_130 (qc qw_219 (qc qw_439 (qc qw_441 (qc qw_13 (qc qw_53 (qc qw_442 (qc qw_133 (qc qw_254 (qc qw_255 (qc qw_256 (qc qw_471 (qc qw_473 (qc qw_15 (qc qw_474 (qc qw_251 (qc qw_252 (qc qw_253 (qc qw_279 (qc qw_280 (qc qw_281 qn))))))))))))))))))))))))
set_option maxRecDepth 20000 in
theorem qm_wsX5_who_r2 : ∀ w ∈ wsX5_who_r2, w ∈ lw_tbl := (qc qw_54 (qc qw_282 (qc qw_79 (qc qw_283 (qc qw_284 (qc qw_285 (qc qw_286 (qc qw_77 (qc qw_258 (qc qw_260 (qc qw_0 (qc qw_261 (qc qw_225 (qc qw_262 (qc qw_362 (qc qw_363 (qc qw_364 (qc qw_56 (qc qw_365 (qc qw_123 (qc qw_126 (qc qw_128 (qc qw_131 (qc qw_134 qn))))))))))))))))))))))))
set_option maxRecDepth 20000 in
theorem qm_wsX5_who_r3 : ∀ w ∈ wsX5_who_r3, w ∈ lw_tbl := (qc qw_137 (qc qw_366 (qc qw_299 (qc qw_298 (qc qw_60 (qc qw_140 (qc qw_143 (qc qw_146 (qc qw_149 (qc qw_152 (qc qw_155 (qc qw_605 (qc qw_606 (qc qw_607 (qc qw_608 (qc qw_609 (qc qw_611 (qc qw_19 (qc qw_612 (qc qw_139 (qc qw_82 (qc qw_407 (qc qw_408 (qc qw_409 qn))))))))))))))))))))))))
set_option maxRecDepth 20000 in
theorem qm_wsX5_who_r4 : ∀ w ∈ wsX5_who_r4, w ∈ lw_tbl := (qc qw_410 (qc qw_428 (qc qw_429 (qc qw_61 (qc qw_430 (qc qw_427 (qc qw_405 (qc qw_406 (qc qw_411 (qc qw_413 (qc qw_11 (qc qw_414 (qc qw_415 (qc qw_417 (qc qw_12 (qc qw_418 (qc qw_419 (qc qw_420 (qc qw_421 (qc qw_422 (qc qw_423 (qc qw_424 (qc qw_425 (qc qw_426 qn))))))))))))))))))))))))
set_option maxRecDepth 20000 in
theorem qm_wsX5_who_r5 : ∀ w ∈ wsX5_who_r5, w ∈ lw_tbl := (qc qw_296 (qc qw_268 (qc qw_269 (qc qw_270 (qc qw_271 (qc qw_273 (qc qw_1 (qc qw_274 qn))))))))
set_option maxRecDepth 20000 in
theorem qm_wsX5_who : ∀ w ∈ wsX5_who, w ∈ lw_tbl := (qc qw_604 (qa (qa (qa (qa qm_wsX5_who_r1 (qa qm_wsX5_who_r2 (qa qm_wsX5_who_r3 (qa qm_wsX5_who_r4 qm_wsX5_who_r5)))) qI_X5) qI_X0) qI_X2))
set_option maxRecDepth 20000 in
theorem qL_X5_who : GoodIn lw_tbl (wsV RL 130 RX5 yX5_who wsX5_who) := goodIn_sub (qa (qc qw_601 (qc qw_602 (qc qw_603 (qc qw_53 qn)))) qm_wsX5_who) (by decide +kernel)
set_option maxRecDepth 20000 in
theorem qm_wsX6_who_r1 : ∀ w ∈ wsX6_who_r1, w ∈ lw_tbl := (qc qw_717 (qc qw_802 (qc qw_1078 (qc qw_803 (qc qw_722 (qc qw_724 (qc qw_933 (qc qw_935 (qc qw_37 (qc qw_59 (qc qw_936 (qc qw_799 (qc qw_800 (qc qw_801 (qc qw_963 (qc qw_965 (qc qw_40 (qc qw_966 (qc qw_795 (qc qw_796 (qc qw_797 (qc qw_798 (qc qw_1079 (qc qw_1081 qn))))))))))))))))))))))))
set_option maxRecDepth 20000 in
theorem qm_wsX6_who_r2 : ∀ w ∈ wsX6_who_r2, w ∈ lw_tbl := (qc qw_45 (qc qw_1082 (qc qw_719 (qc qw_720 (qc qw_718 (qc qw_804 (qc qw_806 (qc qw_23 (qc qw_807 (qc qw_808 (qc qw_952 (qc qw_954 (qc qw_39 (qc qw_955 (qc qw_908 (qc qw_909 (qc qw_910 (qc qw_1083 (qc qw_1085 (qc qw_46 (qc qw_1086 (qc qw_721 (qc qw_902 (qc qw_903 qn))))))))))))))))))))))))
set_option maxRecDepth 20000 in
theorem qm_wsX6_who_r3 : ∀ w ∈ wsX6_who_r3, w ∈ lw_tbl := (qc qw_904 (qc qw_905 (qc qw_906 (qc qw_907 (qc qw_911 (qc qw_912 (qc qw_913 (qc qw_914 (qc qw_915 (qc qw_916 (qc qw_917 (qc qw_918 (qc qw_919 (qc qw_920 (qc qw_921 (qc qw_922 (qc qw_923 (qc qw_924 (qc qw_925 qn)))))))))))))))))))
set_option maxRecDepth 20000 in
theorem qm_wsX6_who : ∀ w ∈ wsX6_who, w ∈ lw_tbl := (qc qw_1077 (qa (qa qm_wsX6_who_r1 (qa qm_wsX6_who_r2 qm_wsX6_who_r3)) qI_X6))
set_option maxRecDepth 20000 in
theorem qL_X6_who : GoodIn lw_tbl (wsV RL 134 RX6 yX6_who wsX6_who) := goodIn_sub (qa (qc qw_1074 (qc qw_1075 (qc qw_1076 (qc qw_59 qn)))) qm_wsX6_who) (by decide +kernel)
set_option maxRecDepth 20000 in
theorem qm_wsX5_frosts_r1 : ∀ w ∈ wsX5_frosts_r1, w ∈ lw_tbl := (qc qw_257 (qc qw_216 (qc qw_471 (qc qw_473 (qc qw_15 (qc qw_53 (qc qw_474 (qc qw_218 (qc qw_130 (qc qw_254 (qc qw_255 (qc qw_256 (qc qw_251 (qc qw_252 (qc qw_253 (qc qw_279 (qc qw_280 (qc qw_281 (qc qw_54 (qc qw_282 (qc qw_79 (qc qw_283 (qc qw_284 (qc qw_285 qn))))))))))))))))))))))))
set_option maxRecDepth 20000 in
theorem qm_wsX5_frosts_r2 : ∀ w ∈ wsX5_frosts_r2, w ∈ lw_tbl := (qc qw_286 (qc qw_77 (qc qw_258 (qc qw_260 (qc qw_0 (qc qw_261 (qc qw_225 (qc qw_262 (qc qw_617 (qc qw_619 (qc qw_20 (qc qw_620 (qc qw_219 (qc qw_125 (qc qw_362 (qc qw_363 (qc qw_364 (qc qw_56 (qc qw_365 (qc qw_123 (qc qw_126 (qc qw_128 (qc qw_131 (qc qw_134 qn))))))))))))))))))))))))
set_option maxRecDepth 20000 in
theorem qm_wsX5_frosts_r3 : ∀ w ∈ wsX5_frosts_r3, w ∈ lw_tbl := (qc qw_137 (qc qw_366 (qc qw_299 (qc qw_298 (qc qw_60 (qc qw_140 (qc qw_143 (qc qw_146 (qc qw_149 (qc qw_152 (qc qw_155 (qc qw_609 (qc qw_611 (qc qw_19 (qc qw_612 (qc qw_139 (qc qw_82 (qc qw_407 (qc qw_408 (qc qw_409 (qc qw_410 (qc qw_428 (qc qw_429 (qc qw_61 qn))))))))))))))))))))))))
set_option maxRecDepth 20000 in
theorem qm_wsX5_frosts_r4 : ∀ w ∈ wsX5_frosts_r4, w ∈ lw_tbl := (qc qw_430 (qc qw_427 (qc qw_405 (qc qw_406 (qc qw_411 (qc qw_413 (qc qw_11 (qc qw_414 (qc qw_415 (qc qw_417 (qc qw_12 (qc qw_418 (qc qw_419 (qc qw_420 (qc qw_421 (qc qw_422 (qc qw_423 (qc qw_424 (qc qw_425 (qc qw_426 (qc qw_296 (qc qw_268 (qc qw_269 (qc qw_270 qn))))))))))))))))))))))))
set_option maxRecDepth 20000 in
theorem qm_wsX5_frosts_r5 : ∀ w ∈ wsX5_frosts_r5, w ∈ lw_tbl := (qc qw_621 (qc qw_623 (qc qw_21 (qc qw_624 (qc qw_133 (qc qw_451 (qc qw_452 (qc qw_453 (qc qw_454 (qc qw_271 (qc qw_273 (qc qw_1 (qc qw_274 qn)))))))))))))
set_option maxRecDepth 20000 in
theorem qm_wsX5_frosts : ∀ w ∈ wsX5_frosts, w ∈ lw_tbl := (qc qw_616 (qa (qa (qa (qa qm_wsX5_frosts_r1 (qa qm_wsX5_frosts_r2 (qa qm_wsX5_frosts_r3 (qa qm_wsX5_frosts_r4 qm_wsX5_frosts_r5)))) qI_X5) qI_X0) qI_X2))
set_option maxRecDepth 20000 in
theorem qL_X5_frosts : GoodIn lw_tbl (wsV RL 135 RX5 yX5_frosts wsX5_frosts) := goodIn_sub (qa (qc qw_613 (qc qw_614 (qc qw_615 (qc qw_53 qn)))) qm_wsX5_frosts) (by decide +kernel)
set_option maxRecDepth 20000 in
theorem qm_wsX6_frosts_r1 : ∀ w ∈ wsX6_frosts_r1, w ∈ lw_tbl := (qc qw_717 (qc qw_1078 (qc qw_803 (qc qw_724 (qc qw_722 (qc qw_963 (qc qw_965 (qc qw_40 (qc qw_59 (qc qw_966 (qc qw_799 (qc qw_800 (qc qw_801 (qc qw_795 (qc qw_796 (qc qw_797 (qc qw_798 (qc qw_1079 (qc qw_1081 (qc qw_45 (qc qw_1082 (qc qw_719 (qc qw_720 (qc qw_718 qn))))))))))))))))))))))))
set_option maxRecDepth 20000 in
theorem qm_wsX6_frosts_r2 : ∀ w ∈ wsX6_frosts_r2, w ∈ lw_tbl := (qc qw_804 (qc qw_806 (qc qw_23 (qc qw_807 (qc qw_808 (qc qw_952 (qc qw_954 (qc qw_39 (qc qw_955 (qc qw_1083 (qc qw_1085 (qc qw_46 (qc qw_1086 (qc qw_721 (qc qw_902 (qc qw_903 (qc qw_904 (qc qw_905 (qc qw_906 (qc qw_907 (qc qw_908 (qc qw_909 (qc qw_910 (qc qw_911 qn))))))))))))))))))))))))
set_option maxRecDepth 20000 in
theorem qm_wsX6_frosts_r3 : ∀ w ∈ wsX6_frosts_r3, w ∈ lw_tbl := (qc qw_912 (qc qw_913 (qc qw_914 (qc qw_915 (qc qw_916 (qc qw_917 (qc qw_918 (qc qw_919 (qc qw_920 (qc qw_921 (qc qw_922 (qc qw_923 (qc qw_924 (qc qw_925 (qc qw_1032 (qc qw_1034 (qc qw_43 (qc qw_1035 (qc qw_1025 (qc qw_1026 (qc qw_1027 (qc qw_945 (qc qw_946 (qc qw_947 qn))))))))))))))))))))))))
set_option maxRecDepth 20000 in
theorem qm_wsX6_frosts : ∀ w ∈ wsX6_frosts, w ∈ lw_tbl := (qc qw_1090 (qa (qa qm_wsX6_frosts_r1 (qa qm_wsX6_frosts_r2 qm_wsX6_frosts_r3)) qI_X6))
set_option maxRecDepth 20000 in
theorem qL_X6_frosts : GoodIn lw_tbl (wsV RL 138 RX6 yX6_frosts wsX6_frosts) := goodIn_sub (qa (qc qw_1087 (qc qw_1088 (qc qw_1089 (qc qw_59 qn)))) qm_wsX6_frosts) (by decide +kernel)
set_option maxRecDepth 20000 in
theorem qm_wsX5_forgotten_r1 : ∀ w ∈ wsX5_forgotten_r1, w ∈ lw_tbl := (qc qw_629 (qc qw_218 (qc qw_640 (qc qw_641 (qc qw_61 (qc qw_642 (qc qw_471 (qc qw_473 (qc qw_15 (qc qw_53 (qc qw_474 (qc qw_130 (qc qw_254 (qc qw_255 (qc qw_256 (qc qw_484 (qc qw_485 (qc qw_486 (qc qw_56 (qc qw_487 (qc qw_131 (qc qw_146 (qc qw_533 (qc qw_534 qn))))))))))))))))))))))))
set_option maxRecDepth 20000 in
theorem qm_wsX5_forgotten_r2 : ∀ w ∈ wsX5_forgotten_r2, w ∈ lw_tbl := (qc qw_62 (qc qw_535 (qc qw_536 (qc qw_537 (qc qw_538 (qc qw_630 (qc qw_631 (qc qw_632 (qc qw_527 (qc qw_528 (qc qw_529 (qc qw_633 (qc qw_635 (qc qw_22 (qc qw_636 (qc qw_219 (qc qw_362 (qc qw_363 (qc qw_364 (qc qw_365 (qc qw_123 (qc qw_126 (qc qw_128 (qc qw_134 qn))))))))))))))))))))))))
set_option maxRecDepth 20000 in
theorem qm_wsX5_forgotten_r3 : ∀ w ∈ wsX5_forgotten_r3, w ∈ lw_tbl := (qc qw_137 (qc qw_366 (qc qw_299 (qc qw_298 (qc qw_60 (qc qw_140 (qc qw_143 (qc qw_149 (qc qw_152 (qc qw_155 (qc qw_543 (qc qw_544 (qc qw_545 (qc qw_546 (qc qw_493 (qc qw_494 (qc qw_495 (qc qw_496 (qc qw_497 (qc qw_408 (qc qw_409 (qc qw_410 (qc qw_428 (qc qw_429 qn))))))))))))))))))))))))
set_option maxRecDepth 20000 in
theorem qm_wsX5_forgotten_r4 : ∀ w ∈ wsX5_forgotten_r4, w ∈ lw_tbl := (qc qw_430 (qc qw_427 (qc qw_405 (qc qw_406 (qc qw_411 (qc qw_413 (qc qw_11 (qc qw_414 (qc qw_415 (qc qw_417 (qc qw_12 (qc qw_418 (qc qw_419 (qc qw_420 (qc qw_421 (qc qw_422 (qc qw_423 (qc qw_424 (qc qw_425 (qc qw_426 (qc qw_488 (qc qw_637 (qc qw_638 (qc qw_639 qn))))))))))))))))))))))))
set_option maxRecDepth 20000 in
theorem qm_wsX5_forgotten : ∀ w ∈ wsX5_forgotten, w ∈ lw_tbl := (qc qw_628 (qa (qa (qa qm_wsX5_forgotten_r1 (qa qm_wsX5_forgotten_r2 (qa qm_wsX5_forgotten_r3 qm_wsX5_forgotten_r4))) qI_X5) qI_X0))
set_option maxRecDepth 20000 in
theorem qL_X5_forgotten : GoodIn lw_tbl (wsV RL 139 RX5 yX5_forgotten wsX5_forgotten) := goodIn_sub (qa (qc qw_625 (qc qw_626 (qc qw_627 (qc qw_53 qn)))) qm_wsX5_forgotten) (by decide +kernel)
set_option maxRecDepth 20000 in
theorem qm_wsX6_forgotten_r1 : ∀ w ∈ wsX6_forgotten_r1, w ∈ lw_tbl := (qc qw_717 (qc qw_1013 (qc qw_1095 (qc qw_1096 (qc qw_722 (qc qw_724 (qc qw_963 (qc qw_965 (qc qw_40 (qc qw_59 (qc qw_966 (qc qw_799 (qc qw_800 (qc qw_801 (qc qw_1014 (qc qw_1016 (qc qw_41 (qc qw_1017 (qc qw_982 (qc qw_983 (qc qw_984 (qc qw_905 (qc qw_906 (qc qw_907 qn))))))))))))))))))))))))
set_option maxRecDepth 20000 in
theorem qm_wsX6_forgotten_r2 : ∀ w ∈ wsX6_forgotten_r2, w ∈ lw_tbl := (qc qw_1025 (qc qw_1026 (qc qw_1027 (qc qw_1021 (qc qw_1023 (qc qw_42 (qc qw_1024 (qc qw_952 (qc qw_954 (qc qw_39 (qc qw_955 (qc qw_908 (qc qw_909 (qc qw_910 (qc qw_990 (qc qw_991 (qc qw_992 (qc qw_902 (qc qw_903 (qc qw_904 (qc qw_911 (qc qw_912 (qc qw_913 (qc qw_914 qn))))))))))))))))))))))))
set_option maxRecDepth 20000 in
theorem qm_wsX6_forgotten_r3 : ∀ w ∈ wsX6_forgotten_r3, w ∈ lw_tbl := (qc qw_915 (qc qw_916 (qc qw_917 (qc qw_918 (qc qw_919 (qc qw_920 (qc qw_921 (qc qw_922 (qc qw_923 (qc qw_924 (qc qw_925 qn)))))))))))
set_option maxRecDepth 20000 in
theorem qm_wsX6_forgotten : ∀ w ∈ wsX6_forgotten, w ∈ lw_tbl := (qc qw_1094 (qa (qa qm_wsX6_forgotten_r1 (qa qm_wsX6_forgotten_r2 qm_wsX6_forgotten_r3)) qI_X6))
set_option maxRecDepth 20000 in
theorem qL_X6_forgotten : GoodIn lw_tbl (wsV RL 143 RX6 yX6_forgotten wsX6_forgotten) := goodIn_sub (qa (qc qw_1091 (qc qw_1092 (qc qw_1093 (qc qw_59 qn)))) qm_wsX6_forgotten) (by decide +kernel)
set_option maxRecDepth 20000 in
theorem qm_wsX5_drawn_r1 : ∀ w ∈ wsX5_drawn_r1, w ∈ lw_tbl := (qc qw_218 (qc qw_379 (qc qw_647 (qc qw_257 (qc qw_219 (qc qw_648 (qc qw_649 (qc qw_392 (qc qw_393 (qc qw_394 (qc qw_56 (qc qw_395 (qc qw_128 (qc qw_254 (qc qw_255 (qc qw_53 (qc qw_256 (qc qw_362 (qc qw_363 (qc qw_364 (qc qw_365 (qc qw_123 (qc qw_126 (qc qw_131 qn))))))))))))))))))))))))
set_option maxRecDepth 20000 in
theorem qm_wsX5_drawn_r2 : ∀ w ∈ wsX5_drawn_r2, w ∈ lw_tbl := (qc qw_134 (qc qw_137 (qc qw_366 (qc qw_299 (qc qw_298 (qc qw_60 (qc qw_140 (qc qw_143 (qc qw_146 (qc qw_149 (qc qw_152 (qc qw_155 (qc qw_650 (qc qw_651 (qc qw_652 (qc qw_653 (qc qw_654 (qc qw_655 (qc qw_562 (qc qw_452 (qc qw_453 (qc qw_454 (qc qw_427 (qc qw_405 qn))))))))))))))))))))))))
set_option maxRecDepth 20000 in
theorem qm_wsX5_drawn_r3 : ∀ w ∈ wsX5_drawn_r3, w ∈ lw_tbl := (qc qw_61 (qc qw_406 (qc qw_407 (qc qw_408 (qc qw_409 (qc qw_410 (qc qw_428 (qc qw_429 (qc qw_430 (qc qw_411 (qc qw_413 (qc qw_11 (qc qw_414 (qc qw_415 (qc qw_417 (qc qw_12 (qc qw_418 (qc qw_419 (qc qw_420 (qc qw_421 (qc qw_422 (qc qw_423 (qc qw_424 (qc qw_425 qn))))))))))))))))))))))))
set_option maxRecDepth 20000 in
theorem qm_wsX5_drawn_r4 : ∀ w ∈ wsX5_drawn_r4, w ∈ lw_tbl := (qc qw_426 (qc qw_431 (qc qw_432 (qc qw_433 (qc qw_434 (qc qw_533 (qc qw_534 (qc qw_62 (qc qw_535 (qc qw_536 (qc qw_537 (qc qw_538 (qc qw_591 (qc qw_592 (qc qw_593 (qc qw_594 (qc qw_595 (qc qw_583 (qc qw_584 (qc qw_585 qn))))))))))))))))))))
set_option maxRecDepth 20000 in
theorem qm_wsX5_drawn : ∀ w ∈ wsX5_drawn, w ∈ lw_tbl := (qc qw_646 (qa (qa (qa qm_wsX5_drawn_r1 (qa qm_wsX5_drawn_r2 (qa qm_wsX5_drawn_r3 qm_wsX5_drawn_r4))) qI_X5) qI_X0))
set_option maxRecDepth 20000 in
theorem qL_X5_drawn : GoodIn lw_tbl (wsV RL 144 RX5 yX5_drawn wsX5_drawn) := goodIn_sub (qa (qc qw_643 (qc qw_644 (qc qw_645 (qc qw_53 qn)))) qm_wsX5_drawn) (by decide +kernel)
set_option maxRecDepth 20000 in
theorem qm_wsX6_drawn_r1 : ∀ w ∈ wsX6_drawn_r1, w ∈ lw_tbl := (qc qw_717 (qc qw_896 (qc qw_989 (qc qw_1101 (qc qw_803 (qc qw_1102 (qc qw_1103 (qc qw_724 (qc qw_976 (qc qw_1104 (qc qw_892 (qc qw_894 (qc qw_35 (qc qw_59 (qc qw_895 (qc qw_722 (qc qw_799 (qc qw_800 (qc qw_801 (qc qw_952 (qc qw_954 (qc qw_39 (qc qw_955 (qc qw_945 qn))))))))))))))))))))))))
set_option maxRecDepth 20000 in
theorem qm_wsX6_drawn_r2 : ∀ w ∈ wsX6_drawn_r2, w ∈ lw_tbl := (qc qw_946 (qc qw_947 (qc qw_905 (qc qw_906 (qc qw_907 (qc qw_911 (qc qw_912 (qc qw_913 (qc qw_914 (qc qw_915 (qc qw_916 (qc qw_908 (qc qw_909 (qc qw_910 (qc qw_902 (qc qw_903 (qc qw_904 (qc qw_917 (qc qw_918 (qc qw_919 (qc qw_920 (qc qw_921 (qc qw_922 (qc qw_923 qn))))))))))))))))))))))))
set_option maxRecDepth 20000 in
theorem qm_wsX6_drawn_r3 : ∀ w ∈ wsX6_drawn_r3, w ∈ lw_tbl := (qc qw_924 (qc qw_925 (qc qw_926 (qc qw_927 (qc qw_928 (qc qw_1018 (qc qw_1019 (qc qw_1020 (qc qw_1062 (qc qw_1063 (qc qw_1064 (qc qw_1065 (qc qw_1066 (qc qw_1067 qn))))))))))))))
set_option maxRecDepth 20000 in
theorem qm_wsX6_drawn : ∀ w ∈ wsX6_drawn, w ∈ lw_tbl := (qc qw_1100 (qa (qa qm_wsX6_drawn_r1 (qa qm_wsX6_drawn_r2 qm_wsX6_drawn_r3)) qI_X6))
set_option maxRecDepth 20000 in
theorem qL_X6_drawn : GoodIn lw_tbl (wsV RL 147 RX6 yX6_drawn wsX6_drawn) := goodIn_sub (qa (qc qw_1097 (qc qw_1098 (qc qw_1099 (qc qw_59 qn)))) qm_wsX6_drawn) (by decide +kernel)
set_option maxRecDepth 20000 in
theorem qm_wsX5_image_r1 : ∀ w ∈ wsX5_image_r1, w ∈ lw_tbl := (qc qw_257 (qc qw_218 (qc qw_379 (qc qw_220 (qc qw_254 (qc qw_255 (qc qw_53 (qc qw_256 (qc qw_392 (qc qw_393 (qc qw_394 (qc qw_56 (qc qw_395 (qc qw_128 (qc qw_362 (qc qw_363 (qc qw_364 (qc qw_365 (qc qw_123 (qc qw_126 (qc qw_131 (qc qw_134 (qc qw_137 (qc qw_366 qn))))))))))))))))))))))))
set_option maxRecDepth 20000 in
theorem qm_wsX5_image_r2 : ∀ w ∈ wsX5_image_r2, w ∈ lw_tbl := (qc qw_299 (qc qw_298 (qc qw_60 (qc qw_140 (qc qw_143 (qc qw_146 (qc qw_149 (qc qw_152 (qc qw_155 qn)))))))))
set_option maxRecDepth 20000 in
theorem qm_wsX5_image : ∀ w ∈ wsX5_image, w ∈ lw_tbl := (qc qw_659 (qa (qa (qa qm_wsX5_image_r1 qm_wsX5_image_r2) qI_X5) qI_X0))
set_option maxRecDepth 20000 in
theorem qL_X5_image : GoodIn lw_tbl (wsV RL 148 RX5 yX5_image wsX5_image) := goodIn_sub (qa (qc qw_656 (qc qw_657 (qc qw_658 (qc qw_53 qn)))) qm_wsX5_image) (by decide +kernel)
set_option maxRecDepth 20000 in
theorem qm_wsX6_image : ∀ w ∈ wsX6_image, w ∈ lw_tbl := (qc qw_1108 (qa (qc qw_717 (qc qw_803 (qc qw_896 (qc qw_738 (qc qw_722 (qc qw_737 (qc qw_799 (qc qw_800 (qc qw_59 (qc qw_801 (qc qw_892 (qc qw_894 (qc qw_35 (qc qw_895 qn)))))))))))))) qI_X6))
set_option maxRecDepth 20000 in
theorem qL_X6_image : GoodIn lw_tbl (wsV RL 151 RX6 yX6_image wsX6_image) := goodIn_sub (qa (qc qw_1105 (qc qw_1106 (qc qw_1107 (qc qw_59 qn)))) qm_wsX6_image) (by decide +kernel)
set_option maxRecDepth 20000 in
theorem qm_wsX5_restore_r1 : ∀ w ∈ wsX5_restore_r1, w ∈ lw_tbl := (qc qw_257 (qc qw_220 (qc qw_379 (qc qw_218 (qc qw_221 (qc qw_254 (qc qw_255 (qc qw_53 (qc qw_256 (qc qw_392 (qc qw_393 (qc qw_394 (qc qw_56 (qc qw_395 (qc qw_128 (qc qw_362 (qc qw_363 (qc qw_364 (qc qw_365 (qc qw_123 (qc qw_126 (qc qw_131 (qc qw_134 (qc qw_137 qn))))))))))))))))))))))))
set_option maxRecDepth 20000 in
theorem qm_wsX5_restore_r2 : ∀ w ∈ wsX5_restore_r2, w ∈ lw_tbl := (qc qw_366 (qc qw_299 (qc qw_298 (qc qw_60 (qc qw_140 (qc qw_143 (qc qw_146 (qc qw_149 (qc qw_152 (qc qw_155 (qc qw_367 (qc qw_368 (qc qw_369 (qc qw_57 (qc qw_370 (qc qw_192 qn))))))))))))))))
set_option maxRecDepth 20000 in
theorem qm_wsX5_restore : ∀ w ∈ wsX5_restore, w ∈ lw_tbl := (qc qw_663 (qa (qa (qa (qa qm_wsX5_restore_r1 qm_wsX5_restore_r2) qI_X5) qI_X0) qI_X1))
set_option maxRecDepth 20000 in
theorem qL_X5_restore : GoodIn lw_tbl (wsV RL 152 RX5 yX5_restore wsX5_restore) := goodIn_sub (qa (qc qw_660 (qc qw_661 (qc qw_662 (qc qw_53 qn)))) qm_wsX5_restore) (by decide +kernel)
set_option maxRecDepth 20000 in
theorem qm_wsX6_restore : ∀ w ∈ wsX6_restore, w ∈ lw_tbl := (qc qw_1112 (qa (qc qw_717 (qc qw_803 (qc qw_737 (qc qw_896 (qc qw_722 (qc qw_738 (qc qw_726 (qc qw_799 (qc qw_800 (qc qw_59 (qc qw_801 qn))))))))))) qI_X6))
set_option maxRecDepth 20000 in
theorem qL_X6_restore : GoodIn lw_tbl (wsV RL 155 RX6 yX6_restore wsX6_restore) := goodIn_sub (qa (qc qw_1109 (qc qw_1110 (qc qw_1111 (qc qw_59 qn)))) qm_wsX6_restore) (by decide +kernel)
set_option maxRecDepth 20000 in
theorem qm_wsX5_kind : ∀ w ∈ wsX5_kind, w ∈ lw_tbl := (qc qw_667 (qa (qa (qc qw_218 (qc qw_145 (qc qw_257 (qc qw_439 (qc qw_441 (qc qw_13 (qc qw_53 (qc qw_442 (qc qw_133 (qc qw_254 (qc qw_255 (qc qw_256 qn)))))))))))) qI_X5) qI_X0))
set_option maxRecDepth 20000 in
theorem qL_X5_kind : GoodIn lw_tbl (wsV RL 156 RX5 yX5_kind wsX5_kind) := goodIn_sub (qa (qc qw_664 (qc qw_665 (qc qw_666 (qc qw_53 qn)))) qm_wsX5_kind) (by decide +kernel)
set_option maxRecDepth 20000 in
theorem qm_wsX6_kind : ∀ w ∈ wsX6_kind, w ∈ lw_tbl := (qc qw_1116 (qa (qc qw_717 (qc qw_722 (qc qw_803 (qc qw_933 (qc qw_935 (qc qw_37 (qc qw_59 (qc qw_936 (qc qw_799 (qc qw_800 (qc qw_801 (qc qw_905 (qc qw_906 (qc qw_907 qn)))))))))))))) qI_X6))
set_option maxRecDepth 20000 in
theorem qL_X6_kind : GoodIn lw_tbl (wsV RL 159 RX6 yX6_kind wsX6_kind) := goodIn_sub (qa (qc qw_1113 (qc qw_1114 (qc qw_1115 (qc qw_59 qn)))) qm_wsX6_kind) (by decide +kernel)
set_option maxRecDepth 20000 in
theorem qm_wsX5_as : ∀ w ∈ wsX5_as, w ∈ lw_tbl := (qc qw_671 (qa (qa (qc qw_257 (qc qw_218 (qc qw_145 (qc qw_672 (qc qw_439 (qc qw_441 (qc qw_13 (qc qw_53 (qc qw_442 (qc qw_133 (qc qw_254 (qc qw_255 (qc qw_256 (qc qw_271 (qc qw_273 (qc qw_1 (qc qw_274 (qc qw_225 (qc qw_258 (qc qw_260 (qc qw_0 (qc qw_261 (qc qw_262 qn))))))))))))))))))))))) qI_X5) qI_X0))
set_option maxRecDepth 20000 in
theorem qL_X5_as : GoodIn lw_tbl (wsV RL 160 RX5 yX5_as wsX5_as) := goodIn_sub (qa (qc qw_668 (qc qw_669 (qc qw_670 (qc qw_53 qn)))) qm_wsX5_as) (by decide +kernel)
set_option maxRecDepth 20000 in
theorem qm_wsX6_as : ∀ w ∈ wsX6_as, w ∈ lw_tbl := (qc qw_1120 (qa (qc qw_717 (qc qw_1104 (qc qw_803 (qc qw_718 (qc qw_722 (qc qw_933 (qc qw_935 (qc qw_37 (qc qw_59 (qc qw_936 (qc qw_799 (qc qw_800 (qc qw_801 (qc qw_905 (qc qw_906 (qc qw_907 (qc qw_1121 (qc qw_1122 (qc qw_1123 (qc qw_804 (qc qw_806 (qc qw_23 (qc qw_807 (qc qw_808 qn)))))))))))))))))))))))) qI_X6))
set_option maxRecDepth 20000 in
theorem qL_X6_as : GoodIn lw_tbl (wsV RL 163 RX6 yX6_as wsX6_as) := goodIn_sub (qa (qc qw_1117 (qc qw_1118 (qc qw_1119 (qc qw_59 qn)))) qm_wsX6_as) (by decide +kernel)
set_option maxRecDepth 20000 in
theorem qm_wsX5_ask_r1 : ∀ w ∈ wsX5_ask_r1, w ∈ lw_tbl := (qc qw_257 (qc qw_223 (qc qw_210 (qc qw_218 (qc qw_439 (qc qw_441 (qc qw_13 (qc qw_53 (qc qw_442 (qc qw_133 (qc qw_254 (qc qw_255 (qc qw_256 (qc qw_678 (qc qw_679 (qc qw_680 (qc qw_145 (qc qw_681 (qc qw_683 (qc qw_684 (qc qw_685 (qc qw_686 (qc qw_688 (qc qw_689 qn))))))))))))))))))))))))
set_option maxRecDepth 20000 in
theorem qm_wsX5_ask_r2 : ∀ w ∈ wsX5_ask_r2, w ∈ lw_tbl := (qc qw_690 (qc qw_154 (qc qw_157 (qc qw_691 (qc qw_692 (qc qw_693 (qc qw_58 (qc qw_694 (qc qw_209 (qc qw_207 qn))))))))))
set_option maxRecDepth 20000 in
theorem qm_wsX5_ask : ∀ w ∈ wsX5_ask, w ∈ lw_tbl := (qc qw_677 (qa (qa (qa (qa qm_wsX5_ask_r1 qm_wsX5_ask_r2) qI_X5) qI_X4) qI_X0))
set_option maxRecDepth 20000 in
theorem qL_X5_ask : GoodIn lw_tbl (wsV RL 164 RX5 yX5_ask wsX5_ask) := goodIn_sub (qa (qc qw_674 (qc qw_675 (qc qw_676 (qc qw_53 qn)))) qm_wsX5_ask) (by decide +kernel)
set_option maxRecDepth 20000 in
theorem qm_wsX6_ask_r1 : ∀ w ∈ wsX6_ask_r1, w ∈ lw_tbl := (qc qw_717 (qc qw_803 (qc qw_740 (qc qw_933 (qc qw_935 (qc qw_37 (qc qw_59 (qc qw_936 (qc qw_722 (qc qw_799 (qc qw_800 (qc qw_801 (qc qw_1128 (qc qw_1130 (qc qw_47 (qc qw_1131 (qc qw_905 (qc qw_906 (qc qw_907 (qc qw_1132 (qc qw_1134 (qc qw_48 (qc qw_1135 (qc qw_1136 qn))))))))))))))))))))))))
set_option maxRecDepth 20000 in
theorem qm_wsX6_ask_r2 : ∀ w ∈ wsX6_ask_r2, w ∈ lw_tbl := (qc qw_1138 (qc qw_49 (qc qw_1139 (qc qw_739 (qc qw_1140 (qc qw_1142 (qc qw_50 (qc qw_1143 (qc qw_1144 (qc qw_1146 (qc qw_51 (qc qw_1147 qn))))))))))))
set_option maxRecDepth 20000 in
theorem qm_wsX6_ask : ∀ w ∈ wsX6_ask, w ∈ lw_tbl := (qc qw_1127 (qa (qa qm_wsX6_ask_r1 qm_wsX6_ask_r2) qI_X6))
set_option maxRecDepth 20000 in
theorem qL_X6_ask : GoodIn lw_tbl (wsV RL 167 RX6 yX6_ask wsX6_ask) := goodIn_sub (qa (qc qw_1124 (qc qw_1125 (qc qw_1126 (qc qw_59 qn)))) qm_wsX6_ask) (by decide +kernel)
set_option maxRecDepth 20000 in
theorem qm_wsX5_trace : ∀ w ∈ wsX5_trace, w ∈ lw_tbl := (qc qw_698 (qa (qa (qc qw_223 (qc qw_210 (qc qw_208 (qc qw_510 (qc qw_254 (qc qw_255 (qc qw_53 (qc qw_256 qn)))))))) qI_X5) qI_X4))
set_option maxRecDepth 20000 in
theorem qL_X5_trace : GoodIn lw_tbl (wsV RL 168 RX5 yX5_trace wsX5_trace) := goodIn_sub (qa (qc qw_695 (qc qw_696 (qc qw_697 (qc qw_53 qn)))) qm_wsX5_trace) (by decide +kernel)
set_option maxRecDepth 20000 in
theorem qm_wsX6_trace : ∀ w ∈ wsX6_trace, w ∈ lw_tbl := (qc qw_1151 (qa (qc qw_717 (qc qw_740 (qc qw_739 (qc qw_843 (qc qw_799 (qc qw_800 (qc qw_59 (qc qw_801 qn)))))))) qI_X6))
set_option maxRecDepth 20000 in
theorem qL_X6_trace : GoodIn lw_tbl (wsV RL 171 RX6 yX6_trace wsX6_trace) := goodIn_sub (qa (qc qw_1148 (qc qw_1149 (qc qw_1150 (qc qw_59 qn)))) qm_wsX6_trace) (by decide +kernel)
set_option maxRecDepth 20000 in
theorem qm_wsX5_count_r1 : ∀ w ∈ wsX5_count_r1, w ∈ lw_tbl := (qc qw_216 (qc qw_218 (qc qw_130 (qc qw_133 (qc qw_136 (qc qw_221 (qc qw_193 (qc qw_217 (qc qw_100 (qc qw_257 (qc qw_703 (qc qw_704 (qc qw_705 (qc qw_54 (qc qw_706 (qc qw_283 (qc qw_284 (qc qw_285 (qc qw_286 (qc qw_77 (qc qw_431 (qc qw_432 (qc qw_433 (qc qw_56 qn))))))))))))))))))))))))
set_option maxRecDepth 20000 in
theorem qm_wsX5_count_r2 : ∀ w ∈ wsX5_count_r2, w ∈ lw_tbl := (qc qw_434 (qc qw_128 (qc qw_137 (qc qw_126 (qc qw_582 (qc qw_583 (qc qw_584 (qc qw_585 (qc qw_131 (qc qw_155 qn))))))))))
set_option maxRecDepth 20000 in
theorem qm_wsX5_count : ∀ w ∈ wsX5_count, w ∈ lw_tbl := (qc qw_702 (qa (qa (qa (qa (qa (qa qm_wsX5_count_r1 qm_wsX5_count_r2) qI_X5) qI_X0) qI_X1) qI_X3) qI_X2))
set_option maxRecDepth 20000 in
theorem qL_X5_count : GoodIn lw_tbl (wsV RL 172 RX5 yX5_count wsX5_count) := goodIn_sub (qa (qc qw_699 (qc qw_700 (qc qw_701 (qc qw_53 qn)))) qm_wsX5_count) (by decide +kernel)
set_option maxRecDepth 20000 in
theorem qm_wsX6_count : ∀ w ∈ wsX6_count, w ∈ lw_tbl := (qc qw_1155 (qa (qc qw_717 (qc qw_719 (qc qw_722 (qc qw_726 (qc qw_728 (qc qw_803 (qc qw_926 (qc qw_927 (qc qw_59 (qc qw_928 (qc qw_923 (qc qw_924 (qc qw_925 (qc qw_914 (qc qw_915 (qc qw_916 (qc qw_1065 (qc qw_1066 (qc qw_1067 (qc qw_905 (qc qw_906 (qc qw_907 qn)))))))))))))))))))))) qI_X6))
set_option maxRecDepth 20000 in
theorem qL_X6_count : GoodIn lw_tbl (wsV RL 175 RX6 yX6_count wsX6_count) := goodIn_sub (qa (qc qw_1152 (qc qw_1153 (qc qw_1154 (qc qw_59 qn)))) qm_wsX6_count) (by decide +kernel)
set_option maxRecDepth 20000 in
theorem qm_wsX5_status : ∀ w ∈ wsX5_status, w ∈ lw_tbl := (qc qw_710 (qa (qc qw_225 qn) qI_X5))
set_option maxRecDepth 20000 in
theorem qL_X5_status : GoodIn lw_tbl (wsV RL 176 RX5 yX5_status wsX5_status) := goodIn_sub (qa (qc qw_707 (qc qw_708 (qc qw_709 (qc qw_53 qn)))) qm_wsX5_status) (by decide +kernel)
set_option maxRecDepth 20000 in
theorem qm_wsX6_status : ∀ w ∈ wsX6_status, w ∈ lw_tbl := (qc qw_1159 (qa (qc qw_717 (qc qw_718 qn)) qI_X6))
set_option maxRecDepth 20000 in
theorem qL_X6_status : GoodIn lw_tbl (wsV RL 179 RX6 yX6_status wsX6_status) := goodIn_sub (qa (qc qw_1156 (qc qw_1157 (qc qw_1158 (qc qw_59 qn)))) qm_wsX6_status) (by decide +kernel)
