/-! the words that the law's calls want -/
set_option maxRecDepth 20000 in
theorem ggL_law_X6_init : GoodIn wsL_law wsX6_init := goodIn_r _ [76, 77, 10, 11, 55, 78, 79, 80, 49, 81, 82, 83, 84, 85, 86, 87, 88, 89, 90, 734, 735, 736, 737, 738, 739, 740, 741, 742, 743, 744, 745, 746, 747, 748] (by decide +kernel) (by decide +kernel)
set_option maxRecDepth 20000 in
theorem gL_law_X6_init : GoodIn wsL_law (wsX6_init) := ggL_law_X6_init
set_option maxRecDepth 20000 in
theorem ggL_law_X6_begins_h : GoodIn wsL_law [.code yX6_begins cX6_begins 3 (some .int)] := goodIn_r _ [166] (by decide +kernel) (by decide +kernel)
set_option maxRecDepth 20000 in
theorem ggL_law_wsX6_begins_r1_in : GoodIn wsL_law wsX6_begins_r1 := goodIn_r _ [167, 168, 169, 5, 170, 79, 78, 171, 172, 173, 174, 175, 176, 87, 88, 177, 178, 179, 180, 181, 182, 183, 184, 185] (by decide +kernel) (by decide +kernel)
set_option maxRecDepth 20000 in
theorem ggL_law_wsX6_begins_r2_in : GoodIn wsL_law wsX6_begins_r2 := goodIn_r _ [186, 187, 81, 188, 189, 190, 191, 192, 80] (by decide +kernel) (by decide +kernel)
theorem ggL_law_X6_begins : GoodIn wsL_law wsX6_begins := goodIn_app (a := [.code yX6_begins cX6_begins 3 (some .int)]) ggL_law_X6_begins_h (goodIn_app (goodIn_app ggL_law_wsX6_begins_r1_in (ggL_law_wsX6_begins_r2_in)) ggL_law_wsX60)
set_option maxRecDepth 20000 in
theorem gL_law_X6_begins : GoodIn wsL_law (wsV RL 17 RX6 yX6_begins wsX6_begins) := goodIn_app (goodIn_of _ (by decide +kernel)) ggL_law_X6_begins
set_option maxRecDepth 20000 in
theorem ggL_law_X6_holds_h : GoodIn wsL_law [.code yX6_holds cX6_holds 3 (some .int)] := goodIn_r _ [204] (by decide +kernel) (by decide +kernel)
set_option maxRecDepth 20000 in
theorem ggL_law_wsX6_holds_r1_in : GoodIn wsL_law wsX6_holds_r1 := goodIn_r _ [167, 168, 169, 5, 170, 79, 78, 205, 206, 207, 208, 175, 176, 177, 178, 179, 180, 181, 182, 183, 184, 185, 186, 187] (by decide +kernel) (by decide +kernel)
set_option maxRecDepth 20000 in
theorem ggL_law_wsX6_holds_r2_in : GoodIn wsL_law wsX6_holds_r2 := goodIn_r _ [81, 188, 189, 190, 191, 192, 80] (by decide +kernel) (by decide +kernel)
theorem ggL_law_X6_holds : GoodIn wsL_law wsX6_holds := goodIn_app (a := [.code yX6_holds cX6_holds 3 (some .int)]) ggL_law_X6_holds_h (goodIn_app (goodIn_app ggL_law_wsX6_holds_r1_in (ggL_law_wsX6_holds_r2_in)) ggL_law_wsX60)
set_option maxRecDepth 20000 in
theorem gL_law_X6_holds : GoodIn wsL_law (wsV RL 21 RX6 yX6_holds wsX6_holds) := goodIn_app (goodIn_of _ (by decide +kernel)) ggL_law_X6_holds
set_option maxRecDepth 20000 in
theorem ggL_law_X6_offset_h : GoodIn wsL_law [.code yX6_offset cX6_offset 2 (some .int)] := goodIn_r _ [220] (by decide +kernel) (by decide +kernel)
set_option maxRecDepth 20000 in
theorem ggL_law_wsX6_offset_r1_in : GoodIn wsL_law wsX6_offset_r1 := goodIn_r _ [167, 168, 169, 5, 170, 79, 78, 221, 222, 223, 224, 176, 177, 178, 179, 180, 181, 182, 183, 184, 185, 186, 187, 81] (by decide +kernel) (by decide +kernel)
set_option maxRecDepth 20000 in
theorem ggL_law_wsX6_offset_r2_in : GoodIn wsL_law wsX6_offset_r2 := goodIn_r _ [188, 189, 190, 191, 192, 80] (by decide +kernel) (by decide +kernel)
theorem ggL_law_X6_offset : GoodIn wsL_law wsX6_offset := goodIn_app (a := [.code yX6_offset cX6_offset 2 (some .int)]) ggL_law_X6_offset_h (goodIn_app (goodIn_app ggL_law_wsX6_offset_r1_in (ggL_law_wsX6_offset_r2_in)) ggL_law_wsX60)
set_option maxRecDepth 20000 in
theorem gL_law_X6_offset : GoodIn wsL_law (wsV RL 26 RX6 yX6_offset wsX6_offset) := goodIn_app (goodIn_of _ (by decide +kernel)) ggL_law_X6_offset
set_option maxRecDepth 20000 in
theorem ggL_law_X6_clings_h : GoodIn wsL_law [.code yX6_clings cX6_clings 2 (some .int)] := goodIn_r _ [236] (by decide +kernel) (by decide +kernel)
set_option maxRecDepth 20000 in
theorem ggL_law_wsX6_clings_r1_in : GoodIn wsL_law wsX6_clings_r1 := goodIn_r _ [167, 168, 169, 5, 170, 79, 78, 221, 222, 223, 224, 176, 177, 178, 179, 180, 181, 182, 183, 184, 185, 186, 187, 81] (by decide +kernel) (by decide +kernel)
set_option maxRecDepth 20000 in
theorem ggL_law_wsX6_clings_r2_in : GoodIn wsL_law wsX6_clings_r2 := goodIn_r _ [188, 189, 190, 191, 192, 80] (by decide +kernel) (by decide +kernel)
theorem ggL_law_X6_clings : GoodIn wsL_law wsX6_clings := goodIn_app (a := [.code yX6_clings cX6_clings 2 (some .int)]) ggL_law_X6_clings_h (goodIn_app (goodIn_app ggL_law_wsX6_clings_r1_in (ggL_law_wsX6_clings_r2_in)) ggL_law_wsX60)
set_option maxRecDepth 20000 in
theorem gL_law_X6_clings : GoodIn wsL_law (wsV RL 30 RX6 yX6_clings wsX6_clings) := goodIn_app (goodIn_of _ (by decide +kernel)) ggL_law_X6_clings
set_option maxRecDepth 20000 in
theorem ggL_law_X6_curve_h : GoodIn wsL_law [.code yX6_curve cX6_curve 3 (some .int)] := goodIn_r _ [254] (by decide +kernel) (by decide +kernel)
set_option maxRecDepth 20000 in
theorem ggL_law_wsX6_curve_r1_in : GoodIn wsL_law wsX6_curve_r1 := goodIn_r _ [167, 168, 169, 5, 170, 79, 78, 255, 256, 257, 258, 89, 259, 176, 260, 177, 178, 179, 180, 181, 182, 183, 184, 185] (by decide +kernel) (by decide +kernel)
set_option maxRecDepth 20000 in
theorem ggL_law_wsX6_curve_r2_in : GoodIn wsL_law wsX6_curve_r2 := goodIn_r _ [186, 187, 81, 188, 189, 190, 191, 192, 80] (by decide +kernel) (by decide +kernel)
theorem ggL_law_X6_curve : GoodIn wsL_law wsX6_curve := goodIn_app (a := [.code yX6_curve cX6_curve 3 (some .int)]) ggL_law_X6_curve_h (goodIn_app (goodIn_app ggL_law_wsX6_curve_r1_in (ggL_law_wsX6_curve_r2_in)) ggL_law_wsX60)
set_option maxRecDepth 20000 in
theorem gL_law_X6_curve : GoodIn wsL_law (wsV RL 34 RX6 yX6_curve wsX6_curve) := goodIn_app (goodIn_of _ (by decide +kernel)) ggL_law_X6_curve
set_option maxRecDepth 20000 in
theorem ggL_law_X6_passes_h : GoodIn wsL_law [.code yX6_passes cX6_passes 3 (some .int)] := goodIn_r _ [289] (by decide +kernel) (by decide +kernel)
set_option maxRecDepth 20000 in
theorem ggL_law_wsX6_passes_r1_in : GoodIn wsL_law wsX6_passes_r1 := goodIn_r _ [167, 168, 169, 5, 170, 79, 78, 290, 291, 292, 293, 294, 295, 296, 176, 260, 177, 178, 179, 297, 298, 299, 300, 301] (by decide +kernel) (by decide +kernel)
set_option maxRecDepth 20000 in
theorem ggL_law_wsX6_passes_r2_in : GoodIn wsL_law wsX6_passes_r2 := goodIn_r _ [302, 303, 304, 85, 180, 181, 182, 183, 184, 185, 186, 187, 81, 188, 189, 190, 191, 192, 80] (by decide +kernel) (by decide +kernel)
theorem ggL_law_X6_passes : GoodIn wsL_law wsX6_passes := goodIn_app (a := [.code yX6_passes cX6_passes 3 (some .int)]) ggL_law_X6_passes_h (goodIn_app (goodIn_app ggL_law_wsX6_passes_r1_in (ggL_law_wsX6_passes_r2_in)) ggL_law_wsX60)
set_option maxRecDepth 20000 in
theorem gL_law_X6_passes : GoodIn wsL_law (wsV RL 38 RX6 yX6_passes wsX6_passes) := goodIn_app (goodIn_of _ (by decide +kernel)) ggL_law_X6_passes
set_option maxRecDepth 20000 in
theorem ggL_law_X6_rests_h : GoodIn wsL_law [.code yX6_rests cX6_rests 2 (some .int)] := goodIn_r _ [355] (by decide +kernel) (by decide +kernel)
set_option maxRecDepth 20000 in
theorem ggL_law_wsX6_rests_r1_in : GoodIn wsL_law wsX6_rests_r1 := goodIn_r _ [167, 168, 169, 5, 170, 79, 78, 356, 357, 358, 359, 259, 176, 360, 361, 362, 260, 85, 296, 177, 178, 179, 363, 364] (by decide +kernel) (by decide +kernel)
set_option maxRecDepth 20000 in
theorem ggL_law_wsX6_rests_r2_in : GoodIn wsL_law wsX6_rests_r2 := goodIn_r _ [365, 366, 367, 368, 369, 370, 87, 371, 372, 373, 374, 180, 181, 182, 183, 184, 185, 186, 187, 81, 188, 189, 190, 191] (by decide +kernel) (by decide +kernel)
set_option maxRecDepth 20000 in
theorem ggL_law_wsX6_rests_r3_in : GoodIn wsL_law wsX6_rests_r3 := goodIn_r _ [192, 80] (by decide +kernel) (by decide +kernel)
theorem ggL_law_X6_rests : GoodIn wsL_law wsX6_rests := goodIn_app (a := [.code yX6_rests cX6_rests 2 (some .int)]) ggL_law_X6_rests_h (goodIn_app (goodIn_app ggL_law_wsX6_rests_r1_in (goodIn_app ggL_law_wsX6_rests_r2_in (ggL_law_wsX6_rests_r3_in))) ggL_law_wsX60)
set_option maxRecDepth 20000 in
theorem gL_law_X6_rests : GoodIn wsL_law (wsV RL 42 RX6 yX6_rests wsX6_rests) := goodIn_app (goodIn_of _ (by decide +kernel)) ggL_law_X6_rests
set_option maxRecDepth 20000 in
theorem ggL_law_X6_loads_h : GoodIn wsL_law [.code yX6_loads cX6_loads 3 (some .int)] := goodIn_r _ [403] (by decide +kernel) (by decide +kernel)
set_option maxRecDepth 20000 in
theorem ggL_law_wsX6_loads_r1_in : GoodIn wsL_law wsX6_loads_r1 := goodIn_r _ [167, 168, 169, 5, 170, 79, 78, 404, 405, 406, 407, 294, 295, 259, 176, 177, 178, 179, 301, 302, 303, 304, 85, 367] (by decide +kernel) (by decide +kernel)
set_option maxRecDepth 20000 in
theorem ggL_law_wsX6_loads_r2_in : GoodIn wsL_law wsX6_loads_r2 := goodIn_r _ [368, 369, 370, 87, 408, 409, 410, 411, 180, 181, 182, 183, 184, 185, 186, 187, 81, 188, 189, 190, 191, 192, 80] (by decide +kernel) (by decide +kernel)
theorem ggL_law_X6_loads : GoodIn wsL_law wsX6_loads := goodIn_app (a := [.code yX6_loads cX6_loads 3 (some .int)]) ggL_law_X6_loads_h (goodIn_app (goodIn_app ggL_law_wsX6_loads_r1_in (ggL_law_wsX6_loads_r2_in)) ggL_law_wsX60)
set_option maxRecDepth 20000 in
theorem gL_law_X6_loads : GoodIn wsL_law (wsV RL 46 RX6 yX6_loads wsX6_loads) := goodIn_app (goodIn_of _ (by decide +kernel)) ggL_law_X6_loads
set_option maxRecDepth 20000 in
theorem ggL_law_X6_told : GoodIn wsL_law wsX6_told := goodIn_r _ [424, 425, 176, 177, 178, 5, 179, 426, 427, 428, 429, 78, 301, 302, 303, 304, 85, 184, 185, 186, 187, 81, 734, 735, 736, 737, 738, 739, 740, 741, 742, 743, 744, 745, 746, 747, 748] (by decide +kernel) (by decide +kernel)
set_option maxRecDepth 20000 in
theorem gL_law_X6_told : GoodIn wsL_law (wsV RL 50 RX6 yX6_told wsX6_told) := goodIn_app (goodIn_of _ (by decide +kernel)) ggL_law_X6_told
set_option maxRecDepth 20000 in
theorem ggL_law_X6_volts : GoodIn wsL_law wsX6_volts := goodIn_r _ [441, 85, 176, 177, 178, 5, 179, 367, 368, 369, 370, 78, 87, 184, 185, 186, 187, 81, 734, 735, 736, 737, 738, 739, 740, 741, 742, 743, 744, 745, 746, 747, 748] (by decide +kernel) (by decide +kernel)
set_option maxRecDepth 20000 in
theorem gL_law_X6_volts : GoodIn wsL_law (wsV RL 54 RX6 yX6_volts wsX6_volts) := goodIn_app (goodIn_of _ (by decide +kernel)) ggL_law_X6_volts
set_option maxRecDepth 20000 in
theorem ggL_law_X6_inverse : GoodIn wsL_law wsX6_inverse := goodIn_r _ [450, 259, 176, 360, 362, 177, 178, 5, 179, 184, 185, 186, 187, 81, 363, 364, 365, 366, 78, 361, 367, 368, 369, 370, 87, 734, 735, 736, 737, 738, 739, 740, 741, 742, 743, 744, 745, 746, 747, 748] (by decide +kernel) (by decide +kernel)
set_option maxRecDepth 20000 in
theorem gL_law_X6_inverse : GoodIn wsL_law (wsV RL 58 RX6 yX6_inverse wsX6_inverse) := goodIn_app (goodIn_of _ (by decide +kernel)) ggL_law_X6_inverse
