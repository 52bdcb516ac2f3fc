/-! the words that the law's calls want -/
set_option maxRecDepth 20000 in
theorem ggL_law_wsX00 : GoodIn wsL_law wsX00 := fun w h => ⟨inlX0 w h, (wsX00_in w h).2⟩
set_option maxRecDepth 20000 in
theorem ggL_law_wsX10 : GoodIn wsL_law wsX10 := fun w h => ⟨inlX1 w h, (wsX10_in w h).2⟩
set_option maxRecDepth 20000 in
theorem ggL_law_wsX20 : GoodIn wsL_law wsX20 := fun w h => ⟨inlX2 w h, (wsX20_in w h).2⟩
set_option maxRecDepth 20000 in
theorem ggL_law_wsX30 : GoodIn wsL_law wsX30 := fun w h => ⟨inlX3 w h, (wsX30_in w h).2⟩
set_option maxRecDepth 20000 in
theorem ggL_law_wsX40 : GoodIn wsL_law wsX40 := fun w h => ⟨inlX4 w h, (wsX40_in w h).2⟩
set_option maxRecDepth 20000 in
theorem ggL_law_wsX50 : GoodIn wsL_law wsX50 := fun w h => ⟨inlX5 w h, (wsX50_in w h).2⟩
set_option maxRecDepth 20000 in
theorem ggL_law_wsX60 : GoodIn wsL_law wsX60 := fun w h => ⟨inlX6 w h, (wsX60_in w h).2⟩
set_option maxRecDepth 20000 in
theorem ggL_law_X5_init_h : GoodIn wsL_law [.code yX5_init cX5_init 1 none] := goodIn_r _ [8] (by decide +kernel) (by decide +kernel)
set_option maxRecDepth 20000 in
theorem ggL_law_wsX5_init_r1_in : GoodIn wsL_law wsX5_init_r1 := goodIn_r _ [9, 10, 11, 12, 13, 14, 15, 16, 17, 18, 19, 20, 21, 22, 23, 24, 25, 26, 27, 28, 29, 30, 31, 32] (by decide +kernel) (by decide +kernel)
set_option maxRecDepth 20000 in
theorem ggL_law_wsX5_init_r2_in : GoodIn wsL_law wsX5_init_r2 := goodIn_r _ [33, 34, 35, 36, 37, 38, 39, 40, 41, 42, 43, 44, 45, 46, 47, 48, 49, 50, 51, 52, 53, 54, 55, 56] (by decide +kernel) (by decide +kernel)
set_option maxRecDepth 20000 in
theorem ggL_law_wsX5_init_r3_in : GoodIn wsL_law wsX5_init_r3 := goodIn_r _ [57, 58, 59, 60, 61, 62, 63, 64, 65, 66, 67, 68, 69, 70, 71, 72, 73] (by decide +kernel) (by decide +kernel)
theorem ggL_law_X5_init : GoodIn wsL_law wsX5_init := goodIn_app (a := [.code yX5_init cX5_init 1 none]) ggL_law_X5_init_h (goodIn_app (goodIn_app (goodIn_app (goodIn_app (goodIn_app (goodIn_app (goodIn_app ggL_law_wsX5_init_r1_in (goodIn_app ggL_law_wsX5_init_r2_in (ggL_law_wsX5_init_r3_in))) ggL_law_wsX10) ggL_law_wsX50) ggL_law_wsX30) ggL_law_wsX40) ggL_law_wsX20) ggL_law_wsX00)
set_option maxRecDepth 20000 in
theorem gL_law_X5_init : GoodIn wsL_law (wsX5_init) := ggL_law_X5_init
set_option maxRecDepth 20000 in
theorem ggL_law_X5_begins_h : GoodIn wsL_law [.code yX5_begins cX5_begins 3 (some .int)] := goodIn_r _ [94] (by decide +kernel) (by decide +kernel)
set_option maxRecDepth 20000 in
theorem ggL_law_wsX5_begins_r1_in : GoodIn wsL_law wsX5_begins_r1 := goodIn_r _ [19, 15, 95, 96, 97, 18, 98, 63, 99, 100, 101, 102, 14, 103, 31, 35, 104, 36, 37, 38, 39, 40, 105, 106] (by decide +kernel) (by decide +kernel)
set_option maxRecDepth 20000 in
theorem ggL_law_wsX5_begins_r2_in : GoodIn wsL_law wsX5_begins_r2 := goodIn_r _ [107, 42, 43, 108, 44, 109, 110, 111, 30, 112, 50, 113, 114, 115, 116, 117, 118, 119, 34, 120, 56, 121, 57, 122] (by decide +kernel) (by decide +kernel)
set_option maxRecDepth 20000 in
theorem ggL_law_wsX5_begins_r3_in : GoodIn wsL_law wsX5_begins_r3 := goodIn_r _ [123, 124, 125, 126, 41, 127, 128, 129, 130, 131, 2, 132, 133, 134, 135, 136, 137, 138, 139, 140, 141, 142, 143, 144] (by decide +kernel) (by decide +kernel)
set_option maxRecDepth 20000 in
theorem ggL_law_wsX5_begins_r4_in : GoodIn wsL_law wsX5_begins_r4 := goodIn_r _ [145, 146, 147, 148, 149, 150, 151, 152, 153, 154, 155, 156, 157, 158, 159, 160, 161, 162] (by decide +kernel) (by decide +kernel)
theorem ggL_law_X5_begins : GoodIn wsL_law wsX5_begins := goodIn_app (a := [.code yX5_begins cX5_begins 3 (some .int)]) ggL_law_X5_begins_h (goodIn_app (goodIn_app (goodIn_app (goodIn_app (goodIn_app (goodIn_app ggL_law_wsX5_begins_r1_in (goodIn_app ggL_law_wsX5_begins_r2_in (goodIn_app ggL_law_wsX5_begins_r3_in (ggL_law_wsX5_begins_r4_in)))) ggL_law_wsX50) ggL_law_wsX30) ggL_law_wsX10) ggL_law_wsX20) ggL_law_wsX00)
set_option maxRecDepth 20000 in
theorem gL_law_X5_begins : GoodIn wsL_law (wsV RL 13 RX5 yX5_begins wsX5_begins) := goodIn_app (goodIn_of _ (by decide +kernel)) ggL_law_X5_begins
set_option maxRecDepth 20000 in
theorem ggL_law_X5_holds_h : GoodIn wsL_law [.code yX5_holds cX5_holds 3 (some .int)] := goodIn_r _ [196] (by decide +kernel) (by decide +kernel)
set_option maxRecDepth 20000 in
theorem ggL_law_wsX5_holds_r1_in : GoodIn wsL_law wsX5_holds_r1 := goodIn_r _ [19, 15, 95, 96, 97, 18, 98, 63, 99, 100, 101, 102, 14, 103, 31, 35, 104, 36, 37, 38, 39, 40, 105, 106] (by decide +kernel) (by decide +kernel)
set_option maxRecDepth 20000 in
theorem ggL_law_wsX5_holds_r2_in : GoodIn wsL_law wsX5_holds_r2 := goodIn_r _ [107, 42, 43, 108, 44, 109, 110, 111, 30, 112, 50, 113, 114, 115, 116, 117, 118, 119, 34, 120, 56, 121, 57, 197] (by decide +kernel) (by decide +kernel)
set_option maxRecDepth 20000 in
theorem ggL_law_wsX5_holds_r3_in : GoodIn wsL_law wsX5_holds_r3 := goodIn_r _ [198, 199, 200, 126, 127, 128, 129, 130, 131, 2, 132, 137, 138, 139, 140, 141, 142, 143, 144, 145, 146, 147, 148, 149] (by decide +kernel) (by decide +kernel)
set_option maxRecDepth 20000 in
theorem ggL_law_wsX5_holds_r4_in : GoodIn wsL_law wsX5_holds_r4 := goodIn_r _ [150, 151, 152, 153, 154, 155, 156, 157, 158, 159, 160, 161, 162] (by decide +kernel) (by decide +kernel)
theorem ggL_law_X5_holds : GoodIn wsL_law wsX5_holds := goodIn_app (a := [.code yX5_holds cX5_holds 3 (some .int)]) ggL_law_X5_holds_h (goodIn_app (goodIn_app (goodIn_app (goodIn_app (goodIn_app (goodIn_app ggL_law_wsX5_holds_r1_in (goodIn_app ggL_law_wsX5_holds_r2_in (goodIn_app ggL_law_wsX5_holds_r3_in (ggL_law_wsX5_holds_r4_in)))) ggL_law_wsX50) ggL_law_wsX30) ggL_law_wsX10) ggL_law_wsX20) ggL_law_wsX00)
set_option maxRecDepth 20000 in
theorem gL_law_X5_holds : GoodIn wsL_law (wsV RL 18 RX5 yX5_holds wsX5_holds) := goodIn_app (goodIn_of _ (by decide +kernel)) ggL_law_X5_holds
set_option maxRecDepth 20000 in
theorem ggL_law_X5_offset_h : GoodIn wsL_law [.code yX5_offset cX5_offset 2 (some .int)] := goodIn_r _ [212] (by decide +kernel) (by decide +kernel)
set_option maxRecDepth 20000 in
theorem ggL_law_wsX5_offset_r1_in : GoodIn wsL_law wsX5_offset_r1 := goodIn_r _ [19, 15, 95, 96, 97, 18, 98, 63, 99, 100, 101, 102, 14, 103, 31, 35, 104, 36, 37, 38, 39, 40, 105, 106] (by decide +kernel) (by decide +kernel)
set_option maxRecDepth 20000 in
theorem ggL_law_wsX5_offset_r2_in : GoodIn wsL_law wsX5_offset_r2 := goodIn_r _ [107, 42, 43, 108, 44, 109, 110, 111, 30, 112, 50, 113, 114, 115, 116, 117, 118, 119, 34, 120, 56, 121, 57, 213] (by decide +kernel) (by decide +kernel)
set_option maxRecDepth 20000 in
theorem ggL_law_wsX5_offset_r3_in : GoodIn wsL_law wsX5_offset_r3 := goodIn_r _ [214, 215, 216, 126, 131, 2, 132, 137, 138, 139, 140, 141, 142, 143, 144, 145, 146, 147, 148, 149, 150, 151, 152, 153] (by decide +kernel) (by decide +kernel)
set_option maxRecDepth 20000 in
theorem ggL_law_wsX5_offset_r4_in : GoodIn wsL_law wsX5_offset_r4 := goodIn_r _ [154, 155, 156, 157, 158, 159, 160, 161, 162] (by decide +kernel) (by decide +kernel)
theorem ggL_law_X5_offset : GoodIn wsL_law wsX5_offset := goodIn_app (a := [.code yX5_offset cX5_offset 2 (some .int)]) ggL_law_X5_offset_h (goodIn_app (goodIn_app (goodIn_app (goodIn_app (goodIn_app (goodIn_app ggL_law_wsX5_offset_r1_in (goodIn_app ggL_law_wsX5_offset_r2_in (goodIn_app ggL_law_wsX5_offset_r3_in (ggL_law_wsX5_offset_r4_in)))) ggL_law_wsX50) ggL_law_wsX30) ggL_law_wsX10) ggL_law_wsX20) ggL_law_wsX00)
set_option maxRecDepth 20000 in
theorem gL_law_X5_offset : GoodIn wsL_law (wsV RL 22 RX5 yX5_offset wsX5_offset) := goodIn_app (goodIn_of _ (by decide +kernel)) ggL_law_X5_offset
set_option maxRecDepth 20000 in
theorem ggL_law_X5_clings_h : GoodIn wsL_law [.code yX5_clings cX5_clings 2 (some .int)] := goodIn_r _ [228] (by decide +kernel) (by decide +kernel)
set_option maxRecDepth 20000 in
theorem ggL_law_wsX5_clings_r1_in : GoodIn wsL_law wsX5_clings_r1 := goodIn_r _ [19, 15, 95, 96, 97, 18, 98, 63, 99, 100, 101, 102, 14, 103, 31, 35, 104, 36, 37, 38, 39, 40, 105, 106] (by decide +kernel) (by decide +kernel)
set_option maxRecDepth 20000 in
theorem ggL_law_wsX5_clings_r2_in : GoodIn wsL_law wsX5_clings_r2 := goodIn_r _ [107, 42, 43, 108, 44, 109, 110, 111, 30, 112, 50, 113, 114, 115, 116, 117, 118, 119, 34, 120, 56, 121, 57, 229] (by decide +kernel) (by decide +kernel)
set_option maxRecDepth 20000 in
theorem ggL_law_wsX5_clings_r3_in : GoodIn wsL_law wsX5_clings_r3 := goodIn_r _ [230, 231, 232, 126, 131, 2, 132, 137, 138, 139, 140, 141, 142, 143, 144, 145, 146, 147, 148, 149, 150, 151, 152, 153] (by decide +kernel) (by decide +kernel)
set_option maxRecDepth 20000 in
theorem ggL_law_wsX5_clings_r4_in : GoodIn wsL_law wsX5_clings_r4 := goodIn_r _ [154, 155, 156, 157, 158, 159, 160, 161, 162] (by decide +kernel) (by decide +kernel)
theorem ggL_law_X5_clings : GoodIn wsL_law wsX5_clings := goodIn_app (a := [.code yX5_clings cX5_clings 2 (some .int)]) ggL_law_X5_clings_h (goodIn_app (goodIn_app (goodIn_app (goodIn_app (goodIn_app (goodIn_app ggL_law_wsX5_clings_r1_in (goodIn_app ggL_law_wsX5_clings_r2_in (goodIn_app ggL_law_wsX5_clings_r3_in (ggL_law_wsX5_clings_r4_in)))) ggL_law_wsX50) ggL_law_wsX30) ggL_law_wsX10) ggL_law_wsX20) ggL_law_wsX00)
set_option maxRecDepth 20000 in
theorem gL_law_X5_clings : GoodIn wsL_law (wsV RL 27 RX5 yX5_clings wsX5_clings) := goodIn_app (goodIn_of _ (by decide +kernel)) ggL_law_X5_clings
set_option maxRecDepth 20000 in
theorem ggL_law_X5_curve_h : GoodIn wsL_law [.code yX5_curve cX5_curve 3 (some .int)] := goodIn_r _ [240] (by decide +kernel) (by decide +kernel)
set_option maxRecDepth 20000 in
theorem ggL_law_wsX5_curve_r1_in : GoodIn wsL_law wsX5_curve_r1 := goodIn_r _ [19, 15, 95, 96, 97, 18, 98, 63, 99, 100, 101, 102, 14, 103, 31, 35, 104, 36, 37, 38, 39, 40, 105, 106] (by decide +kernel) (by decide +kernel)
set_option maxRecDepth 20000 in
theorem ggL_law_wsX5_curve_r2_in : GoodIn wsL_law wsX5_curve_r2 := goodIn_r _ [107, 42, 43, 108, 44, 109, 110, 111, 30, 112, 50, 113, 114, 115, 116, 117, 118, 119, 34, 120, 56, 121, 57, 241] (by decide +kernel) (by decide +kernel)
set_option maxRecDepth 20000 in
theorem ggL_law_wsX5_curve_r3_in : GoodIn wsL_law wsX5_curve_r3 := goodIn_r _ [242, 243, 244, 245, 246, 247, 248, 249, 250, 131, 2, 132, 137, 138, 139, 140, 141, 142, 143, 144, 145, 146, 147, 148] (by decide +kernel) (by decide +kernel)
set_option maxRecDepth 20000 in
theorem ggL_law_wsX5_curve_r4_in : GoodIn wsL_law wsX5_curve_r4 := goodIn_r _ [149, 150, 151, 152, 153, 154, 155, 156, 157, 158, 159, 160, 161, 162] (by decide +kernel) (by decide +kernel)
theorem ggL_law_X5_curve : GoodIn wsL_law wsX5_curve := goodIn_app (a := [.code yX5_curve cX5_curve 3 (some .int)]) ggL_law_X5_curve_h (goodIn_app (goodIn_app (goodIn_app (goodIn_app (goodIn_app (goodIn_app ggL_law_wsX5_curve_r1_in (goodIn_app ggL_law_wsX5_curve_r2_in (goodIn_app ggL_law_wsX5_curve_r3_in (ggL_law_wsX5_curve_r4_in)))) ggL_law_wsX50) ggL_law_wsX30) ggL_law_wsX10) ggL_law_wsX20) ggL_law_wsX00)
set_option maxRecDepth 20000 in
theorem gL_law_X5_curve : GoodIn wsL_law (wsV RL 31 RX5 yX5_curve wsX5_curve) := goodIn_app (goodIn_of _ (by decide +kernel)) ggL_law_X5_curve
set_option maxRecDepth 20000 in
theorem ggL_law_X5_passes_h : GoodIn wsL_law [.code yX5_passes cX5_passes 3 (some .int)] := goodIn_r _ [264] (by decide +kernel) (by decide +kernel)
set_option maxRecDepth 20000 in
theorem ggL_law_wsX5_passes_r1_in : GoodIn wsL_law wsX5_passes_r1 := goodIn_r _ [19, 15, 95, 96, 97, 18, 98, 63, 99, 100, 101, 102, 14, 103, 31, 35, 104, 36, 37, 38, 39, 40, 105, 106] (by decide +kernel) (by decide +kernel)
set_option maxRecDepth 20000 in
theorem ggL_law_wsX5_passes_r2_in : GoodIn wsL_law wsX5_passes_r2 := goodIn_r _ [107, 42, 43, 108, 44, 109, 110, 111, 30, 112, 50, 113, 114, 115, 116, 117, 118, 119, 34, 120, 56, 121, 57, 265] (by decide +kernel) (by decide +kernel)
set_option maxRecDepth 20000 in
theorem ggL_law_wsX5_passes_r3_in : GoodIn wsL_law wsX5_passes_r3 := goodIn_r _ [266, 267, 268, 126, 269, 270, 154, 271, 272, 153, 155, 273, 131, 2, 132, 274, 275, 276, 277, 278, 279, 280, 281, 282] (by decide +kernel) (by decide +kernel)
set_option maxRecDepth 20000 in
theorem ggL_law_wsX5_passes_r4_in : GoodIn wsL_law wsX5_passes_r4 := goodIn_r _ [283, 284, 285, 137, 138, 139, 140, 141, 142, 143, 144, 145, 146, 147, 148, 149, 150, 151, 152, 156, 157, 158, 159, 160] (by decide +kernel) (by decide +kernel)
set_option maxRecDepth 20000 in
theorem ggL_law_wsX5_passes_r5_in : GoodIn wsL_law wsX5_passes_r5 := goodIn_r _ [161, 162] (by decide +kernel) (by decide +kernel)
theorem ggL_law_X5_passes : GoodIn wsL_law wsX5_passes := goodIn_app (a := [.code yX5_passes cX5_passes 3 (some .int)]) ggL_law_X5_passes_h (goodIn_app (goodIn_app (goodIn_app (goodIn_app (goodIn_app (goodIn_app ggL_law_wsX5_passes_r1_in (goodIn_app ggL_law_wsX5_passes_r2_in (goodIn_app ggL_law_wsX5_passes_r3_in (goodIn_app ggL_law_wsX5_passes_r4_in (ggL_law_wsX5_passes_r5_in))))) ggL_law_wsX50) ggL_law_wsX30) ggL_law_wsX10) ggL_law_wsX20) ggL_law_wsX00)
set_option maxRecDepth 20000 in
theorem gL_law_X5_passes : GoodIn wsL_law (wsV RL 35 RX5 yX5_passes wsX5_passes) := goodIn_app (goodIn_of _ (by decide +kernel)) ggL_law_X5_passes
