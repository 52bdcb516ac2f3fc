/-! the words that the law's calls want -/
set_option maxRecDepth 20000 in
theorem ggL_law_X5_rests_h : GoodIn wsL_law [.code yX5_rests cX5_rests 2 (some .int)] := goodIn_r _ [308] (by decide +kernel) (by decide +kernel)
set_option maxRecDepth 20000 in
theorem ggL_law_wsX5_rests_r1_in : GoodIn wsL_law wsX5_rests_r1 := goodIn_r _ [19, 15, 95, 96, 97, 18, 98, 63, 99, 100, 101, 102, 14, 103, 31, 35, 104, 36, 37, 38, 39, 40, 105, 106] (by decide +kernel) (by decide +kernel)
set_option maxRecDepth 20000 in
theorem ggL_law_wsX5_rests_r2_in : GoodIn wsL_law wsX5_rests_r2 := goodIn_r _ [107, 42, 43, 108, 44, 109, 110, 111, 30, 112, 50, 113, 114, 115, 116, 117, 118, 119, 34, 120, 56, 121, 57, 309] (by decide +kernel) (by decide +kernel)
set_option maxRecDepth 20000 in
theorem ggL_law_wsX5_rests_r3_in : GoodIn wsL_law wsX5_rests_r3 := goodIn_r _ [310, 311, 312, 126, 41, 273, 272, 153, 154, 155, 313, 314, 315, 131, 2, 132, 316, 317, 318, 319, 269, 270, 271, 320] (by decide +kernel) (by decide +kernel)
set_option maxRecDepth 20000 in
theorem ggL_law_wsX5_rests_r4_in : GoodIn wsL_law wsX5_rests_r4 := goodIn_r _ [321, 322, 323, 324, 325, 326, 327, 328, 329, 330, 331, 332, 249, 333, 334, 335, 336, 337, 338, 339, 340, 341, 342, 343] (by decide +kernel) (by decide +kernel)
set_option maxRecDepth 20000 in
theorem ggL_law_wsX5_rests_r5_in : GoodIn wsL_law wsX5_rests_r5 := goodIn_r _ [344, 345, 346, 347, 348, 349, 350, 351, 282, 283, 284, 285, 137, 138, 139, 140, 141, 142, 143, 144, 145, 146, 147, 148] (by decide +kernel) (by decide +kernel)
set_option maxRecDepth 20000 in
theorem ggL_law_wsX5_rests_r6_in : GoodIn wsL_law wsX5_rests_r6 := goodIn_r _ [149, 150, 151, 152, 156, 157, 158, 159, 160, 161, 162] (by decide +kernel) (by decide +kernel)
theorem ggL_law_X5_rests : GoodIn wsL_law wsX5_rests := goodIn_app (a := [.code yX5_rests cX5_rests 2 (some .int)]) ggL_law_X5_rests_h (goodIn_app (goodIn_app (goodIn_app (goodIn_app (goodIn_app (goodIn_app ggL_law_wsX5_rests_r1_in (goodIn_app ggL_law_wsX5_rests_r2_in (goodIn_app ggL_law_wsX5_rests_r3_in (goodIn_app ggL_law_wsX5_rests_r4_in (goodIn_app ggL_law_wsX5_rests_r5_in (ggL_law_wsX5_rests_r6_in)))))) ggL_law_wsX50) ggL_law_wsX30) ggL_law_wsX10) ggL_law_wsX20) ggL_law_wsX00)
set_option maxRecDepth 20000 in
theorem gL_law_X5_rests : GoodIn wsL_law (wsV RL 39 RX5 yX5_rests wsX5_rests) := goodIn_app (goodIn_of _ (by decide +kernel)) ggL_law_X5_rests
set_option maxRecDepth 20000 in
theorem ggL_law_X5_loads_h : GoodIn wsL_law [.code yX5_loads cX5_loads 3 (some .int)] := goodIn_r _ [378] (by decide +kernel) (by decide +kernel)
set_option maxRecDepth 20000 in
theorem ggL_law_wsX5_loads_r1_in : GoodIn wsL_law wsX5_loads_r1 := goodIn_r _ [19, 15, 95, 96, 97, 18, 98, 63, 99, 100, 101, 102, 14, 103, 31, 35, 104, 36, 37, 38, 39, 40, 105, 106] (by decide +kernel) (by decide +kernel)
set_option maxRecDepth 20000 in
theorem ggL_law_wsX5_loads_r2_in : GoodIn wsL_law wsX5_loads_r2 := goodIn_r _ [107, 42, 43, 108, 44, 109, 110, 111, 30, 112, 50, 113, 114, 115, 116, 117, 118, 119, 34, 120, 56, 121, 57, 379] (by decide +kernel) (by decide +kernel)
set_option maxRecDepth 20000 in
theorem ggL_law_wsX5_loads_r3_in : GoodIn wsL_law wsX5_loads_r3 := goodIn_r _ [380, 381, 382, 126, 383, 384, 385, 131, 2, 132, 313, 314, 315, 278, 279, 280, 281, 272, 153, 154, 155, 386, 330, 331] (by decide +kernel) (by decide +kernel)
set_option maxRecDepth 20000 in
theorem ggL_law_wsX5_loads_r4_in : GoodIn wsL_law wsX5_loads_r4 := goodIn_r _ [332, 249, 387, 388, 389, 390, 391, 392, 393, 394, 395, 396, 397, 398, 399, 137, 138, 139, 140, 141, 142, 143, 144, 145] (by decide +kernel) (by decide +kernel)
set_option maxRecDepth 20000 in
theorem ggL_law_wsX5_loads_r5_in : GoodIn wsL_law wsX5_loads_r5 := goodIn_r _ [146, 147, 148, 149, 150, 151, 152, 156, 157, 158, 159, 160, 161, 162] (by decide +kernel) (by decide +kernel)
theorem ggL_law_X5_loads : GoodIn wsL_law wsX5_loads := goodIn_app (a := [.code yX5_loads cX5_loads 3 (some .int)]) ggL_law_X5_loads_h (goodIn_app (goodIn_app (goodIn_app (goodIn_app (goodIn_app (goodIn_app ggL_law_wsX5_loads_r1_in (goodIn_app ggL_law_wsX5_loads_r2_in (goodIn_app ggL_law_wsX5_loads_r3_in (goodIn_app ggL_law_wsX5_loads_r4_in (ggL_law_wsX5_loads_r5_in))))) ggL_law_wsX50) ggL_law_wsX30) ggL_law_wsX10) ggL_law_wsX20) ggL_law_wsX00)
set_option maxRecDepth 20000 in
theorem gL_law_X5_loads : GoodIn wsL_law (wsV RL 43 RX5 yX5_loads wsX5_loads) := goodIn_app (goodIn_of _ (by decide +kernel)) ggL_law_X5_loads
set_option maxRecDepth 20000 in
theorem ggL_law_X5_told_h : GoodIn wsL_law [.code yX5_told cX5_told 2 (some .int)] := goodIn_r _ [415] (by decide +kernel) (by decide +kernel)
set_option maxRecDepth 20000 in
theorem ggL_law_wsX5_told_r1_in : GoodIn wsL_law wsX5_told_r1 := goodIn_r _ [144, 15, 416, 131, 2, 132, 156, 157, 158, 159, 160, 145, 161, 146, 162, 417, 418, 419, 14, 420, 104, 36, 37, 38] (by decide +kernel) (by decide +kernel)
set_option maxRecDepth 20000 in
theorem ggL_law_wsX5_told_r2_in : GoodIn wsL_law wsX5_told_r2 := goodIn_r _ [44, 105, 106, 108, 107, 42, 43, 126, 278, 279, 280, 281, 272, 153, 154, 155] (by decide +kernel) (by decide +kernel)
theorem ggL_law_X5_told : GoodIn wsL_law wsX5_told := goodIn_app (a := [.code yX5_told cX5_told 2 (some .int)]) ggL_law_X5_told_h (goodIn_app (goodIn_app (goodIn_app ggL_law_wsX5_told_r1_in (ggL_law_wsX5_told_r2_in)) ggL_law_wsX50) ggL_law_wsX10)
set_option maxRecDepth 20000 in
theorem gL_law_X5_told : GoodIn wsL_law (wsV RL 47 RX5 yX5_told wsX5_told) := goodIn_app (goodIn_of _ (by decide +kernel)) ggL_law_X5_told
set_option maxRecDepth 20000 in
theorem ggL_law_X5_volts_h : GoodIn wsL_law [.code yX5_volts cX5_volts 2 (some .int)] := goodIn_r _ [433] (by decide +kernel) (by decide +kernel)
set_option maxRecDepth 20000 in
theorem ggL_law_wsX5_volts_r1_in : GoodIn wsL_law wsX5_volts_r1 := goodIn_r _ [15, 434, 435, 436, 14, 437, 31, 386, 330, 331, 30, 332, 249, 50, 156, 157, 158, 2, 159, 144, 160, 145, 161, 146] (by decide +kernel) (by decide +kernel)
set_option maxRecDepth 20000 in
theorem ggL_law_wsX5_volts_r2_in : GoodIn wsL_law wsX5_volts_r2 := goodIn_r _ [162] (by decide +kernel) (by decide +kernel)
theorem ggL_law_X5_volts : GoodIn wsL_law wsX5_volts := goodIn_app (a := [.code yX5_volts cX5_volts 2 (some .int)]) ggL_law_X5_volts_h (goodIn_app (goodIn_app (goodIn_app (goodIn_app ggL_law_wsX5_volts_r1_in (ggL_law_wsX5_volts_r2_in)) ggL_law_wsX50) ggL_law_wsX10) ggL_law_wsX20)
set_option maxRecDepth 20000 in
theorem gL_law_X5_volts : GoodIn wsL_law (wsV RL 51 RX5 yX5_volts wsX5_volts) := goodIn_app (goodIn_of _ (by decide +kernel)) ggL_law_X5_volts
set_option maxRecDepth 20000 in
theorem ggL_law_X5_inverse_h : GoodIn wsL_law [.code yX5_inverse cX5_inverse 3 (some .int)] := goodIn_r _ [445] (by decide +kernel) (by decide +kernel)
set_option maxRecDepth 20000 in
theorem ggL_law_wsX5_inverse_r1_in : GoodIn wsL_law wsX5_inverse_r1 := goodIn_r _ [15, 446, 317, 318, 14, 319, 126, 31, 40, 41, 272, 153, 154, 155, 269, 270, 271, 313, 314, 315, 131, 2, 132, 320] (by decide +kernel) (by decide +kernel)
set_option maxRecDepth 20000 in
theorem ggL_law_wsX5_inverse_r2_in : GoodIn wsL_law wsX5_inverse_r2 := goodIn_r _ [321, 322, 30, 323, 324, 325, 326, 327, 328, 329, 330, 331, 332, 249, 50, 333, 334, 335, 336, 156, 157, 158, 159, 144] (by decide +kernel) (by decide +kernel)
set_option maxRecDepth 20000 in
theorem ggL_law_wsX5_inverse_r3_in : GoodIn wsL_law wsX5_inverse_r3 := goodIn_r _ [160, 145, 161, 146, 162] (by decide +kernel) (by decide +kernel)
theorem ggL_law_X5_inverse : GoodIn wsL_law wsX5_inverse := goodIn_app (a := [.code yX5_inverse cX5_inverse 3 (some .int)]) ggL_law_X5_inverse_h (goodIn_app (goodIn_app (goodIn_app (goodIn_app ggL_law_wsX5_inverse_r1_in (goodIn_app ggL_law_wsX5_inverse_r2_in (ggL_law_wsX5_inverse_r3_in))) ggL_law_wsX50) ggL_law_wsX10) ggL_law_wsX20)
set_option maxRecDepth 20000 in
theorem gL_law_X5_inverse : GoodIn wsL_law (wsV RL 55 RX5 yX5_inverse wsX5_inverse) := goodIn_app (goodIn_of _ (by decide +kernel)) ggL_law_X5_inverse
set_option maxRecDepth 20000 in
theorem ggL_law_X5_band_h : GoodIn wsL_law [.code yX5_band cX5_band 4 (some .int)] := goodIn_r _ [454] (by decide +kernel) (by decide +kernel)
set_option maxRecDepth 20000 in
theorem ggL_law_wsX5_band_r1_in : GoodIn wsL_law wsX5_band_r1 := goodIn_r _ [15, 455, 456, 457, 14, 458, 126, 35, 131, 2, 132, 459, 460, 461, 34, 462, 463, 57, 464, 56, 397, 398, 399, 465] (by decide +kernel) (by decide +kernel)
set_option maxRecDepth 20000 in
theorem ggL_law_wsX5_band_r2_in : GoodIn wsL_law wsX5_band_r2 := goodIn_r _ [466, 467, 468, 156, 157, 158, 159, 144, 160, 145, 161, 146, 162] (by decide +kernel) (by decide +kernel)
theorem ggL_law_X5_band : GoodIn wsL_law wsX5_band := goodIn_app (a := [.code yX5_band cX5_band 4 (some .int)]) ggL_law_X5_band_h (goodIn_app (goodIn_app (goodIn_app (goodIn_app ggL_law_wsX5_band_r1_in (ggL_law_wsX5_band_r2_in)) ggL_law_wsX50) ggL_law_wsX10) ggL_law_wsX00)
set_option maxRecDepth 20000 in
theorem gL_law_X5_band : GoodIn wsL_law (wsV RL 59 RX5 yX5_band wsX5_band) := goodIn_app (goodIn_of _ (by decide +kernel)) ggL_law_X5_band
set_option maxRecDepth 20000 in
theorem ggL_law_X5_bands : GoodIn wsL_law wsX5_bands := goodIn_r _ [480, 15, 481, 482, 483, 14, 484, 35, 485, 486, 487, 34, 488, 57, 728, 729, 730, 731, 732, 733, 749, 750, 751, 752, 753, 754, 755, 756, 757, 758, 759, 760, 761, 762, 763, 776, 777] (by decide +kernel) (by decide +kernel)
set_option maxRecDepth 20000 in
theorem gL_law_X5_bands : GoodIn wsL_law (wsV RL 64 RX5 yX5_bands wsX5_bands) := goodIn_app (goodIn_of _ (by decide +kernel)) ggL_law_X5_bands
set_option maxRecDepth 20000 in
theorem ggL_law_X5_lasts : GoodIn wsL_law wsX5_lasts := goodIn_r _ [496, 15, 497, 498, 499, 14, 500, 126, 104, 39, 41, 36, 131, 2, 132, 156, 157, 158, 159, 144, 160, 145, 161, 146, 162, 728, 729, 730, 731, 732, 733, 749, 750, 751, 752, 753, 754, 755, 756, 757, 758, 759, 760, 761, 762, 763] (by decide +kernel) (by decide +kernel)
set_option maxRecDepth 20000 in
theorem gL_law_X5_lasts : GoodIn wsL_law (wsV RL 69 RX5 yX5_lasts wsX5_lasts) := goodIn_app (goodIn_of _ (by decide +kernel)) ggL_law_X5_lasts
