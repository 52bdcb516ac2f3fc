/-! the words that the law's calls want -/
set_option maxRecDepth 20000 in
theorem ggL_law_X5_under_h : GoodIn wsL_law [.code yX5_under cX5_under 2 (some .int)] := goodIn_r _ [512] (by decide +kernel) (by decide +kernel)
set_option maxRecDepth 20000 in
theorem ggL_law_wsX5_under_r1_in : GoodIn wsL_law wsX5_under_r1 := goodIn_r _ [15, 513, 514, 515, 14, 516, 126, 35, 41, 273, 31, 383, 384, 385, 131, 2, 132, 278, 279, 280, 281, 37, 38, 104] (by decide +kernel) (by decide +kernel)
set_option maxRecDepth 20000 in
theorem ggL_law_wsX5_under_r2_in : GoodIn wsL_law wsX5_under_r2 := goodIn_r _ [36, 272, 153, 154, 155, 387, 388, 389, 390, 391, 392, 459, 460, 461, 34, 462, 463, 57, 464, 56, 397, 398, 399, 386] (by decide +kernel) (by decide +kernel)
set_option maxRecDepth 20000 in
theorem ggL_law_wsX5_under_r3_in : GoodIn wsL_law wsX5_under_r3 := goodIn_r _ [330, 331, 30, 332, 249, 50, 156, 157, 158, 159, 144, 160, 145, 161, 146, 162] (by decide +kernel) (by decide +kernel)
theorem ggL_law_X5_under : GoodIn wsL_law wsX5_under := goodIn_app (a := [.code yX5_under cX5_under 2 (some .int)]) ggL_law_X5_under_h (goodIn_app (goodIn_app (goodIn_app (goodIn_app (goodIn_app ggL_law_wsX5_under_r1_in (goodIn_app ggL_law_wsX5_under_r2_in (ggL_law_wsX5_under_r3_in))) ggL_law_wsX50) ggL_law_wsX10) ggL_law_wsX00) ggL_law_wsX20)
set_option maxRecDepth 20000 in
theorem gL_law_X5_under : GoodIn wsL_law (wsV RL 73 RX5 yX5_under wsX5_under) := goodIn_app (goodIn_of _ (by decide +kernel)) ggL_law_X5_under
set_option maxRecDepth 20000 in
theorem ggL_law_X5_setting_h : GoodIn wsL_law [.code yX5_setting cX5_setting 2 (some .int)] := goodIn_r _ [524] (by decide +kernel) (by decide +kernel)
set_option maxRecDepth 20000 in
theorem ggL_law_wsX5_setting_r1_in : GoodIn wsL_law wsX5_setting_r1 := goodIn_r _ [15, 525, 526, 527, 14, 528, 39, 40, 31, 126, 131, 2, 132, 529, 530, 531, 30, 532, 50, 249, 156, 157, 158, 159] (by decide +kernel) (by decide +kernel)
set_option maxRecDepth 20000 in
theorem ggL_law_wsX5_setting_r2_in : GoodIn wsL_law wsX5_setting_r2 := goodIn_r _ [144, 160, 145, 161, 146, 162] (by decide +kernel) (by decide +kernel)
theorem ggL_law_X5_setting : GoodIn wsL_law wsX5_setting := goodIn_app (a := [.code yX5_setting cX5_setting 2 (some .int)]) ggL_law_X5_setting_h (goodIn_app (goodIn_app (goodIn_app (goodIn_app ggL_law_wsX5_setting_r1_in (ggL_law_wsX5_setting_r2_in)) ggL_law_wsX50) ggL_law_wsX10) ggL_law_wsX20)
set_option maxRecDepth 20000 in
theorem gL_law_X5_setting : GoodIn wsL_law (wsV RL 77 RX5 yX5_setting wsX5_setting) := goodIn_app (goodIn_of _ (by decide +kernel)) ggL_law_X5_setting
set_option maxRecDepth 20000 in
theorem ggL_law_X5_type : GoodIn wsL_law wsX5_type := goodIn_r _ [541, 23, 542, 543, 544, 22, 545, 546, 547, 548, 70, 131, 2, 132, 156, 157, 158, 159, 144, 160, 145, 161, 146, 162, 728, 729, 730, 731, 732, 733, 767, 768, 769, 770, 771, 772, 773, 774] (by decide +kernel) (by decide +kernel)
set_option maxRecDepth 20000 in
theorem gL_law_X5_type : GoodIn wsL_law (wsV RL 81 RX5 yX5_type wsX5_type) := goodIn_app (goodIn_of _ (by decide +kernel)) ggL_law_X5_type
set_option maxRecDepth 20000 in
theorem ggL_law_X5_clear : GoodIn wsL_law wsX5_clear := goodIn_r _ [559, 23, 560, 561, 562, 22, 563, 547, 728, 729, 730, 731, 732, 733, 767, 768, 769, 770, 771, 772, 773, 774] (by decide +kernel) (by decide +kernel)
set_option maxRecDepth 20000 in
theorem gL_law_X5_clear : GoodIn wsL_law (wsV RL 85 RX5 yX5_clear wsX5_clear) := goodIn_app (goodIn_of _ (by decide +kernel)) ggL_law_X5_clear
set_option maxRecDepth 20000 in
theorem ggL_law_X5_does_h : GoodIn wsL_law [.code yX5_does cX5_does 2 (some .int)] := goodIn_r _ [571] (by decide +kernel) (by decide +kernel)
set_option maxRecDepth 20000 in
theorem ggL_law_wsX5_does_r1_in : GoodIn wsL_law wsX5_does_r1 := goodIn_r _ [23, 19, 15, 572, 573, 574, 22, 575, 576, 577, 547, 578, 579, 580, 581, 582, 583, 584, 585, 70, 586, 587, 588, 589] (by decide +kernel) (by decide +kernel)
set_option maxRecDepth 20000 in
theorem ggL_law_wsX5_does_r2_in : GoodIn wsL_law wsX5_does_r2 := goodIn_r _ [590, 71, 72, 73, 591, 592, 593, 594, 595, 596, 597, 598, 599, 600, 601, 602, 603, 604, 605, 606, 607, 95, 96, 97] (by decide +kernel) (by decide +kernel)
set_option maxRecDepth 20000 in
theorem ggL_law_wsX5_does_r3_in : GoodIn wsL_law wsX5_does_r3 := goodIn_r _ [18, 98, 63, 99, 100, 101, 102, 14, 103, 31, 35, 104, 36, 37, 38, 39, 40, 105, 106, 107, 42, 43, 108, 44] (by decide +kernel) (by decide +kernel)
set_option maxRecDepth 20000 in
theorem ggL_law_wsX5_does_r4_in : GoodIn wsL_law wsX5_does_r4 := goodIn_r _ [109, 110, 111, 30, 112, 50, 113, 114, 115, 116, 117, 118, 119, 34, 120, 56, 121, 57, 608, 609, 610, 611, 612, 613] (by decide +kernel) (by decide +kernel)
set_option maxRecDepth 20000 in
theorem ggL_law_wsX5_does_r5_in : GoodIn wsL_law wsX5_does_r5 := goodIn_r _ [614, 2, 615, 144, 616, 617, 618, 619, 131, 132, 620, 621, 622, 623, 624, 625, 626, 627, 265, 266, 267, 268, 126, 269] (by decide +kernel) (by decide +kernel)
set_option maxRecDepth 20000 in
theorem ggL_law_wsX5_does_r6_in : GoodIn wsL_law wsX5_does_r6 := goodIn_r _ [270, 154, 271, 272, 153, 155, 273, 274, 275, 276, 277, 278, 279, 280, 281, 282, 283, 284, 285, 309, 310, 311, 312, 41] (by decide +kernel) (by decide +kernel)
set_option maxRecDepth 20000 in
theorem ggL_law_wsX5_does_r7_in : GoodIn wsL_law wsX5_does_r7 := goodIn_r _ [313, 314, 315, 316, 317, 318, 319, 320, 321, 322, 323, 324, 325, 326, 327, 328, 329, 330, 331, 332, 249, 333, 334, 335] (by decide +kernel) (by decide +kernel)
set_option maxRecDepth 20000 in
theorem ggL_law_wsX5_does_r8_in : GoodIn wsL_law wsX5_does_r8 := goodIn_r _ [336, 337, 338, 339, 340, 341, 342, 343, 344, 345, 346, 347, 348, 349, 350, 351, 379, 380, 381, 382, 383, 384, 385, 386] (by decide +kernel) (by decide +kernel)
set_option maxRecDepth 20000 in
theorem ggL_law_wsX5_does_r9_in : GoodIn wsL_law wsX5_does_r9 := goodIn_r _ [387, 388, 389, 390, 391, 392, 393, 394, 395, 396, 397, 398, 399, 213, 214, 215, 216, 229, 230, 231, 232, 241, 242, 243] (by decide +kernel) (by decide +kernel)
set_option maxRecDepth 20000 in
theorem ggL_law_wsX5_does_r10_in : GoodIn wsL_law wsX5_does_r10 := goodIn_r _ [244, 245, 246, 247, 248, 250, 141, 142, 143, 145, 146, 628, 629, 630, 631, 147, 148, 149, 150, 151, 152] (by decide +kernel) (by decide +kernel)
theorem ggL_law_X5_does : GoodIn wsL_law wsX5_does := goodIn_app (a := [.code yX5_does cX5_does 2 (some .int)]) ggL_law_X5_does_h (goodIn_app (goodIn_app (goodIn_app (goodIn_app (goodIn_app (goodIn_app (goodIn_app ggL_law_wsX5_does_r1_in (goodIn_app ggL_law_wsX5_does_r2_in (goodIn_app ggL_law_wsX5_does_r3_in (goodIn_app ggL_law_wsX5_does_r4_in (goodIn_app ggL_law_wsX5_does_r5_in (goodIn_app ggL_law_wsX5_does_r6_in (goodIn_app ggL_law_wsX5_does_r7_in (goodIn_app ggL_law_wsX5_does_r8_in (goodIn_app ggL_law_wsX5_does_r9_in (ggL_law_wsX5_does_r10_in)))))))))) ggL_law_wsX50) ggL_law_wsX40) ggL_law_wsX30) ggL_law_wsX10) ggL_law_wsX20) ggL_law_wsX00)
set_option maxRecDepth 20000 in
theorem gL_law_X5_does : GoodIn wsL_law (wsV RL 89 RX5 yX5_does wsX5_does) := goodIn_app (goodIn_of _ (by decide +kernel)) ggL_law_X5_does
set_option maxRecDepth 20000 in
theorem ggL_law_X5_back_h : GoodIn wsL_law [.code yX5_back cX5_back 1 (some .int)] := goodIn_r _ [673] (by decide +kernel) (by decide +kernel)
set_option maxRecDepth 20000 in
theorem ggL_law_wsX5_back_r1_in : GoodIn wsL_law wsX5_back_r1 := goodIn_r _ [19, 145, 15, 674, 675, 676, 18, 677, 151, 156, 157, 158, 2, 159, 144, 160, 161, 146, 162, 678, 679, 680, 681, 99] (by decide +kernel) (by decide +kernel)
set_option maxRecDepth 20000 in
theorem ggL_law_wsX5_back_r2_in : GoodIn wsL_law wsX5_back_r2 := goodIn_r _ [682, 629, 630, 631, 63, 100, 101, 102, 14, 103, 31, 35, 104, 36, 37, 38, 39, 40, 105, 106, 107, 42, 43, 108] (by decide +kernel) (by decide +kernel)
set_option maxRecDepth 20000 in
theorem ggL_law_wsX5_back_r3_in : GoodIn wsL_law wsX5_back_r3 := goodIn_r _ [44, 109, 110, 111, 30, 112, 50, 113, 114, 115, 116, 117, 118, 119, 34, 120, 56, 121, 57] (by decide +kernel) (by decide +kernel)
theorem ggL_law_X5_back : GoodIn wsL_law wsX5_back := goodIn_app (a := [.code yX5_back cX5_back 1 (some .int)]) ggL_law_X5_back_h (goodIn_app (goodIn_app (goodIn_app (goodIn_app (goodIn_app (goodIn_app ggL_law_wsX5_back_r1_in (goodIn_app ggL_law_wsX5_back_r2_in (ggL_law_wsX5_back_r3_in))) ggL_law_wsX50) ggL_law_wsX30) ggL_law_wsX10) ggL_law_wsX20) ggL_law_wsX00)
set_option maxRecDepth 20000 in
theorem gL_law_X5_back : GoodIn wsL_law (wsV RL 93 RX5 yX5_back wsX5_back) := goodIn_app (goodIn_of _ (by decide +kernel)) ggL_law_X5_back
set_option maxRecDepth 20000 in
theorem ggL_law_X5_refused_h : GoodIn wsL_law [.code yX5_refused cX5_refused 2 (some .int)] := goodIn_r _ [690] (by decide +kernel) (by decide +kernel)
set_option maxRecDepth 20000 in
theorem ggL_law_wsX5_refused_r1_in : GoodIn wsL_law wsX5_refused_r1 := goodIn_r _ [160, 161, 162, 23, 19, 144, 691, 692, 693, 22, 694, 547, 674, 675, 676, 18, 677, 151, 156, 157, 158, 2, 159, 145] (by decide +kernel) (by decide +kernel)
set_option maxRecDepth 20000 in
theorem ggL_law_wsX5_refused_r2_in : GoodIn wsL_law wsX5_refused_r2 := goodIn_r _ [146] (by decide +kernel) (by decide +kernel)
theorem ggL_law_X5_refused : GoodIn wsL_law wsX5_refused := goodIn_app (a := [.code yX5_refused cX5_refused 2 (some .int)]) ggL_law_X5_refused_h (goodIn_app (goodIn_app (goodIn_app (goodIn_app ggL_law_wsX5_refused_r1_in (ggL_law_wsX5_refused_r2_in)) ggL_law_wsX50) ggL_law_wsX40) ggL_law_wsX30)
set_option maxRecDepth 20000 in
theorem gL_law_X5_refused : GoodIn wsL_law (wsV RL 97 RX5 yX5_refused wsX5_refused) := goodIn_app (goodIn_of _ (by decide +kernel)) ggL_law_X5_refused
set_option maxRecDepth 20000 in
theorem ggL_law_X5_digest_h : GoodIn wsL_law [.code yX5_digest cX5_digest 5 (some .long)] := goodIn_r _ [707] (by decide +kernel) (by decide +kernel)
set_option maxRecDepth 20000 in
theorem ggL_law_wsX5_digest_r1_in : GoodIn wsL_law wsX5_digest_r1 := goodIn_r _ [708, 709, 710, 688, 689, 2, 690, 160, 161, 162, 23, 19, 144, 691, 692, 693, 22, 694, 547, 674, 675, 676, 18, 677] (by decide +kernel) (by decide +kernel)
set_option maxRecDepth 20000 in
theorem ggL_law_wsX5_digest_r2_in : GoodIn wsL_law wsX5_digest_r2 := goodIn_r _ [151, 156, 157, 158, 159, 145, 146, 711, 413, 414, 415, 15, 416, 131, 132, 417, 418, 419, 14, 420, 104, 36, 37, 38] (by decide +kernel) (by decide +kernel)
set_option maxRecDepth 20000 in
theorem ggL_law_wsX5_digest_r3_in : GoodIn wsL_law wsX5_digest_r3 := goodIn_r _ [44, 105, 106, 108, 107, 42, 43, 126, 278, 279, 280, 281, 272, 153, 154, 155, 712, 522, 523, 524, 525, 526, 527, 528] (by decide +kernel) (by decide +kernel)
set_option maxRecDepth 20000 in
theorem ggL_law_wsX5_digest_r4_in : GoodIn wsL_law wsX5_digest_r4 := goodIn_r _ [39, 40, 31, 529, 530, 531, 30, 532, 50, 249, 713, 478, 479, 480, 481, 482, 483, 484, 35, 485, 486, 487, 34, 488] (by decide +kernel) (by decide +kernel)
set_option maxRecDepth 20000 in
theorem ggL_law_wsX5_digest_r5_in : GoodIn wsL_law wsX5_digest_r5 := goodIn_r _ [57, 714, 452, 453, 454, 455, 456, 457, 458, 459, 460, 461, 462, 463, 464, 56, 397, 398, 399, 465, 466, 467, 468, 715] (by decide +kernel) (by decide +kernel)
set_option maxRecDepth 20000 in
theorem ggL_law_wsX5_digest_r6_in : GoodIn wsL_law wsX5_digest_r6 := goodIn_r _ [494, 495, 496, 497, 498, 499, 500, 41] (by decide +kernel) (by decide +kernel)
theorem ggL_law_X5_digest : GoodIn wsL_law wsX5_digest := goodIn_app (a := [.code yX5_digest cX5_digest 5 (some .long)]) ggL_law_X5_digest_h (goodIn_app (goodIn_app (goodIn_app (goodIn_app (goodIn_app (goodIn_app (goodIn_app ggL_law_wsX5_digest_r1_in (goodIn_app ggL_law_wsX5_digest_r2_in (goodIn_app ggL_law_wsX5_digest_r3_in (goodIn_app ggL_law_wsX5_digest_r4_in (goodIn_app ggL_law_wsX5_digest_r5_in (ggL_law_wsX5_digest_r6_in)))))) ggL_law_wsX50) ggL_law_wsX40) ggL_law_wsX30) ggL_law_wsX10) ggL_law_wsX20) ggL_law_wsX00)
set_option maxRecDepth 20000 in
theorem gL_law_X5_digest : GoodIn wsL_law (wsV RL 101 RX5 yX5_digest wsX5_digest) := goodIn_app (goodIn_of _ (by decide +kernel)) ggL_law_X5_digest
