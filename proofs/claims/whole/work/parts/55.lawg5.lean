/-! the words that the law's calls want -/
set_option maxRecDepth 20000 in
theorem ggL_law_X6_band : GoodIn wsL_law wsX6_band := goodIn_r _ [472, 89, 176, 177, 178, 5, 179, 473, 474, 475, 476, 78, 361, 184, 185, 186, 187, 81, 734, 735, 736, 737, 738, 739, 740, 741, 742, 743, 744, 745, 746, 747, 748] (by decide +kernel) (by decide +kernel)
set_option maxRecDepth 20000 in
theorem gL_law_X6_band : GoodIn wsL_law (wsV RL 63 RX6 yX6_band wsX6_band) := goodIn_app (goodIn_of _ (by decide +kernel)) ggL_law_X6_band
set_option maxRecDepth 20000 in
theorem ggL_law_X6_bands : GoodIn wsL_law wsX6_bands := goodIn_r _ [492, 78, 734, 735, 736, 737, 738, 739, 740, 741, 742, 743, 744, 745, 746, 747, 748] (by decide +kernel) (by decide +kernel)
set_option maxRecDepth 20000 in
theorem gL_law_X6_bands : GoodIn wsL_law (wsV RL 68 RX6 yX6_bands wsX6_bands) := goodIn_app (goodIn_of _ (by decide +kernel)) ggL_law_X6_bands
set_option maxRecDepth 20000 in
theorem ggL_law_X6_lasts : GoodIn wsL_law wsX6_lasts := goodIn_r _ [504, 295, 176, 177, 178, 5, 179, 505, 506, 507, 508, 78, 361, 184, 185, 186, 187, 81, 734, 735, 736, 737, 738, 739, 740, 741, 742, 743, 744, 745, 746, 747, 748] (by decide +kernel) (by decide +kernel)
set_option maxRecDepth 20000 in
theorem gL_law_X6_lasts : GoodIn wsL_law (wsV RL 72 RX6 yX6_lasts wsX6_lasts) := goodIn_app (goodIn_of _ (by decide +kernel)) ggL_law_X6_lasts
set_option maxRecDepth 20000 in
theorem ggL_law_X6_under_h : GoodIn wsL_law [.code yX6_under cX6_under 3 (some .int)] := goodIn_r _ [520] (by decide +kernel) (by decide +kernel)
set_option maxRecDepth 20000 in
theorem ggL_law_wsX6_under_r1_in : GoodIn wsL_law wsX6_under_r1 := goodIn_r _ [294, 295, 176, 361, 260, 177, 178, 5, 179, 184, 185, 186, 187, 81, 408, 409, 410, 411, 301, 302, 303, 304, 78, 85] (by decide +kernel) (by decide +kernel)
set_option maxRecDepth 20000 in
theorem ggL_law_wsX6_under_r2_in : GoodIn wsL_law wsX6_under_r2 := goodIn_r _ [473, 474, 475, 476, 367, 368, 369, 370, 87] (by decide +kernel) (by decide +kernel)
theorem ggL_law_X6_under : GoodIn wsL_law wsX6_under := goodIn_app (a := [.code yX6_under cX6_under 3 (some .int)]) ggL_law_X6_under_h (goodIn_app (goodIn_app ggL_law_wsX6_under_r1_in (ggL_law_wsX6_under_r2_in)) ggL_law_wsX60)
set_option maxRecDepth 20000 in
theorem gL_law_X6_under : GoodIn wsL_law (wsV RL 76 RX6 yX6_under wsX6_under) := goodIn_app (goodIn_of _ (by decide +kernel)) ggL_law_X6_under
set_option maxRecDepth 20000 in
theorem ggL_law_X6_setting : GoodIn wsL_law wsX6_setting := goodIn_r _ [536, 537, 78, 176, 177, 178, 5, 179, 184, 185, 186, 187, 81, 734, 735, 736, 737, 738, 739, 740, 741, 742, 743, 744, 745, 746, 747, 748] (by decide +kernel) (by decide +kernel)
set_option maxRecDepth 20000 in
theorem gL_law_X6_setting : GoodIn wsL_law (wsV RL 80 RX6 yX6_setting wsX6_setting) := goodIn_app (goodIn_of _ (by decide +kernel)) ggL_law_X6_setting
set_option maxRecDepth 20000 in
theorem ggL_law_X6_type : GoodIn wsL_law wsX6_type := goodIn_r _ [552, 553, 176, 554, 555, 82, 177, 178, 5, 179, 184, 185, 186, 187, 81, 734, 735, 736, 737, 738, 739, 740, 741, 742, 743, 744, 745, 746, 747, 748] (by decide +kernel) (by decide +kernel)
set_option maxRecDepth 20000 in
theorem gL_law_X6_type : GoodIn wsL_law (wsV RL 84 RX6 yX6_type wsX6_type) := goodIn_app (goodIn_of _ (by decide +kernel)) ggL_law_X6_type
set_option maxRecDepth 20000 in
theorem ggL_law_X6_clear : GoodIn wsL_law wsX6_clear := goodIn_r _ [567, 554, 734, 735, 736, 737, 738, 739, 740, 741, 742, 743, 744, 745, 746, 747, 748] (by decide +kernel) (by decide +kernel)
set_option maxRecDepth 20000 in
theorem gL_law_X6_clear : GoodIn wsL_law (wsV RL 88 RX6 yX6_clear wsX6_clear) := goodIn_app (goodIn_of _ (by decide +kernel)) ggL_law_X6_clear
set_option maxRecDepth 20000 in
theorem ggL_law_X6_does_h : GoodIn wsL_law [.code yX6_does cX6_does 3 (some .int)] := goodIn_r _ [635] (by decide +kernel) (by decide +kernel)
set_option maxRecDepth 20000 in
theorem ggL_law_wsX6_does_r1_in : GoodIn wsL_law wsX6_does_r1 := goodIn_r _ [636, 637, 176, 78, 79, 638, 639, 640, 5, 641, 642, 554, 643, 644, 645, 646, 647, 648, 649, 650, 82, 177, 178, 179] (by decide +kernel) (by decide +kernel)
set_option maxRecDepth 20000 in
theorem ggL_law_wsX6_does_r2_in : GoodIn wsL_law wsX6_does_r2 := goodIn_r _ [651, 652, 653, 654, 361, 83, 655, 656, 657, 658, 659, 660, 661, 662, 663, 664, 665, 84, 167, 168, 169, 170, 666, 667] (by decide +kernel) (by decide +kernel)
set_option maxRecDepth 20000 in
theorem ggL_law_wsX6_does_r3_in : GoodIn wsL_law wsX6_does_r3 := goodIn_r _ [668, 669, 290, 291, 292, 293, 294, 295, 296, 260, 297, 298, 299, 300, 301, 302, 303, 304, 85, 356, 357, 358, 359, 259] (by decide +kernel) (by decide +kernel)
set_option maxRecDepth 20000 in
theorem ggL_law_wsX6_does_r4_in : GoodIn wsL_law wsX6_does_r4 := goodIn_r _ [360, 362, 363, 364, 365, 366, 367, 368, 369, 370, 87, 371, 372, 373, 374, 404, 405, 406, 407, 408, 409, 410, 411, 221] (by decide +kernel) (by decide +kernel)
set_option maxRecDepth 20000 in
theorem ggL_law_wsX6_does_r5_in : GoodIn wsL_law wsX6_does_r5 := goodIn_r _ [222, 223, 224, 255, 256, 257, 258, 89, 188, 189, 190, 191, 192, 80] (by decide +kernel) (by decide +kernel)
theorem ggL_law_X6_does : GoodIn wsL_law wsX6_does := goodIn_app (a := [.code yX6_does cX6_does 3 (some .int)]) ggL_law_X6_does_h (goodIn_app (goodIn_app ggL_law_wsX6_does_r1_in (goodIn_app ggL_law_wsX6_does_r2_in (goodIn_app ggL_law_wsX6_does_r3_in (goodIn_app ggL_law_wsX6_does_r4_in (ggL_law_wsX6_does_r5_in))))) ggL_law_wsX60)
set_option maxRecDepth 20000 in
theorem gL_law_X6_does : GoodIn wsL_law (wsV RL 92 RX6 yX6_does wsX6_does) := goodIn_app (goodIn_of _ (by decide +kernel)) ggL_law_X6_does
set_option maxRecDepth 20000 in
theorem ggL_law_X6_back : GoodIn wsL_law wsX6_back := goodIn_r _ [686, 192, 260, 78, 80, 184, 185, 186, 5, 187, 81, 176, 734, 735, 736, 737, 738, 739, 740, 741, 742, 743, 744, 745, 746, 747, 748] (by decide +kernel) (by decide +kernel)
set_option maxRecDepth 20000 in
theorem gL_law_X6_back : GoodIn wsL_law (wsV RL 96 RX6 yX6_back wsX6_back) := goodIn_app (goodIn_of _ (by decide +kernel)) ggL_law_X6_back
set_option maxRecDepth 20000 in
theorem ggL_law_X6_refused : GoodIn wsL_law wsX6_refused := goodIn_r _ [698, 699, 176, 177, 178, 5, 179, 700, 701, 702, 703, 81, 554, 192, 184, 185, 186, 187, 734, 735, 736, 737, 738, 739, 740, 741, 742, 743, 744, 745, 746, 747, 748] (by decide +kernel) (by decide +kernel)
set_option maxRecDepth 20000 in
theorem gL_law_X6_refused : GoodIn wsL_law (wsV RL 100 RX6 yX6_refused wsX6_refused) := goodIn_app (goodIn_of _ (by decide +kernel)) ggL_law_X6_refused
set_option maxRecDepth 20000 in
theorem ggL_law_X6_digest_h : GoodIn wsL_law [.code yX6_digest cX6_digest 2 (some .long)] := goodIn_r _ [719] (by decide +kernel) (by decide +kernel)
set_option maxRecDepth 20000 in
theorem ggL_law_wsX6_digest_r1_in : GoodIn wsL_law wsX6_digest_r1 := goodIn_r _ [720, 721, 78, 700, 701, 702, 5, 703, 81, 554, 192, 722, 723, 724, 725, 726, 426, 427, 428, 429, 301, 302, 303, 304] (by decide +kernel) (by decide +kernel)
set_option maxRecDepth 20000 in
theorem ggL_law_wsX6_digest_r2_in : GoodIn wsL_law wsX6_digest_r2 := goodIn_r _ [85, 727, 490, 491, 492, 473, 474, 475, 476, 361, 505, 506, 507, 508] (by decide +kernel) (by decide +kernel)
theorem ggL_law_X6_digest : GoodIn wsL_law wsX6_digest := goodIn_app (a := [.code yX6_digest cX6_digest 2 (some .long)]) ggL_law_X6_digest_h (goodIn_app (goodIn_app ggL_law_wsX6_digest_r1_in (ggL_law_wsX6_digest_r2_in)) ggL_law_wsX60)
set_option maxRecDepth 20000 in
theorem gL_law_X6_digest : GoodIn wsL_law (wsV RL 105 RX6 yX6_digest wsX6_digest) := goodIn_app (goodIn_of _ (by decide +kernel)) ggL_law_X6_digest
