set_option maxRecDepth 20000 in
theorem gL_law_X2_clear : GoodIn wsL_law (wsV RL 29 RX2 yX2_clear wsX2_clear) := goodIn_app (goodIn_r _ [149, 150, 151, 2] (by decide +kernel) (by decide +kernel)) ggL_law_X2_clear
set_option maxRecDepth 20000 in
theorem ggL_law_X3_clear : GoodIn wsL_law wsX3_clear := goodIn_r _ [156, 117, 118, 144, 88, 89, 90, 5, 91, 75, 70, 575, 576, 577, 578, 579, 580, 581, 582, 583, 584, 585, 586, 587, 588, 589, 590, 591, 592, 593, 594, 595, 596, 597, 598, 599, 600, 601, 602] (by decide +kernel) (by decide +kernel)
set_option maxRecDepth 20000 in
theorem gL_law_X3_clear : GoodIn wsL_law (wsV RL 33 RX3 yX3_clear wsX3_clear) := goodIn_app (goodIn_r _ [153, 154, 155, 5] (by decide +kernel) (by decide +kernel)) ggL_law_X3_clear
set_option maxRecDepth 20000 in
theorem ggL_law_X2_reset : GoodIn wsL_law wsX2_reset := goodIn_r _ [160, 22, 104, 105, 106, 2, 107, 20, 16, 24, 25, 108, 109, 110, 19, 111, 55, 56, 57, 112, 58, 60, 61, 558, 559, 560, 561, 562, 563, 564, 565, 566, 567, 568, 569, 570, 571, 572, 573, 574, 615, 616, 617, 618, 619, 620, 621, 622, 623, 624, 603, 604, 605, 606, 607, 608, 609, 610, 611, 612, 613, 614] (by decide +kernel) (by decide +kernel)
set_option maxRecDepth 20000 in
theorem gL_law_X2_reset : GoodIn wsL_law (wsV RL 34 RX2 yX2_reset wsX2_reset) := goodIn_app (goodIn_r _ [157, 158, 159, 2] (by decide +kernel) (by decide +kernel)) ggL_law_X2_reset
set_option maxRecDepth 20000 in
theorem ggL_law_X3_reset : GoodIn wsL_law wsX3_reset := goodIn_r _ [164, 117, 75, 88, 89, 90, 5, 91, 70, 575, 576, 577, 578, 579, 580, 581, 582, 583, 584, 585, 586, 587, 588, 589, 590, 591, 592, 593, 594, 595, 596, 597, 598, 599, 600, 601, 602] (by decide +kernel) (by decide +kernel)
set_option maxRecDepth 20000 in
theorem gL_law_X3_reset : GoodIn wsL_law (wsV RL 37 RX3 yX3_reset wsX3_reset) := goodIn_app (goodIn_r _ [161, 162, 163, 5] (by decide +kernel) (by decide +kernel)) ggL_law_X3_reset
set_option maxRecDepth 20000 in
theorem ggL_law_X2_set : GoodIn wsL_law wsX2_set := goodIn_r _ [168, 16, 133, 134, 135, 2, 136, 96, 101, 102, 103, 169, 170, 171, 15, 172, 43, 44, 104, 105, 106, 107, 20, 22, 24, 25, 108, 109, 110, 19, 111, 55, 56, 57, 112, 58, 60, 61, 558, 559, 560, 561, 562, 563, 564, 565, 566, 567, 568, 569, 570, 571, 572, 573, 574, 603, 604, 605, 606, 607, 608, 609, 610, 611, 612, 613, 614, 615, 616, 617, 618, 619, 620, 621, 622, 623, 624] (by decide +kernel) (by decide +kernel)
set_option maxRecDepth 20000 in
theorem gL_law_X2_set : GoodIn wsL_law (wsV RL 38 RX2 yX2_set wsX2_set) := goodIn_app (goodIn_r _ [165, 166, 167, 2] (by decide +kernel) (by decide +kernel)) ggL_law_X2_set
set_option maxRecDepth 20000 in
theorem ggL_law_X3_set : GoodIn wsL_law wsX3_set := goodIn_r _ [176, 117, 72, 73, 145, 146, 147, 5, 148, 118, 119, 120, 121, 88, 89, 90, 91, 75, 70, 575, 576, 577, 578, 579, 580, 581, 582, 583, 584, 585, 586, 587, 588, 589, 590, 591, 592, 593, 594, 595, 596, 597, 598, 599, 600, 601, 602] (by decide +kernel) (by decide +kernel)
set_option maxRecDepth 20000 in
theorem gL_law_X3_set : GoodIn wsL_law (wsV RL 42 RX3 yX3_set wsX3_set) := goodIn_app (goodIn_r _ [173, 174, 175, 5] (by decide +kernel) (by decide +kernel)) ggL_law_X3_set
set_option maxRecDepth 20000 in
theorem ggL_law_X2_run : GoodIn wsL_law wsX2_run := goodIn_r _ [180, 21, 20, 16, 181, 182, 183, 19, 184, 55, 56, 57, 58, 60, 61, 185, 186, 187, 188, 189, 62, 63, 190, 191, 192, 193, 194, 112, 195, 196, 65, 64, 197, 198, 199, 200, 201, 2, 202, 203, 204, 205, 206, 207, 208, 209, 210, 211, 212, 213, 214, 215, 216, 217, 218, 219, 220, 221, 222, 223, 224, 225, 226, 227, 228, 229, 230, 231, 232, 233, 234, 22, 26, 235, 24, 236, 25, 237, 238, 239, 240, 241, 242, 243, 244, 245, 558, 559, 560, 561, 562, 563, 564, 565, 566, 567, 568, 569, 570, 571, 572, 573, 574, 615, 616, 617, 618, 619, 620, 621, 622, 623, 624, 603, 604, 605, 606, 607, 608, 609, 610, 611, 612, 613, 614] (by decide +kernel) (by decide +kernel)
set_option maxRecDepth 20000 in
theorem gL_law_X2_run : GoodIn wsL_law (wsV RL 43 RX2 yX2_run wsX2_run) := goodIn_app (goodIn_r _ [177, 178, 179, 2] (by decide +kernel) (by decide +kernel)) ggL_law_X2_run
