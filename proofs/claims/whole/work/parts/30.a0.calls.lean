set_option maxRecDepth 20000 in
theorem ggL_law_X2_init : GoodIn wsL_law wsX2_init := goodIn_r _ [9, 10, 11, 12, 13, 14, 15, 16, 17, 18, 19, 20, 21, 22, 23, 24, 25, 6, 26, 27, 28, 29, 30, 31, 32, 33, 34, 35, 36, 37, 38, 39, 40, 41, 42, 43, 44, 45, 46, 47, 48, 49, 50, 51, 52, 53, 54, 55, 56, 57, 58, 59, 60, 61, 62, 63, 64, 65, 603, 604, 605, 606, 607, 608, 609, 610, 611, 612, 613, 614, 558, 559, 560, 561, 562, 563, 564, 565, 566, 567, 568, 569, 570, 571, 572, 573, 574, 615, 616, 617, 618, 619, 620, 621, 622, 623, 624] (by decide +kernel) (by decide +kernel)
set_option maxRecDepth 20000 in
theorem gL_law_X2_init : GoodIn wsL_law (wsX2_init) := ggL_law_X2_init
set_option maxRecDepth 20000 in
theorem ggL_law_X3_init : GoodIn wsL_law wsX3_init := goodIn_r _ [68, 69, 11, 12, 23, 70, 71, 72, 73, 74, 6, 75, 76, 77, 78, 79, 80, 81, 82, 83, 84, 85, 86, 87, 88, 89, 90, 5, 91, 575, 576, 577, 578, 579, 580, 581, 582, 583, 584, 585, 586, 587, 588, 589, 590, 591, 592, 593, 594, 595, 596, 597, 598, 599, 600, 601, 602] (by decide +kernel) (by decide +kernel)
set_option maxRecDepth 20000 in
theorem gL_law_X3_init : GoodIn wsL_law (wsX3_init) := ggL_law_X3_init
set_option maxRecDepth 20000 in
theorem ggL_law_X2_cell : GoodIn wsL_law wsX2_cell := goodIn_r _ [95, 16, 96, 97, 98, 99, 100, 101, 102, 2, 103, 104, 105, 106, 107, 20, 22, 24, 25, 108, 109, 110, 19, 111, 55, 56, 57, 112, 58, 60, 61, 558, 559, 560, 561, 562, 563, 564, 565, 566, 567, 568, 569, 570, 571, 572, 573, 574, 603, 604, 605, 606, 607, 608, 609, 610, 611, 612, 613, 614, 615, 616, 617, 618, 619, 620, 621, 622, 623, 624] (by decide +kernel) (by decide +kernel)
set_option maxRecDepth 20000 in
theorem gL_law_X2_cell : GoodIn wsL_law (wsV RL 19 RX2 yX2_cell wsX2_cell) := goodIn_app (goodIn_r _ [92, 93, 94, 2] (by decide +kernel) (by decide +kernel)) ggL_law_X2_cell
set_option maxRecDepth 20000 in
theorem ggL_law_X3_cell : GoodIn wsL_law wsX3_cell := goodIn_r _ [116, 117, 118, 70, 71, 72, 73, 119, 120, 5, 121, 88, 89, 90, 91, 75, 575, 576, 577, 578, 579, 580, 581, 582, 583, 584, 585, 586, 587, 588, 589, 590, 591, 592, 593, 594, 595, 596, 597, 598, 599, 600, 601, 602] (by decide +kernel) (by decide +kernel)
set_option maxRecDepth 20000 in
theorem gL_law_X3_cell : GoodIn wsL_law (wsV RL 23 RX3 yX3_cell wsX3_cell) := goodIn_app (goodIn_r _ [113, 114, 115, 5] (by decide +kernel) (by decide +kernel)) ggL_law_X3_cell
set_option maxRecDepth 20000 in
theorem ggL_law_X2_link : GoodIn wsL_law wsX2_link := goodIn_r _ [125, 16, 126, 127, 128, 129, 130, 131, 132, 133, 134, 135, 2, 136, 96, 137, 138, 139, 104, 105, 106, 107, 20, 22, 24, 25, 108, 109, 110, 19, 111, 55, 56, 57, 112, 58, 60, 61, 558, 559, 560, 561, 562, 563, 564, 565, 566, 567, 568, 569, 570, 571, 572, 573, 574, 603, 604, 605, 606, 607, 608, 609, 610, 611, 612, 613, 614, 615, 616, 617, 618, 619, 620, 621, 622, 623, 624] (by decide +kernel) (by decide +kernel)
set_option maxRecDepth 20000 in
theorem gL_law_X2_link : GoodIn wsL_law (wsV RL 24 RX2 yX2_link wsX2_link) := goodIn_app (goodIn_r _ [122, 123, 124, 2] (by decide +kernel) (by decide +kernel)) ggL_law_X2_link
set_option maxRecDepth 20000 in
theorem ggL_law_X3_link : GoodIn wsL_law wsX3_link := goodIn_r _ [143, 117, 144, 23, 74, 145, 146, 147, 5, 148, 118, 119, 120, 121, 88, 89, 90, 91, 75, 70, 575, 576, 577, 578, 579, 580, 581, 582, 583, 584, 585, 586, 587, 588, 589, 590, 591, 592, 593, 594, 595, 596, 597, 598, 599, 600, 601, 602] (by decide +kernel) (by decide +kernel)
set_option maxRecDepth 20000 in
theorem gL_law_X3_link : GoodIn wsL_law (wsV RL 28 RX3 yX3_link wsX3_link) := goodIn_app (goodIn_r _ [140, 141, 142, 5] (by decide +kernel) (by decide +kernel)) ggL_law_X3_link
set_option maxRecDepth 20000 in
theorem ggL_law_X2_clear : GoodIn wsL_law wsX2_clear := goodIn_r _ [152, 16, 96, 126, 104, 105, 106, 2, 107, 20, 22, 24, 25, 108, 109, 110, 19, 111, 55, 56, 57, 112, 58, 60, 61, 558, 559, 560, 561, 562, 563, 564, 565, 566, 567, 568, 569, 570, 571, 572, 573, 574, 603, 604, 605, 606, 607, 608, 609, 610, 611, 612, 613, 614, 615, 616, 617, 618, 619, 620, 621, 622, 623, 624] (by decide +kernel) (by decide +kernel)
