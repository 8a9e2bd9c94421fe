set_option maxRecDepth 20000 in
theorem gL_law_X3_part : GoodIn wsL_law (wsV RL 89 RX3 yX3_part wsX3_part) := goodIn_app (goodIn_r _ [490, 491, 492, 5] (by decide +kernel) (by decide +kernel)) ggL_law_X3_part
set_option maxRecDepth 20000 in
theorem ggL_law_X2_measure : GoodIn wsL_law wsX2_measure := goodIn_r _ [497, 34, 32, 33, 465, 466, 2, 467, 468, 558, 559, 560, 561, 562, 563, 564, 565, 566, 567, 568, 569, 570, 571, 572, 573, 574] (by decide +kernel) (by decide +kernel)
set_option maxRecDepth 20000 in
theorem gL_law_X2_measure : GoodIn wsL_law (wsV RL 90 RX2 yX2_measure wsX2_measure) := goodIn_app (goodIn_r _ [494, 495, 496, 2] (by decide +kernel) (by decide +kernel)) ggL_law_X2_measure
set_option maxRecDepth 20000 in
theorem ggL_law_X3_measure : GoodIn wsL_law wsX3_measure := goodIn_r _ [501, 117, 312, 86, 254, 87, 255, 477, 478, 5, 479, 480, 119, 120, 121, 270, 271, 272, 273, 274, 275, 276, 277, 278, 279, 280, 575, 576, 577, 578, 579, 580, 581, 582, 583, 584, 585, 586, 587, 588, 589, 590, 591, 592, 593, 594, 595, 596, 597, 598, 599, 600, 601, 602] (by decide +kernel) (by decide +kernel)
