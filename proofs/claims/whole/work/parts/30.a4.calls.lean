set_option maxRecDepth 20000 in
theorem ggL_law_X3_ringed : GoodIn wsL_law wsX3_ringed := goodIn_r _ [444, 117, 435, 84, 445, 119, 120, 5, 121, 572, 573, 574, 575, 576, 577, 578, 579, 580, 581, 582, 583, 584, 585, 586, 587, 588, 589, 590, 591, 592, 593, 594, 595, 596, 597, 598, 599] (by decide +kernel) (by decide +kernel)
set_option maxRecDepth 20000 in
theorem gL_law_X3_ringed : GoodIn wsL_law (wsV RL 77 RX3 yX3_ringed wsX3_ringed) := goodIn_app (goodIn_r _ [441, 442, 443, 5] (by decide +kernel) (by decide +kernel)) ggL_law_X3_ringed
set_option maxRecDepth 20000 in
theorem ggL_law_X2_drawer : GoodIn wsL_law wsX2_drawer := goodIn_r _ [449, 31, 30, 101, 102, 2, 103, 450, 451, 452, 453, 555, 556, 557, 558, 559, 560, 561, 562, 563, 564, 565, 566, 567, 568, 569, 570, 571] (by decide +kernel) (by decide +kernel)
set_option maxRecDepth 20000 in
theorem gL_law_X2_drawer : GoodIn wsL_law (wsV RL 78 RX2 yX2_drawer wsX2_drawer) := goodIn_app (goodIn_r _ [446, 447, 448, 2] (by decide +kernel) (by decide +kernel)) ggL_law_X2_drawer
set_option maxRecDepth 20000 in
theorem ggL_law_X3_drawer : GoodIn wsL_law wsX3_drawer := goodIn_r _ [457, 117, 308, 85, 119, 120, 5, 121, 572, 573, 574, 575, 576, 577, 578, 579, 580, 581, 582, 583, 584, 585, 586, 587, 588, 589, 590, 591, 592, 593, 594, 595, 596, 597, 598, 599] (by decide +kernel) (by decide +kernel)
set_option maxRecDepth 20000 in
theorem gL_law_X3_drawer : GoodIn wsL_law (wsV RL 81 RX3 yX3_drawer wsX3_drawer) := goodIn_app (goodIn_r _ [454, 455, 456, 5] (by decide +kernel) (by decide +kernel)) ggL_law_X3_drawer
set_option maxRecDepth 20000 in
theorem ggL_law_X2_parts : GoodIn wsL_law wsX2_parts := goodIn_r _ [461, 133, 134, 135, 2, 136, 16, 96, 462, 463, 464, 465, 466, 467, 468, 469, 31, 30, 35, 332, 333, 334, 15, 335, 42, 41, 555, 556, 557, 558, 559, 560, 561, 562, 563, 564, 565, 566, 567, 568, 569, 570, 571, 600, 601, 602, 603, 604, 605, 606, 607, 608, 609, 610, 611] (by decide +kernel) (by decide +kernel)
set_option maxRecDepth 20000 in
theorem gL_law_X2_parts : GoodIn wsL_law (wsV RL 82 RX2 yX2_parts wsX2_parts) := goodIn_app (goodIn_r _ [458, 459, 460, 2] (by decide +kernel) (by decide +kernel)) ggL_law_X2_parts
set_option maxRecDepth 20000 in
theorem ggL_law_X3_parts : GoodIn wsL_law wsX3_parts := goodIn_r _ [473, 117, 145, 146, 147, 5, 148, 118, 119, 120, 121, 474, 475, 476, 477, 478, 479, 480, 481, 308, 85, 251, 252, 341, 342, 343, 344, 71, 70, 267, 268, 269, 270, 271, 272, 273, 274, 275, 276, 277, 572, 573, 574, 575, 576, 577, 578, 579, 580, 581, 582, 583, 584, 585, 586, 587, 588, 589, 590, 591, 592, 593, 594, 595, 596, 597, 598, 599] (by decide +kernel) (by decide +kernel)
set_option maxRecDepth 20000 in
theorem gL_law_X3_parts : GoodIn wsL_law (wsV RL 85 RX3 yX3_parts wsX3_parts) := goodIn_app (goodIn_r _ [470, 471, 472, 5] (by decide +kernel) (by decide +kernel)) ggL_law_X3_parts
set_option maxRecDepth 20000 in
theorem ggL_law_X2_part : GoodIn wsL_law wsX2_part := goodIn_r _ [485, 35, 486, 459, 460, 2, 461, 133, 134, 135, 136, 16, 96, 462, 463, 464, 465, 466, 467, 468, 469, 31, 30, 332, 333, 334, 15, 335, 42, 41, 555, 556, 557, 558, 559, 560, 561, 562, 563, 564, 565, 566, 567, 568, 569, 570, 571, 600, 601, 602, 603, 604, 605, 606, 607, 608, 609, 610, 611] (by decide +kernel) (by decide +kernel)
set_option maxRecDepth 20000 in
theorem gL_law_X2_part : GoodIn wsL_law (wsV RL 86 RX2 yX2_part wsX2_part) := goodIn_app (goodIn_r _ [482, 483, 484, 2] (by decide +kernel) (by decide +kernel)) ggL_law_X2_part
set_option maxRecDepth 20000 in
theorem ggL_law_X3_part : GoodIn wsL_law wsX3_part := goodIn_r _ [490, 117, 145, 146, 147, 5, 148, 118, 119, 120, 121, 474, 475, 476, 477, 478, 479, 480, 481, 308, 85, 251, 252, 341, 342, 343, 344, 71, 70, 267, 268, 269, 270, 271, 272, 273, 274, 275, 276, 277, 572, 573, 574, 575, 576, 577, 578, 579, 580, 581, 582, 583, 584, 585, 586, 587, 588, 589, 590, 591, 592, 593, 594, 595, 596, 597, 598, 599] (by decide +kernel) (by decide +kernel)
