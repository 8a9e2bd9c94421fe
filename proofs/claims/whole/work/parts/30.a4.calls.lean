set_option maxRecDepth 20000 in
theorem ggL_law_X3_ringed : GoodIn wsL_law wsX3_ringed := goodIn_r _ [447, 117, 438, 84, 448, 119, 120, 5, 121, 575, 576, 577, 578, 579, 580, 581, 582, 583, 584, 585, 586, 587, 588, 589, 590, 591, 592, 593, 594, 595, 596, 597, 598, 599, 600, 601, 602] (by decide +kernel) (by decide +kernel)
set_option maxRecDepth 20000 in
theorem gL_law_X3_ringed : GoodIn wsL_law (wsV RL 77 RX3 yX3_ringed wsX3_ringed) := goodIn_app (goodIn_r _ [444, 445, 446, 5] (by decide +kernel) (by decide +kernel)) ggL_law_X3_ringed
set_option maxRecDepth 20000 in
theorem ggL_law_X2_drawer : GoodIn wsL_law wsX2_drawer := goodIn_r _ [452, 31, 30, 101, 102, 2, 103, 453, 454, 455, 456, 558, 559, 560, 561, 562, 563, 564, 565, 566, 567, 568, 569, 570, 571, 572, 573, 574] (by decide +kernel) (by decide +kernel)
set_option maxRecDepth 20000 in
theorem gL_law_X2_drawer : GoodIn wsL_law (wsV RL 78 RX2 yX2_drawer wsX2_drawer) := goodIn_app (goodIn_r _ [449, 450, 451, 2] (by decide +kernel) (by decide +kernel)) ggL_law_X2_drawer
set_option maxRecDepth 20000 in
theorem ggL_law_X3_drawer : GoodIn wsL_law wsX3_drawer := goodIn_r _ [460, 117, 311, 85, 119, 120, 5, 121, 575, 576, 577, 578, 579, 580, 581, 582, 583, 584, 585, 586, 587, 588, 589, 590, 591, 592, 593, 594, 595, 596, 597, 598, 599, 600, 601, 602] (by decide +kernel) (by decide +kernel)
set_option maxRecDepth 20000 in
theorem gL_law_X3_drawer : GoodIn wsL_law (wsV RL 81 RX3 yX3_drawer wsX3_drawer) := goodIn_app (goodIn_r _ [457, 458, 459, 5] (by decide +kernel) (by decide +kernel)) ggL_law_X3_drawer
set_option maxRecDepth 20000 in
theorem ggL_law_X2_parts : GoodIn wsL_law wsX2_parts := goodIn_r _ [464, 133, 134, 135, 2, 136, 16, 96, 465, 466, 467, 468, 469, 470, 471, 472, 31, 30, 35, 335, 336, 337, 15, 338, 42, 41, 558, 559, 560, 561, 562, 563, 564, 565, 566, 567, 568, 569, 570, 571, 572, 573, 574, 603, 604, 605, 606, 607, 608, 609, 610, 611, 612, 613, 614] (by decide +kernel) (by decide +kernel)
set_option maxRecDepth 20000 in
theorem gL_law_X2_parts : GoodIn wsL_law (wsV RL 82 RX2 yX2_parts wsX2_parts) := goodIn_app (goodIn_r _ [461, 462, 463, 2] (by decide +kernel) (by decide +kernel)) ggL_law_X2_parts
set_option maxRecDepth 20000 in
theorem ggL_law_X3_parts : GoodIn wsL_law wsX3_parts := goodIn_r _ [476, 117, 145, 146, 147, 5, 148, 118, 119, 120, 121, 477, 478, 479, 480, 481, 482, 483, 484, 311, 85, 254, 255, 344, 345, 346, 347, 71, 70, 270, 271, 272, 273, 274, 275, 276, 277, 278, 279, 280, 575, 576, 577, 578, 579, 580, 581, 582, 583, 584, 585, 586, 587, 588, 589, 590, 591, 592, 593, 594, 595, 596, 597, 598, 599, 600, 601, 602] (by decide +kernel) (by decide +kernel)
set_option maxRecDepth 20000 in
theorem gL_law_X3_parts : GoodIn wsL_law (wsV RL 85 RX3 yX3_parts wsX3_parts) := goodIn_app (goodIn_r _ [473, 474, 475, 5] (by decide +kernel) (by decide +kernel)) ggL_law_X3_parts
set_option maxRecDepth 20000 in
theorem ggL_law_X2_part : GoodIn wsL_law wsX2_part := goodIn_r _ [488, 35, 489, 462, 463, 2, 464, 133, 134, 135, 136, 16, 96, 465, 466, 467, 468, 469, 470, 471, 472, 31, 30, 335, 336, 337, 15, 338, 42, 41, 558, 559, 560, 561, 562, 563, 564, 565, 566, 567, 568, 569, 570, 571, 572, 573, 574, 603, 604, 605, 606, 607, 608, 609, 610, 611, 612, 613, 614] (by decide +kernel) (by decide +kernel)
set_option maxRecDepth 20000 in
theorem gL_law_X2_part : GoodIn wsL_law (wsV RL 86 RX2 yX2_part wsX2_part) := goodIn_app (goodIn_r _ [485, 486, 487, 2] (by decide +kernel) (by decide +kernel)) ggL_law_X2_part
set_option maxRecDepth 20000 in
theorem ggL_law_X3_part : GoodIn wsL_law wsX3_part := goodIn_r _ [493, 117, 145, 146, 147, 5, 148, 118, 119, 120, 121, 477, 478, 479, 480, 481, 482, 483, 484, 311, 85, 254, 255, 344, 345, 346, 347, 71, 70, 270, 271, 272, 273, 274, 275, 276, 277, 278, 279, 280, 575, 576, 577, 578, 579, 580, 581, 582, 583, 584, 585, 586, 587, 588, 589, 590, 591, 592, 593, 594, 595, 596, 597, 598, 599, 600, 601, 602] (by decide +kernel) (by decide +kernel)
