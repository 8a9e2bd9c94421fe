set_option maxRecDepth 20000 in
theorem gL_law_X3_part : GoodIn wsL_law (wsV RL 89 RX3 yX3_part wsX3_part) := goodIn_app (goodIn_r _ [487, 488, 489, 5] (by decide +kernel) (by decide +kernel)) ggL_law_X3_part
set_option maxRecDepth 20000 in
theorem ggL_law_X2_measure : GoodIn wsL_law wsX2_measure := goodIn_r _ [494, 34, 32, 33, 462, 463, 2, 464, 465, 555, 556, 557, 558, 559, 560, 561, 562, 563, 564, 565, 566, 567, 568, 569, 570, 571] (by decide +kernel) (by decide +kernel)
set_option maxRecDepth 20000 in
theorem gL_law_X2_measure : GoodIn wsL_law (wsV RL 90 RX2 yX2_measure wsX2_measure) := goodIn_app (goodIn_r _ [491, 492, 493, 2] (by decide +kernel) (by decide +kernel)) ggL_law_X2_measure
set_option maxRecDepth 20000 in
theorem ggL_law_X3_measure : GoodIn wsL_law wsX3_measure := goodIn_r _ [498, 117, 309, 86, 251, 87, 252, 474, 475, 5, 476, 477, 119, 120, 121, 267, 268, 269, 270, 271, 272, 273, 274, 275, 276, 277, 572, 573, 574, 575, 576, 577, 578, 579, 580, 581, 582, 583, 584, 585, 586, 587, 588, 589, 590, 591, 592, 593, 594, 595, 596, 597, 598, 599] (by decide +kernel) (by decide +kernel)
set_option maxRecDepth 20000 in
theorem gL_law_X3_measure : GoodIn wsL_law (wsV RL 93 RX3 yX3_measure wsX3_measure) := goodIn_app (goodIn_r _ [495, 496, 497, 5] (by decide +kernel) (by decide +kernel)) ggL_law_X3_measure
set_option maxRecDepth 20000 in
theorem ggL_law_X2_forget : GoodIn wsL_law wsX2_forget := goodIn_r _ [502, 34, 555, 556, 557, 558, 559, 560, 561, 562, 563, 564, 565, 566, 567, 568, 569, 570, 571] (by decide +kernel) (by decide +kernel)
set_option maxRecDepth 20000 in
theorem gL_law_X2_forget : GoodIn wsL_law (wsV RL 94 RX2 yX2_forget wsX2_forget) := goodIn_app (goodIn_r _ [499, 500, 501, 2] (by decide +kernel) (by decide +kernel)) ggL_law_X2_forget
set_option maxRecDepth 20000 in
theorem ggL_law_X3_forget : GoodIn wsL_law wsX3_forget := goodIn_r _ [506, 117, 309, 572, 573, 574, 575, 576, 577, 578, 579, 580, 581, 582, 583, 584, 585, 586, 587, 588, 589, 590, 591, 592, 593, 594, 595, 596, 597, 598, 599] (by decide +kernel) (by decide +kernel)
set_option maxRecDepth 20000 in
theorem gL_law_X3_forget : GoodIn wsL_law (wsV RL 97 RX3 yX3_forget wsX3_forget) := goodIn_app (goodIn_r _ [503, 504, 505, 5] (by decide +kernel) (by decide +kernel)) ggL_law_X3_forget
set_option maxRecDepth 20000 in
theorem ggL_law_X2_faults : GoodIn wsL_law wsX2_faults := goodIn_r _ [510, 133, 134, 135, 2, 136, 16, 96, 511, 512, 513, 514, 31, 30, 36, 169, 170, 171, 15, 172, 43, 44, 515, 516, 517, 518, 34, 21, 236, 235, 108, 109, 110, 19, 111, 55, 56, 57, 112, 58, 60, 61, 185, 186, 187, 188, 189, 62, 63, 190, 191, 192, 193, 194, 195, 196, 65, 64, 197, 198, 199, 200, 201, 202, 203, 204, 205, 206, 207, 208, 209, 210, 211, 212, 213, 214, 215, 216, 217, 218, 219, 220, 221, 222, 223, 224, 225, 226, 227, 228, 229, 230, 237, 238, 239, 240, 241, 242, 519, 520, 521, 522, 33, 32, 409, 410, 411, 368, 369, 370, 371, 372, 373, 374, 412, 413, 414, 555, 556, 557, 558, 559, 560, 561, 562, 563, 564, 565, 566, 567, 568, 569, 570, 571, 600, 601, 602, 603, 604, 605, 606, 607, 608, 609, 610, 611, 612, 613, 614, 615, 616, 617, 618, 619, 620, 621] (by decide +kernel) (by decide +kernel)
set_option maxRecDepth 20000 in
theorem gL_law_X2_faults : GoodIn wsL_law (wsV RL 98 RX2 yX2_faults wsX2_faults) := goodIn_app (goodIn_r _ [507, 508, 509, 2] (by decide +kernel) (by decide +kernel)) ggL_law_X2_faults
set_option maxRecDepth 20000 in
theorem ggL_law_X3_faults : GoodIn wsL_law wsX3_faults := goodIn_r _ [526, 117, 145, 146, 147, 5, 148, 118, 119, 120, 121, 527, 528, 529, 530, 308, 85, 531, 532, 533, 534, 72, 73, 535, 536, 537, 538, 309, 75, 77, 82, 253, 254, 251, 86, 252, 87, 256, 257, 258, 88, 89, 90, 91, 70, 247, 248, 249, 250, 76, 144, 255, 78, 79, 80, 81, 259, 260, 261, 262, 71, 263, 264, 265, 266, 267, 268, 269, 270, 271, 272, 273, 274, 275, 276, 277, 278, 279, 280, 281, 282, 283, 284, 285, 74, 286, 287, 288, 289, 290, 291, 292, 293, 572, 573, 574, 575, 576, 577, 578, 579, 580, 581, 582, 583, 584, 585, 586, 587, 588, 589, 590, 591, 592, 593, 594, 595, 596, 597, 598, 599] (by decide +kernel) (by decide +kernel)
set_option maxRecDepth 20000 in
theorem gL_law_X3_faults : GoodIn wsL_law (wsV RL 101 RX3 yX3_faults wsX3_faults) := goodIn_app (goodIn_r _ [523, 524, 525, 5] (by decide +kernel) (by decide +kernel)) ggL_law_X3_faults
