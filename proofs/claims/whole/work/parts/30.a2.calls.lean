set_option maxRecDepth 20000 in
theorem ggL_law_X3_run : GoodIn wsL_law wsX3_run := goodIn_r _ [249, 117, 119, 120, 5, 121, 250, 251, 252, 253, 118, 75, 76, 254, 255, 256, 257, 72, 73, 144, 82, 258, 78, 79, 80, 81, 259, 260, 261, 262, 263, 264, 265, 71, 70, 266, 267, 268, 269, 270, 271, 272, 273, 274, 275, 276, 277, 278, 279, 280, 281, 282, 283, 284, 285, 286, 287, 288, 74, 289, 290, 291, 292, 293, 294, 295, 296, 575, 576, 577, 578, 579, 580, 581, 582, 583, 584, 585, 586, 587, 588, 589, 590, 591, 592, 593, 594, 595, 596, 597, 598, 599, 600, 601, 602] (by decide +kernel) (by decide +kernel)
set_option maxRecDepth 20000 in
theorem gL_law_X3_run : GoodIn wsL_law (wsV RL 47 RX3 yX3_run wsX3_run) := goodIn_app (goodIn_r _ [246, 247, 248, 5] (by decide +kernel) (by decide +kernel)) ggL_law_X3_run
set_option maxRecDepth 20000 in
theorem ggL_law_X2_count : GoodIn wsL_law wsX2_count := goodIn_r _ [300, 16, 96, 126, 22, 20, 301, 302, 31, 34, 303, 304, 305, 2, 306, 21, 181, 182, 183, 19, 184, 55, 56, 57, 58, 60, 61, 185, 186, 187, 188, 189, 62, 63, 190, 191, 192, 193, 194, 112, 195, 196, 65, 64, 197, 198, 199, 200, 201, 202, 203, 204, 205, 206, 207, 208, 209, 210, 211, 212, 213, 214, 215, 216, 217, 218, 219, 220, 221, 222, 223, 224, 225, 226, 227, 228, 229, 230, 558, 559, 560, 561, 562, 563, 564, 565, 566, 567, 568, 569, 570, 571, 572, 573, 574, 603, 604, 605, 606, 607, 608, 609, 610, 611, 612, 613, 614, 615, 616, 617, 618, 619, 620, 621, 622, 623, 624] (by decide +kernel) (by decide +kernel)
set_option maxRecDepth 20000 in
theorem gL_law_X2_count : GoodIn wsL_law (wsV RL 48 RX2 yX2_count wsX2_count) := goodIn_app (goodIn_r _ [297, 298, 299, 2] (by decide +kernel) (by decide +kernel)) ggL_law_X2_count
set_option maxRecDepth 20000 in
theorem ggL_law_X3_count : GoodIn wsL_law wsX3_count := goodIn_r _ [310, 117, 118, 144, 75, 311, 312, 313, 314, 315, 5, 316, 77, 82, 259, 260, 261, 250, 251, 252, 253, 76, 254, 255, 256, 257, 72, 73, 258, 78, 79, 80, 81, 262, 263, 264, 265, 71, 70, 266, 267, 268, 269, 270, 271, 272, 273, 274, 275, 276, 277, 278, 279, 280, 281, 282, 283, 284, 285, 286, 287, 288, 74, 289, 290, 291, 292, 293, 294, 295, 296, 575, 576, 577, 578, 579, 580, 581, 582, 583, 584, 585, 586, 587, 588, 589, 590, 591, 592, 593, 594, 595, 596, 597, 598, 599, 600, 601, 602] (by decide +kernel) (by decide +kernel)
set_option maxRecDepth 20000 in
theorem gL_law_X3_count : GoodIn wsL_law (wsV RL 51 RX3 yX3_count wsX3_count) := goodIn_app (goodIn_r _ [307, 308, 309, 5] (by decide +kernel) (by decide +kernel)) ggL_law_X3_count
set_option maxRecDepth 20000 in
theorem ggL_law_L_of : GoodIn wsL_law wsL_of := goodIn_ca (goodIn_r _ [320, 321, 322, 323, 324, 2, 325, 326, 327, 20, 328, 329, 330, 24, 25, 133, 134, 135, 136, 16, 96, 331, 332, 333, 334, 99, 100, 335, 336, 337, 15, 338, 42, 41, 339, 201, 202, 558, 559, 560, 561, 562, 563, 564, 565, 566, 567, 568, 569, 570, 571, 572, 573, 574, 615, 616, 617, 618, 619, 620, 621, 622, 623, 624, 603, 604, 605, 606, 607, 608, 609, 610, 611, 612, 613, 614] (by decide +kernel) (by decide +kernel)) (goodIn_sub (fun _ h => List.mem_append_right _ h) (List.all_eq_true.mpr (fun w h => (List.mem_filter.mp h).2)))
set_option maxRecDepth 20000 in
theorem gL_law_L_of : GoodIn wsL_law (va_wsS RL 52 yL_of wsL_of) := goodIn_app (goodIn_r _ [317, 318, 319] (by decide +kernel) (by decide +kernel)) ggL_law_L_of
set_option maxRecDepth 20000 in
theorem ggL_law_X3_of : GoodIn wsL_law wsX3_of := goodIn_r _ [343, 117, 72, 73, 75, 254, 255, 145, 146, 147, 5, 148, 118, 119, 120, 121, 344, 345, 346, 347, 71, 70, 270, 271, 272, 273, 274, 275, 276, 277, 278, 279, 280, 575, 576, 577, 578, 579, 580, 581, 582, 583, 584, 585, 586, 587, 588, 589, 590, 591, 592, 593, 594, 595, 596, 597, 598, 599, 600, 601, 602] (by decide +kernel) (by decide +kernel)
set_option maxRecDepth 20000 in
theorem gL_law_X3_of : GoodIn wsL_law (wsV RL 57 RX3 yX3_of wsX3_of) := goodIn_app (goodIn_r _ [340, 341, 342, 5] (by decide +kernel) (by decide +kernel)) ggL_law_X3_of
set_option maxRecDepth 20000 in
theorem ggL_law_X3_thrown : GoodIn wsL_law wsX3_thrown := goodIn_r _ [351, 117, 575, 576, 577, 578, 579, 580, 581, 582, 583, 584, 585, 586, 587, 588, 589, 590, 591, 592, 593, 594, 595, 596, 597, 598, 599, 600, 601, 602] (by decide +kernel) (by decide +kernel)
set_option maxRecDepth 20000 in
theorem gL_law_X3_thrown : GoodIn wsL_law (wsV RL 58 RX3 yX3_thrown wsX3_thrown) := goodIn_app (goodIn_r _ [348, 349, 350, 5] (by decide +kernel) (by decide +kernel)) ggL_law_X3_thrown
set_option maxRecDepth 20000 in
theorem ggL_law_X2_counted : GoodIn wsL_law wsX2_counted := goodIn_r _ [355, 16, 126, 20, 356, 558, 559, 560, 561, 562, 563, 564, 565, 566, 567, 568, 569, 570, 571, 572, 573, 574, 603, 604, 605, 606, 607, 608, 609, 610, 611, 612, 613, 614, 615, 616, 617, 618, 619, 620, 621, 622, 623, 624] (by decide +kernel) (by decide +kernel)
