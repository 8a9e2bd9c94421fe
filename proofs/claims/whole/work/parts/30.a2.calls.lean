set_option maxRecDepth 20000 in
theorem ggL_law_X3_run : GoodIn wsL_law wsX3_run := goodIn_r _ [246, 117, 119, 120, 5, 121, 247, 248, 249, 250, 118, 75, 76, 251, 252, 253, 254, 72, 73, 144, 82, 255, 78, 79, 80, 81, 256, 257, 258, 259, 260, 261, 262, 71, 70, 263, 264, 265, 266, 267, 268, 269, 270, 271, 272, 273, 274, 275, 276, 277, 278, 279, 280, 281, 282, 283, 284, 285, 74, 286, 287, 288, 289, 290, 291, 292, 293, 572, 573, 574, 575, 576, 577, 578, 579, 580, 581, 582, 583, 584, 585, 586, 587, 588, 589, 590, 591, 592, 593, 594, 595, 596, 597, 598, 599] (by decide +kernel) (by decide +kernel)
set_option maxRecDepth 20000 in
theorem gL_law_X3_run : GoodIn wsL_law (wsV RL 47 RX3 yX3_run wsX3_run) := goodIn_app (goodIn_r _ [243, 244, 245, 5] (by decide +kernel) (by decide +kernel)) ggL_law_X3_run
set_option maxRecDepth 20000 in
theorem ggL_law_X2_count : GoodIn wsL_law wsX2_count := goodIn_r _ [297, 16, 96, 126, 22, 20, 298, 299, 31, 34, 300, 301, 302, 2, 303, 21, 181, 182, 183, 19, 184, 55, 56, 57, 58, 60, 61, 185, 186, 187, 188, 189, 62, 63, 190, 191, 192, 193, 194, 112, 195, 196, 65, 64, 197, 198, 199, 200, 201, 202, 203, 204, 205, 206, 207, 208, 209, 210, 211, 212, 213, 214, 215, 216, 217, 218, 219, 220, 221, 222, 223, 224, 225, 226, 227, 228, 229, 230, 555, 556, 557, 558, 559, 560, 561, 562, 563, 564, 565, 566, 567, 568, 569, 570, 571, 600, 601, 602, 603, 604, 605, 606, 607, 608, 609, 610, 611, 612, 613, 614, 615, 616, 617, 618, 619, 620, 621] (by decide +kernel) (by decide +kernel)
set_option maxRecDepth 20000 in
theorem gL_law_X2_count : GoodIn wsL_law (wsV RL 48 RX2 yX2_count wsX2_count) := goodIn_app (goodIn_r _ [294, 295, 296, 2] (by decide +kernel) (by decide +kernel)) ggL_law_X2_count
set_option maxRecDepth 20000 in
theorem ggL_law_X3_count : GoodIn wsL_law wsX3_count := goodIn_r _ [307, 117, 118, 144, 75, 308, 309, 310, 311, 312, 5, 313, 77, 82, 256, 257, 258, 247, 248, 249, 250, 76, 251, 252, 253, 254, 72, 73, 255, 78, 79, 80, 81, 259, 260, 261, 262, 71, 70, 263, 264, 265, 266, 267, 268, 269, 270, 271, 272, 273, 274, 275, 276, 277, 278, 279, 280, 281, 282, 283, 284, 285, 74, 286, 287, 288, 289, 290, 291, 292, 293, 572, 573, 574, 575, 576, 577, 578, 579, 580, 581, 582, 583, 584, 585, 586, 587, 588, 589, 590, 591, 592, 593, 594, 595, 596, 597, 598, 599] (by decide +kernel) (by decide +kernel)
set_option maxRecDepth 20000 in
theorem gL_law_X3_count : GoodIn wsL_law (wsV RL 51 RX3 yX3_count wsX3_count) := goodIn_app (goodIn_r _ [304, 305, 306, 5] (by decide +kernel) (by decide +kernel)) ggL_law_X3_count
set_option maxRecDepth 20000 in
theorem ggL_law_L_of : GoodIn wsL_law wsL_of := goodIn_ca (goodIn_r _ [317, 318, 319, 320, 321, 2, 322, 323, 324, 20, 325, 326, 327, 24, 25, 133, 134, 135, 136, 16, 96, 328, 329, 330, 331, 99, 100, 332, 333, 334, 15, 335, 42, 41, 336, 201, 202, 555, 556, 557, 558, 559, 560, 561, 562, 563, 564, 565, 566, 567, 568, 569, 570, 571, 612, 613, 614, 615, 616, 617, 618, 619, 620, 621, 600, 601, 602, 603, 604, 605, 606, 607, 608, 609, 610, 611] (by decide +kernel) (by decide +kernel)) (goodIn_sub (fun _ h => List.mem_append_right _ h) (List.all_eq_true.mpr (fun w h => (List.mem_filter.mp h).2)))
set_option maxRecDepth 20000 in
theorem gL_law_L_of : GoodIn wsL_law (va_wsS RL 52 yL_of wsL_of) := goodIn_app (goodIn_r _ [314, 315, 316] (by decide +kernel) (by decide +kernel)) ggL_law_L_of
set_option maxRecDepth 20000 in
theorem ggL_law_X3_of : GoodIn wsL_law wsX3_of := goodIn_r _ [340, 117, 72, 73, 75, 251, 252, 145, 146, 147, 5, 148, 118, 119, 120, 121, 341, 342, 343, 344, 71, 70, 267, 268, 269, 270, 271, 272, 273, 274, 275, 276, 277, 572, 573, 574, 575, 576, 577, 578, 579, 580, 581, 582, 583, 584, 585, 586, 587, 588, 589, 590, 591, 592, 593, 594, 595, 596, 597, 598, 599] (by decide +kernel) (by decide +kernel)
set_option maxRecDepth 20000 in
theorem gL_law_X3_of : GoodIn wsL_law (wsV RL 57 RX3 yX3_of wsX3_of) := goodIn_app (goodIn_r _ [337, 338, 339, 5] (by decide +kernel) (by decide +kernel)) ggL_law_X3_of
set_option maxRecDepth 20000 in
theorem ggL_law_X3_thrown : GoodIn wsL_law wsX3_thrown := goodIn_r _ [348, 117, 572, 573, 574, 575, 576, 577, 578, 579, 580, 581, 582, 583, 584, 585, 586, 587, 588, 589, 590, 591, 592, 593, 594, 595, 596, 597, 598, 599] (by decide +kernel) (by decide +kernel)
set_option maxRecDepth 20000 in
theorem gL_law_X3_thrown : GoodIn wsL_law (wsV RL 58 RX3 yX3_thrown wsX3_thrown) := goodIn_app (goodIn_r _ [345, 346, 347, 5] (by decide +kernel) (by decide +kernel)) ggL_law_X3_thrown
set_option maxRecDepth 20000 in
theorem ggL_law_X2_counted : GoodIn wsL_law wsX2_counted := goodIn_r _ [352, 16, 126, 20, 353, 555, 556, 557, 558, 559, 560, 561, 562, 563, 564, 565, 566, 567, 568, 569, 570, 571, 600, 601, 602, 603, 604, 605, 606, 607, 608, 609, 610, 611, 612, 613, 614, 615, 616, 617, 618, 619, 620, 621] (by decide +kernel) (by decide +kernel)
