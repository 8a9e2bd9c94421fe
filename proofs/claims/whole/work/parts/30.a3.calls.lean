set_option maxRecDepth 20000 in
theorem gL_law_X2_counted : GoodIn wsL_law (wsV RL 61 RX2 yX2_counted wsX2_counted) := goodIn_app (goodIn_r _ [352, 353, 354, 2] (by decide +kernel) (by decide +kernel)) ggL_law_X2_counted
set_option maxRecDepth 20000 in
theorem ggL_law_X3_counted : GoodIn wsL_law wsX3_counted := goodIn_r _ [360, 117, 144, 75, 119, 120, 5, 121, 575, 576, 577, 578, 579, 580, 581, 582, 583, 584, 585, 586, 587, 588, 589, 590, 591, 592, 593, 594, 595, 596, 597, 598, 599, 600, 601, 602] (by decide +kernel) (by decide +kernel)
set_option maxRecDepth 20000 in
theorem gL_law_X3_counted : GoodIn wsL_law (wsV RL 64 RX3 yX3_counted wsX3_counted) := goodIn_app (goodIn_r _ [357, 358, 359, 5] (by decide +kernel) (by decide +kernel)) ggL_law_X3_counted
set_option maxRecDepth 20000 in
theorem ggL_law_X2_event : GoodIn wsL_law wsX2_event := goodIn_r _ [364, 22, 26, 237, 238, 2, 239, 365, 366, 367, 368, 369, 370, 371, 372, 373, 374, 375, 376, 377, 558, 559, 560, 561, 562, 563, 564, 565, 566, 567, 568, 569, 570, 571, 572, 573, 574] (by decide +kernel) (by decide +kernel)
set_option maxRecDepth 20000 in
theorem gL_law_X2_event : GoodIn wsL_law (wsV RL 65 RX2 yX2_event wsX2_event) := goodIn_app (goodIn_r _ [361, 362, 363, 2] (by decide +kernel) (by decide +kernel)) ggL_law_X2_event
set_option maxRecDepth 20000 in
theorem ggL_law_X3_event : GoodIn wsL_law wsX3_event := goodIn_r _ [381, 117, 75, 78, 79, 80, 81, 575, 576, 577, 578, 579, 580, 581, 582, 583, 584, 585, 586, 587, 588, 589, 590, 591, 592, 593, 594, 595, 596, 597, 598, 599, 600, 601, 602] (by decide +kernel) (by decide +kernel)
set_option maxRecDepth 20000 in
theorem gL_law_X3_event : GoodIn wsL_law (wsV RL 68 RX3 yX3_event wsX3_event) := goodIn_app (goodIn_r _ [378, 379, 380, 5] (by decide +kernel) (by decide +kernel)) ggL_law_X3_event
set_option maxRecDepth 20000 in
theorem ggL_law_X2_ring : GoodIn wsL_law wsX2_ring := goodIn_r _ [385, 16, 96, 21, 20, 181, 182, 183, 19, 184, 55, 56, 57, 58, 60, 61, 386, 387, 388, 2, 389, 27, 328, 329, 390, 244, 245, 391, 392, 393, 394, 395, 240, 241, 242, 243, 62, 63, 185, 186, 187, 188, 189, 190, 191, 192, 193, 194, 112, 195, 196, 65, 64, 197, 198, 199, 200, 201, 202, 203, 204, 205, 206, 207, 208, 209, 210, 211, 212, 213, 214, 215, 216, 217, 218, 219, 220, 221, 222, 223, 224, 225, 226, 227, 228, 229, 230, 396, 397, 398, 399, 400, 401, 402, 403, 404, 405, 406, 407, 28, 29, 408, 409, 410, 411, 412, 413, 414, 371, 372, 373, 374, 375, 376, 377, 415, 416, 417, 339, 368, 369, 370, 365, 366, 367, 558, 559, 560, 561, 562, 563, 564, 565, 566, 567, 568, 569, 570, 571, 572, 573, 574, 603, 604, 605, 606, 607, 608, 609, 610, 611, 612, 613, 614, 615, 616, 617, 618, 619, 620, 621, 622, 623, 624] (by decide +kernel) (by decide +kernel)
set_option maxRecDepth 20000 in
theorem gL_law_X2_ring : GoodIn wsL_law (wsV RL 69 RX2 yX2_ring wsX2_ring) := goodIn_app (goodIn_r _ [382, 383, 384, 2] (by decide +kernel) (by decide +kernel)) ggL_law_X2_ring
set_option maxRecDepth 20000 in
theorem ggL_law_X3_ring : GoodIn wsL_law wsX3_ring := goodIn_r _ [421, 117, 118, 75, 77, 82, 119, 120, 5, 121, 259, 260, 261, 422, 423, 424, 425, 426, 427, 428, 429, 83, 250, 251, 252, 253, 76, 254, 255, 256, 257, 72, 73, 144, 258, 78, 79, 80, 81, 262, 263, 264, 265, 71, 70, 266, 267, 268, 269, 270, 271, 272, 273, 274, 275, 276, 277, 278, 279, 280, 281, 282, 283, 284, 285, 286, 287, 288, 74, 289, 290, 291, 292, 293, 294, 295, 296, 430, 431, 432, 433, 434, 435, 436, 437, 438, 84, 575, 576, 577, 578, 579, 580, 581, 582, 583, 584, 585, 586, 587, 588, 589, 590, 591, 592, 593, 594, 595, 596, 597, 598, 599, 600, 601, 602] (by decide +kernel) (by decide +kernel)
set_option maxRecDepth 20000 in
theorem gL_law_X3_ring : GoodIn wsL_law (wsV RL 72 RX3 yX3_ring wsX3_ring) := goodIn_app (goodIn_r _ [418, 419, 420, 5] (by decide +kernel) (by decide +kernel)) ggL_law_X3_ring
set_option maxRecDepth 20000 in
theorem ggL_law_X2_ringed : GoodIn wsL_law wsX2_ringed := goodIn_r _ [442, 29, 28, 443, 558, 559, 560, 561, 562, 563, 564, 565, 566, 567, 568, 569, 570, 571, 572, 573, 574] (by decide +kernel) (by decide +kernel)
set_option maxRecDepth 20000 in
theorem gL_law_X2_ringed : GoodIn wsL_law (wsV RL 73 RX2 yX2_ringed wsX2_ringed) := goodIn_app (goodIn_r _ [439, 440, 441, 2] (by decide +kernel) (by decide +kernel)) ggL_law_X2_ringed
