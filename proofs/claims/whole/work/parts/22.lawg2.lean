set_option maxRecDepth 20000 in
theorem gL_law_X4_grow : GoodIn wsL_law (wsV RL 37 RX4 yX4_grow wsX4_grow) := goodIn_app (goodIn_of _ (by decide +kernel)) ggL_law_X4_grow
set_option maxRecDepth 20000 in
theorem ggL_law_X5_grow : GoodIn wsL_law wsX5_grow := goodIn_r _ [298, 299, 83, 79, 80, 82, 92, 75, 84, 95, 300, 301, 302, 5, 303, 97, 123, 124, 125, 171, 172, 173, 174, 175, 304, 305, 306, 307, 251, 252, 253, 254, 76, 255, 256, 257, 258, 259, 260, 261, 262, 74, 155, 156, 157, 158, 93, 71, 263, 264, 265, 266, 73, 267, 268, 269, 270, 72, 275, 276, 277, 278, 86, 87, 271, 272, 273, 274, 85, 564, 565, 566, 567, 568, 569, 570, 571, 572, 573, 574, 575, 576, 577, 578, 579, 580, 581, 582, 583, 584, 585, 586] (by decide +kernel) (by decide +kernel)
set_option maxRecDepth 20000 in
theorem gL_law_X5_grow : GoodIn wsL_law (wsV RL 41 RX5 yX5_grow wsX5_grow) := goodIn_app (goodIn_of _ (by decide +kernel)) ggL_law_X5_grow
set_option maxRecDepth 20000 in
theorem ggL_law_X4_shrink : GoodIn wsL_law wsX4_shrink := goodIn_r _ [311, 283, 284, 285, 2, 286, 43, 25, 103, 104, 105, 312, 313, 314, 315, 316, 317, 318, 21, 319, 320, 321, 220, 322, 241, 225, 323, 324, 194, 325, 227, 226, 326, 327, 328, 20, 329, 59, 36, 330, 331, 332, 333, 598, 599, 600, 601, 602, 603, 558, 559, 560, 561, 562, 563, 604, 605, 606, 607, 592, 593, 594, 595, 596, 597] (by decide +kernel) (by decide +kernel)
set_option maxRecDepth 20000 in
theorem gL_law_X4_shrink : GoodIn wsL_law (wsV RL 42 RX4 yX4_shrink wsX4_shrink) := goodIn_app (goodIn_of _ (by decide +kernel)) ggL_law_X4_shrink
set_option maxRecDepth 20000 in
theorem ggL_law_X5_shrink : GoodIn wsL_law wsX5_shrink := goodIn_r _ [337, 83, 80, 300, 301, 302, 5, 303, 97, 123, 124, 125, 338, 339, 340, 341, 75, 84, 85, 342, 343, 344, 345, 87, 86, 564, 565, 566, 567, 568, 569, 570, 571, 572, 573, 574, 575, 576, 577, 578, 579, 580, 581, 582, 583, 584, 585, 586] (by decide +kernel) (by decide +kernel)
set_option maxRecDepth 20000 in
theorem gL_law_X5_shrink : GoodIn wsL_law (wsV RL 45 RX5 yX5_shrink wsX5_shrink) := goodIn_app (goodIn_of _ (by decide +kernel)) ggL_law_X5_shrink
set_option maxRecDepth 20000 in
theorem ggL_law_X4_pay : GoodIn wsL_law wsX4_pay := goodIn_r _ [349, 44, 21, 283, 284, 285, 2, 286, 43, 25, 103, 104, 105, 163, 164, 165, 188, 189, 190, 191, 17, 192, 193, 194, 195, 142, 143, 144, 16, 145, 32, 134, 135, 136, 137, 49, 29, 196, 197, 198, 199, 138, 139, 140, 141, 31, 200, 201, 202, 20, 203, 36, 204, 205, 206, 207, 59, 60, 598, 599, 600, 601, 602, 603, 558, 559, 560, 561, 562, 563, 587, 588, 589, 590, 591, 592, 593, 594, 595, 596, 597] (by decide +kernel) (by decide +kernel)
set_option maxRecDepth 20000 in
theorem gL_law_X4_pay : GoodIn wsL_law (wsV RL 46 RX4 yX4_pay wsX4_pay) := goodIn_app (goodIn_of _ (by decide +kernel)) ggL_law_X4_pay
set_option maxRecDepth 20000 in
theorem ggL_law_X5_pay : GoodIn wsL_law wsX5_pay := goodIn_r _ [353, 120, 83, 82, 92, 80, 75, 95, 300, 301, 302, 5, 303, 97, 123, 124, 125, 171, 172, 173, 174, 175, 259, 260, 261, 262, 74, 155, 156, 157, 158, 93, 71, 263, 264, 265, 266, 73, 564, 565, 566, 567, 568, 569, 570, 571, 572, 573, 574, 575, 576, 577, 578, 579, 580, 581, 582, 583, 584, 585, 586] (by decide +kernel) (by decide +kernel)
set_option maxRecDepth 20000 in
theorem gL_law_X5_pay : GoodIn wsL_law (wsV RL 49 RX5 yX5_pay wsX5_pay) := goodIn_app (goodIn_of _ (by decide +kernel)) ggL_law_X5_pay
set_option maxRecDepth 20000 in
theorem ggL_law_X4_write : GoodIn wsL_law wsX4_write := goodIn_r _ [357, 283, 284, 285, 2, 286, 43, 25, 103, 104, 105, 598, 599, 600, 601, 602, 603, 558, 559, 560, 561, 562, 563] (by decide +kernel) (by decide +kernel)
set_option maxRecDepth 20000 in
theorem gL_law_X4_write : GoodIn wsL_law (wsV RL 50 RX4 yX4_write wsX4_write) := goodIn_app (goodIn_of _ (by decide +kernel)) ggL_law_X4_write
set_option maxRecDepth 20000 in
theorem ggL_law_X5_write : GoodIn wsL_law wsX5_write := goodIn_r _ [361, 154, 83, 81, 300, 301, 302, 5, 303, 97, 123, 124, 125, 564, 565, 566, 567, 568, 569, 570, 571, 572, 573, 574, 575, 576, 577, 578, 579, 580, 581, 582, 583, 584, 585, 586] (by decide +kernel) (by decide +kernel)
set_option maxRecDepth 20000 in
theorem gL_law_X5_write : GoodIn wsL_law (wsV RL 53 RX5 yX5_write wsX5_write) := goodIn_app (goodIn_of _ (by decide +kernel)) ggL_law_X5_write
set_option maxRecDepth 20000 in
theorem ggL_law_X4_drop : GoodIn wsL_law wsX4_drop := goodIn_r _ [365, 283, 284, 285, 2, 286, 43, 25, 103, 104, 105, 315, 316, 317, 318, 21, 319, 320, 321, 220, 322, 241, 225, 323, 324, 194, 325, 227, 226, 326, 327, 328, 20, 329, 59, 36, 330, 331, 332, 333, 598, 599, 600, 601, 602, 603, 558, 559, 560, 561, 562, 563, 604, 605, 606, 607, 592, 593, 594, 595, 596, 597] (by decide +kernel) (by decide +kernel)
set_option maxRecDepth 20000 in
theorem gL_law_X4_drop : GoodIn wsL_law (wsV RL 54 RX4 yX4_drop wsX4_drop) := goodIn_app (goodIn_of _ (by decide +kernel)) ggL_law_X4_drop
set_option maxRecDepth 20000 in
theorem ggL_law_X5_drop : GoodIn wsL_law wsX5_drop := goodIn_r _ [369, 83, 80, 300, 301, 302, 5, 303, 97, 123, 124, 125, 338, 339, 340, 341, 75, 84, 85, 342, 343, 344, 345, 87, 86, 564, 565, 566, 567, 568, 569, 570, 571, 572, 573, 574, 575, 576, 577, 578, 579, 580, 581, 582, 583, 584, 585, 586] (by decide +kernel) (by decide +kernel)
set_option maxRecDepth 20000 in
theorem gL_law_X5_drop : GoodIn wsL_law (wsV RL 58 RX5 yX5_drop wsX5_drop) := goodIn_app (goodIn_of _ (by decide +kernel)) ggL_law_X5_drop
set_option maxRecDepth 20000 in
theorem ggL_law_X4_back : GoodIn wsL_law wsX4_back := goodIn_r _ [373, 44, 21, 283, 284, 285, 2, 286, 43, 25, 103, 104, 105, 163, 164, 165, 374, 375, 376, 213, 377, 233, 217, 180, 181, 182, 183, 23, 184, 185, 186, 187, 188, 189, 190, 191, 17, 192, 193, 194, 195, 142, 143, 144, 16, 145, 32, 134, 135, 136, 137, 49, 29, 196, 197, 198, 199, 138, 139, 140, 141, 31, 200, 201, 202, 20, 203, 36, 204, 205, 206, 207, 59, 60, 598, 599, 600, 601, 602, 603, 558, 559, 560, 561, 562, 563, 587, 588, 589, 590, 591, 592, 593, 594, 595, 596, 597] (by decide +kernel) (by decide +kernel)
set_option maxRecDepth 20000 in
theorem gL_law_X4_back : GoodIn wsL_law (wsV RL 59 RX4 yX4_back wsX4_back) := goodIn_app (goodIn_of _ (by decide +kernel)) ggL_law_X4_back
set_option maxRecDepth 20000 in
theorem ggL_law_X5_back : GoodIn wsL_law wsX5_back := goodIn_r _ [381, 120, 83, 79, 80, 92, 82, 75, 95, 300, 301, 302, 5, 303, 97, 123, 124, 125, 171, 172, 173, 174, 175, 382, 383, 384, 385, 81, 251, 252, 253, 254, 76, 255, 256, 257, 258, 259, 260, 261, 262, 74, 155, 156, 157, 158, 93, 71, 263, 264, 265, 266, 73, 564, 565, 566, 567, 568, 569, 570, 571, 572, 573, 574, 575, 576, 577, 578, 579, 580, 581, 582, 583, 584, 585, 586] (by decide +kernel) (by decide +kernel)
set_option maxRecDepth 20000 in
theorem gL_law_X5_back : GoodIn wsL_law (wsV RL 62 RX5 yX5_back wsX5_back) := goodIn_app (goodIn_of _ (by decide +kernel)) ggL_law_X5_back
