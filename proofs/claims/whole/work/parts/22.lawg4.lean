set_option maxRecDepth 20000 in
theorem gL_law_X5_layer : GoodIn wsL_law (wsV RL 86 RX5 yX5_layer wsX5_layer) := goodIn_app (goodIn_of _ (by decide +kernel)) ggL_law_X5_layer
set_option maxRecDepth 20000 in
theorem ggL_law_X4_word : GoodIn wsL_law wsX4_word := goodIn_r _ [485, 283, 284, 285, 2, 286, 43, 25, 103, 104, 105, 598, 599, 600, 601, 602, 603, 558, 559, 560, 561, 562, 563] (by decide +kernel) (by decide +kernel)
set_option maxRecDepth 20000 in
theorem gL_law_X4_word : GoodIn wsL_law (wsV RL 87 RX4 yX4_word wsX4_word) := goodIn_app (goodIn_of _ (by decide +kernel)) ggL_law_X4_word
set_option maxRecDepth 20000 in
theorem ggL_law_X5_word : GoodIn wsL_law wsX5_word := goodIn_r _ [489, 154, 83, 81, 300, 301, 302, 5, 303, 97, 123, 124, 125, 564, 565, 566, 567, 568, 569, 570, 571, 572, 573, 574, 575, 576, 577, 578, 579, 580, 581, 582, 583, 584, 585, 586] (by decide +kernel) (by decide +kernel)
set_option maxRecDepth 20000 in
theorem gL_law_X5_word : GoodIn wsL_law (wsV RL 90 RX5 yX5_word wsX5_word) := goodIn_app (goodIn_of _ (by decide +kernel)) ggL_law_X5_word
set_option maxRecDepth 20000 in
theorem ggL_law_X4_wouldGive : GoodIn wsL_law wsX4_wouldGive := goodIn_r _ [493, 283, 284, 285, 2, 286, 43, 25, 103, 104, 105, 163, 164, 165, 312, 313, 314, 319, 320, 321, 220, 322, 241, 225, 323, 324, 194, 325, 227, 226, 598, 599, 600, 601, 602, 603, 558, 559, 560, 561, 562, 563, 604, 605, 606, 607] (by decide +kernel) (by decide +kernel)
set_option maxRecDepth 20000 in
theorem gL_law_X4_wouldGive : GoodIn wsL_law (wsV RL 91 RX4 yX4_wouldGive wsX4_wouldGive) := goodIn_app (goodIn_of _ (by decide +kernel)) ggL_law_X4_wouldGive
set_option maxRecDepth 20000 in
theorem ggL_law_X5_wouldGive : GoodIn wsL_law wsX5_wouldGive := goodIn_r _ [497, 83, 80, 300, 301, 302, 5, 303, 97, 123, 124, 125, 171, 172, 173, 174, 175, 342, 343, 344, 345, 84, 85, 87, 86, 564, 565, 566, 567, 568, 569, 570, 571, 572, 573, 574, 575, 576, 577, 578, 579, 580, 581, 582, 583, 584, 585, 586] (by decide +kernel) (by decide +kernel)
set_option maxRecDepth 20000 in
theorem gL_law_X5_wouldGive : GoodIn wsL_law (wsV RL 94 RX5 yX5_wouldGive wsX5_wouldGive) := goodIn_app (goodIn_of _ (by decide +kernel)) ggL_law_X5_wouldGive
set_option maxRecDepth 20000 in
theorem ggL_law_L_exact : GoodIn wsL_law wsL_exact := goodIn_ca (goodIn_r _ [501, 502, 503, 504, 505, 2, 506, 507, 508, 509, 510] (by decide +kernel) (by decide +kernel)) (goodIn_sub (fun _ h => List.mem_append_right _ h) (by decide +kernel))
set_option maxRecDepth 20000 in
theorem gL_law_L_exact : GoodIn wsL_law (va_wsS RL 97 yL_exact wsL_exact) := goodIn_app (goodIn_of _ (by decide +kernel)) ggL_law_L_exact
set_option maxRecDepth 20000 in
theorem ggL_law_X5_exact : GoodIn wsL_law wsX5_exact := goodIn_r _ [514, 515, 516, 517, 564, 565, 566, 567, 568, 569, 570, 571, 572, 573, 574, 575, 576, 577, 578, 579, 580, 581, 582, 583, 584, 585, 586] (by decide +kernel) (by decide +kernel)
set_option maxRecDepth 20000 in
theorem gL_law_X5_exact : GoodIn wsL_law (wsV RL 102 RX5 yX5_exact wsX5_exact) := goodIn_app (goodIn_of _ (by decide +kernel)) ggL_law_X5_exact
set_option maxRecDepth 20000 in
theorem ggL_law_X5_thrown : GoodIn wsL_law wsX5_thrown := goodIn_r _ [521, 515, 564, 565, 566, 567, 568, 569, 570, 571, 572, 573, 574, 575, 576, 577, 578, 579, 580, 581, 582, 583, 584, 585, 586] (by decide +kernel) (by decide +kernel)
set_option maxRecDepth 20000 in
theorem gL_law_X5_thrown : GoodIn wsL_law (wsV RL 103 RX5 yX5_thrown wsX5_thrown) := goodIn_app (goodIn_of _ (by decide +kernel)) ggL_law_X5_thrown
set_option maxRecDepth 20000 in
theorem ggL_law_X4_told : GoodIn wsL_law wsX4_told := goodIn_r _ [525, 44, 43, 21, 17, 526, 527, 528, 2, 529, 25, 184, 185, 186, 187, 530, 531, 532, 20, 533, 36, 37, 59, 60, 406, 407, 408, 558, 559, 560, 561, 562, 563, 592, 593, 594, 595, 596, 597, 587, 588, 589, 590, 591, 598, 599, 600, 601, 602, 603] (by decide +kernel) (by decide +kernel)
set_option maxRecDepth 20000 in
theorem gL_law_X4_told : GoodIn wsL_law (wsV RL 107 RX4 yX4_told wsX4_told) := goodIn_app (goodIn_of _ (by decide +kernel)) ggL_law_X4_told
set_option maxRecDepth 20000 in
theorem ggL_law_X5_told : GoodIn wsL_law wsX5_told := goodIn_r _ [537, 92, 97, 95, 93, 96, 538, 539, 540, 5, 541, 83, 255, 256, 257, 258, 79, 80, 542, 543, 544, 545, 465, 466, 467, 468, 84, 85, 86, 546, 547, 548, 549, 75, 77, 564, 565, 566, 567, 568, 569, 570, 571, 572, 573, 574, 575, 576, 577, 578, 579, 580, 581, 582, 583, 584, 585, 586] (by decide +kernel) (by decide +kernel)
set_option maxRecDepth 20000 in
theorem gL_law_X5_told : GoodIn wsL_law (wsV RL 110 RX5 yX5_told wsX5_told) := goodIn_app (goodIn_of _ (by decide +kernel)) ggL_law_X5_told
set_option maxRecDepth 20000 in
theorem ggL_law_X4_clear : GoodIn wsL_law wsX4_clear := goodIn_r _ [553, 43, 39, 40, 41, 2, 42, 17, 21, 23, 44, 45, 46, 47, 16, 48, 49, 50, 51, 52, 53, 29, 30, 31, 32, 54, 55, 56, 20, 57, 36, 58, 37, 38, 59, 60, 61, 62, 63, 64, 65, 66, 558, 559, 560, 561, 562, 563, 587, 588, 589, 590, 591, 592, 593, 594, 595, 596, 597] (by decide +kernel) (by decide +kernel)
set_option maxRecDepth 20000 in
theorem gL_law_X4_clear : GoodIn wsL_law (wsV RL 111 RX4 yX4_clear wsX4_clear) := goodIn_app (goodIn_of _ (by decide +kernel)) ggL_law_X4_clear
set_option maxRecDepth 20000 in
theorem ggL_law_X5_clear : GoodIn wsL_law wsX5_clear := goodIn_r _ [557, 97, 88, 89, 90, 5, 91, 92, 93, 71, 72, 73, 74, 75, 94, 76, 77, 78, 95, 96, 564, 565, 566, 567, 568, 569, 570, 571, 572, 573, 574, 575, 576, 577, 578, 579, 580, 581, 582, 583, 584, 585, 586] (by decide +kernel) (by decide +kernel)
set_option maxRecDepth 20000 in
theorem gL_law_X5_clear : GoodIn wsL_law (wsV RL 114 RX5 yX5_clear wsX5_clear) := goodIn_app (goodIn_of _ (by decide +kernel)) ggL_law_X5_clear
