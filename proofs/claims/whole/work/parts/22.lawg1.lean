set_option maxRecDepth 20000 in
theorem ggL_exact_X4_exact : GoodIn wsL_exact wsX4_exact := goodIn_ca (goodIn_r _ [6, 7, 8, 9, 10] (by decide +kernel) (by decide +kernel)) (goodIn_sub (fun _ h => List.mem_cons_of_mem _ (List.mem_append_right _ h)) (by decide +kernel))
set_option maxRecDepth 20000 in
theorem gL_exact_X4_exact : GoodIn wsL_exact (wsV RL 7 RX4 yX4_exact wsX4_exact) := goodIn_app (goodIn_of _ (by decide +kernel)) ggL_exact_X4_exact
set_option maxRecDepth 20000 in
theorem ggL_law_X4_init : GoodIn wsL_law wsX4_init := goodIn_r _ [10, 11, 12, 13, 14, 15, 16, 17, 18, 19, 20, 21, 22, 23, 24, 25, 26, 27, 28, 29, 30, 31, 32, 33, 34, 35, 36, 37, 38, 39, 40, 41, 2, 42, 43, 44, 45, 46, 47, 48, 49, 50, 51, 52, 53, 54, 55, 56, 57, 58, 59, 60, 61, 62, 63, 64, 65, 66, 587, 588, 589, 590, 591, 558, 559, 560, 561, 562, 563, 592, 593, 594, 595, 596, 597] (by decide +kernel) (by decide +kernel)
set_option maxRecDepth 20000 in
theorem gL_law_X4_init : GoodIn wsL_law (wsX4_init) := ggL_law_X4_init
set_option maxRecDepth 20000 in
theorem ggL_law_X5_init : GoodIn wsL_law wsX5_init := goodIn_r _ [69, 70, 12, 13, 22, 71, 72, 73, 74, 75, 76, 77, 78, 79, 80, 81, 82, 83, 84, 85, 86, 87, 88, 89, 90, 5, 91, 92, 93, 94, 95, 96, 97, 564, 565, 566, 567, 568, 569, 570, 571, 572, 573, 574, 575, 576, 577, 578, 579, 580, 581, 582, 583, 584, 585, 586] (by decide +kernel) (by decide +kernel)
set_option maxRecDepth 20000 in
theorem gL_law_X5_init : GoodIn wsL_law (wsX5_init) := ggL_law_X5_init
set_option maxRecDepth 20000 in
theorem ggL_law_X4_edition : GoodIn wsL_law wsX4_edition := goodIn_r _ [101, 102, 44, 17, 103, 104, 2, 105, 106, 107, 108, 16, 109, 49, 29, 110, 111, 112, 113, 114, 51, 52, 53, 30, 31, 32, 558, 559, 560, 561, 562, 563, 587, 588, 589, 590, 591] (by decide +kernel) (by decide +kernel)
set_option maxRecDepth 20000 in
theorem gL_law_X4_edition : GoodIn wsL_law (wsV RL 19 RX4 yX4_edition wsX4_edition) := goodIn_app (goodIn_of _ (by decide +kernel)) ggL_law_X4_edition
set_option maxRecDepth 20000 in
theorem ggL_law_X5_edition : GoodIn wsL_law wsX5_edition := goodIn_r _ [118, 119, 120, 121, 122, 92, 71, 93, 72, 73, 74, 123, 124, 5, 125, 564, 565, 566, 567, 568, 569, 570, 571, 572, 573, 574, 575, 576, 577, 578, 579, 580, 581, 582, 583, 584, 585, 586] (by decide +kernel) (by decide +kernel)
set_option maxRecDepth 20000 in
theorem gL_law_X5_edition : GoodIn wsL_law (wsV RL 23 RX5 yX5_edition wsX5_edition) := goodIn_app (goodIn_of _ (by decide +kernel)) ggL_law_X5_edition
set_option maxRecDepth 20000 in
theorem ggL_law_X4_priceAt : GoodIn wsL_law wsX4_priceAt := goodIn_r _ [129, 102, 17, 103, 104, 2, 105, 130, 131, 132, 16, 133, 30, 134, 135, 136, 137, 49, 29, 138, 139, 140, 141, 31, 142, 143, 144, 145, 32, 146, 147, 148, 149, 558, 559, 560, 561, 562, 563, 587, 588, 589, 590, 591] (by decide +kernel) (by decide +kernel)
set_option maxRecDepth 20000 in
theorem gL_law_X4_priceAt : GoodIn wsL_law (wsV RL 24 RX4 yX4_priceAt wsX4_priceAt) := goodIn_app (goodIn_of _ (by decide +kernel)) ggL_law_X4_priceAt
set_option maxRecDepth 20000 in
theorem ggL_law_X5_priceAt : GoodIn wsL_law wsX5_priceAt := goodIn_r _ [153, 119, 154, 72, 73, 74, 71, 123, 124, 5, 125, 155, 156, 157, 158, 93, 564, 565, 566, 567, 568, 569, 570, 571, 572, 573, 574, 575, 576, 577, 578, 579, 580, 581, 582, 583, 584, 585, 586] (by decide +kernel) (by decide +kernel)
set_option maxRecDepth 20000 in
theorem gL_law_X5_priceAt : GoodIn wsL_law (wsV RL 28 RX5 yX5_priceAt wsX5_priceAt) := goodIn_app (goodIn_of _ (by decide +kernel)) ggL_law_X5_priceAt
set_option maxRecDepth 20000 in
theorem ggL_law_X4_cap : GoodIn wsL_law wsX4_cap := goodIn_r _ [162, 23, 163, 164, 2, 165, 103, 104, 105, 558, 559, 560, 561, 562, 563] (by decide +kernel) (by decide +kernel)
set_option maxRecDepth 20000 in
theorem gL_law_X4_cap : GoodIn wsL_law (wsV RL 29 RX4 yX4_cap wsX4_cap) := goodIn_app (goodIn_of _ (by decide +kernel)) ggL_law_X4_cap
set_option maxRecDepth 20000 in
theorem ggL_law_X5_cap : GoodIn wsL_law wsX5_cap := goodIn_r _ [169, 170, 76, 171, 172, 173, 5, 174, 175, 123, 124, 125, 564, 565, 566, 567, 568, 569, 570, 571, 572, 573, 574, 575, 576, 577, 578, 579, 580, 581, 582, 583, 584, 585, 586] (by decide +kernel) (by decide +kernel)
set_option maxRecDepth 20000 in
theorem gL_law_X5_cap : GoodIn wsL_law (wsV RL 32 RX5 yX5_cap wsX5_cap) := goodIn_app (goodIn_of _ (by decide +kernel)) ggL_law_X5_cap
set_option maxRecDepth 20000 in
theorem ggL_law_X4_make : GoodIn wsL_law wsX4_make := goodIn_r _ [179, 17, 44, 21, 43, 163, 164, 2, 165, 103, 104, 105, 180, 181, 182, 183, 23, 184, 185, 186, 187, 25, 130, 131, 132, 16, 133, 30, 134, 135, 136, 137, 49, 29, 188, 189, 190, 191, 192, 193, 194, 195, 142, 143, 144, 145, 32, 196, 197, 198, 199, 138, 139, 140, 141, 31, 200, 201, 202, 20, 203, 36, 204, 205, 206, 207, 59, 60, 208, 209, 210, 211, 24, 212, 213, 214, 215, 216, 12, 13, 22, 217, 218, 219, 220, 221, 222, 223, 224, 225, 226, 227, 228, 229, 230, 231, 232, 233, 234, 235, 236, 63, 64, 65, 237, 238, 239, 240, 241, 242, 243, 244, 245, 558, 559, 560, 561, 562, 563, 598, 599, 600, 601, 602, 603, 587, 588, 589, 590, 591, 592, 593, 594, 595, 596, 597, 604, 605, 606, 607] (by decide +kernel) (by decide +kernel)
set_option maxRecDepth 20000 in
theorem gL_law_X4_make : GoodIn wsL_law (wsV RL 33 RX4 yX4_make wsX4_make) := goodIn_app (goodIn_of _ (by decide +kernel)) ggL_law_X4_make
set_option maxRecDepth 20000 in
theorem ggL_law_X5_make : GoodIn wsL_law wsX5_make := goodIn_r _ [249, 250, 120, 75, 97, 79, 80, 81, 82, 92, 83, 84, 95, 171, 172, 173, 5, 174, 175, 123, 124, 125, 251, 252, 253, 254, 76, 255, 256, 257, 258, 259, 260, 261, 262, 74, 155, 156, 157, 158, 93, 71, 263, 264, 265, 266, 73, 267, 268, 269, 270, 72, 271, 272, 273, 274, 85, 86, 87, 275, 276, 277, 278, 564, 565, 566, 567, 568, 569, 570, 571, 572, 573, 574, 575, 576, 577, 578, 579, 580, 581, 582, 583, 584, 585, 586] (by decide +kernel) (by decide +kernel)
set_option maxRecDepth 20000 in
theorem gL_law_X5_make : GoodIn wsL_law (wsV RL 36 RX5 yX5_make wsX5_make) := goodIn_app (goodIn_of _ (by decide +kernel)) ggL_law_X5_make
set_option maxRecDepth 20000 in
theorem ggL_law_X4_grow : GoodIn wsL_law wsX4_grow := goodIn_r _ [282, 17, 44, 21, 283, 284, 285, 2, 286, 43, 25, 103, 104, 105, 163, 164, 165, 287, 288, 289, 213, 290, 235, 233, 180, 181, 182, 183, 23, 184, 185, 186, 187, 130, 131, 132, 16, 133, 30, 134, 135, 136, 137, 49, 29, 188, 189, 190, 191, 192, 193, 194, 195, 142, 143, 144, 145, 32, 196, 197, 198, 199, 138, 139, 140, 141, 31, 200, 201, 202, 20, 203, 36, 291, 292, 293, 220, 294, 241, 242, 243, 244, 245, 226, 227, 237, 238, 239, 240, 225, 204, 205, 206, 207, 59, 60, 598, 599, 600, 601, 602, 603, 558, 559, 560, 561, 562, 563, 587, 588, 589, 590, 591, 592, 593, 594, 595, 596, 597, 604, 605, 606, 607] (by decide +kernel) (by decide +kernel)
