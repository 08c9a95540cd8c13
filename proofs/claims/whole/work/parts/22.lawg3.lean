set_option maxRecDepth 20000 in
theorem ggL_law_X4_digest : GoodIn wsL_law wsX4_digest := goodIn_r _ [389, 283, 284, 285, 2, 286, 43, 25, 103, 104, 105, 374, 375, 376, 213, 377, 233, 217, 558, 559, 560, 561, 562, 563, 598, 599, 600, 601, 602, 603] (by decide +kernel) (by decide +kernel)
set_option maxRecDepth 20000 in
theorem gL_law_X4_digest : GoodIn wsL_law (wsV RL 63 RX4 yX4_digest wsX4_digest) := goodIn_app (goodIn_of _ (by decide +kernel)) ggL_law_X4_digest
set_option maxRecDepth 20000 in
theorem ggL_law_X5_digest : GoodIn wsL_law wsX5_digest := goodIn_r _ [393, 300, 301, 302, 5, 303, 97, 123, 124, 125, 382, 383, 384, 385, 80, 81, 564, 565, 566, 567, 568, 569, 570, 571, 572, 573, 574, 575, 576, 577, 578, 579, 580, 581, 582, 583, 584, 585, 586] (by decide +kernel) (by decide +kernel)
set_option maxRecDepth 20000 in
theorem gL_law_X5_digest : GoodIn wsL_law (wsV RL 66 RX5 yX5_digest wsX5_digest) := goodIn_app (goodIn_of _ (by decide +kernel)) ggL_law_X5_digest
set_option maxRecDepth 20000 in
theorem ggL_law_X4_tick : GoodIn wsL_law wsX4_tick := goodIn_r _ [397, 44, 102, 21, 103, 104, 2, 105, 398, 399, 400, 401, 43, 25, 402, 403, 404, 20, 405, 38, 60, 406, 407, 408, 409, 410, 411, 412, 37, 61, 413, 414, 415, 416, 558, 559, 560, 561, 562, 563, 598, 599, 600, 601, 602, 603, 592, 593, 594, 595, 596, 597] (by decide +kernel) (by decide +kernel)
set_option maxRecDepth 20000 in
theorem gL_law_X4_tick : GoodIn wsL_law (wsV RL 67 RX4 yX4_tick wsX4_tick) := goodIn_app (goodIn_of _ (by decide +kernel)) ggL_law_X4_tick
set_option maxRecDepth 20000 in
theorem ggL_law_X5_tick : GoodIn wsL_law wsX5_tick := goodIn_r _ [420, 120, 92, 94, 97, 83, 82, 123, 124, 5, 125, 421, 422, 423, 424, 95, 78, 77, 96, 425, 426, 427, 428, 429, 430, 431, 432, 564, 565, 566, 567, 568, 569, 570, 571, 572, 573, 574, 575, 576, 577, 578, 579, 580, 581, 582, 583, 584, 585, 586] (by decide +kernel) (by decide +kernel)
set_option maxRecDepth 20000 in
theorem gL_law_X5_tick : GoodIn wsL_law (wsV RL 70 RX5 yX5_tick wsX5_tick) := goodIn_app (goodIn_of _ (by decide +kernel)) ggL_law_X5_tick
set_option maxRecDepth 20000 in
theorem ggL_law_X4_weight : GoodIn wsL_law wsX4_weight := goodIn_r _ [436, 21, 437, 438, 2, 439, 103, 104, 105, 558, 559, 560, 561, 562, 563, 592, 593, 594, 595, 596, 597] (by decide +kernel) (by decide +kernel)
set_option maxRecDepth 20000 in
theorem gL_law_X4_weight : GoodIn wsL_law (wsV RL 71 RX4 yX4_weight wsX4_weight) := goodIn_app (goodIn_of _ (by decide +kernel)) ggL_law_X4_weight
set_option maxRecDepth 20000 in
theorem ggL_law_X5_weight : GoodIn wsL_law wsX5_weight := goodIn_r _ [443, 444, 250, 78, 123, 124, 5, 125, 564, 565, 566, 567, 568, 569, 570, 571, 572, 573, 574, 575, 576, 577, 578, 579, 580, 581, 582, 583, 584, 585, 586] (by decide +kernel) (by decide +kernel)
set_option maxRecDepth 20000 in
theorem gL_law_X5_weight : GoodIn wsL_law (wsV RL 74 RX5 yX5_weight wsX5_weight) := goodIn_app (goodIn_of _ (by decide +kernel)) ggL_law_X5_weight
set_option maxRecDepth 20000 in
theorem ggL_law_X4_coins : GoodIn wsL_law wsX4_coins := goodIn_r _ [448, 21, 163, 164, 2, 165, 103, 104, 105, 437, 438, 439, 558, 559, 560, 561, 562, 563, 592, 593, 594, 595, 596, 597] (by decide +kernel) (by decide +kernel)
set_option maxRecDepth 20000 in
theorem gL_law_X4_coins : GoodIn wsL_law (wsV RL 75 RX4 yX4_coins wsX4_coins) := goodIn_app (goodIn_of _ (by decide +kernel)) ggL_law_X4_coins
set_option maxRecDepth 20000 in
theorem ggL_law_X5_coins : GoodIn wsL_law wsX5_coins := goodIn_r _ [452, 75, 444, 77, 123, 124, 5, 125, 171, 172, 173, 174, 175, 564, 565, 566, 567, 568, 569, 570, 571, 572, 573, 574, 575, 576, 577, 578, 579, 580, 581, 582, 583, 584, 585, 586] (by decide +kernel) (by decide +kernel)
set_option maxRecDepth 20000 in
theorem gL_law_X5_coins : GoodIn wsL_law (wsV RL 78 RX5 yX5_coins wsX5_coins) := goodIn_app (goodIn_of _ (by decide +kernel)) ggL_law_X5_coins
set_option maxRecDepth 20000 in
theorem ggL_law_X4_object : GoodIn wsL_law wsX4_object := goodIn_r _ [456, 283, 284, 285, 2, 286, 43, 25, 103, 104, 105, 287, 288, 289, 213, 290, 235, 233, 457, 458, 459, 220, 460, 241, 225, 226, 188, 189, 190, 191, 17, 44, 192, 193, 194, 195, 142, 143, 144, 16, 145, 32, 134, 135, 136, 137, 49, 29, 598, 599, 600, 601, 602, 603, 604, 605, 606, 607, 558, 559, 560, 561, 562, 563, 587, 588, 589, 590, 591] (by decide +kernel) (by decide +kernel)
set_option maxRecDepth 20000 in
theorem gL_law_X4_object : GoodIn wsL_law (wsV RL 79 RX4 yX4_object wsX4_object) := goodIn_app (goodIn_of _ (by decide +kernel)) ggL_law_X4_object
set_option maxRecDepth 20000 in
theorem ggL_law_X5_object : GoodIn wsL_law wsX5_object := goodIn_r _ [464, 79, 82, 83, 84, 80, 300, 301, 302, 5, 303, 97, 123, 124, 125, 304, 305, 306, 307, 465, 466, 467, 468, 85, 86, 259, 260, 261, 262, 74, 92, 155, 156, 157, 158, 93, 71, 564, 565, 566, 567, 568, 569, 570, 571, 572, 573, 574, 575, 576, 577, 578, 579, 580, 581, 582, 583, 584, 585, 586] (by decide +kernel) (by decide +kernel)
set_option maxRecDepth 20000 in
theorem gL_law_X5_object : GoodIn wsL_law (wsV RL 82 RX5 yX5_object wsX5_object) := goodIn_app (goodIn_of _ (by decide +kernel)) ggL_law_X5_object
set_option maxRecDepth 20000 in
theorem ggL_law_X4_layer : GoodIn wsL_law wsX4_layer := goodIn_r _ [472, 283, 284, 285, 2, 286, 43, 25, 103, 104, 105, 473, 474, 475, 220, 476, 241, 598, 599, 600, 601, 602, 603, 604, 605, 606, 607, 558, 559, 560, 561, 562, 563] (by decide +kernel) (by decide +kernel)
set_option maxRecDepth 20000 in
theorem gL_law_X4_layer : GoodIn wsL_law (wsV RL 83 RX4 yX4_layer wsX4_layer) := goodIn_app (goodIn_of _ (by decide +kernel)) ggL_law_X4_layer
set_option maxRecDepth 20000 in
theorem ggL_law_X5_layer : GoodIn wsL_law wsX5_layer := goodIn_r _ [480, 481, 84, 85, 86, 87, 300, 301, 302, 5, 303, 97, 123, 124, 125, 564, 565, 566, 567, 568, 569, 570, 571, 572, 573, 574, 575, 576, 577, 578, 579, 580, 581, 582, 583, 584, 585, 586] (by decide +kernel) (by decide +kernel)
