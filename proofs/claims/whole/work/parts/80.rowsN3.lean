set_option maxRecDepth 20000 in
theorem ggL_law_X5_firstError : GoodIn wsL_law wsX5_firstError := goodIn_r _ [435, 129, 436, 437, 388, 438, 439, 440, 5, 441, 442, 443, 444, 445, 446, 74, 75, 447, 448, 449, 450, 451, 452, 453, 454, 455, 456, 457, 458, 130, 131, 132, 459, 460, 461, 462, 770, 771, 772, 773, 774, 775, 776, 777, 778, 779, 780, 781] (by decide +kernel) (by decide +kernel)
set_option maxRecDepth 20000 in
theorem gL_law_X5_firstError : GoodIn wsL_law (wsV RL 129 RX5 yX5_firstError wsX5_firstError) := goodIn_app (goodIn_of _ (by decide +kernel)) ggL_law_X5_firstError
set_option maxRecDepth 20000 in
theorem ggL_law_L_putAll : GoodIn wsL_law wsL_putAll := goodIn_ca (goodIn_ca (goodIn_r _ [465, 82, 83, 466, 467, 468, 2, 469, 90, 91, 92, 93, 32, 29, 16, 94, 21, 401, 402, 403, 404, 31, 405, 406, 407, 28, 408, 66, 409, 410, 411, 412, 63, 413, 414, 415, 416, 64, 65, 417, 418, 419, 420, 421, 422, 423, 424, 425, 426, 427, 428, 429, 430, 431, 470, 471, 472, 473, 474, 475, 476, 477, 101, 102, 103, 20, 104, 54, 53, 105, 106, 107, 108, 109, 110, 111, 15, 112, 36, 37, 38, 39, 41, 42, 43, 44, 45, 478, 479, 480, 481, 482, 483, 484, 113, 114, 115, 116, 763, 764, 765, 766, 767, 768, 769, 782, 783, 784, 785, 786, 787, 788, 789, 790, 791, 792, 797, 798, 799, 800, 793, 794] (by decide +kernel) (by decide +kernel)) (goodIn_sub (fun _ h => List.mem_append_left _ (List.mem_append_right _ h)) (by decide +kernel))) (goodIn_sub (fun _ h => List.mem_append_right _ h) (by decide +kernel))
set_option maxRecDepth 20000 in
theorem gL_law_L_putAll : GoodIn wsL_law (va_wsS RL 130 yL_putAll wsL_putAll) := goodIn_app (goodIn_of _ (by decide +kernel)) ggL_law_L_putAll
set_option maxRecDepth 20000 in
theorem ggL_law_X5_putAll : GoodIn wsL_law wsX5_putAll := goodIn_r _ [488, 129, 71, 442, 388, 75, 438, 439, 440, 5, 441, 437, 436, 443, 444, 445, 446, 74, 447, 448, 449, 450, 451, 452, 453, 454, 455, 456, 457, 458, 130, 131, 132, 459, 460, 461, 462, 133, 134, 135, 136, 140, 141, 142, 143, 144, 73, 145, 146, 147, 148, 149, 150, 770, 771, 772, 773, 774, 775, 776, 777, 778, 779, 780, 781] (by decide +kernel) (by decide +kernel)
set_option maxRecDepth 20000 in
theorem gL_law_X5_putAll : GoodIn wsL_law (wsV RL 133 RX5 yX5_putAll wsX5_putAll) := goodIn_app (goodIn_of _ (by decide +kernel)) ggL_law_X5_putAll
set_option maxRecDepth 20000 in
theorem ggL_law_L_undo : GoodIn wsL_law wsL_undo := goodIn_ca (goodIn_r _ [491, 83, 492, 493, 494, 2, 495, 92, 93, 21, 496, 16, 497, 498, 499, 20, 500, 54, 53, 109, 110, 111, 15, 112, 36, 37, 38, 39, 41, 42, 43, 44, 45, 763, 764, 765, 766, 767, 768, 769, 793, 794, 782, 783, 784, 785, 786, 787, 788, 789, 790, 791, 792] (by decide +kernel) (by decide +kernel)) (goodIn_sub (fun _ h => List.mem_append_right _ h) (by decide +kernel))
set_option maxRecDepth 20000 in
theorem gL_law_L_undo : GoodIn wsL_law (va_wsS RL 134 yL_undo wsL_undo) := goodIn_app (goodIn_of _ (by decide +kernel)) ggL_law_L_undo
set_option maxRecDepth 20000 in
theorem ggL_law_X5_undo : GoodIn wsL_law wsX5_undo := goodIn_r _ [504, 129, 144, 73, 71, 133, 134, 135, 5, 136, 145, 146, 147, 770, 771, 772, 773, 774, 775, 776, 777, 778, 779, 780, 781] (by decide +kernel) (by decide +kernel)
set_option maxRecDepth 20000 in
theorem gL_law_X5_undo : GoodIn wsL_law (wsV RL 136 RX5 yX5_undo wsX5_undo) := goodIn_app (goodIn_of _ (by decide +kernel)) ggL_law_X5_undo
set_option maxRecDepth 20000 in
theorem ggL_law_L_floatAt : GoodIn wsL_law wsL_floatAt := goodIn_ca (goodIn_ca (goodIn_r _ [507, 81, 82, 508, 509, 510, 2, 511, 90, 91, 16, 162, 163, 164, 165, 88, 89, 94, 512, 513, 514, 15, 515, 37, 38, 39, 41, 288, 252, 253, 254, 516, 517, 518, 519, 42, 520, 521, 522, 523, 44, 193, 194, 195, 196, 197, 198, 199, 200, 201, 202, 203, 204, 45, 205, 206, 207, 208, 763, 764, 765, 766, 767, 768, 769, 782, 783, 784, 785, 786, 787, 788, 789, 790, 791, 792] (by decide +kernel) (by decide +kernel)) (goodIn_sub (fun _ h => List.mem_append_left _ (List.mem_append_right _ h)) (by decide +kernel))) (goodIn_sub (fun _ h => List.mem_append_left _ (List.mem_append_left _ (List.mem_append_right _ h))) (by decide +kernel))
set_option maxRecDepth 20000 in
theorem gL_law_L_floatAt : GoodIn wsL_law (va_wsS RL 137 yL_floatAt wsL_floatAt) := goodIn_app (goodIn_of _ (by decide +kernel)) ggL_law_L_floatAt
set_option maxRecDepth 20000 in
theorem ggL_law_X5_floatAt : GoodIn wsL_law wsX5_floatAt := goodIn_r _ [527, 129, 175, 176, 177, 5, 178, 71, 130, 131, 132, 133, 134, 135, 136, 528, 529, 530, 531, 216, 217, 218, 259, 260, 261, 532, 533, 534, 535, 309, 310, 311, 222, 223, 224, 225, 226, 227, 770, 771, 772, 773, 774, 775, 776, 777, 778, 779, 780, 781] (by decide +kernel) (by decide +kernel)
set_option maxRecDepth 20000 in
theorem gL_law_X5_floatAt : GoodIn wsL_law (wsV RL 139 RX5 yX5_floatAt wsX5_floatAt) := goodIn_app (goodIn_of _ (by decide +kernel)) ggL_law_X5_floatAt
set_option maxRecDepth 20000 in
theorem ggL_law_L_trouble : GoodIn wsL_law wsL_trouble := goodIn_ca (goodIn_ca (goodIn_r _ [538, 81, 82, 539, 540, 541, 2, 542, 90, 91, 16, 162, 163, 164, 165, 88, 89, 94, 543, 544, 545, 15, 546, 197, 198, 199, 200, 39, 37, 201, 202, 203, 204, 45, 205, 206, 207, 208, 763, 764, 765, 766, 767, 768, 769, 782, 783, 784, 785, 786, 787, 788, 789, 790, 791, 792] (by decide +kernel) (by decide +kernel)) (goodIn_sub (fun _ h => List.mem_append_left _ (List.mem_append_right _ h)) (by decide +kernel))) (goodIn_sub (fun _ h => List.mem_append_left _ (List.mem_append_left _ (List.mem_append_right _ h))) (by decide +kernel))
set_option maxRecDepth 20000 in
theorem gL_law_L_trouble : GoodIn wsL_law (va_wsS RL 140 yL_trouble wsL_trouble) := goodIn_app (goodIn_of _ (by decide +kernel)) ggL_law_L_trouble
set_option maxRecDepth 20000 in
theorem ggL_law_X5_trouble : GoodIn wsL_law wsX5_trouble := goodIn_r _ [550, 129, 71, 175, 176, 177, 5, 178, 130, 131, 132, 133, 134, 135, 136, 225, 226, 227, 216, 217, 218, 770, 771, 772, 773, 774, 775, 776, 777, 778, 779, 780, 781] (by decide +kernel) (by decide +kernel)
set_option maxRecDepth 20000 in
theorem gL_law_X5_trouble : GoodIn wsL_law (wsV RL 142 RX5 yX5_trouble wsX5_trouble) := goodIn_app (goodIn_of _ (by decide +kernel)) ggL_law_X5_trouble
set_option maxRecDepth 20000 in
theorem ggL_law_L_comes : GoodIn wsL_law wsL_comes := goodIn_ca (goodIn_r _ [553, 81, 554, 555, 556, 2, 557, 16, 558, 319, 162, 163, 164, 165, 88, 89, 94, 344, 345, 346, 347, 559, 281, 282, 15, 283, 45, 42, 43, 47, 284, 285, 286, 287, 46, 44, 288, 252, 253, 254, 41, 38, 763, 764, 765, 766, 767, 768, 769, 782, 783, 784, 785, 786, 787, 788, 789, 790, 791, 792] (by decide +kernel) (by decide +kernel)) (goodIn_sub (fun _ h => List.mem_append_left _ (List.mem_append_left _ (List.mem_append_right _ h))) (by decide +kernel))
set_option maxRecDepth 20000 in
theorem gL_law_L_comes : GoodIn wsL_law (va_wsS RL 143 yL_comes wsL_comes) := goodIn_app (goodIn_of _ (by decide +kernel)) ggL_law_L_comes
set_option maxRecDepth 20000 in
theorem ggL_law_X5_comes : GoodIn wsL_law wsX5_comes := goodIn_r _ [563, 129, 71, 76, 175, 176, 177, 5, 178, 130, 131, 132, 356, 357, 358, 359, 133, 134, 135, 136, 301, 302, 303, 304, 305, 306, 307, 308, 309, 310, 311, 259, 260, 261, 216, 217, 218, 770, 771, 772, 773, 774, 775, 776, 777, 778, 779, 780, 781] (by decide +kernel) (by decide +kernel)
set_option maxRecDepth 20000 in
theorem gL_law_X5_comes : GoodIn wsL_law (wsV RL 145 RX5 yX5_comes wsX5_comes) := goodIn_app (goodIn_of _ (by decide +kernel)) ggL_law_X5_comes
set_option maxRecDepth 20000 in
theorem ggL_law_L_bridgeOf : GoodIn wsL_law wsL_bridgeOf := goodIn_ca (goodIn_ca (goodIn_r _ [566, 81, 82, 567, 568, 569, 2, 570, 90, 91, 16, 344, 345, 346, 347, 88, 89, 319, 571, 572, 573, 15, 574, 43, 44, 575, 576, 577, 578, 36, 520, 521, 522, 523, 288, 252, 253, 254, 41, 38, 763, 764, 765, 766, 767, 768, 769, 782, 783, 784, 785, 786, 787, 788, 789, 790, 791, 792] (by decide +kernel) (by decide +kernel)) (goodIn_sub (fun _ h => List.mem_append_left _ (List.mem_append_right _ h)) (by decide +kernel))) (goodIn_sub (fun _ h => List.mem_append_left _ (List.mem_append_left _ (List.mem_append_right _ h))) (by decide +kernel))
set_option maxRecDepth 20000 in
theorem gL_law_L_bridgeOf : GoodIn wsL_law (va_wsS RL 146 yL_bridgeOf wsL_bridgeOf) := goodIn_app (goodIn_of _ (by decide +kernel)) ggL_law_L_bridgeOf
set_option maxRecDepth 20000 in
theorem ggL_law_X5_bridgeOf : GoodIn wsL_law wsX5_bridgeOf := goodIn_r _ [582, 129, 356, 357, 358, 5, 359, 71, 130, 131, 132, 133, 134, 135, 136, 583, 584, 585, 586, 587, 588, 589, 590, 309, 310, 311, 259, 260, 261, 216, 217, 218, 770, 771, 772, 773, 774, 775, 776, 777, 778, 779, 780, 781] (by decide +kernel) (by decide +kernel)
set_option maxRecDepth 20000 in
theorem gL_law_X5_bridgeOf : GoodIn wsL_law (wsV RL 148 RX5 yX5_bridgeOf wsX5_bridgeOf) := goodIn_app (goodIn_of _ (by decide +kernel)) ggL_law_X5_bridgeOf
