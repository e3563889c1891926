set_option maxRecDepth 20000 in
theorem ggL_law_L_count : GoodIn wsL_law wsL_count := goodIn_ca (goodIn_r _ [593, 82, 594, 595, 596, 2, 597, 90, 91, 598, 599, 600, 601, 16, 94, 319, 21, 496, 189, 190, 191, 15, 192, 36, 193, 194, 195, 196, 197, 198, 199, 200, 39, 37, 201, 202, 203, 204, 45, 205, 206, 207, 208, 602, 277, 278, 279, 46, 42, 280, 281, 282, 283, 43, 47, 284, 285, 286, 287, 44, 288, 252, 253, 254, 41, 38, 603, 604, 605, 606, 516, 517, 518, 519, 520, 521, 522, 523, 607, 608, 609, 610, 611, 612, 613, 614, 615, 616, 617, 618, 619, 763, 764, 765, 766, 767, 768, 769, 782, 783, 784, 785, 786, 787, 788, 789, 790, 791, 792, 793, 794] (by decide +kernel) (by decide +kernel)) (goodIn_sub (fun _ h => List.mem_append_left _ (List.mem_append_right _ h)) (by decide +kernel))
set_option maxRecDepth 20000 in
theorem gL_law_L_count : GoodIn wsL_law (va_wsS RL 149 yL_count wsL_count) := goodIn_app (goodIn_of _ (by decide +kernel)) ggL_law_L_count
set_option maxRecDepth 20000 in
theorem ggL_law_X5_count : GoodIn wsL_law wsX5_count := goodIn_r _ [623, 129, 130, 131, 5, 132, 624, 625, 626, 627, 71, 144, 219, 220, 221, 222, 223, 224, 225, 226, 227, 216, 217, 218, 301, 302, 303, 304, 305, 306, 307, 308, 76, 309, 310, 311, 259, 260, 261, 628, 629, 630, 631, 532, 533, 534, 535, 133, 134, 135, 136, 770, 771, 772, 773, 774, 775, 776, 777, 778, 779, 780, 781] (by decide +kernel) (by decide +kernel)
set_option maxRecDepth 20000 in
theorem gL_law_X5_count : GoodIn wsL_law (wsV RL 151 RX5 yX5_count wsX5_count) := goodIn_app (goodIn_of _ (by decide +kernel)) ggL_law_X5_count
set_option maxRecDepth 20000 in
theorem ggL_law_L_setting : GoodIn wsL_law wsL_setting := goodIn_ca (goodIn_r _ [634, 81, 635, 636, 637, 2, 638, 16, 369, 370, 371, 372, 88, 89, 763, 764, 765, 766, 767, 768, 769, 782, 783, 784, 785, 786, 787, 788, 789, 790, 791, 792] (by decide +kernel) (by decide +kernel)) (goodIn_sub (fun _ h => List.mem_append_left _ (List.mem_append_left _ (List.mem_append_right _ h))) (by decide +kernel))
set_option maxRecDepth 20000 in
theorem gL_law_L_setting : GoodIn wsL_law (va_wsS RL 152 yL_setting wsL_setting) := goodIn_app (goodIn_of _ (by decide +kernel)) ggL_law_L_setting
set_option maxRecDepth 20000 in
theorem ggL_law_X5_setting : GoodIn wsL_law wsX5_setting := goodIn_r _ [642, 129, 71, 130, 131, 5, 132, 133, 134, 135, 136, 770, 771, 772, 773, 774, 775, 776, 777, 778, 779, 780, 781] (by decide +kernel) (by decide +kernel)
set_option maxRecDepth 20000 in
theorem gL_law_X5_setting : GoodIn wsL_law (wsV RL 154 RX5 yX5_setting wsX5_setting) := goodIn_app (goodIn_of _ (by decide +kernel)) ggL_law_X5_setting
set_option maxRecDepth 20000 in
theorem ggL_law_L_ifMoved : GoodIn wsL_law wsL_ifMoved := goodIn_ca (goodIn_ca (goodIn_r _ [645, 81, 82, 646, 647, 648, 2, 649, 90, 91, 17, 16, 162, 163, 164, 165, 88, 89, 94, 650, 110, 111, 15, 112, 36, 37, 38, 39, 41, 42, 43, 44, 45, 117, 118, 119, 120, 121, 122, 123, 124, 189, 190, 191, 192, 193, 194, 195, 196, 197, 198, 199, 200, 201, 202, 203, 204, 205, 206, 207, 208, 602, 277, 278, 279, 46, 280, 281, 282, 283, 47, 284, 285, 286, 287, 288, 252, 253, 254, 763, 764, 765, 766, 767, 768, 769, 782, 783, 784, 785, 786, 787, 788, 789, 790, 791, 792] (by decide +kernel) (by decide +kernel)) (goodIn_sub (fun _ h => List.mem_append_left _ (List.mem_append_right _ h)) (by decide +kernel))) (goodIn_sub (fun _ h => List.mem_append_left _ (List.mem_append_left _ (List.mem_append_right _ h))) (by decide +kernel))
set_option maxRecDepth 20000 in
theorem gL_law_L_ifMoved : GoodIn wsL_law (va_wsS RL 155 yL_ifMoved wsL_ifMoved) := goodIn_app (goodIn_of _ (by decide +kernel)) ggL_law_L_ifMoved
set_option maxRecDepth 20000 in
theorem ggL_law_X5_ifMoved : GoodIn wsL_law wsX5_ifMoved := goodIn_r _ [654, 129, 175, 176, 177, 5, 178, 71, 130, 131, 132, 133, 134, 135, 136, 655, 656, 657, 658, 72, 145, 146, 147, 213, 214, 215, 216, 217, 218, 179, 180, 181, 148, 149, 150, 219, 220, 221, 222, 223, 224, 225, 226, 227, 301, 302, 303, 304, 305, 306, 307, 308, 76, 309, 310, 311, 259, 260, 261, 770, 771, 772, 773, 774, 775, 776, 777, 778, 779, 780, 781] (by decide +kernel) (by decide +kernel)
set_option maxRecDepth 20000 in
theorem gL_law_X5_ifMoved : GoodIn wsL_law (wsV RL 158 RX5 yX5_ifMoved wsX5_ifMoved) := goodIn_app (goodIn_of _ (by decide +kernel)) ggL_law_X5_ifMoved
set_option maxRecDepth 20000 in
theorem ggL_law_L_bestPlace : GoodIn wsL_law wsL_bestPlace := goodIn_ca (goodIn_r _ [661, 81, 662, 663, 664, 2, 665, 162, 163, 164, 165, 88, 89, 16, 94, 666, 667, 668, 669, 17, 25, 650, 110, 111, 15, 112, 36, 37, 38, 39, 41, 42, 43, 44, 45, 117, 118, 119, 120, 121, 122, 123, 124, 271, 272, 273, 24, 274, 58, 59, 275, 190, 191, 192, 193, 194, 195, 196, 197, 198, 199, 200, 201, 202, 203, 204, 205, 206, 207, 208, 276, 277, 278, 279, 46, 280, 281, 282, 283, 47, 284, 285, 286, 287, 288, 252, 253, 254, 235, 289, 290, 291, 292, 763, 764, 765, 766, 767, 768, 769, 782, 783, 784, 785, 786, 787, 788, 789, 790, 791, 792, 795, 796] (by decide +kernel) (by decide +kernel)) (goodIn_sub (fun _ h => List.mem_append_left _ (List.mem_append_left _ (List.mem_append_right _ h))) (by decide +kernel))
set_option maxRecDepth 20000 in
theorem gL_law_L_bestPlace : GoodIn wsL_law (va_wsS RL 159 yL_bestPlace wsL_bestPlace) := goodIn_app (goodIn_of _ (by decide +kernel)) ggL_law_L_bestPlace
set_option maxRecDepth 20000 in
theorem ggL_law_X5_bestPlace : GoodIn wsL_law wsX5_bestPlace := goodIn_r _ [673, 129, 175, 176, 177, 5, 178, 71, 130, 131, 132, 674, 675, 676, 677, 678, 655, 656, 657, 658, 72, 145, 146, 147, 213, 214, 215, 216, 217, 218, 179, 180, 181, 148, 149, 150, 219, 220, 221, 222, 223, 224, 225, 226, 227, 301, 302, 303, 304, 305, 306, 307, 308, 76, 309, 310, 311, 259, 260, 261, 133, 134, 135, 136, 770, 771, 772, 773, 774, 775, 776, 777, 778, 779, 780, 781] (by decide +kernel) (by decide +kernel)
set_option maxRecDepth 20000 in
theorem gL_law_X5_bestPlace : GoodIn wsL_law (wsV RL 161 RX5 yX5_bestPlace wsX5_bestPlace) := goodIn_app (goodIn_of _ (by decide +kernel)) ggL_law_X5_bestPlace
set_option maxRecDepth 20000 in
theorem ggL_law_X4_bestFold : GoodIn wsL_law wsX4_bestFold := goodIn_r _ [682, 17, 16, 94, 250, 650, 110, 111, 15, 112, 36, 37, 38, 39, 41, 42, 43, 44, 45, 602, 277, 278, 279, 46, 280, 281, 282, 283, 47, 284, 285, 286, 287, 288, 252, 253, 254, 763, 764, 765, 766, 767, 768, 769, 782, 783, 784, 785, 786, 787, 788, 789, 790, 791, 792] (by decide +kernel) (by decide +kernel)
set_option maxRecDepth 20000 in
theorem gL_law_X4_bestFold : GoodIn wsL_law (wsV RL 162 RX4 yX4_bestFold wsX4_bestFold) := goodIn_app (goodIn_of _ (by decide +kernel)) ggL_law_X4_bestFold
set_option maxRecDepth 20000 in
theorem ggL_law_X5_bestFold : GoodIn wsL_law wsX5_bestFold := goodIn_r _ [686, 129, 687, 688, 689, 5, 690, 71, 72, 216, 217, 218, 145, 146, 147, 301, 302, 303, 304, 305, 306, 307, 308, 76, 309, 310, 311, 259, 260, 261, 770, 771, 772, 773, 774, 775, 776, 777, 778, 779, 780, 781] (by decide +kernel) (by decide +kernel)
set_option maxRecDepth 20000 in
theorem gL_law_X5_bestFold : GoodIn wsL_law (wsV RL 165 RX5 yX5_bestFold wsX5_bestFold) := goodIn_app (goodIn_of _ (by decide +kernel)) ggL_law_X5_bestFold
set_option maxRecDepth 20000 in
theorem ggL_law_X4_leastTrouble : GoodIn wsL_law wsX4_leastTrouble := goodIn_r _ [694, 16, 94, 17, 650, 110, 111, 15, 112, 36, 37, 38, 39, 41, 42, 43, 44, 45, 189, 190, 191, 192, 193, 194, 195, 196, 197, 198, 199, 200, 201, 202, 203, 204, 205, 206, 207, 208, 695, 696, 2, 697, 235, 122, 123, 124, 698, 763, 764, 765, 766, 767, 768, 769, 782, 783, 784, 785, 786, 787, 788, 789, 790, 791, 792] (by decide +kernel) (by decide +kernel)
set_option maxRecDepth 20000 in
theorem gL_law_X4_leastTrouble : GoodIn wsL_law (wsV RL 166 RX4 yX4_leastTrouble wsX4_leastTrouble) := goodIn_app (goodIn_of _ (by decide +kernel)) ggL_law_X4_leastTrouble
set_option maxRecDepth 20000 in
theorem ggL_law_X5_leastTrouble : GoodIn wsL_law wsX5_leastTrouble := goodIn_r _ [702, 129, 703, 704, 705, 5, 706, 71, 72, 219, 220, 221, 222, 223, 224, 225, 226, 227, 216, 217, 218, 707, 708, 709, 710, 145, 146, 147, 213, 214, 215, 179, 180, 181, 148, 149, 150, 770, 771, 772, 773, 774, 775, 776, 777, 778, 779, 780, 781] (by decide +kernel) (by decide +kernel)
set_option maxRecDepth 20000 in
theorem gL_law_X5_leastTrouble : GoodIn wsL_law (wsV RL 169 RX5 yX5_leastTrouble wsX5_leastTrouble) := goodIn_app (goodIn_of _ (by decide +kernel)) ggL_law_X5_leastTrouble
set_option maxRecDepth 20000 in
theorem ggL_law_X4_smoothness : GoodIn wsL_law wsX4_smoothness := goodIn_r _ [714, 16, 94, 607, 608, 609, 15, 610, 36, 193, 194, 195, 196, 197, 198, 199, 200, 39, 37, 201, 202, 203, 204, 45, 205, 206, 207, 208, 763, 764, 765, 766, 767, 768, 769, 782, 783, 784, 785, 786, 787, 788, 789, 790, 791, 792] (by decide +kernel) (by decide +kernel)
set_option maxRecDepth 20000 in
theorem gL_law_X4_smoothness : GoodIn wsL_law (wsV RL 170 RX4 yX4_smoothness wsX4_smoothness) := goodIn_app (goodIn_of _ (by decide +kernel)) ggL_law_X4_smoothness
