set_option maxRecDepth 20000 in
theorem ggL_law_X4_arrange : GoodIn wsL_law wsX4_arrange := goodIn_r _ [265, 21, 16, 266, 101, 102, 103, 20, 104, 54, 53, 105, 106, 107, 108, 109, 110, 111, 15, 112, 36, 37, 38, 39, 41, 42, 43, 44, 45, 267, 268, 269, 2, 270, 25, 94, 271, 272, 273, 24, 274, 58, 59, 275, 190, 191, 192, 193, 194, 195, 196, 197, 198, 199, 200, 201, 202, 203, 204, 205, 206, 207, 208, 276, 277, 278, 279, 46, 280, 281, 282, 283, 47, 284, 285, 286, 287, 288, 252, 253, 254, 235, 122, 123, 124, 289, 290, 291, 292, 763, 764, 765, 766, 767, 768, 769, 793, 794, 782, 783, 784, 785, 786, 787, 788, 789, 790, 791, 792, 795, 796] (by decide +kernel) (by decide +kernel)
set_option maxRecDepth 20000 in
theorem gL_law_X4_arrange : GoodIn wsL_law (wsV RL 106 RX4 yX4_arrange wsX4_arrange) := goodIn_app (goodIn_of _ (by decide +kernel)) ggL_law_X4_arrange
set_option maxRecDepth 20000 in
theorem ggL_law_X5_arrange : GoodIn wsL_law wsX5_arrange := goodIn_r _ [296, 129, 71, 140, 141, 142, 5, 143, 144, 73, 145, 146, 147, 297, 298, 299, 300, 72, 219, 220, 221, 222, 223, 224, 225, 226, 227, 216, 217, 218, 301, 302, 303, 304, 305, 306, 307, 308, 76, 309, 310, 311, 259, 260, 261, 240, 241, 242, 770, 771, 772, 773, 774, 775, 776, 777, 778, 779, 780, 781] (by decide +kernel) (by decide +kernel)
set_option maxRecDepth 20000 in
theorem gL_law_X5_arrange : GoodIn wsL_law (wsV RL 109 RX5 yX5_arrange wsX5_arrange) := goodIn_app (goodIn_of _ (by decide +kernel)) ggL_law_X5_arrange
set_option maxRecDepth 20000 in
theorem ggL_law_L_bridge : GoodIn wsL_law wsL_bridge := goodIn_ca (goodIn_ca (goodIn_r _ [314, 82, 83, 315, 316, 317, 2, 318, 90, 91, 92, 93, 16, 319, 21, 98, 99, 100, 320, 321, 322, 15, 323, 42, 43, 101, 102, 103, 20, 104, 54, 53, 105, 106, 107, 108, 109, 110, 111, 112, 36, 37, 38, 39, 41, 44, 45, 324, 325, 326, 327, 763, 764, 765, 766, 767, 768, 769, 782, 783, 784, 785, 786, 787, 788, 789, 790, 791, 792, 793, 794] (by decide +kernel) (by decide +kernel)) (goodIn_sub (fun _ h => List.mem_append_left _ (List.mem_append_right _ h)) (by decide +kernel))) (goodIn_sub (fun _ h => List.mem_append_right _ h) (by decide +kernel))
set_option maxRecDepth 20000 in
theorem gL_law_L_bridge : GoodIn wsL_law (va_wsS RL 110 yL_bridge wsL_bridge) := goodIn_app (goodIn_of _ (by decide +kernel)) ggL_law_L_bridge
set_option maxRecDepth 20000 in
theorem ggL_law_X5_bridge : GoodIn wsL_law wsX5_bridge := goodIn_r _ [331, 129, 71, 130, 131, 5, 132, 133, 134, 135, 136, 332, 333, 334, 335, 140, 141, 142, 143, 144, 73, 145, 146, 147, 770, 771, 772, 773, 774, 775, 776, 777, 778, 779, 780, 781] (by decide +kernel) (by decide +kernel)
set_option maxRecDepth 20000 in
theorem gL_law_X5_bridge : GoodIn wsL_law (wsV RL 112 RX5 yX5_bridge wsX5_bridge) := goodIn_app (goodIn_of _ (by decide +kernel)) ggL_law_X5_bridge
set_option maxRecDepth 20000 in
theorem ggL_law_L_unbridge : GoodIn wsL_law wsL_unbridge := goodIn_ca (goodIn_r _ [338, 81, 339, 340, 341, 2, 342, 21, 16, 343, 344, 345, 346, 347, 88, 89, 319, 101, 102, 103, 20, 104, 54, 53, 105, 106, 107, 108, 109, 110, 111, 15, 112, 36, 37, 38, 39, 41, 42, 43, 44, 45, 348, 349, 350, 351, 763, 764, 765, 766, 767, 768, 769, 782, 783, 784, 785, 786, 787, 788, 789, 790, 791, 792, 793, 794] (by decide +kernel) (by decide +kernel)) (goodIn_sub (fun _ h => List.mem_append_left _ (List.mem_append_left _ (List.mem_append_right _ h))) (by decide +kernel))
set_option maxRecDepth 20000 in
theorem gL_law_L_unbridge : GoodIn wsL_law (va_wsS RL 113 yL_unbridge wsL_unbridge) := goodIn_app (goodIn_of _ (by decide +kernel)) ggL_law_L_unbridge
set_option maxRecDepth 20000 in
theorem ggL_law_X5_unbridge : GoodIn wsL_law wsX5_unbridge := goodIn_r _ [355, 129, 71, 356, 357, 358, 5, 359, 130, 131, 132, 133, 134, 135, 136, 140, 141, 142, 143, 144, 73, 145, 146, 147, 770, 771, 772, 773, 774, 775, 776, 777, 778, 779, 780, 781] (by decide +kernel) (by decide +kernel)
set_option maxRecDepth 20000 in
theorem gL_law_X5_unbridge : GoodIn wsL_law (wsV RL 115 RX5 yX5_unbridge wsX5_unbridge) := goodIn_app (goodIn_of _ (by decide +kernel)) ggL_law_X5_unbridge
set_option maxRecDepth 20000 in
theorem ggL_law_L_set : GoodIn wsL_law wsL_set := goodIn_ca (goodIn_ca (goodIn_r _ [362, 81, 82, 363, 364, 365, 2, 366, 90, 91, 367, 368, 21, 16, 369, 370, 371, 372, 88, 89, 101, 102, 103, 20, 104, 54, 53, 105, 106, 107, 108, 109, 110, 111, 15, 112, 36, 37, 38, 39, 41, 42, 43, 44, 45, 763, 764, 765, 766, 767, 768, 769, 782, 783, 784, 785, 786, 787, 788, 789, 790, 791, 792, 793, 794] (by decide +kernel) (by decide +kernel)) (goodIn_sub (fun _ h => List.mem_append_left _ (List.mem_append_right _ h)) (by decide +kernel))) (goodIn_sub (fun _ h => List.mem_append_left _ (List.mem_append_left _ (List.mem_append_right _ h))) (by decide +kernel))
set_option maxRecDepth 20000 in
theorem gL_law_L_set : GoodIn wsL_law (va_wsS RL 116 yL_set wsL_set) := goodIn_app (goodIn_of _ (by decide +kernel)) ggL_law_L_set
set_option maxRecDepth 20000 in
theorem ggL_law_X5_set : GoodIn wsL_law wsX5_set := goodIn_r _ [376, 129, 71, 130, 131, 5, 132, 133, 134, 135, 136, 140, 141, 142, 143, 144, 73, 145, 146, 147, 770, 771, 772, 773, 774, 775, 776, 777, 778, 779, 780, 781] (by decide +kernel) (by decide +kernel)
set_option maxRecDepth 20000 in
theorem gL_law_X5_set : GoodIn wsL_law (wsV RL 118 RX5 yX5_set wsX5_set) := goodIn_app (goodIn_of _ (by decide +kernel)) ggL_law_X5_set
set_option maxRecDepth 20000 in
theorem ggL_law_L_append : GoodIn wsL_law wsL_append := goodIn_ca (goodIn_ca (goodIn_r _ [379, 82, 83, 380, 381, 382, 2, 383, 90, 91, 92, 93, 32, 31, 763, 764, 765, 766, 767, 768, 769] (by decide +kernel) (by decide +kernel)) (goodIn_sub (fun _ h => List.mem_append_left _ (List.mem_append_right _ h)) (by decide +kernel))) (goodIn_sub (fun _ h => List.mem_append_right _ h) (by decide +kernel))
set_option maxRecDepth 20000 in
theorem gL_law_L_append : GoodIn wsL_law (va_wsS RL 119 yL_append wsL_append) := goodIn_app (goodIn_of _ (by decide +kernel)) ggL_law_L_append
set_option maxRecDepth 20000 in
theorem ggL_law_X5_append : GoodIn wsL_law wsX5_append := goodIn_r _ [387, 129, 388, 74, 130, 131, 5, 132, 133, 134, 135, 136, 770, 771, 772, 773, 774, 775, 776, 777, 778, 779, 780, 781] (by decide +kernel) (by decide +kernel)
set_option maxRecDepth 20000 in
theorem gL_law_X5_append : GoodIn wsL_law (wsV RL 121 RX5 yX5_append wsX5_append) := goodIn_app (goodIn_of _ (by decide +kernel)) ggL_law_X5_append
set_option maxRecDepth 20000 in
theorem ggL_law_X4_clearBuffer : GoodIn wsL_law wsX4_clearBuffer := goodIn_r _ [392, 32, 763, 764, 765, 766, 767, 768, 769] (by decide +kernel) (by decide +kernel)
set_option maxRecDepth 20000 in
theorem gL_law_X4_clearBuffer : GoodIn wsL_law (wsV RL 122 RX4 yX4_clearBuffer wsX4_clearBuffer) := goodIn_app (goodIn_of _ (by decide +kernel)) ggL_law_X4_clearBuffer
set_option maxRecDepth 20000 in
theorem ggL_law_X5_clearBuffer : GoodIn wsL_law wsX5_clearBuffer := goodIn_r _ [396, 129, 388, 770, 771, 772, 773, 774, 775, 776, 777, 778, 779, 780, 781] (by decide +kernel) (by decide +kernel)
set_option maxRecDepth 20000 in
theorem gL_law_X5_clearBuffer : GoodIn wsL_law (wsV RL 125 RX5 yX5_clearBuffer wsX5_clearBuffer) := goodIn_app (goodIn_of _ (by decide +kernel)) ggL_law_X5_clearBuffer
set_option maxRecDepth 20000 in
theorem ggL_law_X4_firstError : GoodIn wsL_law wsX4_firstError := goodIn_r _ [400, 401, 402, 403, 2, 404, 29, 32, 31, 405, 406, 407, 28, 408, 66, 409, 410, 411, 412, 63, 413, 414, 415, 416, 64, 65, 417, 418, 419, 420, 421, 422, 423, 424, 425, 426, 427, 428, 429, 430, 431, 763, 764, 765, 766, 767, 768, 769, 797, 798, 799, 800] (by decide +kernel) (by decide +kernel)
set_option maxRecDepth 20000 in
theorem gL_law_X4_firstError : GoodIn wsL_law (wsV RL 126 RX4 yX4_firstError wsX4_firstError) := goodIn_app (goodIn_of _ (by decide +kernel)) ggL_law_X4_firstError
