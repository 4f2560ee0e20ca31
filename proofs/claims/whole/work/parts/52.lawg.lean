/-! the law's calls: their words -/
set_option maxRecDepth 20000 in
theorem ggL_law_X7_add : GoodIn wsL_law wsX7_add := goodIn_r _ [333, 116, 237, 238, 5, 239, 334, 335, 336, 337, 281, 282, 283, 284, 320, 321, 322, 323, 280, 118, 122, 123, 124, 760, 761, 762, 763, 764, 765, 766, 767, 768, 769, 770, 771, 772, 773] (by decide +kernel) (by decide +kernel)
set_option maxRecDepth 20000 in
theorem gL_law_X7_add : GoodIn wsL_law (wsV RL 40 RX7 yX7_add wsX7_add) := goodIn_app (goodIn_of _ (by decide +kernel)) ggL_law_X7_add
set_option maxRecDepth 20000 in
theorem ggL_law_X6_rails : GoodIn wsL_law wsX6_rails := goodIn_r _ [341, 19, 342, 343, 344, 202, 203, 18, 204, 99, 100, 101, 102, 81, 82, 297, 298, 299, 2, 300, 24, 301, 302, 303, 23, 304, 305, 55, 306, 307, 308, 309, 310, 262, 263, 264, 47, 265, 266, 267, 268, 48, 49, 87, 88, 93, 94, 83, 84, 85, 86, 89, 90, 91, 92, 269, 270, 271, 272, 28, 273, 36, 274, 345, 753, 754, 755, 756, 757, 758, 759, 778, 779, 780, 781, 782, 783, 784, 785, 786, 787, 788, 789, 790, 791, 792, 793, 794, 795, 797, 798, 799, 800, 801, 802, 803, 804, 805, 806, 807, 808, 809] (by decide +kernel) (by decide +kernel)
set_option maxRecDepth 20000 in
theorem gL_law_X6_rails : GoodIn wsL_law (wsV RL 41 RX6 yX6_rails wsX6_rails) := goodIn_app (goodIn_of _ (by decide +kernel)) ggL_law_X6_rails
set_option maxRecDepth 20000 in
theorem ggL_law_X7_rails : GoodIn wsL_law wsX7_rails := goodIn_r _ [349, 116, 334, 335, 336, 5, 337, 281, 282, 283, 284, 237, 238, 239, 320, 321, 322, 323, 280, 118, 760, 761, 762, 763, 764, 765, 766, 767, 768, 769, 770, 771, 772, 773] (by decide +kernel) (by decide +kernel)
set_option maxRecDepth 20000 in
theorem gL_law_X7_rails : GoodIn wsL_law (wsV RL 45 RX7 yX7_rails wsX7_rails) := goodIn_app (goodIn_of _ (by decide +kernel)) ggL_law_X7_rails
set_option maxRecDepth 20000 in
theorem ggL_law_X6_code : GoodIn wsL_law wsX6_code := goodIn_r _ [353, 19, 354, 355, 356, 357, 211, 212, 18, 213, 81, 297, 298, 299, 2, 300, 24, 301, 302, 303, 23, 304, 305, 55, 306, 307, 308, 309, 310, 262, 263, 264, 47, 265, 266, 267, 268, 48, 49, 82, 87, 88, 93, 94, 83, 84, 85, 86, 89, 90, 91, 92, 269, 270, 271, 272, 28, 273, 36, 274, 358, 359, 360, 361, 362, 363, 364, 365, 27, 366, 367, 60, 59, 368, 369, 370, 371, 372, 373, 374, 375, 376, 377, 378, 379, 380, 381, 382, 383, 384, 385, 386, 387, 388, 389, 390, 391, 392, 393, 394, 395, 753, 754, 755, 756, 757, 758, 759, 778, 779, 780, 781, 782, 783, 784, 785, 786, 789, 790, 791, 792, 793, 794, 795, 787, 788, 797, 798, 799, 800, 801, 802, 803, 804, 805, 806, 807, 808, 809] (by decide +kernel) (by decide +kernel)
set_option maxRecDepth 20000 in
theorem gL_law_X6_code : GoodIn wsL_law (wsV RL 46 RX6 yX6_code wsX6_code) := goodIn_app (goodIn_of _ (by decide +kernel)) ggL_law_X6_code
set_option maxRecDepth 20000 in
theorem ggL_law_X7_code : GoodIn wsL_law wsX7_code := goodIn_r _ [399, 116, 252, 253, 5, 254, 237, 238, 239, 320, 321, 322, 323, 280, 118, 400, 401, 402, 403, 404, 405, 406, 407, 408, 409, 410, 411, 412, 413, 414, 760, 761, 762, 763, 764, 765, 766, 767, 768, 769, 770, 771, 772, 773] (by decide +kernel) (by decide +kernel)
set_option maxRecDepth 20000 in
theorem gL_law_X7_code : GoodIn wsL_law (wsV RL 49 RX7 yX7_code wsX7_code) := goodIn_app (goodIn_of _ (by decide +kernel)) ggL_law_X7_code
set_option maxRecDepth 20000 in
theorem ggL_law_X6_build : GoodIn wsL_law wsX6_build := goodIn_r _ [418, 19, 328, 297, 298, 299, 2, 300, 24, 301, 302, 303, 23, 304, 305, 55, 306, 307, 308, 309, 310, 262, 263, 18, 264, 47, 265, 266, 267, 268, 48, 49, 81, 82, 87, 88, 93, 94, 83, 84, 85, 86, 89, 90, 91, 92, 269, 270, 271, 272, 28, 273, 36, 274, 73, 74, 75, 76, 77, 78, 79, 80, 95, 96, 97, 98, 99, 100, 101, 102, 103, 104, 105, 106, 107, 108, 109, 110, 753, 754, 755, 756, 757, 758, 759, 778, 779, 780, 781, 782, 783, 784, 785, 786, 787, 788, 789, 790, 791, 792, 793, 794, 795, 797, 798, 799, 800, 801, 802, 803, 804, 805, 806, 807, 808, 809] (by decide +kernel) (by decide +kernel)
set_option maxRecDepth 20000 in
theorem gL_law_X6_build : GoodIn wsL_law (wsV RL 50 RX6 yX6_build wsX6_build) := goodIn_app (goodIn_of _ (by decide +kernel)) ggL_law_X6_build
set_option maxRecDepth 20000 in
theorem ggL_law_X7_build : GoodIn wsL_law wsX7_build := goodIn_r _ [422, 116, 237, 238, 5, 239, 320, 321, 322, 323, 280, 118, 281, 282, 283, 284, 122, 123, 124, 760, 761, 762, 763, 764, 765, 766, 767, 768, 769, 770, 771, 772, 773] (by decide +kernel) (by decide +kernel)
set_option maxRecDepth 20000 in
theorem gL_law_X7_build : GoodIn wsL_law (wsV RL 53 RX7 yX7_build wsX7_build) := goodIn_app (goodIn_of _ (by decide +kernel)) ggL_law_X7_build
set_option maxRecDepth 20000 in
theorem ggL_law_X6_undo : GoodIn wsL_law wsX6_undo := goodIn_r _ [426, 24, 260, 19, 427, 428, 429, 23, 430, 305, 55, 310, 262, 263, 18, 264, 47, 265, 266, 267, 268, 48, 49, 81, 82, 87, 88, 93, 94, 83, 84, 85, 86, 89, 90, 91, 92, 269, 270, 271, 2, 272, 28, 273, 36, 274, 753, 754, 755, 756, 757, 758, 759, 787, 788, 778, 779, 780, 781, 782, 783, 784, 785, 786, 789, 790, 791, 792, 793, 794, 795, 797, 798, 799, 800, 801, 802, 803, 804, 805, 806, 807, 808, 809] (by decide +kernel) (by decide +kernel)
set_option maxRecDepth 20000 in
theorem gL_law_X6_undo : GoodIn wsL_law (wsV RL 54 RX6 yX6_undo wsX6_undo) := goodIn_app (goodIn_of _ (by decide +kernel)) ggL_law_X6_undo
set_option maxRecDepth 20000 in
theorem ggL_law_X7_undo : GoodIn wsL_law wsX7_undo := goodIn_r _ [434, 280, 116, 118, 760, 761, 762, 763, 764, 765, 766, 767, 768, 769, 770, 771, 772, 773] (by decide +kernel) (by decide +kernel)
set_option maxRecDepth 20000 in
theorem gL_law_X7_undo : GoodIn wsL_law (wsV RL 57 RX7 yX7_undo wsX7_undo) := goodIn_app (goodIn_of _ (by decide +kernel)) ggL_law_X7_undo
set_option maxRecDepth 20000 in
theorem ggL_law_X6_gateOf : GoodIn wsL_law wsX6_gateOf := goodIn_r _ [438, 19, 289, 290, 291, 259, 292, 293, 294, 18, 295, 82, 439, 440, 441, 442, 48, 49, 753, 754, 755, 756, 757, 758, 759, 778, 779, 780, 781, 782, 783, 784, 785, 786] (by decide +kernel) (by decide +kernel)
set_option maxRecDepth 20000 in
theorem gL_law_X6_gateOf : GoodIn wsL_law (wsV RL 58 RX6 yX6_gateOf wsX6_gateOf) := goodIn_app (goodIn_of _ (by decide +kernel)) ggL_law_X6_gateOf
set_option maxRecDepth 20000 in
theorem ggL_law_X7_gateOf : GoodIn wsL_law wsX7_gateOf := goodIn_r _ [446, 116, 316, 317, 318, 5, 319, 237, 238, 239, 760, 761, 762, 763, 764, 765, 766, 767, 768, 769, 770, 771, 772, 773] (by decide +kernel) (by decide +kernel)
set_option maxRecDepth 20000 in
theorem gL_law_X7_gateOf : GoodIn wsL_law (wsV RL 61 RX7 yX7_gateOf wsX7_gateOf) := goodIn_app (goodIn_of _ (by decide +kernel)) ggL_law_X7_gateOf
set_option maxRecDepth 20000 in
theorem ggL_law_X6_wire : GoodIn wsL_law wsX6_wire := goodIn_r _ [450, 19, 32, 451, 452, 453, 18, 454, 455, 371, 372, 373, 81, 344, 202, 203, 204, 99, 100, 101, 102, 82, 456, 457, 458, 31, 459, 460, 65, 461, 462, 463, 464, 465, 466, 467, 468, 469, 470, 471, 472, 473, 474, 475, 476, 477, 478, 479, 480, 481, 482, 483, 484, 2, 485, 753, 754, 755, 756, 757, 758, 759, 778, 779, 780, 781, 782, 783, 784, 785, 786, 796] (by decide +kernel) (by decide +kernel)
set_option maxRecDepth 20000 in
theorem gL_law_X6_wire : GoodIn wsL_law (wsV RL 62 RX6 yX6_wire wsX6_wire) := goodIn_app (goodIn_of _ (by decide +kernel)) ggL_law_X6_wire
set_option maxRecDepth 20000 in
theorem ggL_law_X7_wire : GoodIn wsL_law wsX7_wire := goodIn_r _ [489, 119, 490, 491, 492, 5, 493, 116, 237, 238, 239, 334, 335, 336, 337, 281, 282, 283, 284, 494, 495, 496, 497, 498, 499, 500, 760, 761, 762, 763, 764, 765, 766, 767, 768, 769, 770, 771, 772, 773] (by decide +kernel) (by decide +kernel)
set_option maxRecDepth 20000 in
theorem gL_law_X7_wire : GoodIn wsL_law (wsV RL 65 RX7 yX7_wire wsX7_wire) := goodIn_app (goodIn_of _ (by decide +kernel)) ggL_law_X7_wire
