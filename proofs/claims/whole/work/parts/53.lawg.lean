/-! the law's calls: their words -/
set_option maxRecDepth 20000 in
theorem ggL_law_X6_out : GoodIn wsL_law wsX6_out := goodIn_r _ [504, 19, 32, 451, 452, 453, 18, 454, 455, 371, 372, 373, 81, 505, 506, 507, 508, 99, 100, 101, 102, 82, 456, 457, 458, 31, 459, 460, 65, 461, 462, 463, 464, 465, 466, 467, 468, 469, 470, 471, 472, 473, 474, 475, 476, 477, 478, 479, 509, 510, 511, 512, 513, 514, 515, 481, 482, 483, 484, 2, 485, 753, 754, 755, 756, 757, 758, 759, 778, 779, 780, 781, 782, 783, 784, 785, 786, 796] (by decide +kernel) (by decide +kernel)
set_option maxRecDepth 20000 in
theorem gL_law_X6_out : GoodIn wsL_law (wsV RL 66 RX6 yX6_out wsX6_out) := goodIn_app (goodIn_of _ (by decide +kernel)) ggL_law_X6_out
set_option maxRecDepth 20000 in
theorem ggL_law_X7_out : GoodIn wsL_law wsX7_out := goodIn_r _ [519, 490, 491, 492, 5, 493, 116, 237, 238, 239, 520, 521, 522, 523, 281, 282, 283, 284, 494, 495, 496, 497, 119, 498, 499, 500, 760, 761, 762, 763, 764, 765, 766, 767, 768, 769, 770, 771, 772, 773] (by decide +kernel) (by decide +kernel)
set_option maxRecDepth 20000 in
theorem gL_law_X7_out : GoodIn wsL_law (wsV RL 69 RX7 yX7_out wsX7_out) := goodIn_app (goodIn_of _ (by decide +kernel)) ggL_law_X7_out
set_option maxRecDepth 20000 in
theorem ggL_law_X6_word : GoodIn wsL_law wsX6_word := goodIn_r _ [527, 356, 528, 359, 360, 361, 2, 362, 28, 273, 19, 363, 364, 365, 27, 366, 367, 60, 59, 368, 369, 370, 371, 372, 18, 373, 81, 374, 375, 376, 377, 93, 94, 378, 379, 380, 381, 382, 383, 384, 385, 386, 387, 388, 389, 390, 391, 392, 393, 394, 395, 789, 790, 791, 792, 793, 794, 795, 753, 754, 755, 756, 757, 758, 759, 778, 779, 780, 781, 782, 783, 784, 785, 786] (by decide +kernel) (by decide +kernel)
set_option maxRecDepth 20000 in
theorem gL_law_X6_word : GoodIn wsL_law (wsV RL 70 RX6 yX6_word wsX6_word) := goodIn_app (goodIn_of _ (by decide +kernel)) ggL_law_X6_word
set_option maxRecDepth 20000 in
theorem ggL_law_X7_word : GoodIn wsL_law wsX7_word := goodIn_r _ [532, 404, 405, 406, 5, 407, 116, 408, 409, 410, 411, 412, 413, 414, 760, 761, 762, 763, 764, 765, 766, 767, 768, 769, 770, 771, 772, 773] (by decide +kernel) (by decide +kernel)
set_option maxRecDepth 20000 in
theorem gL_law_X7_word : GoodIn wsL_law (wsV RL 73 RX7 yX7_word wsX7_word) := goodIn_app (goodIn_of _ (by decide +kernel)) ggL_law_X7_word
set_option maxRecDepth 20000 in
theorem ggL_law_X6_rank : GoodIn wsL_law wsX6_rank := goodIn_r _ [536, 19, 537, 451, 452, 453, 18, 454, 455, 371, 372, 373, 81, 359, 360, 361, 2, 362, 28, 273, 363, 364, 365, 27, 366, 367, 60, 59, 368, 369, 370, 374, 375, 376, 377, 93, 94, 378, 379, 380, 381, 382, 383, 384, 385, 386, 387, 388, 389, 390, 391, 392, 393, 394, 395, 753, 754, 755, 756, 757, 758, 759, 789, 790, 791, 792, 793, 794, 795, 778, 779, 780, 781, 782, 783, 784, 785, 786] (by decide +kernel) (by decide +kernel)
set_option maxRecDepth 20000 in
theorem gL_law_X6_rank : GoodIn wsL_law (wsV RL 74 RX6 yX6_rank wsX6_rank) := goodIn_app (goodIn_of _ (by decide +kernel)) ggL_law_X6_rank
set_option maxRecDepth 20000 in
theorem ggL_law_X7_rank : GoodIn wsL_law wsX7_rank := goodIn_r _ [541, 490, 491, 492, 5, 493, 116, 237, 238, 239, 408, 409, 410, 411, 412, 413, 414, 760, 761, 762, 763, 764, 765, 766, 767, 768, 769, 770, 771, 772, 773] (by decide +kernel) (by decide +kernel)
set_option maxRecDepth 20000 in
theorem gL_law_X7_rank : GoodIn wsL_law (wsV RL 77 RX7 yX7_rank wsX7_rank) := goodIn_app (goodIn_of _ (by decide +kernel)) ggL_law_X7_rank
set_option maxRecDepth 20000 in
theorem ggL_law_X6_missed : GoodIn wsL_law wsX6_missed := goodIn_r _ [545, 546, 547, 548, 549, 2, 550, 551, 359, 360, 361, 362, 28, 273, 19, 363, 364, 365, 27, 366, 367, 60, 59, 368, 369, 370, 371, 372, 18, 373, 81, 374, 375, 376, 377, 93, 94, 378, 379, 380, 381, 382, 383, 384, 385, 386, 387, 388, 389, 390, 391, 392, 393, 394, 395, 552, 553, 554, 555, 556, 557, 558, 559, 560, 561, 562, 789, 790, 791, 792, 793, 794, 795, 753, 754, 755, 756, 757, 758, 759, 778, 779, 780, 781, 782, 783, 784, 785, 786] (by decide +kernel) (by decide +kernel)
set_option maxRecDepth 20000 in
theorem gL_law_X6_missed : GoodIn wsL_law (wsV RL 78 RX6 yX6_missed wsX6_missed) := goodIn_app (goodIn_of _ (by decide +kernel)) ggL_law_X6_missed
set_option maxRecDepth 20000 in
theorem ggL_law_X7_missed : GoodIn wsL_law wsX7_missed := goodIn_r _ [566, 404, 405, 406, 5, 407, 116, 408, 409, 410, 411, 412, 413, 414, 760, 761, 762, 763, 764, 765, 766, 767, 768, 769, 770, 771, 772, 773] (by decide +kernel) (by decide +kernel)
set_option maxRecDepth 20000 in
theorem gL_law_X7_missed : GoodIn wsL_law (wsV RL 81 RX7 yX7_missed wsX7_missed) := goodIn_app (goodIn_of _ (by decide +kernel)) ggL_law_X7_missed
set_option maxRecDepth 20000 in
theorem ggL_law_X6_near : GoodIn wsL_law wsX6_near := goodIn_r _ [570, 571, 547, 548, 549, 2, 550, 551, 359, 360, 361, 362, 28, 273, 19, 363, 364, 365, 27, 366, 367, 60, 59, 368, 369, 370, 371, 372, 18, 373, 81, 374, 375, 376, 377, 93, 94, 378, 379, 380, 381, 382, 383, 384, 385, 386, 387, 388, 389, 390, 391, 392, 393, 394, 395, 552, 553, 554, 555, 556, 557, 558, 559, 560, 561, 562, 789, 790, 791, 792, 793, 794, 795, 753, 754, 755, 756, 757, 758, 759, 778, 779, 780, 781, 782, 783, 784, 785, 786] (by decide +kernel) (by decide +kernel)
set_option maxRecDepth 20000 in
theorem gL_law_X6_near : GoodIn wsL_law (wsV RL 82 RX6 yX6_near wsX6_near) := goodIn_app (goodIn_of _ (by decide +kernel)) ggL_law_X6_near
set_option maxRecDepth 20000 in
theorem ggL_law_X7_near : GoodIn wsL_law wsX7_near := goodIn_r _ [575, 404, 405, 406, 5, 407, 116, 408, 409, 410, 411, 412, 413, 414, 760, 761, 762, 763, 764, 765, 766, 767, 768, 769, 770, 771, 772, 773] (by decide +kernel) (by decide +kernel)
set_option maxRecDepth 20000 in
theorem gL_law_X7_near : GoodIn wsL_law (wsV RL 85 RX7 yX7_near wsX7_near) := goodIn_app (goodIn_of _ (by decide +kernel)) ggL_law_X7_near
set_option maxRecDepth 20000 in
theorem ggL_law_X6_stuck : GoodIn wsL_law wsX6_stuck := goodIn_r _ [579, 19, 28, 580, 581, 505, 506, 507, 18, 508, 99, 100, 101, 102, 81, 82, 582, 583, 584, 2, 585, 36, 274, 32, 359, 360, 361, 362, 273, 363, 364, 365, 27, 366, 367, 60, 59, 368, 369, 370, 371, 372, 373, 374, 375, 376, 377, 93, 94, 378, 379, 380, 381, 382, 383, 384, 385, 386, 387, 388, 389, 390, 391, 392, 393, 394, 395, 586, 587, 588, 35, 589, 590, 69, 591, 592, 593, 594, 595, 596, 597, 598, 599, 600, 601, 602, 603, 604, 605, 606, 607, 608, 609, 457, 458, 31, 459, 460, 65, 461, 462, 463, 464, 465, 466, 467, 468, 469, 470, 471, 472, 473, 474, 475, 476, 610, 478, 479, 611, 510, 511, 512, 513, 514, 515, 481, 482, 483, 484, 485, 612, 613, 614, 615, 616, 617, 70, 71, 618, 619, 620, 621, 622, 623, 624, 625, 626, 627, 628, 629, 630, 631, 753, 754, 755, 756, 757, 758, 759, 797, 798, 799, 800, 801, 802, 803, 804, 805, 806, 807, 808, 809, 778, 779, 780, 781, 782, 783, 784, 785, 786, 789, 790, 791, 792, 793, 794, 795, 796] (by decide +kernel) (by decide +kernel)
set_option maxRecDepth 20000 in
theorem gL_law_X6_stuck : GoodIn wsL_law (wsV RL 86 RX6 yX6_stuck wsX6_stuck) := goodIn_app (goodIn_of _ (by decide +kernel)) ggL_law_X6_stuck
set_option maxRecDepth 20000 in
theorem ggL_law_X7_stuck : GoodIn wsL_law wsX7_stuck := goodIn_r _ [635, 636, 120, 121, 520, 521, 522, 5, 523, 281, 282, 283, 284, 116, 237, 238, 239, 637, 638, 639, 640, 641, 642, 643, 404, 405, 406, 407, 408, 409, 410, 411, 412, 413, 414, 494, 495, 496, 497, 119, 498, 499, 500, 644, 645, 646, 647, 648, 649, 760, 761, 762, 763, 764, 765, 766, 767, 768, 769, 770, 771, 772, 773] (by decide +kernel) (by decide +kernel)
set_option maxRecDepth 20000 in
theorem gL_law_X7_stuck : GoodIn wsL_law (wsV RL 89 RX7 yX7_stuck wsX7_stuck) := goodIn_app (goodIn_of _ (by decide +kernel)) ggL_law_X7_stuck
set_option maxRecDepth 20000 in
theorem ggL_law_X6_exposes : GoodIn wsL_law wsX6_exposes := goodIn_r _ [653, 19, 580, 451, 452, 453, 18, 454, 455, 371, 372, 373, 81, 654, 375, 376, 377, 93, 94, 378, 379, 380, 381, 382, 383, 384, 385, 386, 387, 388, 389, 390, 391, 392, 393, 394, 395, 582, 583, 584, 2, 585, 36, 274, 32, 359, 360, 361, 362, 28, 273, 363, 364, 365, 27, 366, 367, 60, 59, 368, 369, 370, 374, 586, 587, 588, 35, 589, 590, 69, 591, 592, 593, 594, 595, 596, 597, 598, 599, 600, 601, 602, 603, 604, 605, 606, 607, 100, 101, 102, 82, 608, 609, 457, 458, 31, 459, 460, 65, 461, 462, 463, 464, 465, 466, 467, 468, 469, 470, 471, 472, 473, 474, 475, 476, 610, 478, 479, 611, 510, 511, 512, 513, 514, 515, 481, 482, 483, 484, 485, 612, 613, 614, 615, 616, 617, 70, 71, 618, 655, 656, 657, 658, 659, 660, 661, 753, 754, 755, 756, 757, 758, 759, 797, 798, 799, 800, 801, 802, 803, 804, 805, 806, 807, 808, 809, 778, 779, 780, 781, 782, 783, 784, 785, 786, 789, 790, 791, 792, 793, 794, 795, 796] (by decide +kernel) (by decide +kernel)
set_option maxRecDepth 20000 in
theorem gL_law_X6_exposes : GoodIn wsL_law (wsV RL 90 RX6 yX6_exposes wsX6_exposes) := goodIn_app (goodIn_of _ (by decide +kernel)) ggL_law_X6_exposes
