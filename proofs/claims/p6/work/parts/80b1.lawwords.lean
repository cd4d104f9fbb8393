set_option maxRecDepth 20000 in
theorem ggL_law_X4_borrow : GoodIn wsL_law wsX4_borrow := goodIn_r _ [427, 20, 24, 339, 383, 344, 345, 346, 19, 347, 130, 428, 429, 430, 23, 431, 55, 432, 353, 354, 355, 356, 357, 358, 359, 349, 350, 351, 318, 56, 58, 433, 434, 435, 436, 57, 59, 317, 60, 54, 437, 438, 439, 440, 43, 46, 723, 724, 725, 726, 727, 728, 729, 769, 770, 771, 772, 773, 774, 775, 776, 777, 778, 759, 760, 761, 762, 763, 764, 765, 766, 767, 768] (by decide +kernel) (by decide +kernel)
set_option maxRecDepth 20000 in
theorem gL_law_X4_borrow : GoodIn wsL_law (wsV RL 46 RX4 yX4_borrow wsX4_borrow) := goodIn_app (goodIn_of _ (by decide +kernel)) ggL_law_X4_borrow
set_option maxRecDepth 20000 in
theorem ggL_law_X5_borrow : GoodIn wsL_law wsX5_borrow := goodIn_r _ [444, 445, 73, 77, 79, 364, 365, 366, 5, 367, 258, 103, 104, 105, 446, 447, 448, 449, 450, 451, 452, 453, 375, 376, 377, 378, 260, 81, 368, 369, 370, 371, 372, 373, 374, 730, 731, 732, 733, 734, 735, 736, 737, 738, 739, 740, 741, 742, 743, 744, 745, 746, 747, 748, 749, 750] (by decide +kernel) (by decide +kernel)
set_option maxRecDepth 20000 in
theorem gL_law_X5_borrow : GoodIn wsL_law (wsV RL 49 RX5 yX5_borrow wsX5_borrow) := goodIn_app (goodIn_of _ (by decide +kernel)) ggL_law_X5_borrow
set_option maxRecDepth 20000 in
theorem ggL_law_X4_days : GoodIn wsL_law wsX4_days := goodIn_r _ [457, 24, 458, 20, 459, 460, 461, 462, 23, 463, 317, 464, 465, 466, 467, 318, 58, 56, 57, 468, 407, 408, 19, 409, 45, 43, 410, 411, 412, 413, 414, 469, 470, 471, 472, 473, 474, 475, 476, 477, 59, 478, 479, 480, 481, 54, 482, 483, 484, 485, 60, 486, 487, 488, 489, 319, 723, 724, 725, 726, 727, 728, 729, 769, 770, 771, 772, 773, 774, 775, 776, 777, 778, 759, 760, 761, 762, 763, 764, 765, 766, 767, 768] (by decide +kernel) (by decide +kernel)
set_option maxRecDepth 20000 in
theorem gL_law_X4_days : GoodIn wsL_law (wsV RL 50 RX4 yX4_days wsX4_days) := goodIn_app (goodIn_of _ (by decide +kernel)) ggL_law_X4_days
set_option maxRecDepth 20000 in
theorem ggL_law_X5_days : GoodIn wsL_law wsX5_days := goodIn_r _ [493, 445, 73, 82, 103, 104, 5, 105, 494, 495, 496, 497, 372, 373, 374, 419, 420, 421, 422, 77, 78, 423, 498, 499, 500, 501, 502, 503, 504, 505, 506, 507, 508, 509, 510, 511, 512, 730, 731, 732, 733, 734, 735, 736, 737, 738, 739, 740, 741, 742, 743, 744, 745, 746, 747, 748, 749, 750] (by decide +kernel) (by decide +kernel)
set_option maxRecDepth 20000 in
theorem gL_law_X5_days : GoodIn wsL_law (wsV RL 54 RX5 yX5_days wsX5_days) := goodIn_app (goodIn_of _ (by decide +kernel)) ggL_law_X5_days
set_option maxRecDepth 20000 in
theorem ggL_law_X4_fire : GoodIn wsL_law wsX4_fire := goodIn_r _ [516, 24, 20, 517, 518, 519, 23, 520, 521, 522, 55, 523, 524, 525, 526, 318, 56, 482, 483, 484, 485, 57, 58, 59, 60, 723, 724, 725, 726, 727, 728, 729, 759, 760, 761, 762, 763, 764, 765, 766, 767, 768, 769, 770, 771, 772, 773, 774, 775, 776, 777, 778] (by decide +kernel) (by decide +kernel)
set_option maxRecDepth 20000 in
theorem gL_law_X4_fire : GoodIn wsL_law (wsV RL 55 RX4 yX4_fire wsX4_fire) := goodIn_app (goodIn_of _ (by decide +kernel)) ggL_law_X4_fire
set_option maxRecDepth 20000 in
theorem ggL_law_X5_fire : GoodIn wsL_law wsX5_fire := goodIn_r _ [530, 531, 258, 80, 103, 104, 5, 105, 450, 451, 452, 453, 73, 532, 533, 534, 535, 372, 373, 374, 509, 510, 511, 512, 730, 731, 732, 733, 734, 735, 736, 737, 738, 739, 740, 741, 742, 743, 744, 745, 746, 747, 748, 749, 750] (by decide +kernel) (by decide +kernel)
set_option maxRecDepth 20000 in
theorem gL_law_X5_fire : GoodIn wsL_law (wsV RL 58 RX5 yX5_fire wsX5_fire) := goodIn_app (goodIn_of _ (by decide +kernel)) ggL_law_X5_fire
set_option maxRecDepth 20000 in
theorem ggL_law_X4_sell : GoodIn wsL_law wsX4_sell := goodIn_r _ [539, 20, 24, 343, 344, 345, 346, 19, 347, 130, 540, 541, 542, 23, 543, 318, 56, 54, 55, 478, 479, 480, 481, 473, 412, 413, 414, 723, 724, 725, 726, 727, 728, 729, 769, 770, 771, 772, 773, 774, 775, 776, 777, 778, 759, 760, 761, 762, 763, 764, 765, 766, 767, 768] (by decide +kernel) (by decide +kernel)
set_option maxRecDepth 20000 in
theorem gL_law_X4_sell : GoodIn wsL_law (wsV RL 59 RX4 yX4_sell wsX4_sell) := goodIn_app (goodIn_of _ (by decide +kernel)) ggL_law_X4_sell
set_option maxRecDepth 20000 in
theorem ggL_law_X5_sell : GoodIn wsL_law wsX5_sell := goodIn_r _ [547, 73, 364, 365, 366, 5, 367, 258, 103, 104, 105, 450, 451, 452, 453, 372, 373, 374, 506, 507, 508, 730, 731, 732, 733, 734, 735, 736, 737, 738, 739, 740, 741, 742, 743, 744, 745, 746, 747, 748, 749, 750] (by decide +kernel) (by decide +kernel)
set_option maxRecDepth 20000 in
theorem gL_law_X5_sell : GoodIn wsL_law (wsV RL 62 RX5 yX5_sell wsX5_sell) := goodIn_app (goodIn_of _ (by decide +kernel)) ggL_law_X5_sell
set_option maxRecDepth 20000 in
theorem ggL_law_X4_keep : GoodIn wsL_law wsX4_keep := goodIn_r _ [551, 26, 24, 28, 458, 552, 553, 554, 23, 555, 317, 54, 556, 132, 133, 134, 55, 318, 56, 57, 58, 59, 60, 319, 723, 724, 725, 726, 727, 728, 729, 769, 770, 771, 772, 773, 774, 775, 776, 777, 778] (by decide +kernel) (by decide +kernel)
set_option maxRecDepth 20000 in
theorem gL_law_X4_keep : GoodIn wsL_law (wsV RL 63 RX4 yX4_keep wsX4_keep) := goodIn_app (goodIn_of _ (by decide +kernel)) ggL_law_X4_keep
set_option maxRecDepth 20000 in
theorem ggL_law_X5_keep : GoodIn wsL_law wsX5_keep := goodIn_r _ [560, 74, 73, 103, 104, 5, 105, 330, 331, 332, 333, 730, 731, 732, 733, 734, 735, 736, 737, 738, 739, 740, 741, 742, 743, 744, 745, 746, 747, 748, 749, 750] (by decide +kernel) (by decide +kernel)
set_option maxRecDepth 20000 in
theorem gL_law_X5_keep : GoodIn wsL_law (wsV RL 66 RX5 yX5_keep wsX5_keep) := goodIn_app (goodIn_of _ (by decide +kernel)) ggL_law_X5_keep
set_option maxRecDepth 20000 in
theorem ggL_law_X4_back : GoodIn wsL_law wsX4_back := goodIn_r _ [564, 26, 28, 24, 458, 552, 553, 554, 23, 555, 317, 54, 556, 132, 133, 134, 55, 318, 56, 57, 58, 59, 60, 319, 723, 724, 725, 726, 727, 728, 729, 769, 770, 771, 772, 773, 774, 775, 776, 777, 778] (by decide +kernel) (by decide +kernel)
set_option maxRecDepth 20000 in
theorem gL_law_X4_back : GoodIn wsL_law (wsV RL 67 RX4 yX4_back wsX4_back) := goodIn_app (goodIn_of _ (by decide +kernel)) ggL_law_X4_back
set_option maxRecDepth 20000 in
theorem ggL_law_X5_back : GoodIn wsL_law wsX5_back := goodIn_r _ [568, 74, 73, 103, 104, 5, 105, 330, 331, 332, 333, 730, 731, 732, 733, 734, 735, 736, 737, 738, 739, 740, 741, 742, 743, 744, 745, 746, 747, 748, 749, 750] (by decide +kernel) (by decide +kernel)
set_option maxRecDepth 20000 in
theorem gL_law_X5_back : GoodIn wsL_law (wsV RL 70 RX5 yX5_back wsX5_back) := goodIn_app (goodIn_of _ (by decide +kernel)) ggL_law_X5_back
set_option maxRecDepth 20000 in
theorem ggL_law_X4_later : GoodIn wsL_law wsX4_later := goodIn_r _ [572, 20, 25, 344, 345, 346, 19, 347, 130, 573, 574, 575, 2, 576, 24, 459, 552, 553, 554, 23, 555, 317, 54, 556, 132, 133, 134, 55, 318, 56, 57, 58, 59, 60, 319, 460, 461, 462, 463, 464, 465, 466, 467, 468, 407, 408, 409, 45, 43, 410, 411, 412, 413, 414, 469, 470, 471, 472, 473, 474, 475, 476, 477, 478, 479, 480, 481, 482, 483, 484, 485, 486, 487, 488, 489, 348, 349, 350, 351, 723, 724, 725, 726, 727, 728, 729, 759, 760, 761, 762, 763, 764, 765, 766, 767, 768, 769, 770, 771, 772, 773, 774, 775, 776, 777, 778] (by decide +kernel) (by decide +kernel)
set_option maxRecDepth 20000 in
theorem gL_law_X4_later : GoodIn wsL_law (wsV RL 71 RX4 yX4_later wsX4_later) := goodIn_app (goodIn_of _ (by decide +kernel)) ggL_law_X4_later
set_option maxRecDepth 20000 in
theorem ggL_law_X5_later : GoodIn wsL_law wsX5_later := goodIn_r _ [580, 445, 82, 364, 365, 366, 5, 367, 258, 103, 104, 105, 581, 582, 583, 584, 330, 331, 332, 333, 73, 494, 495, 496, 497, 372, 373, 374, 419, 420, 421, 422, 77, 78, 423, 498, 499, 500, 501, 502, 503, 504, 505, 506, 507, 508, 509, 510, 511, 512, 368, 369, 370, 371, 730, 731, 732, 733, 734, 735, 736, 737, 738, 739, 740, 741, 742, 743, 744, 745, 746, 747, 748, 749, 750] (by decide +kernel) (by decide +kernel)
set_option maxRecDepth 20000 in
theorem gL_law_X5_later : GoodIn wsL_law (wsV RL 74 RX5 yX5_later wsX5_later) := goodIn_app (goodIn_of _ (by decide +kernel)) ggL_law_X5_later
set_option maxRecDepth 20000 in
theorem ggL_law_X4_all : GoodIn wsL_law wsX4_all := goodIn_r _ [588, 25, 589, 573, 574, 575, 2, 576, 24, 20, 459, 552, 553, 554, 23, 555, 317, 54, 556, 132, 133, 134, 55, 318, 56, 57, 58, 59, 60, 319, 460, 461, 462, 463, 464, 465, 466, 467, 468, 407, 408, 19, 409, 45, 43, 410, 411, 412, 413, 414, 469, 470, 471, 472, 473, 474, 475, 476, 477, 478, 479, 480, 481, 482, 483, 484, 485, 486, 487, 488, 489, 590, 591, 592, 593, 723, 724, 725, 726, 727, 728, 729, 769, 770, 771, 772, 773, 774, 775, 776, 777, 778, 759, 760, 761, 762, 763, 764, 765, 766, 767, 768] (by decide +kernel) (by decide +kernel)
set_option maxRecDepth 20000 in
theorem gL_law_X4_all : GoodIn wsL_law (wsV RL 75 RX4 yX4_all wsX4_all) := goodIn_app (goodIn_of _ (by decide +kernel)) ggL_law_X4_all
set_option maxRecDepth 20000 in
theorem ggL_law_X5_all : GoodIn wsL_law wsX5_all := goodIn_r _ [597, 445, 82, 73, 103, 104, 5, 105, 581, 582, 583, 584, 330, 331, 332, 333, 494, 495, 496, 497, 372, 373, 374, 419, 420, 421, 422, 77, 78, 423, 498, 499, 500, 501, 502, 503, 504, 505, 506, 507, 508, 509, 510, 511, 512, 598, 599, 600, 601, 730, 731, 732, 733, 734, 735, 736, 737, 738, 739, 740, 741, 742, 743, 744, 745, 746, 747, 748, 749, 750] (by decide +kernel) (by decide +kernel)
set_option maxRecDepth 20000 in
theorem gL_law_X5_all : GoodIn wsL_law (wsV RL 78 RX5 yX5_all wsX5_all) := goodIn_app (goodIn_of _ (by decide +kernel)) ggL_law_X5_all
