set_option maxRecDepth 20000 in
theorem ggL_law_X4_clear : GoodIn wsL_law wsX4_clear := goodIn_r _ [605, 25, 383, 20, 459, 573, 574, 575, 2, 576, 24, 552, 553, 554, 23, 555, 317, 54, 556, 132, 133, 134, 55, 318, 56, 57, 58, 59, 60, 319, 460, 461, 462, 463, 464, 465, 466, 467, 468, 407, 408, 19, 409, 45, 43, 410, 411, 412, 413, 414, 469, 470, 471, 472, 473, 474, 475, 476, 477, 478, 479, 480, 481, 482, 483, 484, 485, 486, 487, 488, 489, 723, 724, 725, 726, 727, 728, 729, 769, 770, 771, 772, 773, 774, 775, 776, 777, 778, 759, 760, 761, 762, 763, 764, 765, 766, 767, 768] (by decide +kernel) (by decide +kernel)
set_option maxRecDepth 20000 in
theorem gL_law_X4_clear : GoodIn wsL_law (wsV RL 79 RX4 yX4_clear wsX4_clear) := goodIn_app (goodIn_of _ (by decide +kernel)) ggL_law_X4_clear
set_option maxRecDepth 20000 in
theorem ggL_law_X5_clear : GoodIn wsL_law wsX5_clear := goodIn_r _ [609, 73, 82, 330, 331, 332, 5, 333, 494, 495, 496, 497, 372, 373, 374, 419, 420, 421, 422, 77, 78, 423, 498, 499, 500, 501, 502, 503, 504, 505, 506, 507, 508, 509, 510, 511, 512, 730, 731, 732, 733, 734, 735, 736, 737, 738, 739, 740, 741, 742, 743, 744, 745, 746, 747, 748, 749, 750] (by decide +kernel) (by decide +kernel)
set_option maxRecDepth 20000 in
theorem gL_law_X5_clear : GoodIn wsL_law (wsV RL 82 RX5 yX5_clear wsX5_clear) := goodIn_app (goodIn_of _ (by decide +kernel)) ggL_law_X5_clear
set_option maxRecDepth 20000 in
theorem ggL_law_X4_hut : GoodIn wsL_law wsX4_hut := goodIn_r _ [613, 20, 32, 24, 614, 344, 345, 346, 19, 347, 130, 615, 616, 617, 31, 618, 619, 65, 620, 621, 622, 623, 412, 413, 414, 67, 624, 429, 430, 23, 431, 55, 432, 353, 354, 355, 356, 357, 358, 359, 349, 350, 351, 318, 56, 58, 625, 403, 404, 405, 406, 407, 408, 409, 45, 43, 410, 411, 626, 627, 628, 629, 66, 630, 631, 632, 633, 634, 635, 636, 637, 68, 638, 723, 724, 725, 726, 727, 728, 729, 779, 780, 781, 782, 783, 759, 760, 761, 762, 763, 764, 765, 766, 767, 768, 769, 770, 771, 772, 773, 774, 775, 776, 777, 778] (by decide +kernel) (by decide +kernel)
set_option maxRecDepth 20000 in
theorem gL_law_X4_hut : GoodIn wsL_law (wsV RL 83 RX4 yX4_hut wsX4_hut) := goodIn_app (goodIn_of _ (by decide +kernel)) ggL_law_X4_hut
set_option maxRecDepth 20000 in
theorem ggL_law_X5_hut : GoodIn wsL_law wsX5_hut := goodIn_r _ [642, 445, 643, 84, 103, 104, 5, 105, 364, 365, 366, 367, 258, 644, 645, 646, 647, 73, 83, 446, 447, 448, 449, 450, 451, 452, 453, 375, 376, 377, 378, 260, 81, 368, 369, 370, 371, 372, 373, 374, 648, 649, 650, 651, 419, 420, 421, 422, 77, 78, 423, 652, 653, 654, 655, 656, 657, 658, 659, 730, 731, 732, 733, 734, 735, 736, 737, 738, 739, 740, 741, 742, 743, 744, 745, 746, 747, 748, 749, 750] (by decide +kernel) (by decide +kernel)
set_option maxRecDepth 20000 in
theorem gL_law_X5_hut : GoodIn wsL_law (wsV RL 87 RX5 yX5_hut wsX5_hut) := goodIn_app (goodIn_of _ (by decide +kernel)) ggL_law_X5_hut
set_option maxRecDepth 20000 in
theorem ggL_law_X4_enough : GoodIn wsL_law wsX4_enough := goodIn_r _ [663, 664, 665, 666, 2, 667, 25, 24, 20, 589, 552, 553, 554, 23, 555, 317, 54, 556, 132, 133, 134, 55, 318, 56, 57, 58, 59, 60, 319, 460, 461, 462, 463, 464, 465, 466, 467, 468, 407, 408, 19, 409, 45, 43, 410, 411, 412, 413, 414, 469, 470, 471, 472, 473, 474, 475, 476, 477, 478, 479, 480, 481, 482, 483, 484, 485, 486, 487, 488, 489, 723, 724, 725, 726, 727, 728, 729, 769, 770, 771, 772, 773, 774, 775, 776, 777, 778, 759, 760, 761, 762, 763, 764, 765, 766, 767, 768] (by decide +kernel) (by decide +kernel)
set_option maxRecDepth 20000 in
theorem gL_law_X4_enough : GoodIn wsL_law (wsV RL 88 RX4 yX4_enough wsX4_enough) := goodIn_app (goodIn_of _ (by decide +kernel)) ggL_law_X4_enough
set_option maxRecDepth 20000 in
theorem ggL_law_X5_enough : GoodIn wsL_law wsX5_enough := goodIn_r _ [671, 445, 73, 103, 104, 5, 105, 581, 582, 583, 584, 330, 331, 332, 333, 494, 495, 496, 497, 372, 373, 374, 419, 420, 421, 422, 77, 78, 423, 498, 499, 500, 501, 502, 503, 504, 505, 506, 507, 508, 509, 510, 511, 512, 730, 731, 732, 733, 734, 735, 736, 737, 738, 739, 740, 741, 742, 743, 744, 745, 746, 747, 748, 749, 750] (by decide +kernel) (by decide +kernel)
set_option maxRecDepth 20000 in
theorem gL_law_X5_enough : GoodIn wsL_law (wsV RL 91 RX5 yX5_enough wsX5_enough) := goodIn_app (goodIn_of _ (by decide +kernel)) ggL_law_X5_enough
set_option maxRecDepth 20000 in
theorem ggL_law_X4_rid : GoodIn wsL_law wsX4_rid := goodIn_r _ [675, 24, 20, 676, 677, 2, 678, 679, 680, 681, 23, 682, 318, 522, 56, 683, 684, 685, 686, 687, 688, 689, 723, 724, 725, 726, 727, 728, 729, 769, 770, 771, 772, 773, 774, 775, 776, 777, 778, 759, 760, 761, 762, 763, 764, 765, 766, 767, 768] (by decide +kernel) (by decide +kernel)
set_option maxRecDepth 20000 in
theorem gL_law_X4_rid : GoodIn wsL_law (wsV RL 92 RX4 yX4_rid wsX4_rid) := goodIn_app (goodIn_of _ (by decide +kernel)) ggL_law_X4_rid
set_option maxRecDepth 20000 in
theorem ggL_law_X5_rid : GoodIn wsL_law wsX5_rid := goodIn_r _ [693, 694, 73, 80, 103, 104, 5, 105, 372, 373, 374, 730, 731, 732, 733, 734, 735, 736, 737, 738, 739, 740, 741, 742, 743, 744, 745, 746, 747, 748, 749, 750] (by decide +kernel) (by decide +kernel)
set_option maxRecDepth 20000 in
theorem gL_law_X5_rid : GoodIn wsL_law (wsV RL 95 RX5 yX5_rid wsX5_rid) := goodIn_app (goodIn_of _ (by decide +kernel)) ggL_law_X5_rid
set_option maxRecDepth 20000 in
theorem ggL_law_X4_grandson : GoodIn wsL_law wsX4_grandson := goodIn_r _ [698, 20, 699, 25, 343, 339, 573, 574, 575, 2, 576, 24, 459, 552, 553, 554, 23, 555, 317, 54, 556, 132, 133, 134, 55, 318, 56, 57, 58, 59, 60, 319, 460, 461, 462, 463, 464, 465, 466, 467, 468, 407, 408, 19, 409, 45, 43, 410, 411, 412, 413, 414, 469, 470, 471, 472, 473, 474, 475, 476, 477, 478, 479, 480, 481, 482, 483, 484, 485, 486, 487, 488, 489, 723, 724, 725, 726, 727, 728, 729, 759, 760, 761, 762, 763, 764, 765, 766, 767, 768, 769, 770, 771, 772, 773, 774, 775, 776, 777, 778] (by decide +kernel) (by decide +kernel)
set_option maxRecDepth 20000 in
theorem gL_law_X4_grandson : GoodIn wsL_law (wsV RL 96 RX4 yX4_grandson wsX4_grandson) := goodIn_app (goodIn_of _ (by decide +kernel)) ggL_law_X4_grandson
set_option maxRecDepth 20000 in
theorem ggL_law_X5_grandson : GoodIn wsL_law wsX5_grandson := goodIn_r _ [703, 445, 82, 258, 73, 103, 104, 5, 105, 581, 582, 583, 584, 330, 331, 332, 333, 494, 495, 496, 497, 372, 373, 374, 419, 420, 421, 422, 77, 78, 423, 498, 499, 500, 501, 502, 503, 504, 505, 506, 507, 508, 509, 510, 511, 512, 450, 451, 452, 453, 730, 731, 732, 733, 734, 735, 736, 737, 738, 739, 740, 741, 742, 743, 744, 745, 746, 747, 748, 749, 750] (by decide +kernel) (by decide +kernel)
set_option maxRecDepth 20000 in
theorem gL_law_X5_grandson : GoodIn wsL_law (wsV RL 99 RX5 yX5_grandson wsX5_grandson) := goodIn_app (goodIn_of _ (by decide +kernel)) ggL_law_X5_grandson
set_option maxRecDepth 20000 in
theorem ggL_law_X4_toWhom : GoodIn wsL_law wsX4_toWhom := goodIn_r _ [707, 708, 20, 699, 24, 343, 402, 403, 404, 19, 405, 406, 407, 408, 409, 45, 43, 410, 411, 412, 413, 414, 723, 724, 725, 726, 727, 728, 729, 759, 760, 761, 762, 763, 764, 765, 766, 767, 768, 769, 770, 771, 772, 773, 774, 775, 776, 777, 778] (by decide +kernel) (by decide +kernel)
set_option maxRecDepth 20000 in
theorem gL_law_X4_toWhom : GoodIn wsL_law (wsV RL 100 RX4 yX4_toWhom wsX4_toWhom) := goodIn_app (goodIn_of _ (by decide +kernel)) ggL_law_X4_toWhom
set_option maxRecDepth 20000 in
theorem ggL_law_X5_toWhom : GoodIn wsL_law wsX5_toWhom := goodIn_r _ [712, 445, 643, 713, 258, 103, 104, 5, 105, 450, 451, 452, 453, 73, 648, 649, 650, 651, 419, 420, 421, 422, 77, 78, 423, 730, 731, 732, 733, 734, 735, 736, 737, 738, 739, 740, 741, 742, 743, 744, 745, 746, 747, 748, 749, 750] (by decide +kernel) (by decide +kernel)
set_option maxRecDepth 20000 in
theorem gL_law_X5_toWhom : GoodIn wsL_law (wsV RL 103 RX5 yX5_toWhom wsX5_toWhom) := goodIn_app (goodIn_of _ (by decide +kernel)) ggL_law_X5_toWhom
set_option maxRecDepth 20000 in
theorem ggL_law_X4_count : GoodIn wsL_law wsX4_count := goodIn_r _ [717, 20, 699, 718, 459, 24, 383, 458, 589, 16, 89, 590, 591, 592, 23, 593, 318, 58, 723, 724, 725, 726, 727, 728, 729, 759, 760, 761, 762, 763, 764, 765, 766, 767, 768, 769, 770, 771, 772, 773, 774, 775, 776, 777, 778, 751, 752, 753, 754, 755, 756, 757, 758] (by decide +kernel) (by decide +kernel)
set_option maxRecDepth 20000 in
theorem gL_law_X4_count : GoodIn wsL_law (wsV RL 104 RX4 yX4_count wsX4_count) := goodIn_app (goodIn_of _ (by decide +kernel)) ggL_law_X4_count
set_option maxRecDepth 20000 in
theorem ggL_law_X5_count : GoodIn wsL_law wsX5_count := goodIn_r _ [722, 258, 260, 82, 73, 101, 598, 599, 600, 5, 601, 372, 373, 374, 730, 731, 732, 733, 734, 735, 736, 737, 738, 739, 740, 741, 742, 743, 744, 745, 746, 747, 748, 749, 750] (by decide +kernel) (by decide +kernel)
set_option maxRecDepth 20000 in
theorem gL_law_X5_count : GoodIn wsL_law (wsV RL 107 RX5 yX5_count wsX5_count) := goodIn_app (goodIn_of _ (by decide +kernel)) ggL_law_X5_count
