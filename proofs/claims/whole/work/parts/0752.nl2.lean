set_option maxRecDepth 20000 in
theorem gL_law_X7_undo : GoodIn wsL_law (wsV RL 127 RX7 yX7_undo wsX7_undo) := goodIn_app (goodIn_of _ (by decide +kernel)) ggL_law_X7_undo
set_option maxRecDepth 20000 in
theorem ggL_law_L_row : GoodIn wsL_law wsL_row := goodIn_ca (goodIn_ca (goodIn_r _ [518, 240, 130, 519, 520, 521, 2, 522, 245, 246, 135, 136, 16, 302, 303, 304, 15, 305, 152, 523, 524, 525, 526, 42, 43, 852, 853, 854, 855, 856, 857, 858, 871, 872, 873, 874, 875, 876, 877, 878, 879, 880] (by decide +kernel) (by decide +kernel)) (goodIn_sub (fun _ h => List.mem_append_right _ h) (by decide +kernel))) (goodIn_sub (fun _ h => List.mem_append_left _ (List.mem_append_left _ (List.mem_append_right _ h))) (by decide +kernel))
set_option maxRecDepth 20000 in
theorem gL_law_L_row : GoodIn wsL_law (va_wsS RL 128 yL_row wsL_row) := goodIn_app (goodIn_of _ (by decide +kernel)) ggL_law_L_row
set_option maxRecDepth 20000 in
theorem ggL_law_X7_row : GoodIn wsL_law wsX7_row := goodIn_r _ [530, 167, 531, 314, 315, 316, 5, 317, 105, 169, 170, 171, 172, 173, 174, 175, 532, 533, 534, 535, 123, 124, 125, 536, 537, 538, 539, 859, 860, 861, 862, 863, 864, 865, 866, 867, 868, 869, 870] (by decide +kernel) (by decide +kernel)
set_option maxRecDepth 20000 in
theorem gL_law_X7_row : GoodIn wsL_law (wsV RL 130 RX7 yX7_row wsX7_row) := goodIn_app (goodIn_of _ (by decide +kernel)) ggL_law_X7_row
set_option maxRecDepth 20000 in
theorem ggL_law_L_register : GoodIn wsL_law wsL_register := goodIn_ca (goodIn_r _ [542, 240, 543, 544, 545, 2, 546, 245, 246, 16, 32, 247, 248, 249, 73, 74, 75, 76, 28, 77, 78, 79, 31, 80, 53, 81, 82, 83, 27, 84, 85, 86, 87, 15, 88, 89, 90, 91, 92, 72, 93, 94, 95, 96, 97, 98, 99, 100, 852, 853, 854, 855, 856, 857, 858, 871, 872, 873, 874, 875, 876, 877, 878, 879, 880, 887, 885, 886] (by decide +kernel) (by decide +kernel)) (goodIn_sub (fun _ h => List.mem_append_right _ h) (by decide +kernel))
set_option maxRecDepth 20000 in
theorem gL_law_L_register : GoodIn wsL_law (va_wsS RL 131 yL_register wsL_register) := goodIn_app (goodIn_of _ (by decide +kernel)) ggL_law_L_register
set_option maxRecDepth 20000 in
theorem ggL_law_X7_register : GoodIn wsL_law wsX7_register := goodIn_r _ [550, 167, 111, 105, 169, 170, 5, 171, 172, 173, 174, 175, 120, 121, 122, 123, 124, 125, 859, 860, 861, 862, 863, 864, 865, 866, 867, 868, 869, 870] (by decide +kernel) (by decide +kernel)
set_option maxRecDepth 20000 in
theorem gL_law_X7_register : GoodIn wsL_law (wsV RL 134 RX7 yX7_register wsX7_register) := goodIn_app (goodIn_of _ (by decide +kernel)) ggL_law_X7_register
set_option maxRecDepth 20000 in
theorem ggL_law_L_group : GoodIn wsL_law wsL_group := goodIn_ca (goodIn_r _ [553, 130, 554, 555, 556, 2, 557, 135, 136, 16, 558, 559, 560, 15, 561, 152, 562, 563, 564, 565, 42, 566, 567, 568, 569, 43, 570, 571, 572, 573, 574, 575, 576, 577, 578, 579, 580, 581, 582, 583, 852, 853, 854, 855, 856, 857, 858, 871, 872, 873, 874, 875, 876, 877, 878, 879, 880] (by decide +kernel) (by decide +kernel)) (goodIn_sub (fun _ h => List.mem_append_left _ (List.mem_append_left _ (List.mem_append_right _ h))) (by decide +kernel))
set_option maxRecDepth 20000 in
theorem gL_law_L_group : GoodIn wsL_law (va_wsS RL 135 yL_group wsL_group) := goodIn_app (goodIn_of _ (by decide +kernel)) ggL_law_L_group
set_option maxRecDepth 20000 in
theorem ggL_law_X7_group : GoodIn wsL_law wsX7_group := goodIn_r _ [587, 167, 588, 105, 169, 170, 5, 171, 172, 173, 174, 175, 589, 590, 591, 592, 593, 594, 595, 596, 123, 124, 125, 536, 537, 538, 539, 859, 860, 861, 862, 863, 864, 865, 866, 867, 868, 869, 870] (by decide +kernel) (by decide +kernel)
set_option maxRecDepth 20000 in
theorem gL_law_X7_group : GoodIn wsL_law (wsV RL 137 RX7 yX7_group wsX7_group) := goodIn_app (goodIn_of _ (by decide +kernel)) ggL_law_X7_group
set_option maxRecDepth 20000 in
theorem ggL_law_L_difference : GoodIn wsL_law wsL_difference := goodIn_ca (goodIn_ca (goodIn_r _ [599, 130, 240, 600, 601, 602, 2, 603, 135, 136, 245, 246, 16, 28, 302, 303, 304, 15, 305, 152, 604, 82, 83, 27, 84, 85, 605, 90, 91, 92, 72, 606, 98, 99, 100, 607, 94, 95, 96, 852, 853, 854, 855, 856, 857, 858, 871, 872, 873, 874, 875, 876, 877, 878, 879, 880, 885, 886] (by decide +kernel) (by decide +kernel)) (goodIn_sub (fun _ h => List.mem_append_left _ (List.mem_append_left _ (List.mem_append_right _ h))) (by decide +kernel))) (goodIn_sub (fun _ h => List.mem_append_right _ h) (by decide +kernel))
set_option maxRecDepth 20000 in
theorem gL_law_L_difference : GoodIn wsL_law (va_wsS RL 138 yL_difference wsL_difference) := goodIn_app (goodIn_of _ (by decide +kernel)) ggL_law_L_difference
set_option maxRecDepth 20000 in
theorem ggL_law_X7_difference : GoodIn wsL_law wsX7_difference := goodIn_r _ [611, 167, 111, 169, 170, 5, 171, 172, 173, 174, 175, 314, 315, 316, 317, 105, 612, 613, 614, 615, 859, 860, 861, 862, 863, 864, 865, 866, 867, 868, 869, 870] (by decide +kernel) (by decide +kernel)
set_option maxRecDepth 20000 in
theorem gL_law_X7_difference : GoodIn wsL_law (wsV RL 140 RX7 yX7_difference wsX7_difference) := goodIn_app (goodIn_of _ (by decide +kernel)) ggL_law_X7_difference
set_option maxRecDepth 20000 in
theorem ggL_law_L_wear : GoodIn wsL_law wsL_wear := goodIn_ca (goodIn_r _ [618, 240, 619, 620, 621, 2, 622, 245, 246, 16, 325, 326, 327, 852, 853, 854, 855, 856, 857, 858, 871, 872, 873, 874, 875, 876, 877, 878, 879, 880, 888, 889, 890] (by decide +kernel) (by decide +kernel)) (goodIn_sub (fun _ h => List.mem_append_right _ h) (by decide +kernel))
set_option maxRecDepth 20000 in
theorem gL_law_L_wear : GoodIn wsL_law (va_wsS RL 141 yL_wear wsL_wear) := goodIn_app (goodIn_of _ (by decide +kernel)) ggL_law_L_wear
set_option maxRecDepth 20000 in
theorem ggL_law_X7_wear : GoodIn wsL_law wsX7_wear := goodIn_r _ [626, 167, 272, 105, 169, 170, 5, 171, 172, 173, 174, 175, 859, 860, 861, 862, 863, 864, 865, 866, 867, 868, 869, 870] (by decide +kernel) (by decide +kernel)
set_option maxRecDepth 20000 in
theorem gL_law_X7_wear : GoodIn wsL_law (wsV RL 143 RX7 yX7_wear wsX7_wear) := goodIn_app (goodIn_of _ (by decide +kernel)) ggL_law_X7_wear
set_option maxRecDepth 20000 in
theorem ggL_law_L_count : GoodIn wsL_law wsL_count := goodIn_ca (goodIn_r _ [629, 130, 630, 631, 632, 2, 633, 135, 136, 16, 20, 576, 577, 578, 15, 579, 580, 581, 582, 583, 42, 43, 634, 635, 636, 637, 152, 558, 559, 560, 561, 638, 639, 640, 641, 41, 642, 643, 571, 572, 573, 574, 563, 564, 565, 575, 567, 568, 569, 644, 645, 646, 647, 45, 283, 284, 285, 286, 32, 73, 74, 75, 76, 28, 77, 78, 79, 31, 80, 53, 81, 82, 83, 27, 84, 85, 86, 87, 88, 89, 90, 91, 92, 72, 93, 94, 95, 96, 97, 98, 99, 100, 287, 288, 289, 290, 852, 853, 854, 855, 856, 857, 858, 871, 872, 873, 874, 875, 876, 877, 878, 879, 880, 888, 889, 890, 881, 882, 887, 885, 886] (by decide +kernel) (by decide +kernel)) (goodIn_sub (fun _ h => List.mem_append_left _ (List.mem_append_left _ (List.mem_append_right _ h))) (by decide +kernel))
set_option maxRecDepth 20000 in
theorem gL_law_L_count : GoodIn wsL_law (va_wsS RL 144 yL_count wsL_count) := goodIn_app (goodIn_of _ (by decide +kernel)) ggL_law_L_count
set_option maxRecDepth 20000 in
theorem ggL_law_X7_count : GoodIn wsL_law wsX7_count := goodIn_r _ [651, 167, 652, 169, 170, 5, 171, 653, 654, 655, 656, 105, 180, 657, 658, 659, 660, 536, 537, 538, 539, 123, 124, 125, 661, 662, 663, 664, 117, 118, 119, 120, 121, 122, 589, 590, 591, 592, 665, 666, 667, 668, 593, 594, 595, 596, 172, 173, 174, 175, 859, 860, 861, 862, 863, 864, 865, 866, 867, 868, 869, 870] (by decide +kernel) (by decide +kernel)
set_option maxRecDepth 20000 in
theorem gL_law_X7_count : GoodIn wsL_law (wsV RL 146 RX7 yX7_count wsX7_count) := goodIn_app (goodIn_of _ (by decide +kernel)) ggL_law_X7_count
set_option maxRecDepth 20000 in
theorem ggL_law_L_setting : GoodIn wsL_law wsL_setting := goodIn_ca (goodIn_r _ [671, 240, 672, 673, 674, 2, 675, 245, 246, 347, 348, 349, 350, 351, 352, 353, 16, 852, 853, 854, 855, 856, 857, 858, 871, 872, 873, 874, 875, 876, 877, 878, 879, 880, 888, 889, 890] (by decide +kernel) (by decide +kernel)) (goodIn_sub (fun _ h => List.mem_append_right _ h) (by decide +kernel))
set_option maxRecDepth 20000 in
theorem gL_law_L_setting : GoodIn wsL_law (va_wsS RL 147 yL_setting wsL_setting) := goodIn_app (goodIn_of _ (by decide +kernel)) ggL_law_L_setting
set_option maxRecDepth 20000 in
theorem ggL_law_X7_setting : GoodIn wsL_law wsX7_setting := goodIn_r _ [679, 167, 105, 169, 170, 5, 171, 172, 173, 174, 175, 859, 860, 861, 862, 863, 864, 865, 866, 867, 868, 869, 870] (by decide +kernel) (by decide +kernel)
set_option maxRecDepth 20000 in
theorem gL_law_X7_setting : GoodIn wsL_law (wsV RL 149 RX7 yX7_setting wsX7_setting) := goodIn_app (goodIn_of _ (by decide +kernel)) ggL_law_X7_setting
set_option maxRecDepth 20000 in
theorem ggL_law_L_guess : GoodIn wsL_law wsL_guess := goodIn_ca (goodIn_r _ [682, 130, 683, 684, 685, 2, 686, 135, 136, 16, 28, 687, 634, 635, 636, 15, 637, 152, 580, 581, 582, 583, 42, 43, 688, 689, 690, 691, 604, 82, 83, 27, 84, 85, 523, 524, 525, 526, 605, 90, 91, 92, 72, 692, 693, 694, 695, 606, 98, 99, 100, 607, 94, 95, 96, 852, 853, 854, 855, 856, 857, 858, 871, 872, 873, 874, 875, 876, 877, 878, 879, 880, 885, 886] (by decide +kernel) (by decide +kernel)) (goodIn_sub (fun _ h => List.mem_append_left _ (List.mem_append_left _ (List.mem_append_right _ h))) (by decide +kernel))
set_option maxRecDepth 20000 in
theorem gL_law_L_guess : GoodIn wsL_law (va_wsS RL 150 yL_guess wsL_guess) := goodIn_app (goodIn_of _ (by decide +kernel)) ggL_law_L_guess
set_option maxRecDepth 20000 in
theorem ggL_law_X7_guess : GoodIn wsL_law wsX7_guess := goodIn_r _ [699, 167, 113, 169, 170, 5, 171, 700, 701, 702, 703, 704, 110, 661, 662, 663, 664, 105, 536, 537, 538, 539, 123, 124, 125, 705, 706, 707, 708, 172, 173, 174, 175, 859, 860, 861, 862, 863, 864, 865, 866, 867, 868, 869, 870] (by decide +kernel) (by decide +kernel)
set_option maxRecDepth 20000 in
theorem gL_law_X7_guess : GoodIn wsL_law (wsV RL 152 RX7 yX7_guess wsX7_guess) := goodIn_app (goodIn_of _ (by decide +kernel)) ggL_law_X7_guess
set_option maxRecDepth 20000 in
theorem ggL_law_L_ifPrinted : GoodIn wsL_law wsL_ifPrinted := goodIn_ca (goodIn_r _ [711, 130, 712, 713, 714, 2, 715, 135, 136, 33, 16, 37, 716, 155, 156, 31, 157, 53, 717, 159, 160, 36, 161, 57, 58, 162, 718, 204, 205, 206, 719, 213, 214, 215, 216, 720, 208, 209, 15, 210, 151, 150, 211, 87, 88, 852, 853, 854, 855, 856, 857, 858, 871, 872, 873, 874, 875, 876, 877, 878, 879, 880, 887, 888, 889, 890] (by decide +kernel) (by decide +kernel)) (goodIn_sub (fun _ h => List.mem_append_left _ (List.mem_append_left _ (List.mem_append_right _ h))) (by decide +kernel))
set_option maxRecDepth 20000 in
theorem gL_law_L_ifPrinted : GoodIn wsL_law (va_wsS RL 153 yL_ifPrinted wsL_ifPrinted) := goodIn_app (goodIn_of _ (by decide +kernel)) ggL_law_L_ifPrinted
set_option maxRecDepth 20000 in
theorem ggL_law_X7_ifPrinted : GoodIn wsL_law wsX7_ifPrinted := goodIn_r _ [724, 167, 225, 113, 169, 170, 5, 171, 725, 726, 727, 728, 106, 105, 123, 124, 125, 230, 231, 232, 233, 234, 235, 236, 172, 173, 174, 175, 859, 860, 861, 862, 863, 864, 865, 866, 867, 868, 869, 870] (by decide +kernel) (by decide +kernel)
set_option maxRecDepth 20000 in
theorem gL_law_X7_ifPrinted : GoodIn wsL_law (wsV RL 155 RX7 yX7_ifPrinted wsX7_ifPrinted) := goodIn_app (goodIn_of _ (by decide +kernel)) ggL_law_X7_ifPrinted
set_option maxRecDepth 20000 in
theorem ggL_law_X6_bestGroup : GoodIn wsL_law wsX6_bestGroup := goodIn_r _ [732, 16, 733, 734, 735, 15, 736, 152, 642, 559, 560, 561, 737, 577, 578, 579, 580, 581, 582, 583, 42, 43, 643, 571, 572, 573, 574, 563, 564, 565, 575, 567, 568, 569, 852, 853, 854, 855, 856, 857, 858, 871, 872, 873, 874, 875, 876, 877, 878, 879, 880] (by decide +kernel) (by decide +kernel)
set_option maxRecDepth 20000 in
theorem gL_law_X6_bestGroup : GoodIn wsL_law (wsV RL 156 RX6 yX6_bestGroup wsX6_bestGroup) := goodIn_app (goodIn_of _ (by decide +kernel)) ggL_law_X6_bestGroup
set_option maxRecDepth 20000 in
theorem ggL_law_X7_bestGroup : GoodIn wsL_law wsX7_bestGroup := goodIn_r _ [741, 167, 742, 743, 744, 5, 745, 746, 747, 748, 749, 105, 536, 537, 538, 539, 123, 124, 125, 589, 590, 591, 592, 593, 594, 595, 596, 859, 860, 861, 862, 863, 864, 865, 866, 867, 868, 869, 870] (by decide +kernel) (by decide +kernel)
set_option maxRecDepth 20000 in
theorem gL_law_X7_bestGroup : GoodIn wsL_law (wsV RL 159 RX7 yX7_bestGroup wsX7_bestGroup) := goodIn_app (goodIn_of _ (by decide +kernel)) ggL_law_X7_bestGroup
set_option maxRecDepth 20000 in
theorem ggL_law_X6_mostWorn : GoodIn wsL_law wsX6_mostWorn := goodIn_r _ [753, 16, 852, 853, 854, 855, 856, 857, 858, 871, 872, 873, 874, 875, 876, 877, 878, 879, 880, 888, 889, 890] (by decide +kernel) (by decide +kernel)
set_option maxRecDepth 20000 in
theorem gL_law_X6_mostWorn : GoodIn wsL_law (wsV RL 160 RX6 yX6_mostWorn wsX6_mostWorn) := goodIn_app (goodIn_of _ (by decide +kernel)) ggL_law_X6_mostWorn
set_option maxRecDepth 20000 in
theorem ggL_law_X7_mostWorn : GoodIn wsL_law wsX7_mostWorn := goodIn_r _ [757, 167, 758, 759, 760, 5, 761, 105, 859, 860, 861, 862, 863, 864, 865, 866, 867, 868, 869, 870] (by decide +kernel) (by decide +kernel)
set_option maxRecDepth 20000 in
theorem gL_law_X7_mostWorn : GoodIn wsL_law (wsV RL 163 RX7 yX7_mostWorn wsX7_mostWorn) := goodIn_app (goodIn_of _ (by decide +kernel)) ggL_law_X7_mostWorn
set_option maxRecDepth 20000 in
theorem ggL_law_X6_rightness : GoodIn wsL_law wsX6_rightness := goodIn_r _ [765, 16, 766, 767, 768, 15, 769, 152, 45, 580, 581, 582, 583, 42, 43, 852, 853, 854, 855, 856, 857, 858, 871, 872, 873, 874, 875, 876, 877, 878, 879, 880] (by decide +kernel) (by decide +kernel)
set_option maxRecDepth 20000 in
theorem gL_law_X6_rightness : GoodIn wsL_law (wsV RL 164 RX6 yX6_rightness wsX6_rightness) := goodIn_app (goodIn_of _ (by decide +kernel)) ggL_law_X6_rightness
set_option maxRecDepth 20000 in
theorem ggL_law_X7_rightness : GoodIn wsL_law wsX7_rightness := goodIn_r _ [773, 167, 774, 775, 776, 5, 777, 105, 536, 537, 538, 539, 123, 124, 125, 859, 860, 861, 862, 863, 864, 865, 866, 867, 868, 869, 870] (by decide +kernel) (by decide +kernel)
set_option maxRecDepth 20000 in
theorem gL_law_X7_rightness : GoodIn wsL_law (wsV RL 168 RX7 yX7_rightness wsX7_rightness) := goodIn_app (goodIn_of _ (by decide +kernel)) ggL_law_X7_rightness
set_option maxRecDepth 20000 in
theorem ggL_law_X6_digest : GoodIn wsL_law wsX6_digest := goodIn_ca (goodIn_ca (goodIn_r _ [781, 782, 783, 784, 785, 2, 786, 787, 631, 632, 633, 135, 136, 16, 20, 576, 577, 578, 15, 579, 580, 581, 582, 583, 42, 43, 634, 635, 636, 637, 152, 558, 559, 560, 561, 638, 639, 640, 641, 41, 642, 643, 571, 572, 573, 574, 563, 564, 565, 575, 567, 568, 569, 644, 645, 646, 647, 45, 283, 284, 285, 286, 32, 73, 74, 75, 76, 28, 77, 78, 79, 31, 80, 53, 81, 82, 83, 27, 84, 85, 86, 87, 88, 89, 90, 91, 92, 72, 93, 94, 95, 96, 97, 98, 99, 100, 287, 288, 289, 290, 788, 789, 790, 791, 350, 351, 352, 353, 792, 793, 794, 795, 796, 797, 798, 799, 800, 520, 521, 522, 245, 246, 302, 303, 304, 305, 523, 524, 525, 526, 801, 802, 803, 804, 805, 555, 556, 557, 562, 566, 570, 806, 807, 808, 809, 810, 601, 602, 603, 604, 605, 606, 607, 811, 812, 813, 814, 815, 816, 817, 818, 819, 684, 685, 686, 687, 688, 689, 690, 691, 692, 693, 694, 695, 820, 713, 714, 715, 33, 37, 716, 155, 156, 157, 717, 159, 160, 36, 161, 57, 58, 162, 718, 204, 205, 206, 719, 213, 214, 215, 216, 720, 208, 209, 210, 151, 150, 211, 821, 730, 731, 732, 733, 734, 735, 736, 737, 822, 751, 752, 753, 823, 763, 764, 765, 766, 767, 768, 769, 824, 825, 826, 827, 828, 829, 830, 831, 832, 833, 24, 475, 468, 469, 23, 470, 374, 68, 852, 853, 854, 855, 856, 857, 858, 871, 872, 873, 874, 875, 876, 877, 878, 879, 880, 888, 889, 890, 881, 882, 887, 885, 886, 883, 884] (by decide +kernel) (by decide +kernel)) (goodIn_sub (fun _ h => List.mem_append_left _ (List.mem_append_left _ (List.mem_append_right _ h))) (by decide +kernel))) (goodIn_sub (fun _ h => List.mem_append_right _ h) (by decide +kernel))
set_option maxRecDepth 20000 in
theorem gL_law_X6_digest : GoodIn wsL_law (wsV RL 169 RX6 yX6_digest wsX6_digest) := goodIn_app (goodIn_of _ (by decide +kernel)) ggL_law_X6_digest
set_option maxRecDepth 20000 in
theorem ggL_law_X7_digest : GoodIn wsL_law wsX7_digest := goodIn_r _ [837, 167, 838, 839, 105, 385, 108, 653, 654, 655, 5, 656, 180, 657, 658, 659, 660, 536, 537, 538, 539, 123, 124, 125, 661, 662, 663, 664, 117, 118, 119, 120, 121, 122, 589, 590, 591, 592, 665, 666, 667, 668, 593, 594, 595, 596, 532, 533, 534, 535, 612, 613, 614, 615, 700, 701, 702, 703, 704, 110, 705, 706, 707, 708, 725, 726, 727, 728, 106, 230, 231, 232, 233, 234, 235, 236, 742, 743, 744, 745, 746, 747, 748, 749, 758, 759, 760, 761, 774, 775, 776, 777, 840, 841, 842, 843, 844, 845, 846, 847, 848, 849, 850, 851, 859, 860, 861, 862, 863, 864, 865, 866, 867, 868, 869, 870] (by decide +kernel) (by decide +kernel)
set_option maxRecDepth 20000 in
theorem gL_law_X7_digest : GoodIn wsL_law (wsV RL 173 RX7 yX7_digest wsX7_digest) := goodIn_app (goodIn_of _ (by decide +kernel)) ggL_law_X7_digest
