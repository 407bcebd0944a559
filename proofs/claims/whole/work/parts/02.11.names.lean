set_option maxRecDepth 20000 in
theorem gL_law_X6_init : GoodIn wsL_law (wsX6_init) := ggL_law_X6_init
set_option maxRecDepth 20000 in
theorem ggL_law_X7_init : GoodIn wsL_law wsX7_init := goodIn_r _ [51, 52, 11, 12, 29, 53, 54, 55, 56, 57, 58, 59, 60, 61, 62, 63, 64, 65, 66, 67, 68, 69, 70, 71, 72, 73, 74, 75, 76, 77, 6, 78, 79, 80, 81, 82, 83, 84, 85, 86, 690, 691, 692, 693, 694, 695, 696, 697, 698, 699, 700, 701, 702, 703, 704, 705, 706, 707, 708, 709, 710, 711, 712, 713, 714, 715, 716, 717, 718, 719, 720, 721, 722, 723, 724, 725, 726, 727, 728, 729] (by decide +kernel) (by decide +kernel)
set_option maxRecDepth 20000 in
theorem gL_law_X7_init : GoodIn wsL_law (wsX7_init) := ggL_law_X7_init
set_option maxRecDepth 20000 in
theorem ggL_law_L_pass : GoodIn wsL_law wsL_pass := goodIn_ca (goodIn_ca (goodIn_r _ [90, 91, 92, 93, 94, 95, 2, 96, 97, 98, 99, 100, 13, 670, 671, 672, 673, 674, 675, 676, 677, 678, 679, 680, 681, 682, 683, 684, 685, 686, 687, 688, 689] (by decide +kernel) (by decide +kernel)) (goodIn_sub (fun _ h => List.mem_append_left _ (List.mem_append_left _ (List.mem_append_right _ h))) (by decide +kernel))) (goodIn_sub (fun _ h => List.mem_append_left _ (List.mem_append_right _ h)) (by decide +kernel))
set_option maxRecDepth 20000 in
theorem gL_law_L_pass : GoodIn wsL_law (va_wsS RL 96 yL_pass wsL_pass) := goodIn_app (goodIn_of _ (by decide +kernel)) ggL_law_L_pass
set_option maxRecDepth 20000 in
theorem ggL_law_X7_pass : GoodIn wsL_law wsX7_pass := goodIn_r _ [104, 105, 106, 107, 5, 108, 109, 110, 111, 112, 113, 690, 691, 692, 693, 694, 695, 696, 697, 698, 699, 700, 701, 702, 703, 704, 705, 706, 707, 708, 709, 710, 711, 712, 713, 714, 715, 716, 717, 718, 719, 720, 721, 722, 723, 724, 725, 726, 727, 728, 729] (by decide +kernel) (by decide +kernel)
set_option maxRecDepth 20000 in
theorem gL_law_X7_pass : GoodIn wsL_law (wsV RL 101 RX7 yX7_pass wsX7_pass) := goodIn_app (goodIn_of _ (by decide +kernel)) ggL_law_X7_pass
set_option maxRecDepth 20000 in
theorem ggL_law_X7_thrown : GoodIn wsL_law wsX7_thrown := goodIn_r _ [117, 113, 690, 691, 692, 693, 694, 695, 696, 697, 698, 699, 700, 701, 702, 703, 704, 705, 706, 707, 708, 709, 710, 711, 712, 713, 714, 715, 716, 717, 718, 719, 720, 721, 722, 723, 724, 725, 726, 727, 728, 729] (by decide +kernel) (by decide +kernel)
set_option maxRecDepth 20000 in
theorem gL_law_X7_thrown : GoodIn wsL_law (wsV RL 102 RX7 yX7_thrown wsX7_thrown) := goodIn_app (goodIn_of _ (by decide +kernel)) ggL_law_X7_thrown
set_option maxRecDepth 20000 in
theorem ggL_law_L_tract : GoodIn wsL_law wsL_tract := goodIn_ca (goodIn_ca (goodIn_ca (goodIn_r _ [120, 121, 91, 92, 122, 123, 124, 2, 125, 126, 127, 97, 98, 99, 100, 16, 15, 14, 128, 129, 130, 131, 132, 133, 134, 135, 136, 11, 12, 137, 138, 139, 670, 671, 672, 673, 674, 675, 676, 677, 678, 679, 680, 681, 682, 683, 684, 685, 686, 687, 688, 689, 733, 734, 735] (by decide +kernel) (by decide +kernel)) (goodIn_sub (fun _ h => List.mem_append_right _ h) (by decide +kernel))) (goodIn_sub (fun _ h => List.mem_append_left _ (List.mem_append_left _ (List.mem_append_right _ h))) (by decide +kernel))) (goodIn_sub (fun _ h => List.mem_append_left _ (List.mem_append_right _ h)) (by decide +kernel))
set_option maxRecDepth 20000 in
theorem gL_law_L_tract : GoodIn wsL_law (va_wsS RL 106 yL_tract wsL_tract) := goodIn_app (goodIn_of _ (by decide +kernel)) ggL_law_L_tract
set_option maxRecDepth 20000 in
theorem ggL_law_X7_tract : GoodIn wsL_law wsX7_tract := goodIn_r _ [143, 144, 53, 54, 145, 146, 5, 147, 106, 107, 108, 109, 110, 111, 112, 113, 690, 691, 692, 693, 694, 695, 696, 697, 698, 699, 700, 701, 702, 703, 704, 705, 706, 707, 708, 709, 710, 711, 712, 713, 714, 715, 716, 717, 718, 719, 720, 721, 722, 723, 724, 725, 726, 727, 728, 729] (by decide +kernel) (by decide +kernel)
set_option maxRecDepth 20000 in
theorem gL_law_X7_tract : GoodIn wsL_law (wsV RL 109 RX7 yX7_tract wsX7_tract) := goodIn_app (goodIn_of _ (by decide +kernel)) ggL_law_X7_tract
set_option maxRecDepth 20000 in
theorem ggL_law_L_deed : GoodIn wsL_law wsL_deed := goodIn_ca (goodIn_ca (goodIn_ca (goodIn_r _ [150, 121, 91, 92, 151, 152, 153, 2, 154, 126, 127, 97, 98, 99, 100, 19, 18, 17, 155, 156, 13, 157, 158, 159, 160, 15, 130, 131, 132, 161, 162, 163, 164, 165, 166, 167, 168, 169, 170, 171, 172, 173, 174, 175, 176, 177, 178, 179, 180, 181, 182, 183, 184, 185, 186, 11, 12, 187, 188, 189, 190, 191, 192, 193, 194, 195, 35, 670, 671, 672, 673, 674, 675, 676, 677, 678, 679, 680, 681, 682, 683, 684, 685, 686, 687, 688, 689, 736, 737, 738, 739, 740, 733, 734, 735] (by decide +kernel) (by decide +kernel)) (goodIn_sub (fun _ h => List.mem_append_right _ h) (by decide +kernel))) (goodIn_sub (fun _ h => List.mem_append_left _ (List.mem_append_left _ (List.mem_append_right _ h))) (by decide +kernel))) (goodIn_sub (fun _ h => List.mem_append_left _ (List.mem_append_right _ h)) (by decide +kernel))
set_option maxRecDepth 20000 in
theorem gL_law_L_deed : GoodIn wsL_law (va_wsS RL 110 yL_deed wsL_deed) := goodIn_app (goodIn_of _ (by decide +kernel)) ggL_law_L_deed
set_option maxRecDepth 20000 in
theorem ggL_law_X7_deed : GoodIn wsL_law wsX7_deed := goodIn_r _ [199, 200, 105, 56, 57, 58, 59, 60, 201, 202, 203, 5, 204, 144, 106, 107, 108, 145, 146, 147, 205, 206, 207, 208, 209, 210, 211, 212, 54, 109, 110, 111, 112, 113, 690, 691, 692, 693, 694, 695, 696, 697, 698, 699, 700, 701, 702, 703, 704, 705, 706, 707, 708, 709, 710, 711, 712, 713, 714, 715, 716, 717, 718, 719, 720, 721, 722, 723, 724, 725, 726, 727, 728, 729] (by decide +kernel) (by decide +kernel)
set_option maxRecDepth 20000 in
theorem gL_law_X7_deed : GoodIn wsL_law (wsV RL 113 RX7 yX7_deed wsX7_deed) := goodIn_app (goodIn_of _ (by decide +kernel)) ggL_law_X7_deed
set_option maxRecDepth 20000 in
theorem ggL_law_L_title : GoodIn wsL_law wsL_title := goodIn_ca (goodIn_r _ [215, 121, 216, 217, 218, 2, 219, 126, 127, 157, 158, 159, 160, 15, 130, 131, 132, 161, 162, 163, 164, 13, 173, 174, 175, 176, 177, 18, 178, 179, 180, 181, 182, 670, 671, 672, 673, 674, 675, 676, 677, 678, 679, 680, 681, 682, 683, 684, 685, 686, 687, 688, 689, 733, 734, 735, 736, 737, 738, 739, 740] (by decide +kernel) (by decide +kernel)) (goodIn_sub (fun _ h => List.mem_append_right _ h) (by decide +kernel))
set_option maxRecDepth 20000 in
theorem gL_law_L_title : GoodIn wsL_law (va_wsS RL 114 yL_title wsL_title) := goodIn_app (goodIn_of _ (by decide +kernel)) ggL_law_L_title
set_option maxRecDepth 20000 in
theorem ggL_law_X7_title : GoodIn wsL_law wsX7_title := goodIn_r _ [223, 201, 202, 203, 5, 204, 144, 106, 107, 108, 145, 146, 147, 205, 206, 207, 208, 105, 109, 110, 111, 112, 113, 209, 210, 211, 212, 54, 200, 56, 60, 58, 59, 57, 690, 691, 692, 693, 694, 695, 696, 697, 698, 699, 700, 701, 702, 703, 704, 705, 706, 707, 708, 709, 710, 711, 712, 713, 714, 715, 716, 717, 718, 719, 720, 721, 722, 723, 724, 725, 726, 727, 728, 729] (by decide +kernel) (by decide +kernel)
set_option maxRecDepth 20000 in
theorem gL_law_X7_title : GoodIn wsL_law (wsV RL 117 RX7 yX7_title wsX7_title) := goodIn_app (goodIn_of _ (by decide +kernel)) ggL_law_X7_title
set_option maxRecDepth 20000 in
theorem ggL_law_L_lease : GoodIn wsL_law wsL_lease := goodIn_ca (goodIn_ca (goodIn_ca (goodIn_r _ [226, 121, 91, 92, 227, 228, 229, 2, 230, 126, 127, 97, 98, 99, 100, 22, 20, 231, 232, 13, 233, 234, 21, 157, 158, 159, 160, 15, 130, 131, 132, 235, 236, 237, 238, 11, 12, 239, 240, 241, 242, 243, 244, 192, 193, 194, 195, 35, 169, 170, 171, 172, 670, 671, 672, 673, 674, 675, 676, 677, 678, 679, 680, 681, 682, 683, 684, 685, 686, 687, 688, 689, 741, 742, 743, 744, 745, 746] (by decide +kernel) (by decide +kernel)) (goodIn_sub (fun _ h => List.mem_append_right _ h) (by decide +kernel))) (goodIn_sub (fun _ h => List.mem_append_left _ (List.mem_append_left _ (List.mem_append_right _ h))) (by decide +kernel))) (goodIn_sub (fun _ h => List.mem_append_left _ (List.mem_append_right _ h)) (by decide +kernel))
set_option maxRecDepth 20000 in
theorem gL_law_L_lease : GoodIn wsL_law (va_wsS RL 118 yL_lease wsL_lease) := goodIn_app (goodIn_of _ (by decide +kernel)) ggL_law_L_lease
set_option maxRecDepth 20000 in
theorem ggL_law_X7_lease : GoodIn wsL_law wsX7_lease := goodIn_r _ [248, 249, 61, 62, 63, 64, 65, 105, 66, 201, 202, 203, 5, 204, 144, 106, 107, 108, 145, 146, 147, 109, 110, 111, 112, 113, 690, 691, 692, 693, 694, 695, 696, 697, 698, 699, 700, 701, 702, 703, 704, 705, 706, 707, 708, 709, 710, 711, 712, 713, 714, 715, 716, 717, 718, 719, 720, 721, 722, 723, 724, 725, 726, 727, 728, 729] (by decide +kernel) (by decide +kernel)
set_option maxRecDepth 20000 in
theorem gL_law_X7_lease : GoodIn wsL_law (wsV RL 120 RX7 yX7_lease wsX7_lease) := goodIn_app (goodIn_of _ (by decide +kernel)) ggL_law_X7_lease
set_option maxRecDepth 20000 in
theorem ggL_law_L_isHeld : GoodIn wsL_law wsL_isHeld := goodIn_ca (goodIn_r _ [252, 121, 253, 254, 255, 2, 256, 126, 127, 21, 161, 162, 163, 164, 13, 257, 258, 259, 232, 260, 239, 241, 261, 240, 262, 670, 671, 672, 673, 674, 675, 676, 677, 678, 679, 680, 681, 682, 683, 684, 685, 686, 687, 688, 689, 741, 742, 743, 744, 745, 746, 733, 734, 735, 747, 748, 749, 750, 751, 752, 753] (by decide +kernel) (by decide +kernel)) (goodIn_sub (fun _ h => List.mem_append_right _ h) (by decide +kernel))
set_option maxRecDepth 20000 in
theorem gL_law_L_isHeld : GoodIn wsL_law (va_wsS RL 121 yL_isHeld wsL_isHeld) := goodIn_app (goodIn_of _ (by decide +kernel)) ggL_law_L_isHeld
set_option maxRecDepth 20000 in
theorem ggL_law_X7_isHeld : GoodIn wsL_law wsX7_isHeld := goodIn_r _ [266, 249, 106, 107, 5, 108, 205, 206, 207, 208, 105, 109, 110, 111, 112, 113, 267, 268, 269, 270, 65, 66, 55, 61, 271, 272, 273, 274, 275, 68, 69, 690, 691, 692, 693, 694, 695, 696, 697, 698, 699, 700, 701, 702, 703, 704, 705, 706, 707, 708, 709, 710, 711, 712, 713, 714, 715, 716, 717, 718, 719, 720, 721, 722, 723, 724, 725, 726, 727, 728, 729] (by decide +kernel) (by decide +kernel)
set_option maxRecDepth 20000 in
theorem gL_law_X7_isHeld : GoodIn wsL_law (wsV RL 123 RX7 yX7_isHeld wsX7_isHeld) := goodIn_app (goodIn_of _ (by decide +kernel)) ggL_law_X7_isHeld
set_option maxRecDepth 20000 in
theorem ggL_law_L_unit : GoodIn wsL_law wsL_unit := goodIn_ca (goodIn_ca (goodIn_r _ [278, 91, 92, 279, 280, 281, 2, 282, 97, 98, 99, 100, 16, 25, 23, 283, 284, 13, 15, 285, 24, 286, 287, 288, 289, 290, 291, 292, 293, 294, 295, 296, 11, 12, 29, 297, 298, 299, 300, 6, 301, 302, 303, 192, 193, 194, 195, 35, 169, 170, 171, 172, 670, 671, 672, 673, 674, 675, 676, 677, 678, 679, 680, 681, 682, 683, 684, 685, 686, 687, 688, 689, 747, 748, 749, 750, 751, 752, 753, 733, 734, 735] (by decide +kernel) (by decide +kernel)) (goodIn_sub (fun _ h => List.mem_append_left _ (List.mem_append_left _ (List.mem_append_right _ h))) (by decide +kernel))) (goodIn_sub (fun _ h => List.mem_append_left _ (List.mem_append_right _ h)) (by decide +kernel))
set_option maxRecDepth 20000 in
theorem gL_law_L_unit : GoodIn wsL_law (va_wsS RL 124 yL_unit wsL_unit) := goodIn_app (goodIn_of _ (by decide +kernel)) ggL_law_L_unit
set_option maxRecDepth 20000 in
theorem ggL_law_X7_unit : GoodIn wsL_law wsX7_unit := goodIn_r _ [307, 144, 308, 55, 67, 105, 109, 110, 111, 5, 112, 113, 690, 691, 692, 693, 694, 695, 696, 697, 698, 699, 700, 701, 702, 703, 704, 705, 706, 707, 708, 709, 710, 711, 712, 713, 714, 715, 716, 717, 718, 719, 720, 721, 722, 723, 724, 725, 726, 727, 728, 729] (by decide +kernel) (by decide +kernel)
set_option maxRecDepth 20000 in
theorem gL_law_X7_unit : GoodIn wsL_law (wsV RL 126 RX7 yX7_unit wsX7_unit) := goodIn_app (goodIn_of _ (by decide +kernel)) ggL_law_X7_unit
set_option maxRecDepth 20000 in
theorem ggL_law_L_well : GoodIn wsL_law wsL_well := goodIn_ca (goodIn_ca (goodIn_r _ [311, 121, 92, 312, 313, 314, 2, 315, 126, 127, 99, 100, 28, 27, 26, 316, 317, 318, 319, 320, 321, 24, 322, 323, 324, 325, 11, 12, 29, 326, 327, 328, 329, 670, 671, 672, 673, 674, 675, 676, 677, 678, 679, 680, 681, 682, 683, 684, 685, 686, 687, 688, 689, 754, 755, 756, 757] (by decide +kernel) (by decide +kernel)) (goodIn_sub (fun _ h => List.mem_append_right _ h) (by decide +kernel))) (goodIn_sub (fun _ h => List.mem_append_left _ (List.mem_append_right _ h)) (by decide +kernel))
set_option maxRecDepth 20000 in
theorem gL_law_L_well : GoodIn wsL_law (va_wsS RL 127 yL_well wsL_well) := goodIn_app (goodIn_of _ (by decide +kernel)) ggL_law_L_well
set_option maxRecDepth 20000 in
theorem ggL_law_X7_well : GoodIn wsL_law wsX7_well := goodIn_r _ [333, 308, 275, 68, 106, 107, 5, 108, 109, 110, 111, 112, 113, 690, 691, 692, 693, 694, 695, 696, 697, 698, 699, 700, 701, 702, 703, 704, 705, 706, 707, 708, 709, 710, 711, 712, 713, 714, 715, 716, 717, 718, 719, 720, 721, 722, 723, 724, 725, 726, 727, 728, 729] (by decide +kernel) (by decide +kernel)
set_option maxRecDepth 20000 in
theorem gL_law_X7_well : GoodIn wsL_law (wsV RL 129 RX7 yX7_well wsX7_well) := goodIn_app (goodIn_of _ (by decide +kernel)) ggL_law_X7_well
set_option maxRecDepth 20000 in
theorem ggL_law_L_oil : GoodIn wsL_law wsL_oil := goodIn_ca (goodIn_ca (goodIn_ca (goodIn_r _ [336, 121, 91, 92, 337, 338, 339, 2, 340, 126, 127, 97, 98, 99, 100, 341, 342, 343, 344, 345, 346, 347, 27, 161, 162, 163, 164, 13, 348, 349, 350, 317, 351, 329, 352, 326, 353, 327, 192, 193, 194, 195, 35, 169, 170, 171, 172, 754, 755, 756, 757, 747, 748, 749, 750, 751, 752, 753, 670, 671, 672, 673, 674, 675, 676, 677, 678, 679, 680, 681, 682, 683, 684, 685, 686, 687, 688, 689] (by decide +kernel) (by decide +kernel)) (goodIn_sub (fun _ h => List.mem_append_right _ h) (by decide +kernel))) (goodIn_sub (fun _ h => List.mem_append_left _ (List.mem_append_left _ (List.mem_append_right _ h))) (by decide +kernel))) (goodIn_sub (fun _ h => List.mem_append_left _ (List.mem_append_right _ h)) (by decide +kernel))
set_option maxRecDepth 20000 in
theorem gL_law_L_oil : GoodIn wsL_law (va_wsS RL 130 yL_oil wsL_oil) := goodIn_app (goodIn_of _ (by decide +kernel)) ggL_law_L_oil
set_option maxRecDepth 20000 in
theorem ggL_law_X7_oil : GoodIn wsL_law wsX7_oil := goodIn_r _ [357, 67, 68, 69, 70, 358, 359, 360, 5, 361, 275, 106, 107, 108, 205, 206, 207, 208, 105, 109, 110, 111, 112, 113, 690, 691, 692, 693, 694, 695, 696, 697, 698, 699, 700, 701, 702, 703, 704, 705, 706, 707, 708, 709, 710, 711, 712, 713, 714, 715, 716, 717, 718, 719, 720, 721, 722, 723, 724, 725, 726, 727, 728, 729] (by decide +kernel) (by decide +kernel)
set_option maxRecDepth 20000 in
theorem gL_law_X7_oil : GoodIn wsL_law (wsV RL 133 RX7 yX7_oil wsX7_oil) := goodIn_app (goodIn_of _ (by decide +kernel)) ggL_law_X7_oil
set_option maxRecDepth 20000 in
theorem ggL_law_L_cost : GoodIn wsL_law wsL_cost := goodIn_ca (goodIn_ca (goodIn_ca (goodIn_r _ [364, 121, 91, 92, 365, 366, 367, 2, 368, 126, 127, 97, 98, 99, 100, 369, 341, 342, 370, 371, 372, 344, 345, 346, 347, 27, 161, 162, 163, 164, 13, 192, 193, 194, 195, 35, 169, 170, 171, 172, 754, 755, 756, 757, 747, 748, 749, 750, 751, 752, 753, 670, 671, 672, 673, 674, 675, 676, 677, 678, 679, 680, 681, 682, 683, 684, 685, 686, 687, 688, 689] (by decide +kernel) (by decide +kernel)) (goodIn_sub (fun _ h => List.mem_append_right _ h) (by decide +kernel))) (goodIn_sub (fun _ h => List.mem_append_left _ (List.mem_append_left _ (List.mem_append_right _ h))) (by decide +kernel))) (goodIn_sub (fun _ h => List.mem_append_left _ (List.mem_append_right _ h)) (by decide +kernel))
set_option maxRecDepth 20000 in
theorem gL_law_L_cost : GoodIn wsL_law (va_wsS RL 134 yL_cost wsL_cost) := goodIn_app (goodIn_of _ (by decide +kernel)) ggL_law_L_cost
set_option maxRecDepth 20000 in
theorem ggL_law_X7_cost : GoodIn wsL_law wsX7_cost := goodIn_r _ [376, 377, 67, 68, 71, 378, 358, 359, 360, 5, 361, 275, 106, 107, 108, 205, 206, 207, 208, 105, 109, 110, 111, 112, 113, 690, 691, 692, 693, 694, 695, 696, 697, 698, 699, 700, 701, 702, 703, 704, 705, 706, 707, 708, 709, 710, 711, 712, 713, 714, 715, 716, 717, 718, 719, 720, 721, 722, 723, 724, 725, 726, 727, 728, 729] (by decide +kernel) (by decide +kernel)
set_option maxRecDepth 20000 in
theorem gL_law_X7_cost : GoodIn wsL_law (wsV RL 136 RX7 yX7_cost wsX7_cost) := goodIn_app (goodIn_of _ (by decide +kernel)) ggL_law_X7_cost
set_option maxRecDepth 20000 in
theorem ggL_law_L_tax : GoodIn wsL_law wsL_tax := goodIn_ca (goodIn_ca (goodIn_r _ [381, 121, 91, 382, 383, 384, 2, 385, 126, 127, 97, 98, 30, 161, 162, 163, 164, 13, 386, 387, 388, 389, 192, 193, 194, 195, 35, 169, 170, 171, 172, 670, 671, 672, 673, 674, 675, 676, 677, 678, 679, 680, 681, 682, 683, 684, 685, 686, 687, 688, 689] (by decide +kernel) (by decide +kernel)) (goodIn_sub (fun _ h => List.mem_append_right _ h) (by decide +kernel))) (goodIn_sub (fun _ h => List.mem_append_left _ (List.mem_append_left _ (List.mem_append_right _ h))) (by decide +kernel))
set_option maxRecDepth 20000 in
theorem gL_law_L_tax : GoodIn wsL_law (va_wsS RL 137 yL_tax wsL_tax) := goodIn_app (goodIn_of _ (by decide +kernel)) ggL_law_L_tax
set_option maxRecDepth 20000 in
theorem ggL_law_X7_tax : GoodIn wsL_law wsX7_tax := goodIn_r _ [393, 72, 205, 206, 207, 5, 208, 105, 106, 107, 108, 109, 110, 111, 112, 113, 394, 395, 396, 397, 690, 691, 692, 693, 694, 695, 696, 697, 698, 699, 700, 701, 702, 703, 704, 705, 706, 707, 708, 709, 710, 711, 712, 713, 714, 715, 716, 717, 718, 719, 720, 721, 722, 723, 724, 725, 726, 727, 728, 729] (by decide +kernel) (by decide +kernel)
set_option maxRecDepth 20000 in
theorem gL_law_X7_tax : GoodIn wsL_law (wsV RL 139 RX7 yX7_tax wsX7_tax) := goodIn_app (goodIn_of _ (by decide +kernel)) ggL_law_X7_tax
set_option maxRecDepth 20000 in
theorem ggL_law_L_consent : GoodIn wsL_law wsL_consent := goodIn_ca (goodIn_r _ [400, 121, 401, 402, 403, 2, 404, 126, 127, 405, 13, 318, 319, 320, 321, 24, 130, 131, 132, 290, 291, 292, 406, 407, 408, 192, 193, 194, 195, 35, 169, 170, 171, 172, 747, 748, 749, 750, 751, 752, 753, 670, 671, 672, 673, 674, 675, 676, 677, 678, 679, 680, 681, 682, 683, 684, 685, 686, 687, 688, 689] (by decide +kernel) (by decide +kernel)) (goodIn_sub (fun _ h => List.mem_append_right _ h) (by decide +kernel))
set_option maxRecDepth 20000 in
theorem gL_law_L_consent : GoodIn wsL_law (va_wsS RL 140 yL_consent wsL_consent) := goodIn_app (goodIn_of _ (by decide +kernel)) ggL_law_L_consent
set_option maxRecDepth 20000 in
theorem ggL_law_X7_consent : GoodIn wsL_law wsX7_consent := goodIn_r _ [412, 308, 105, 73, 106, 107, 5, 108, 145, 146, 147, 109, 110, 111, 112, 113, 413, 414, 415, 416, 690, 691, 692, 693, 694, 695, 696, 697, 698, 699, 700, 701, 702, 703, 704, 705, 706, 707, 708, 709, 710, 711, 712, 713, 714, 715, 716, 717, 718, 719, 720, 721, 722, 723, 724, 725, 726, 727, 728, 729] (by decide +kernel) (by decide +kernel)
set_option maxRecDepth 20000 in
theorem gL_law_X7_consent : GoodIn wsL_law (wsV RL 143 RX7 yX7_consent wsX7_consent) := goodIn_app (goodIn_of _ (by decide +kernel)) ggL_law_X7_consent
set_option maxRecDepth 20000 in
theorem ggL_law_L_penalty : GoodIn wsL_law wsL_penalty := goodIn_ca (goodIn_r _ [419, 91, 420, 421, 422, 2, 423, 97, 98, 31, 192, 193, 194, 195, 35, 169, 170, 171, 172, 670, 671, 672, 673, 674, 675, 676, 677, 678, 679, 680, 681, 682, 683, 684, 685, 686, 687, 688, 689] (by decide +kernel) (by decide +kernel)) (goodIn_sub (fun _ h => List.mem_append_left _ (List.mem_append_left _ (List.mem_append_right _ h))) (by decide +kernel))
set_option maxRecDepth 20000 in
theorem gL_law_L_penalty : GoodIn wsL_law (va_wsS RL 144 yL_penalty wsL_penalty) := goodIn_app (goodIn_of _ (by decide +kernel)) ggL_law_L_penalty
set_option maxRecDepth 20000 in
theorem ggL_law_X7_penalty : GoodIn wsL_law wsX7_penalty := goodIn_r _ [427, 74, 106, 107, 5, 108, 109, 110, 111, 112, 113, 690, 691, 692, 693, 694, 695, 696, 697, 698, 699, 700, 701, 702, 703, 704, 705, 706, 707, 708, 709, 710, 711, 712, 713, 714, 715, 716, 717, 718, 719, 720, 721, 722, 723, 724, 725, 726, 727, 728, 729] (by decide +kernel) (by decide +kernel)
set_option maxRecDepth 20000 in
theorem gL_law_X7_penalty : GoodIn wsL_law (wsV RL 146 RX7 yX7_penalty wsX7_penalty) := goodIn_app (goodIn_of _ (by decide +kernel)) ggL_law_X7_penalty
set_option maxRecDepth 20000 in
theorem ggL_law_L_interest : GoodIn wsL_law wsL_interest := goodIn_ca (goodIn_r _ [430, 121, 431, 432, 433, 2, 434, 126, 127, 40, 435, 436, 437, 438, 439, 440, 342, 13, 318, 319, 320, 321, 24, 130, 131, 132, 441, 442, 443, 444, 15, 285, 445, 446, 447, 39, 448, 46, 449, 450, 451, 452, 36, 453, 454, 455, 456, 457, 458, 459, 460, 461, 177, 18, 178, 179, 182, 181, 180, 462, 463, 464, 465, 21, 466, 467, 257, 258, 259, 232, 260, 239, 241, 261, 240, 262, 468, 469, 470, 471, 47, 48, 472, 473, 474, 475, 476, 670, 671, 672, 673, 674, 675, 676, 677, 678, 679, 680, 681, 682, 683, 684, 685, 686, 687, 688, 689, 730, 731, 732, 747, 748, 749, 750, 751, 752, 753, 733, 734, 735, 741, 742, 743, 744, 745, 746, 736, 737, 738, 739, 740] (by decide +kernel) (by decide +kernel)) (goodIn_sub (fun _ h => List.mem_append_right _ h) (by decide +kernel))
set_option maxRecDepth 20000 in
theorem gL_law_L_interest : GoodIn wsL_law (va_wsS RL 147 yL_interest wsL_interest) := goodIn_app (goodIn_of _ (by decide +kernel)) ggL_law_L_interest
set_option maxRecDepth 20000 in
theorem ggL_law_X7_interest : GoodIn wsL_law wsX7_interest := goodIn_r _ [480, 80, 79, 481, 81, 482, 483, 484, 5, 485, 308, 67, 105, 106, 107, 108, 145, 146, 147, 109, 110, 111, 112, 113, 486, 487, 488, 489, 144, 55, 53, 490, 64, 63, 209, 210, 211, 212, 54, 200, 56, 60, 58, 59, 57, 491, 492, 493, 494, 249, 61, 62, 267, 268, 269, 270, 65, 66, 271, 272, 273, 274, 275, 68, 69, 495, 496, 497, 498, 82, 499, 690, 691, 692, 693, 694, 695, 696, 697, 698, 699, 700, 701, 702, 703, 704, 705, 706, 707, 708, 709, 710, 711, 712, 713, 714, 715, 716, 717, 718, 719, 720, 721, 722, 723, 724, 725, 726, 727, 728, 729] (by decide +kernel) (by decide +kernel)
set_option maxRecDepth 20000 in
theorem gL_law_X7_interest : GoodIn wsL_law (wsV RL 150 RX7 yX7_interest wsX7_interest) := goodIn_app (goodIn_of _ (by decide +kernel)) ggL_law_X7_interest
set_option maxRecDepth 20000 in
theorem ggL_law_L_revenue : GoodIn wsL_law wsL_revenue := goodIn_ca (goodIn_r _ [502, 121, 503, 504, 505, 2, 506, 126, 127, 437, 438, 439, 440, 342, 13, 318, 319, 320, 321, 24, 507, 508, 509, 510, 511, 512, 386, 387, 388, 389, 30, 747, 748, 749, 750, 751, 752, 753, 670, 671, 672, 673, 674, 675, 676, 677, 678, 679, 680, 681, 682, 683, 684, 685, 686, 687, 688, 689] (by decide +kernel) (by decide +kernel)) (goodIn_sub (fun _ h => List.mem_append_right _ h) (by decide +kernel))
set_option maxRecDepth 20000 in
theorem gL_law_L_revenue : GoodIn wsL_law (va_wsS RL 151 yL_revenue wsL_revenue) := goodIn_app (goodIn_of _ (by decide +kernel)) ggL_law_L_revenue
set_option maxRecDepth 20000 in
theorem ggL_law_X7_revenue : GoodIn wsL_law wsX7_revenue := goodIn_r _ [516, 482, 483, 484, 5, 485, 308, 67, 105, 106, 107, 108, 109, 110, 111, 112, 113, 517, 518, 519, 520, 275, 68, 69, 70, 521, 394, 395, 396, 397, 72, 690, 691, 692, 693, 694, 695, 696, 697, 698, 699, 700, 701, 702, 703, 704, 705, 706, 707, 708, 709, 710, 711, 712, 713, 714, 715, 716, 717, 718, 719, 720, 721, 722, 723, 724, 725, 726, 727, 728, 729] (by decide +kernel) (by decide +kernel)
set_option maxRecDepth 20000 in
theorem gL_law_X7_revenue : GoodIn wsL_law (wsV RL 153 RX7 yX7_revenue wsX7_revenue) := goodIn_app (goodIn_of _ (by decide +kernel)) ggL_law_X7_revenue
set_option maxRecDepth 20000 in
theorem ggL_law_L_due : GoodIn wsL_law wsL_due := goodIn_ca (goodIn_r _ [524, 121, 525, 526, 527, 2, 528, 126, 127, 529, 437, 438, 439, 440, 342, 13, 318, 319, 320, 321, 24, 130, 131, 132, 530, 531, 532, 533, 35, 534, 535, 536, 537, 511, 372, 538, 539, 540, 284, 541, 301, 302, 303, 441, 442, 443, 444, 40, 15, 285, 445, 446, 447, 39, 448, 46, 449, 450, 451, 452, 36, 453, 454, 455, 456, 457, 458, 459, 460, 461, 177, 18, 178, 179, 182, 181, 180, 462, 463, 464, 465, 21, 466, 467, 257, 258, 259, 232, 260, 239, 241, 261, 240, 262, 542, 543, 544, 545, 405, 546, 290, 291, 292, 406, 407, 408, 547, 548, 549, 550, 41, 436, 31, 512, 551, 552, 553, 554, 468, 469, 470, 471, 47, 48, 472, 473, 474, 475, 476, 555, 556, 557, 558, 559, 560, 171, 561, 507, 508, 509, 510, 386, 387, 388, 389, 30, 747, 748, 749, 750, 751, 752, 753, 670, 671, 672, 673, 674, 675, 676, 677, 678, 679, 680, 681, 682, 683, 684, 685, 686, 687, 688, 689, 733, 734, 735, 730, 731, 732, 741, 742, 743, 744, 745, 746, 736, 737, 738, 739, 740] (by decide +kernel) (by decide +kernel)) (goodIn_sub (fun _ h => List.mem_append_right _ h) (by decide +kernel))
set_option maxRecDepth 20000 in
theorem gL_law_L_due : GoodIn wsL_law (va_wsS RL 154 yL_due wsL_due) := goodIn_app (goodIn_of _ (by decide +kernel)) ggL_law_L_due
set_option maxRecDepth 20000 in
theorem ggL_law_X7_due : GoodIn wsL_law wsX7_due := goodIn_r _ [565, 85, 482, 483, 484, 5, 485, 308, 67, 105, 106, 107, 108, 145, 146, 147, 109, 110, 111, 112, 113, 566, 567, 568, 569, 84, 570, 571, 572, 573, 83, 81, 74, 521, 80, 79, 486, 487, 488, 489, 144, 55, 53, 490, 64, 63, 209, 210, 211, 212, 54, 200, 56, 60, 58, 59, 57, 491, 492, 493, 494, 249, 61, 62, 267, 268, 269, 270, 65, 66, 271, 272, 273, 274, 275, 68, 69, 574, 575, 576, 577, 413, 414, 415, 416, 73, 578, 579, 580, 581, 71, 582, 583, 584, 585, 495, 496, 497, 498, 82, 499, 517, 518, 519, 520, 70, 394, 395, 396, 397, 72, 690, 691, 692, 693, 694, 695, 696, 697, 698, 699, 700, 701, 702, 703, 704, 705, 706, 707, 708, 709, 710, 711, 712, 713, 714, 715, 716, 717, 718, 719, 720, 721, 722, 723, 724, 725, 726, 727, 728, 729] (by decide +kernel) (by decide +kernel)
set_option maxRecDepth 20000 in
theorem gL_law_X7_due : GoodIn wsL_law (wsV RL 156 RX7 yX7_due wsX7_due) := goodIn_app (goodIn_of _ (by decide +kernel)) ggL_law_X7_due
set_option maxRecDepth 20000 in
theorem ggL_law_L_balance : GoodIn wsL_law wsL_balance := goodIn_ca (goodIn_r _ [588, 121, 589, 590, 591, 2, 592, 126, 127, 546, 437, 438, 439, 440, 342, 13, 318, 319, 320, 321, 24, 130, 131, 132, 530, 531, 532, 533, 35, 534, 535, 536, 537, 511, 372, 538, 539, 540, 284, 541, 301, 302, 303, 441, 442, 443, 444, 40, 15, 285, 445, 446, 447, 39, 448, 46, 449, 450, 451, 452, 36, 453, 454, 455, 456, 457, 458, 459, 460, 461, 177, 18, 178, 179, 182, 181, 180, 462, 463, 464, 465, 21, 466, 467, 257, 258, 259, 232, 260, 239, 241, 261, 240, 262, 542, 543, 544, 545, 405, 290, 291, 292, 406, 407, 408, 547, 548, 549, 550, 41, 436, 31, 512, 529, 551, 552, 553, 554, 468, 469, 470, 471, 47, 48, 472, 473, 474, 475, 476, 555, 556, 557, 558, 559, 560, 171, 561, 507, 508, 509, 510, 386, 387, 388, 389, 30, 747, 748, 749, 750, 751, 752, 753, 670, 671, 672, 673, 674, 675, 676, 677, 678, 679, 680, 681, 682, 683, 684, 685, 686, 687, 688, 689, 733, 734, 735, 730, 731, 732, 741, 742, 743, 744, 745, 746, 736, 737, 738, 739, 740] (by decide +kernel) (by decide +kernel)) (goodIn_sub (fun _ h => List.mem_append_right _ h) (by decide +kernel))
set_option maxRecDepth 20000 in
theorem gL_law_L_balance : GoodIn wsL_law (va_wsS RL 157 yL_balance wsL_balance) := goodIn_app (goodIn_of _ (by decide +kernel)) ggL_law_L_balance
set_option maxRecDepth 20000 in
theorem ggL_law_X7_balance : GoodIn wsL_law wsX7_balance := goodIn_r _ [596, 84, 482, 483, 484, 5, 485, 308, 67, 105, 106, 107, 108, 145, 146, 147, 109, 110, 111, 112, 113, 566, 567, 568, 569, 570, 571, 572, 573, 83, 81, 74, 521, 85, 80, 79, 486, 487, 488, 489, 144, 55, 53, 490, 64, 63, 209, 210, 211, 212, 54, 200, 56, 60, 58, 59, 57, 491, 492, 493, 494, 249, 61, 62, 267, 268, 269, 270, 65, 66, 271, 272, 273, 274, 275, 68, 69, 574, 575, 576, 577, 413, 414, 415, 416, 73, 578, 579, 580, 581, 71, 582, 583, 584, 585, 495, 496, 497, 498, 82, 499, 517, 518, 519, 520, 70, 394, 395, 396, 397, 72, 690, 691, 692, 693, 694, 695, 696, 697, 698, 699, 700, 701, 702, 703, 704, 705, 706, 707, 708, 709, 710, 711, 712, 713, 714, 715, 716, 717, 718, 719, 720, 721, 722, 723, 724, 725, 726, 727, 728, 729] (by decide +kernel) (by decide +kernel)
set_option maxRecDepth 20000 in
theorem gL_law_X7_balance : GoodIn wsL_law (wsV RL 159 RX7 yX7_balance wsX7_balance) := goodIn_app (goodIn_of _ (by decide +kernel)) ggL_law_X7_balance
set_option maxRecDepth 20000 in
theorem ggL_law_L_agrees : GoodIn wsL_law wsL_agrees := goodIn_ca (goodIn_r _ [599, 121, 600, 601, 602, 2, 603, 126, 127, 529, 372, 437, 438, 439, 440, 342, 13, 318, 319, 320, 321, 24, 530, 531, 532, 533, 35, 534, 535, 536, 537, 511, 538, 539, 540, 284, 541, 301, 302, 303, 441, 442, 443, 444, 40, 15, 285, 445, 446, 447, 39, 448, 46, 449, 450, 451, 452, 36, 453, 454, 455, 456, 457, 458, 459, 460, 461, 177, 18, 178, 179, 182, 181, 180, 462, 463, 464, 465, 21, 466, 467, 257, 258, 259, 232, 260, 239, 241, 261, 240, 262, 542, 543, 544, 545, 405, 546, 290, 291, 292, 406, 407, 408, 547, 548, 549, 550, 41, 436, 31, 512, 551, 552, 553, 554, 468, 469, 470, 471, 47, 48, 472, 473, 474, 475, 476, 555, 556, 557, 558, 559, 560, 171, 561, 507, 508, 509, 510, 386, 387, 388, 389, 30, 747, 748, 749, 750, 751, 752, 753, 670, 671, 672, 673, 674, 675, 676, 677, 678, 679, 680, 681, 682, 683, 684, 685, 686, 687, 688, 689, 733, 734, 735, 730, 731, 732, 741, 742, 743, 744, 745, 746, 736, 737, 738, 739, 740] (by decide +kernel) (by decide +kernel)) (goodIn_sub (fun _ h => List.mem_append_right _ h) (by decide +kernel))
set_option maxRecDepth 20000 in
theorem gL_law_L_agrees : GoodIn wsL_law (va_wsS RL 160 yL_agrees wsL_agrees) := goodIn_app (goodIn_of _ (by decide +kernel)) ggL_law_L_agrees
set_option maxRecDepth 20000 in
theorem ggL_law_X7_agrees : GoodIn wsL_law wsX7_agrees := goodIn_r _ [607, 85, 482, 483, 484, 5, 485, 308, 67, 105, 106, 107, 108, 109, 110, 111, 112, 113, 566, 567, 568, 569, 84, 570, 571, 572, 573, 83, 81, 74, 521, 80, 79, 486, 487, 488, 489, 144, 55, 53, 490, 64, 63, 209, 210, 211, 212, 54, 200, 56, 60, 58, 59, 57, 491, 492, 493, 494, 249, 61, 62, 267, 268, 269, 270, 65, 66, 271, 272, 273, 274, 275, 68, 69, 574, 575, 576, 577, 413, 414, 415, 416, 73, 578, 579, 580, 581, 71, 582, 583, 584, 585, 495, 496, 497, 498, 82, 499, 517, 518, 519, 520, 70, 394, 395, 396, 397, 72, 690, 691, 692, 693, 694, 695, 696, 697, 698, 699, 700, 701, 702, 703, 704, 705, 706, 707, 708, 709, 710, 711, 712, 713, 714, 715, 716, 717, 718, 719, 720, 721, 722, 723, 724, 725, 726, 727, 728, 729] (by decide +kernel) (by decide +kernel)
set_option maxRecDepth 20000 in
theorem gL_law_X7_agrees : GoodIn wsL_law (wsV RL 162 RX7 yX7_agrees wsX7_agrees) := goodIn_app (goodIn_of _ (by decide +kernel)) ggL_law_X7_agrees
set_option maxRecDepth 20000 in
theorem ggL_law_L_suspend : GoodIn wsL_law wsL_suspend := goodIn_ca (goodIn_r _ [610, 121, 611, 612, 613, 2, 614, 126, 127, 32, 130, 131, 132, 290, 291, 292, 406, 407, 408, 670, 671, 672, 673, 674, 675, 676, 677, 678, 679, 680, 681, 682, 683, 684, 685, 686, 687, 688, 689] (by decide +kernel) (by decide +kernel)) (goodIn_sub (fun _ h => List.mem_append_right _ h) (by decide +kernel))
set_option maxRecDepth 20000 in
theorem gL_law_L_suspend : GoodIn wsL_law (va_wsS RL 163 yL_suspend wsL_suspend) := goodIn_app (goodIn_of _ (by decide +kernel)) ggL_law_L_suspend
set_option maxRecDepth 20000 in
theorem ggL_law_X7_suspend : GoodIn wsL_law wsX7_suspend := goodIn_r _ [618, 77, 145, 146, 5, 147, 106, 107, 108, 109, 110, 111, 112, 113, 690, 691, 692, 693, 694, 695, 696, 697, 698, 699, 700, 701, 702, 703, 704, 705, 706, 707, 708, 709, 710, 711, 712, 713, 714, 715, 716, 717, 718, 719, 720, 721, 722, 723, 724, 725, 726, 727, 728, 729] (by decide +kernel) (by decide +kernel)
set_option maxRecDepth 20000 in
theorem gL_law_X7_suspend : GoodIn wsL_law (wsV RL 166 RX7 yX7_suspend wsX7_suspend) := goodIn_app (goodIn_of _ (by decide +kernel)) ggL_law_X7_suspend
set_option maxRecDepth 20000 in
theorem ggL_law_L_least : GoodIn wsL_law wsL_least := goodIn_ca (goodIn_r _ [621, 91, 622, 623, 624, 2, 625, 97, 98, 626, 33, 670, 671, 672, 673, 674, 675, 676, 677, 678, 679, 680, 681, 682, 683, 684, 685, 686, 687, 688, 689] (by decide +kernel) (by decide +kernel)) (goodIn_sub (fun _ h => List.mem_append_left _ (List.mem_append_left _ (List.mem_append_right _ h))) (by decide +kernel))
set_option maxRecDepth 20000 in
theorem gL_law_L_least : GoodIn wsL_law (va_wsS RL 167 yL_least wsL_least) := goodIn_app (goodIn_of _ (by decide +kernel)) ggL_law_L_least
set_option maxRecDepth 20000 in
theorem ggL_law_X7_least : GoodIn wsL_law wsX7_least := goodIn_r _ [630, 631, 75, 106, 107, 5, 108, 109, 110, 111, 112, 113, 690, 691, 692, 693, 694, 695, 696, 697, 698, 699, 700, 701, 702, 703, 704, 705, 706, 707, 708, 709, 710, 711, 712, 713, 714, 715, 716, 717, 718, 719, 720, 721, 722, 723, 724, 725, 726, 727, 728, 729] (by decide +kernel) (by decide +kernel)
set_option maxRecDepth 20000 in
theorem gL_law_X7_least : GoodIn wsL_law (wsV RL 169 RX7 yX7_least wsX7_least) := goodIn_app (goodIn_of _ (by decide +kernel)) ggL_law_X7_least
set_option maxRecDepth 20000 in
theorem ggL_law_X6_payDay : GoodIn wsL_law wsX6_payDay := goodIn_r _ [635, 32, 33, 34, 530, 531, 532, 2, 533, 35, 13, 24, 342, 534, 535, 536, 537, 511, 372, 538, 539, 540, 284, 541, 301, 302, 303, 441, 442, 443, 444, 40, 15, 285, 445, 446, 447, 39, 448, 46, 449, 450, 451, 452, 36, 453, 454, 455, 456, 457, 458, 459, 460, 461, 177, 18, 178, 179, 182, 181, 180, 462, 463, 464, 465, 21, 466, 467, 257, 258, 259, 232, 260, 239, 241, 261, 240, 262, 542, 543, 544, 545, 405, 546, 290, 291, 292, 406, 407, 408, 547, 548, 549, 550, 41, 436, 31, 512, 529, 551, 552, 553, 554, 468, 469, 470, 471, 47, 48, 472, 473, 474, 475, 476, 555, 556, 557, 558, 559, 560, 171, 561, 507, 508, 509, 510, 386, 387, 388, 389, 30, 636, 637, 638, 639, 670, 671, 672, 673, 674, 675, 676, 677, 678, 679, 680, 681, 682, 683, 684, 685, 686, 687, 688, 689, 747, 748, 749, 750, 751, 752, 753, 733, 734, 735, 730, 731, 732, 741, 742, 743, 744, 745, 746, 736, 737, 738, 739, 740] (by decide +kernel) (by decide +kernel)
set_option maxRecDepth 20000 in
theorem gL_law_X6_payDay : GoodIn wsL_law (wsV RL 170 RX6 yX6_payDay wsX6_payDay) := goodIn_app (goodIn_of _ (by decide +kernel)) ggL_law_X6_payDay
set_option maxRecDepth 20000 in
theorem ggL_law_X7_payDay : GoodIn wsL_law wsX7_payDay := goodIn_r _ [643, 113, 86, 77, 75, 78, 644, 645, 646, 5, 647, 308, 84, 67, 105, 85, 570, 571, 572, 573, 83, 81, 74, 521, 80, 79, 486, 487, 488, 489, 144, 55, 53, 490, 64, 63, 209, 210, 211, 212, 54, 200, 56, 60, 58, 59, 57, 491, 492, 493, 494, 249, 61, 62, 267, 268, 269, 270, 65, 66, 271, 272, 273, 274, 275, 68, 69, 574, 575, 576, 577, 413, 414, 415, 416, 73, 578, 579, 580, 581, 71, 582, 583, 584, 585, 495, 496, 497, 498, 82, 499, 517, 518, 519, 520, 70, 394, 395, 396, 397, 72, 690, 691, 692, 693, 694, 695, 696, 697, 698, 699, 700, 701, 702, 703, 704, 705, 706, 707, 708, 709, 710, 711, 712, 713, 714, 715, 716, 717, 718, 719, 720, 721, 722, 723, 724, 725, 726, 727, 728, 729] (by decide +kernel) (by decide +kernel)
set_option maxRecDepth 20000 in
theorem gL_law_X7_payDay : GoodIn wsL_law (wsV RL 174 RX7 yX7_payDay wsX7_payDay) := goodIn_app (goodIn_of _ (by decide +kernel)) ggL_law_X7_payDay
set_option maxRecDepth 20000 in
theorem ggL_law_L_owed : GoodIn wsL_law wsL_owed := goodIn_ca (goodIn_r _ [650, 121, 651, 652, 653, 2, 654, 126, 127, 130, 131, 132, 530, 531, 532, 533, 35, 13, 24, 342, 534, 535, 536, 537, 511, 372, 538, 539, 540, 284, 541, 301, 302, 303, 441, 442, 443, 444, 40, 15, 285, 445, 446, 447, 39, 448, 46, 449, 450, 451, 452, 36, 453, 454, 455, 456, 457, 458, 459, 460, 461, 177, 18, 178, 179, 182, 181, 180, 462, 463, 464, 465, 21, 466, 467, 257, 258, 259, 232, 260, 239, 241, 261, 240, 262, 542, 543, 544, 545, 405, 546, 290, 291, 292, 406, 407, 408, 547, 548, 549, 550, 41, 436, 31, 512, 529, 551, 552, 553, 554, 468, 469, 470, 471, 47, 48, 472, 473, 474, 475, 476, 555, 556, 557, 558, 559, 560, 171, 561, 507, 508, 509, 510, 386, 387, 388, 389, 30, 636, 637, 638, 639, 34, 670, 671, 672, 673, 674, 675, 676, 677, 678, 679, 680, 681, 682, 683, 684, 685, 686, 687, 688, 689, 747, 748, 749, 750, 751, 752, 753, 733, 734, 735, 730, 731, 732, 741, 742, 743, 744, 745, 746, 736, 737, 738, 739, 740] (by decide +kernel) (by decide +kernel)) (goodIn_sub (fun _ h => List.mem_append_right _ h) (by decide +kernel))
set_option maxRecDepth 20000 in
theorem gL_law_L_owed : GoodIn wsL_law (va_wsS RL 175 yL_owed wsL_owed) := goodIn_app (goodIn_of _ (by decide +kernel)) ggL_law_L_owed
set_option maxRecDepth 20000 in
theorem ggL_law_X7_owed : GoodIn wsL_law wsX7_owed := goodIn_r _ [658, 86, 145, 146, 5, 147, 106, 107, 108, 109, 110, 111, 112, 113, 644, 645, 646, 647, 78, 308, 84, 67, 105, 85, 570, 571, 572, 573, 83, 81, 74, 521, 80, 79, 486, 487, 488, 489, 144, 55, 53, 490, 64, 63, 209, 210, 211, 212, 54, 200, 56, 60, 58, 59, 57, 491, 492, 493, 494, 249, 61, 62, 267, 268, 269, 270, 65, 66, 271, 272, 273, 274, 275, 68, 69, 574, 575, 576, 577, 413, 414, 415, 416, 73, 578, 579, 580, 581, 71, 582, 583, 584, 585, 495, 496, 497, 498, 82, 499, 517, 518, 519, 520, 70, 394, 395, 396, 397, 72, 690, 691, 692, 693, 694, 695, 696, 697, 698, 699, 700, 701, 702, 703, 704, 705, 706, 707, 708, 709, 710, 711, 712, 713, 714, 715, 716, 717, 718, 719, 720, 721, 722, 723, 724, 725, 726, 727, 728, 729] (by decide +kernel) (by decide +kernel)
set_option maxRecDepth 20000 in
theorem gL_law_X7_owed : GoodIn wsL_law (wsV RL 177 RX7 yX7_owed wsX7_owed) := goodIn_app (goodIn_of _ (by decide +kernel)) ggL_law_X7_owed
set_option maxRecDepth 20000 in
theorem ggL_law_L_paid : GoodIn wsL_law wsL_paid := goodIn_ca (goodIn_r _ [661, 121, 662, 663, 664, 2, 665, 126, 127, 34, 130, 131, 132, 670, 671, 672, 673, 674, 675, 676, 677, 678, 679, 680, 681, 682, 683, 684, 685, 686, 687, 688, 689] (by decide +kernel) (by decide +kernel)) (goodIn_sub (fun _ h => List.mem_append_right _ h) (by decide +kernel))
set_option maxRecDepth 20000 in
theorem gL_law_L_paid : GoodIn wsL_law (va_wsS RL 178 yL_paid wsL_paid) := goodIn_app (goodIn_of _ (by decide +kernel)) ggL_law_L_paid
set_option maxRecDepth 20000 in
theorem ggL_law_X7_paid : GoodIn wsL_law wsX7_paid := goodIn_r _ [669, 78, 145, 146, 5, 147, 106, 107, 108, 109, 110, 111, 112, 113, 690, 691, 692, 693, 694, 695, 696, 697, 698, 699, 700, 701, 702, 703, 704, 705, 706, 707, 708, 709, 710, 711, 712, 713, 714, 715, 716, 717, 718, 719, 720, 721, 722, 723, 724, 725, 726, 727, 728, 729] (by decide +kernel) (by decide +kernel)
set_option maxRecDepth 20000 in
theorem gL_law_X7_paid : GoodIn wsL_law (wsV RL 180 RX7 yX7_paid wsX7_paid) := goodIn_app (goodIn_of _ (by decide +kernel)) ggL_law_X7_paid
