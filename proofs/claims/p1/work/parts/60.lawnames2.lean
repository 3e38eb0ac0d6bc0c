set_option maxRecDepth 20000 in
theorem ggL_law_X8_init : GoodIn wsL_law wsX8_init := goodIn_r _ [8, 9, 10, 11, 12, 13, 14, 15, 16, 17, 18, 19, 20, 21, 22, 23, 24, 25, 26, 27, 28, 29, 30, 31, 32, 33, 34, 35, 36, 37, 38, 39, 40, 41, 42, 43, 44, 45, 46, 47, 48, 49, 50, 51, 52, 53, 54, 663, 664, 665, 666, 667, 668, 669, 670, 671, 672, 673, 674, 721, 722, 723, 724, 725, 726, 727, 728, 729, 730, 731, 732, 733, 734, 735, 736, 737, 738, 739, 740, 741, 742, 743] (by decide +kernel) (by decide +kernel)
set_option maxRecDepth 20000 in
theorem gL_law_X8_init : GoodIn wsL_law (wsX8_init) := ggL_law_X8_init
set_option maxRecDepth 20000 in
theorem ggL_law_X9_init : GoodIn wsL_law wsX9_init := goodIn_r _ [57, 58, 10, 11, 12, 59, 60, 61, 62, 63, 64, 65, 66, 67, 68, 69, 70, 71, 72, 73, 74, 75, 76, 77, 78, 79, 80, 81, 82, 83, 84, 85, 86, 87, 88, 89, 90, 675, 676, 677, 678, 679, 680, 681, 682, 683, 684, 685, 686, 687, 688, 689, 690, 691, 692, 693, 694, 695, 696, 697, 698, 699, 700, 701, 702, 703, 704, 705, 706, 707, 708, 709, 710, 711, 712, 713, 714, 715, 716, 717, 718, 719, 720] (by decide +kernel) (by decide +kernel)
set_option maxRecDepth 20000 in
theorem gL_law_X9_init : GoodIn wsL_law (wsX9_init) := ggL_law_X9_init
set_option maxRecDepth 20000 in
theorem ggL_law_X8_depth : GoodIn wsL_law wsX8_depth := goodIn_r _ [94, 13, 95, 96, 97, 2, 98, 99, 100, 101, 663, 664, 665, 666, 667, 668, 669, 670, 671, 672, 673, 674] (by decide +kernel) (by decide +kernel)
set_option maxRecDepth 20000 in
theorem gL_law_X8_depth : GoodIn wsL_law (wsV RL 13 RX8 yX8_depth wsX8_depth) := goodIn_app (goodIn_of _ (by decide +kernel)) ggL_law_X8_depth
set_option maxRecDepth 20000 in
theorem ggL_law_X9_depth : GoodIn wsL_law wsX9_depth := goodIn_r _ [105, 59, 106, 107, 108, 5, 109, 110, 111, 112, 675, 676, 677, 678, 679, 680, 681, 682, 683, 684, 685, 686, 687, 688, 689, 690, 691, 692, 693, 694, 695, 696, 697, 698, 699, 700, 701, 702, 703, 704, 705, 706, 707, 708, 709, 710, 711, 712, 713, 714, 715, 716, 717, 718, 719, 720] (by decide +kernel) (by decide +kernel)
set_option maxRecDepth 20000 in
theorem gL_law_X9_depth : GoodIn wsL_law (wsV RL 17 RX9 yX9_depth wsX9_depth) := goodIn_app (goodIn_of _ (by decide +kernel)) ggL_law_X9_depth
set_option maxRecDepth 20000 in
theorem ggL_law_X8_mark : GoodIn wsL_law wsX8_mark := goodIn_r _ [116, 117, 15, 14, 118, 119, 96, 97, 2, 98, 99, 100, 101, 120, 121, 122, 10, 11, 123, 124, 125, 126, 127, 128, 129, 130, 131, 30, 31, 132, 133, 134, 135, 136, 137, 138, 139, 140, 141, 142, 143, 144, 51, 52, 53, 12, 54, 663, 664, 665, 666, 667, 668, 669, 670, 671, 672, 673, 674, 744, 745, 746, 747, 748, 749, 750, 751, 752, 753, 754, 755, 756, 757, 758, 759, 760, 761, 742, 743] (by decide +kernel) (by decide +kernel)
set_option maxRecDepth 20000 in
theorem gL_law_X8_mark : GoodIn wsL_law (wsV RL 18 RX8 yX8_mark wsX8_mark) := goodIn_app (goodIn_of _ (by decide +kernel)) ggL_law_X8_mark
set_option maxRecDepth 20000 in
theorem ggL_law_X9_mark : GoodIn wsL_law wsX9_mark := goodIn_r _ [148, 149, 60, 61, 62, 106, 107, 108, 5, 109, 110, 111, 112, 675, 676, 677, 678, 679, 680, 681, 682, 683, 684, 685, 686, 687, 688, 689, 690, 691, 692, 693, 694, 695, 696, 697, 698, 699, 700, 701, 702, 703, 704, 705, 706, 707, 708, 709, 710, 711, 712, 713, 714, 715, 716, 717, 718, 719, 720] (by decide +kernel) (by decide +kernel)
set_option maxRecDepth 20000 in
theorem gL_law_X9_mark : GoodIn wsL_law (wsV RL 22 RX9 yX9_mark wsX9_mark) := goodIn_app (goodIn_of _ (by decide +kernel)) ggL_law_X9_mark
set_option maxRecDepth 20000 in
theorem ggL_law_X8_sight : GoodIn wsL_law wsX8_sight := goodIn_r _ [153, 154, 155, 156, 2, 157, 117, 15, 158, 125, 159, 160, 140, 161, 141, 162, 163, 164, 165, 166, 744, 745, 746, 747, 748, 749, 750, 751, 752, 663, 664, 665, 666, 667, 668, 669, 670, 671, 672, 673, 674, 753, 754, 755, 756] (by decide +kernel) (by decide +kernel)
set_option maxRecDepth 20000 in
theorem gL_law_X8_sight : GoodIn wsL_law (wsV RL 23 RX8 yX8_sight wsX8_sight) := goodIn_app (goodIn_of _ (by decide +kernel)) ggL_law_X8_sight
set_option maxRecDepth 20000 in
theorem ggL_law_X9_sight : GoodIn wsL_law wsX9_sight := goodIn_r _ [170, 64, 65, 171, 172, 173, 5, 174, 149, 110, 111, 112, 675, 676, 677, 678, 679, 680, 681, 682, 683, 684, 685, 686, 687, 688, 689, 690, 691, 692, 693, 694, 695, 696, 697, 698, 699, 700, 701, 702, 703, 704, 705, 706, 707, 708, 709, 710, 711, 712, 713, 714, 715, 716, 717, 718, 719, 720] (by decide +kernel) (by decide +kernel)
set_option maxRecDepth 20000 in
theorem gL_law_X9_sight : GoodIn wsL_law (wsV RL 27 RX9 yX9_sight wsX9_sight) := goodIn_app (goodIn_of _ (by decide +kernel)) ggL_law_X9_sight
set_option maxRecDepth 20000 in
theorem ggL_law_X8_bearing : GoodIn wsL_law wsX8_bearing := goodIn_r _ [178, 154, 155, 156, 2, 157, 117, 15, 179, 180, 181, 99, 100, 101, 182, 125, 183, 184, 140, 162, 744, 745, 746, 747, 748, 749, 750, 751, 752, 663, 664, 665, 666, 667, 668, 669, 670, 671, 672, 673, 674, 753, 754, 755, 756] (by decide +kernel) (by decide +kernel)
set_option maxRecDepth 20000 in
theorem gL_law_X8_bearing : GoodIn wsL_law (wsV RL 28 RX8 yX8_bearing wsX8_bearing) := goodIn_app (goodIn_of _ (by decide +kernel)) ggL_law_X8_bearing
set_option maxRecDepth 20000 in
theorem ggL_law_X9_bearing : GoodIn wsL_law wsX9_bearing := goodIn_r _ [188, 60, 61, 64, 65, 171, 172, 173, 5, 174, 149, 110, 111, 112, 189, 190, 191, 675, 676, 677, 678, 679, 680, 681, 682, 683, 684, 685, 686, 687, 688, 689, 690, 691, 692, 693, 694, 695, 696, 697, 698, 699, 700, 701, 702, 703, 704, 705, 706, 707, 708, 709, 710, 711, 712, 713, 714, 715, 716, 717, 718, 719, 720] (by decide +kernel) (by decide +kernel)
set_option maxRecDepth 20000 in
theorem gL_law_X9_bearing : GoodIn wsL_law (wsV RL 32 RX9 yX9_bearing wsX9_bearing) := goodIn_app (goodIn_of _ (by decide +kernel)) ggL_law_X9_bearing
set_option maxRecDepth 20000 in
theorem ggL_law_X8_sounding : GoodIn wsL_law wsX8_sounding := goodIn_r _ [195, 154, 155, 156, 2, 157, 117, 15, 99, 100, 101, 196, 125, 197, 198, 161, 199, 200, 201, 202, 141, 203, 204, 205, 162, 744, 745, 746, 747, 748, 749, 750, 751, 752, 663, 664, 665, 666, 667, 668, 669, 670, 671, 672, 673, 674, 753, 754, 755, 756] (by decide +kernel) (by decide +kernel)
set_option maxRecDepth 20000 in
theorem gL_law_X8_sounding : GoodIn wsL_law (wsV RL 33 RX8 yX8_sounding wsX8_sounding) := goodIn_app (goodIn_of _ (by decide +kernel)) ggL_law_X8_sounding
set_option maxRecDepth 20000 in
theorem ggL_law_X9_sounding : GoodIn wsL_law wsX9_sounding := goodIn_r _ [209, 64, 59, 65, 171, 172, 173, 5, 174, 149, 110, 111, 112, 675, 676, 677, 678, 679, 680, 681, 682, 683, 684, 685, 686, 687, 688, 689, 690, 691, 692, 693, 694, 695, 696, 697, 698, 699, 700, 701, 702, 703, 704, 705, 706, 707, 708, 709, 710, 711, 712, 713, 714, 715, 716, 717, 718, 719, 720] (by decide +kernel) (by decide +kernel)
set_option maxRecDepth 20000 in
theorem gL_law_X9_sounding : GoodIn wsL_law (wsV RL 37 RX9 yX9_sounding wsX9_sounding) := goodIn_app (goodIn_of _ (by decide +kernel)) ggL_law_X9_sounding
set_option maxRecDepth 20000 in
theorem ggL_law_X8_lies : GoodIn wsL_law wsX8_lies := goodIn_r _ [213, 28, 13, 154, 155, 156, 2, 157, 117, 15, 99, 100, 101, 214, 27, 215, 216, 217, 218, 219, 220, 221, 222, 223, 224, 225, 226, 227, 204, 201, 205, 228, 200, 202, 229, 230, 231, 232, 233, 234, 235, 236, 237, 744, 745, 746, 747, 748, 749, 750, 751, 752, 663, 664, 665, 666, 667, 668, 669, 670, 671, 672, 673, 674, 753, 754, 755, 756, 736, 737, 738, 739, 740, 741] (by decide +kernel) (by decide +kernel)
set_option maxRecDepth 20000 in
theorem gL_law_X8_lies : GoodIn wsL_law (wsV RL 38 RX8 yX8_lies wsX8_lies) := goodIn_app (goodIn_of _ (by decide +kernel)) ggL_law_X8_lies
set_option maxRecDepth 20000 in
theorem ggL_law_X9_lies : GoodIn wsL_law wsX9_lies := goodIn_r _ [241, 64, 60, 61, 62, 65, 171, 172, 173, 5, 174, 149, 110, 111, 112, 242, 243, 244, 675, 676, 677, 678, 679, 680, 681, 682, 683, 684, 685, 686, 687, 688, 689, 690, 691, 692, 693, 694, 695, 696, 697, 698, 699, 700, 701, 702, 703, 704, 705, 706, 707, 708, 709, 710, 711, 712, 713, 714, 715, 716, 717, 718, 719, 720] (by decide +kernel) (by decide +kernel)
set_option maxRecDepth 20000 in
theorem gL_law_X9_lies : GoodIn wsL_law (wsV RL 42 RX9 yX9_lies wsX9_lies) := goodIn_app (goodIn_of _ (by decide +kernel)) ggL_law_X9_lies
set_option maxRecDepth 20000 in
theorem ggL_law_X8_day : GoodIn wsL_law wsX8_day := goodIn_r _ [248, 249, 99, 100, 2, 101, 663, 664, 665, 666, 667, 668, 669, 670, 671, 672, 673, 674] (by decide +kernel) (by decide +kernel)
set_option maxRecDepth 20000 in
theorem gL_law_X8_day : GoodIn wsL_law (wsV RL 43 RX8 yX8_day wsX8_day) := goodIn_app (goodIn_of _ (by decide +kernel)) ggL_law_X8_day
set_option maxRecDepth 20000 in
theorem ggL_law_X9_day : GoodIn wsL_law wsX9_day := goodIn_r _ [253, 254, 110, 111, 5, 112, 675, 676, 677, 678, 679, 680, 681, 682, 683, 684, 685, 686, 687, 688, 689, 690, 691, 692, 693, 694, 695, 696, 697, 698, 699, 700, 701, 702, 703, 704, 705, 706, 707, 708, 709, 710, 711, 712, 713, 714, 715, 716, 717, 718, 719, 720] (by decide +kernel) (by decide +kernel)
set_option maxRecDepth 20000 in
theorem gL_law_X9_day : GoodIn wsL_law (wsV RL 46 RX9 yX9_day wsX9_day) := goodIn_app (goodIn_of _ (by decide +kernel)) ggL_law_X9_day
set_option maxRecDepth 20000 in
theorem ggL_law_X8_chain : GoodIn wsL_law wsX8_chain := goodIn_r _ [258, 154, 155, 156, 2, 157, 117, 15, 99, 100, 101, 259, 260, 261, 262, 249, 263, 129, 264, 265, 266, 267, 268, 269, 270, 744, 745, 746, 747, 748, 749, 750, 751, 752, 663, 664, 665, 666, 667, 668, 669, 670, 671, 672, 673, 674, 757, 758, 759, 760, 761] (by decide +kernel) (by decide +kernel)
set_option maxRecDepth 20000 in
theorem gL_law_X8_chain : GoodIn wsL_law (wsV RL 47 RX8 yX8_chain wsX8_chain) := goodIn_app (goodIn_of _ (by decide +kernel)) ggL_law_X8_chain
set_option maxRecDepth 20000 in
theorem ggL_law_X9_chain : GoodIn wsL_law wsX9_chain := goodIn_r _ [274, 66, 254, 67, 68, 69, 171, 172, 173, 5, 174, 149, 110, 111, 112, 675, 676, 677, 678, 679, 680, 681, 682, 683, 684, 685, 686, 687, 688, 689, 690, 691, 692, 693, 694, 695, 696, 697, 698, 699, 700, 701, 702, 703, 704, 705, 706, 707, 708, 709, 710, 711, 712, 713, 714, 715, 716, 717, 718, 719, 720] (by decide +kernel) (by decide +kernel)
set_option maxRecDepth 20000 in
theorem gL_law_X9_chain : GoodIn wsL_law (wsV RL 51 RX9 yX9_chain wsX9_chain) := goodIn_app (goodIn_of _ (by decide +kernel)) ggL_law_X9_chain
set_option maxRecDepth 20000 in
theorem ggL_law_X8_wear : GoodIn wsL_law wsX8_wear := goodIn_r _ [278, 16, 99, 100, 2, 101, 663, 664, 665, 666, 667, 668, 669, 670, 671, 672, 673, 674] (by decide +kernel) (by decide +kernel)
set_option maxRecDepth 20000 in
theorem gL_law_X8_wear : GoodIn wsL_law (wsV RL 52 RX8 yX8_wear wsX8_wear) := goodIn_app (goodIn_of _ (by decide +kernel)) ggL_law_X8_wear
set_option maxRecDepth 20000 in
theorem ggL_law_X9_wear : GoodIn wsL_law wsX9_wear := goodIn_r _ [282, 70, 110, 111, 5, 112, 675, 676, 677, 678, 679, 680, 681, 682, 683, 684, 685, 686, 687, 688, 689, 690, 691, 692, 693, 694, 695, 696, 697, 698, 699, 700, 701, 702, 703, 704, 705, 706, 707, 708, 709, 710, 711, 712, 713, 714, 715, 716, 717, 718, 719, 720] (by decide +kernel) (by decide +kernel)
set_option maxRecDepth 20000 in
theorem gL_law_X9_wear : GoodIn wsL_law (wsV RL 55 RX9 yX9_wear wsX9_wear) := goodIn_app (goodIn_of _ (by decide +kernel)) ggL_law_X9_wear
set_option maxRecDepth 20000 in
theorem ggL_law_X8_chainOf : GoodIn wsL_law wsX8_chainOf := goodIn_r _ [286, 16, 287, 200, 201, 202, 154, 155, 156, 2, 157, 117, 15, 259, 260, 261, 262, 249, 288, 129, 289, 290, 267, 270, 291, 292, 293, 294, 269, 295, 296, 297, 268, 744, 745, 746, 747, 748, 749, 750, 751, 752, 757, 758, 759, 760, 761, 663, 664, 665, 666, 667, 668, 669, 670, 671, 672, 673, 674] (by decide +kernel) (by decide +kernel)
set_option maxRecDepth 20000 in
theorem gL_law_X8_chainOf : GoodIn wsL_law (wsV RL 56 RX8 yX8_chainOf wsX8_chainOf) := goodIn_app (goodIn_of _ (by decide +kernel)) ggL_law_X8_chainOf
set_option maxRecDepth 20000 in
theorem ggL_law_X9_chainOf : GoodIn wsL_law wsX9_chainOf := goodIn_r _ [301, 66, 67, 70, 69, 68, 254, 171, 172, 173, 5, 174, 149, 110, 111, 112, 675, 676, 677, 678, 679, 680, 681, 682, 683, 684, 685, 686, 687, 688, 689, 690, 691, 692, 693, 694, 695, 696, 697, 698, 699, 700, 701, 702, 703, 704, 705, 706, 707, 708, 709, 710, 711, 712, 713, 714, 715, 716, 717, 718, 719, 720] (by decide +kernel) (by decide +kernel)
set_option maxRecDepth 20000 in
theorem gL_law_X9_chainOf : GoodIn wsL_law (wsV RL 59 RX9 yX9_chainOf wsX9_chainOf) := goodIn_app (goodIn_of _ (by decide +kernel)) ggL_law_X9_chainOf
set_option maxRecDepth 20000 in
theorem ggL_law_X8_light : GoodIn wsL_law wsX8_light := goodIn_r _ [305, 32, 154, 155, 156, 2, 157, 117, 15, 306, 31, 307, 308, 309, 310, 311, 312, 54, 100, 101, 313, 314, 315, 316, 317, 318, 119, 319, 320, 133, 134, 229, 230, 321, 322, 323, 324, 325, 326, 327, 328, 329, 330, 331, 332, 333, 334, 744, 745, 746, 747, 748, 749, 750, 751, 752, 663, 664, 665, 666, 667, 668, 669, 670, 671, 672, 673, 674, 742, 743] (by decide +kernel) (by decide +kernel)
set_option maxRecDepth 20000 in
theorem gL_law_X8_light : GoodIn wsL_law (wsV RL 60 RX8 yX8_light wsX8_light) := goodIn_app (goodIn_of _ (by decide +kernel)) ggL_law_X8_light
set_option maxRecDepth 20000 in
theorem ggL_law_X9_light : GoodIn wsL_law wsX9_light := goodIn_r _ [338, 71, 85, 72, 339, 171, 172, 173, 5, 174, 149, 110, 111, 112, 340, 341, 342, 343, 344, 345, 346, 347, 60, 61, 242, 243, 244, 348, 349, 350, 351, 675, 676, 677, 678, 679, 680, 681, 682, 683, 684, 685, 686, 687, 688, 689, 690, 691, 692, 693, 694, 695, 696, 697, 698, 699, 700, 701, 702, 703, 704, 705, 706, 707, 708, 709, 710, 711, 712, 713, 714, 715, 716, 717, 718, 719, 720] (by decide +kernel) (by decide +kernel)
set_option maxRecDepth 20000 in
theorem gL_law_X9_light : GoodIn wsL_law (wsV RL 63 RX9 yX9_light wsX9_light) := goodIn_app (goodIn_of _ (by decide +kernel)) ggL_law_X9_light
set_option maxRecDepth 20000 in
theorem ggL_law_X8_near : GoodIn wsL_law wsX8_near := goodIn_r _ [355, 317, 99, 100, 2, 101, 356, 357, 358, 359, 117, 154, 155, 156, 157, 15, 318, 119, 319, 320, 133, 134, 229, 230, 321, 31, 322, 323, 309, 324, 325, 326, 327, 54, 663, 664, 665, 666, 667, 668, 669, 670, 671, 672, 673, 674, 744, 745, 746, 747, 748, 749, 750, 751, 752, 742, 743] (by decide +kernel) (by decide +kernel)
set_option maxRecDepth 20000 in
theorem gL_law_X8_near : GoodIn wsL_law (wsV RL 64 RX8 yX8_near wsX8_near) := goodIn_app (goodIn_of _ (by decide +kernel)) ggL_law_X8_near
set_option maxRecDepth 20000 in
theorem ggL_law_X9_near : GoodIn wsL_law wsX9_near := goodIn_r _ [363, 149, 339, 110, 111, 5, 112, 340, 341, 342, 343, 344, 345, 346, 347, 60, 61, 242, 243, 244, 348, 349, 350, 351, 71, 72, 675, 676, 677, 678, 679, 680, 681, 682, 683, 684, 685, 686, 687, 688, 689, 690, 691, 692, 693, 694, 695, 696, 697, 698, 699, 700, 701, 702, 703, 704, 705, 706, 707, 708, 709, 710, 711, 712, 713, 714, 715, 716, 717, 718, 719, 720] (by decide +kernel) (by decide +kernel)
set_option maxRecDepth 20000 in
theorem gL_law_X9_near : GoodIn wsL_law (wsV RL 67 RX9 yX9_near wsX9_near) := goodIn_app (goodIn_of _ (by decide +kernel)) ggL_law_X9_near
set_option maxRecDepth 20000 in
theorem ggL_law_X8_alike : GoodIn wsL_law wsX8_alike := goodIn_r _ [367, 154, 155, 156, 2, 157, 117, 15, 368, 31, 369, 370, 309, 321, 322, 323, 324, 325, 326, 327, 54, 744, 745, 746, 747, 748, 749, 750, 751, 752, 663, 664, 665, 666, 667, 668, 669, 670, 671, 672, 673, 674, 742, 743] (by decide +kernel) (by decide +kernel)
set_option maxRecDepth 20000 in
theorem gL_law_X8_alike : GoodIn wsL_law (wsV RL 68 RX8 yX8_alike wsX8_alike) := goodIn_app (goodIn_of _ (by decide +kernel)) ggL_law_X8_alike
set_option maxRecDepth 20000 in
theorem ggL_law_X9_alike : GoodIn wsL_law wsX9_alike := goodIn_r _ [374, 71, 171, 172, 173, 5, 174, 149, 110, 111, 112, 348, 349, 350, 351, 72, 675, 676, 677, 678, 679, 680, 681, 682, 683, 684, 685, 686, 687, 688, 689, 690, 691, 692, 693, 694, 695, 696, 697, 698, 699, 700, 701, 702, 703, 704, 705, 706, 707, 708, 709, 710, 711, 712, 713, 714, 715, 716, 717, 718, 719, 720] (by decide +kernel) (by decide +kernel)
set_option maxRecDepth 20000 in
theorem gL_law_X9_alike : GoodIn wsL_law (wsV RL 71 RX9 yX9_alike wsX9_alike) := goodIn_app (goodIn_of _ (by decide +kernel)) ggL_law_X9_alike
set_option maxRecDepth 20000 in
theorem ggL_law_X8_warn : GoodIn wsL_law wsX8_warn := goodIn_r _ [378, 20, 249, 154, 155, 156, 2, 157, 117, 15, 99, 100, 101, 379, 19, 380, 381, 382, 36, 37, 38, 39, 383, 384, 385, 386, 663, 664, 665, 666, 667, 668, 669, 670, 671, 672, 673, 674, 721, 722, 723, 724, 725] (by decide +kernel) (by decide +kernel)
set_option maxRecDepth 20000 in
theorem gL_law_X8_warn : GoodIn wsL_law (wsV RL 72 RX8 yX8_warn wsX8_warn) := goodIn_app (goodIn_of _ (by decide +kernel)) ggL_law_X8_warn
set_option maxRecDepth 20000 in
theorem ggL_law_X9_warn : GoodIn wsL_law wsX9_warn := goodIn_r _ [390, 391, 73, 74, 76, 75, 254, 171, 172, 173, 5, 174, 149, 110, 111, 112, 675, 676, 677, 678, 679, 680, 681, 682, 683, 684, 685, 686, 687, 688, 689, 690, 691, 692, 693, 694, 695, 696, 697, 698, 699, 700, 701, 702, 703, 704, 705, 706, 707, 708, 709, 710, 711, 712, 713, 714, 715, 716, 717, 718, 719, 720] (by decide +kernel) (by decide +kernel)
set_option maxRecDepth 20000 in
theorem gL_law_X9_warn : GoodIn wsL_law (wsV RL 75 RX9 yX9_warn wsX9_warn) := goodIn_app (goodIn_of _ (by decide +kernel)) ggL_law_X9_warn
set_option maxRecDepth 20000 in
theorem ggL_law_X8_cancel : GoodIn wsL_law wsX8_cancel := goodIn_r _ [395, 20, 249, 396, 19, 397, 398, 39, 399, 400, 401, 402, 382, 663, 664, 665, 666, 667, 668, 669, 670, 671, 672, 673, 674, 721, 722, 723, 724, 725] (by decide +kernel) (by decide +kernel)
set_option maxRecDepth 20000 in
theorem gL_law_X8_cancel : GoodIn wsL_law (wsV RL 76 RX8 yX8_cancel wsX8_cancel) := goodIn_app (goodIn_of _ (by decide +kernel)) ggL_law_X8_cancel
set_option maxRecDepth 20000 in
theorem ggL_law_X9_cancel : GoodIn wsL_law wsX9_cancel := goodIn_r _ [406, 391, 76, 254, 110, 111, 5, 112, 675, 676, 677, 678, 679, 680, 681, 682, 683, 684, 685, 686, 687, 688, 689, 690, 691, 692, 693, 694, 695, 696, 697, 698, 699, 700, 701, 702, 703, 704, 705, 706, 707, 708, 709, 710, 711, 712, 713, 714, 715, 716, 717, 718, 719, 720] (by decide +kernel) (by decide +kernel)
set_option maxRecDepth 20000 in
theorem gL_law_X9_cancel : GoodIn wsL_law (wsV RL 79 RX9 yX9_cancel wsX9_cancel) := goodIn_app (goodIn_of _ (by decide +kernel)) ggL_law_X9_cancel
set_option maxRecDepth 20000 in
theorem ggL_law_X8_list : GoodIn wsL_law wsX8_list := goodIn_r _ [410, 249, 20, 99, 100, 2, 101, 411, 19, 412, 413, 382, 414, 415, 416, 417, 38, 39, 663, 664, 665, 666, 667, 668, 669, 670, 671, 672, 673, 674, 721, 722, 723, 724, 725] (by decide +kernel) (by decide +kernel)
set_option maxRecDepth 20000 in
theorem gL_law_X8_list : GoodIn wsL_law (wsV RL 80 RX8 yX8_list wsX8_list) := goodIn_app (goodIn_of _ (by decide +kernel)) ggL_law_X8_list
set_option maxRecDepth 20000 in
theorem ggL_law_X9_list : GoodIn wsL_law wsX9_list := goodIn_r _ [421, 254, 391, 110, 111, 5, 112, 422, 423, 424, 425, 75, 76, 675, 676, 677, 678, 679, 680, 681, 682, 683, 684, 685, 686, 687, 688, 689, 690, 691, 692, 693, 694, 695, 696, 697, 698, 699, 700, 701, 702, 703, 704, 705, 706, 707, 708, 709, 710, 711, 712, 713, 714, 715, 716, 717, 718, 719, 720] (by decide +kernel) (by decide +kernel)
set_option maxRecDepth 20000 in
theorem gL_law_X9_list : GoodIn wsL_law (wsV RL 84 RX9 yX9_list wsX9_list) := goodIn_app (goodIn_of _ (by decide +kernel)) ggL_law_X9_list
set_option maxRecDepth 20000 in
theorem ggL_law_X8_listed : GoodIn wsL_law wsX8_listed := goodIn_r _ [429, 249, 20, 99, 100, 2, 101, 430, 19, 431, 432, 382, 414, 415, 416, 417, 38, 39, 663, 664, 665, 666, 667, 668, 669, 670, 671, 672, 673, 674, 721, 722, 723, 724, 725] (by decide +kernel) (by decide +kernel)
set_option maxRecDepth 20000 in
theorem gL_law_X8_listed : GoodIn wsL_law (wsV RL 85 RX8 yX8_listed wsX8_listed) := goodIn_app (goodIn_of _ (by decide +kernel)) ggL_law_X8_listed
set_option maxRecDepth 20000 in
theorem ggL_law_X9_listed : GoodIn wsL_law wsX9_listed := goodIn_r _ [436, 391, 254, 110, 111, 5, 112, 422, 423, 424, 425, 75, 76, 675, 676, 677, 678, 679, 680, 681, 682, 683, 684, 685, 686, 687, 688, 689, 690, 691, 692, 693, 694, 695, 696, 697, 698, 699, 700, 701, 702, 703, 704, 705, 706, 707, 708, 709, 710, 711, 712, 713, 714, 715, 716, 717, 718, 719, 720] (by decide +kernel) (by decide +kernel)
set_option maxRecDepth 20000 in
theorem gL_law_X9_listed : GoodIn wsL_law (wsV RL 88 RX9 yX9_listed wsX9_listed) := goodIn_app (goodIn_of _ (by decide +kernel)) ggL_law_X9_listed
set_option maxRecDepth 20000 in
theorem ggL_law_X8_warning : GoodIn wsL_law wsX8_warning := goodIn_r _ [440, 20, 400, 19, 401, 402, 382, 663, 664, 665, 666, 667, 668, 669, 670, 671, 672, 673, 674, 721, 722, 723, 724, 725] (by decide +kernel) (by decide +kernel)
set_option maxRecDepth 20000 in
theorem gL_law_X8_warning : GoodIn wsL_law (wsV RL 89 RX8 yX8_warning wsX8_warning) := goodIn_app (goodIn_of _ (by decide +kernel)) ggL_law_X8_warning
set_option maxRecDepth 20000 in
theorem ggL_law_X9_warning : GoodIn wsL_law wsX9_warning := goodIn_r _ [444, 391, 73, 74, 75, 76, 110, 111, 5, 112, 675, 676, 677, 678, 679, 680, 681, 682, 683, 684, 685, 686, 687, 688, 689, 690, 691, 692, 693, 694, 695, 696, 697, 698, 699, 700, 701, 702, 703, 704, 705, 706, 707, 708, 709, 710, 711, 712, 713, 714, 715, 716, 717, 718, 719, 720] (by decide +kernel) (by decide +kernel)
set_option maxRecDepth 20000 in
theorem gL_law_X9_warning : GoodIn wsL_law (wsV RL 92 RX9 yX9_warning wsX9_warning) := goodIn_app (goodIn_of _ (by decide +kernel)) ggL_law_X9_warning
set_option maxRecDepth 20000 in
theorem ggL_law_X8_job : GoodIn wsL_law wsX8_job := goodIn_r _ [448, 95, 154, 155, 156, 2, 157, 117, 15, 99, 100, 101, 744, 745, 746, 747, 748, 749, 750, 751, 752, 663, 664, 665, 666, 667, 668, 669, 670, 671, 672, 673, 674] (by decide +kernel) (by decide +kernel)
set_option maxRecDepth 20000 in
theorem gL_law_X8_job : GoodIn wsL_law (wsV RL 93 RX8 yX8_job wsX8_job) := goodIn_app (goodIn_of _ (by decide +kernel)) ggL_law_X8_job
set_option maxRecDepth 20000 in
theorem ggL_law_X9_job : GoodIn wsL_law wsX9_job := goodIn_r _ [452, 77, 78, 79, 106, 171, 172, 173, 5, 174, 149, 110, 111, 112, 675, 676, 677, 678, 679, 680, 681, 682, 683, 684, 685, 686, 687, 688, 689, 690, 691, 692, 693, 694, 695, 696, 697, 698, 699, 700, 701, 702, 703, 704, 705, 706, 707, 708, 709, 710, 711, 712, 713, 714, 715, 716, 717, 718, 719, 720] (by decide +kernel) (by decide +kernel)
set_option maxRecDepth 20000 in
theorem gL_law_X9_job : GoodIn wsL_law (wsV RL 96 RX9 yX9_job wsX9_job) := goodIn_app (goodIn_of _ (by decide +kernel)) ggL_law_X9_job
set_option maxRecDepth 20000 in
theorem ggL_law_X8_weather : GoodIn wsL_law wsX8_weather := goodIn_r _ [456, 24, 95, 99, 100, 2, 101, 663, 664, 665, 666, 667, 668, 669, 670, 671, 672, 673, 674, 726, 727, 728, 729, 730, 731, 732, 733, 734, 735] (by decide +kernel) (by decide +kernel)
set_option maxRecDepth 20000 in
theorem gL_law_X8_weather : GoodIn wsL_law (wsV RL 97 RX8 yX8_weather wsX8_weather) := goodIn_app (goodIn_of _ (by decide +kernel)) ggL_law_X8_weather
set_option maxRecDepth 20000 in
theorem ggL_law_X9_weather : GoodIn wsL_law wsX9_weather := goodIn_r _ [460, 80, 81, 106, 110, 111, 5, 112, 675, 676, 677, 678, 679, 680, 681, 682, 683, 684, 685, 686, 687, 688, 689, 690, 691, 692, 693, 694, 695, 696, 697, 698, 699, 700, 701, 702, 703, 704, 705, 706, 707, 708, 709, 710, 711, 712, 713, 714, 715, 716, 717, 718, 719, 720] (by decide +kernel) (by decide +kernel)
set_option maxRecDepth 20000 in
theorem gL_law_X9_weather : GoodIn wsL_law (wsV RL 100 RX9 yX9_weather wsX9_weather) := goodIn_app (goodIn_of _ (by decide +kernel)) ggL_law_X9_weather
set_option maxRecDepth 20000 in
theorem ggL_law_X8_ship : GoodIn wsL_law wsX8_ship := goodIn_r _ [464, 24, 95, 99, 100, 2, 101, 663, 664, 665, 666, 667, 668, 669, 670, 671, 672, 673, 674, 726, 727, 728, 729, 730, 731, 732, 733, 734, 735] (by decide +kernel) (by decide +kernel)
set_option maxRecDepth 20000 in
theorem gL_law_X8_ship : GoodIn wsL_law (wsV RL 101 RX8 yX8_ship wsX8_ship) := goodIn_app (goodIn_of _ (by decide +kernel)) ggL_law_X8_ship
set_option maxRecDepth 20000 in
theorem ggL_law_X9_ship : GoodIn wsL_law wsX9_ship := goodIn_r _ [468, 82, 469, 83, 470, 106, 110, 111, 5, 112, 675, 676, 677, 678, 679, 680, 681, 682, 683, 684, 685, 686, 687, 688, 689, 690, 691, 692, 693, 694, 695, 696, 697, 698, 699, 700, 701, 702, 703, 704, 705, 706, 707, 708, 709, 710, 711, 712, 713, 714, 715, 716, 717, 718, 719, 720] (by decide +kernel) (by decide +kernel)
set_option maxRecDepth 20000 in
theorem gL_law_X9_ship : GoodIn wsL_law (wsV RL 104 RX9 yX9_ship wsX9_ship) := goodIn_app (goodIn_of _ (by decide +kernel)) ggL_law_X9_ship
set_option maxRecDepth 20000 in
theorem ggL_law_X8_at : GoodIn wsL_law wsX8_at := goodIn_r _ [474, 24, 95, 96, 97, 2, 98, 99, 100, 101, 663, 664, 665, 666, 667, 668, 669, 670, 671, 672, 673, 674, 726, 727, 728, 729, 730, 731, 732, 733, 734, 735] (by decide +kernel) (by decide +kernel)
set_option maxRecDepth 20000 in
theorem gL_law_X8_at : GoodIn wsL_law (wsV RL 105 RX8 yX8_at wsX8_at) := goodIn_app (goodIn_of _ (by decide +kernel)) ggL_law_X8_at
set_option maxRecDepth 20000 in
theorem ggL_law_X9_at : GoodIn wsL_law wsX9_at := goodIn_r _ [478, 479, 480, 481, 84, 106, 107, 108, 5, 109, 110, 111, 112, 675, 676, 677, 678, 679, 680, 681, 682, 683, 684, 685, 686, 687, 688, 689, 690, 691, 692, 693, 694, 695, 696, 697, 698, 699, 700, 701, 702, 703, 704, 705, 706, 707, 708, 709, 710, 711, 712, 713, 714, 715, 716, 717, 718, 719, 720] (by decide +kernel) (by decide +kernel)
set_option maxRecDepth 20000 in
theorem gL_law_X9_at : GoodIn wsL_law (wsV RL 108 RX9 yX9_at wsX9_at) := goodIn_app (goodIn_of _ (by decide +kernel)) ggL_law_X9_at
set_option maxRecDepth 20000 in
theorem ggL_law_X8_round : GoodIn wsL_law wsX8_round := goodIn_r _ [485, 486, 487, 488, 489, 95, 15, 13, 24, 490, 491, 492, 10, 11, 12, 493, 494, 495, 496, 497, 498, 499, 500, 501, 502, 503, 504, 505, 506, 507, 508, 509, 510, 511, 512, 513, 514, 515, 516, 517, 23, 518, 519, 43, 520, 44, 47, 521, 522, 523, 524, 525, 526, 527, 528, 529, 530, 531, 532, 533, 201, 534, 535, 200, 202, 536, 537, 538, 539, 540, 541, 204, 205, 542, 543, 544, 545, 546, 547, 548, 549, 550, 551, 552, 553, 554, 555, 556, 557, 558, 559, 560, 561, 562, 563, 564, 565, 566, 567, 568, 569, 570, 571, 572, 573, 574, 575, 576, 577, 578, 579, 580, 581, 582, 583, 584, 332, 333, 334, 585, 586, 587, 588, 589, 590, 591, 592, 593, 594, 595, 596, 597, 598, 599, 600, 601, 602, 603, 604, 605, 606, 663, 664, 665, 666, 667, 668, 669, 670, 671, 672, 673, 674, 762, 763, 764, 765, 766, 767, 768, 769, 770, 771, 772, 773, 774, 775, 776, 777, 744, 745, 746, 747, 748, 749, 750, 751, 752, 726, 727, 728, 729, 730, 731, 732, 733, 734, 735] (by decide +kernel) (by decide +kernel)
set_option maxRecDepth 20000 in
theorem gL_law_X8_round : GoodIn wsL_law (wsV RL 109 RX8 yX8_round wsX8_round) := goodIn_app (goodIn_of _ (by decide +kernel)) ggL_law_X8_round
set_option maxRecDepth 20000 in
theorem ggL_law_X9_round : GoodIn wsL_law wsX9_round := goodIn_r _ [610, 611, 78, 87, 612, 613, 88, 614, 615, 616, 5, 617, 106, 481, 618, 619, 90, 77, 620, 621, 622, 623, 149, 89, 79, 624, 625, 626, 627, 86, 628, 629, 630, 631, 84, 632, 633, 634, 635, 479, 60, 480, 61, 82, 636, 637, 638, 639, 640, 641, 642, 643, 644, 645, 646, 470, 647, 648, 649, 650, 59, 80, 469, 81, 83, 110, 111, 112, 675, 676, 677, 678, 679, 680, 681, 682, 683, 684, 685, 686, 687, 688, 689, 690, 691, 692, 693, 694, 695, 696, 697, 698, 699, 700, 701, 702, 703, 704, 705, 706, 707, 708, 709, 710, 711, 712, 713, 714, 715, 716, 717, 718, 719, 720] (by decide +kernel) (by decide +kernel)
set_option maxRecDepth 20000 in
theorem gL_law_X9_round : GoodIn wsL_law (wsV RL 112 RX9 yX9_round wsX9_round) := goodIn_app (goodIn_of _ (by decide +kernel)) ggL_law_X9_round
set_option maxRecDepth 20000 in
theorem ggL_law_X8_about : GoodIn wsL_law wsX8_about := goodIn_r _ [654, 117, 249, 20, 317, 24, 655, 656, 657, 2, 658, 154, 155, 156, 157, 15, 663, 664, 665, 666, 667, 668, 669, 670, 671, 672, 673, 674, 721, 722, 723, 724, 725, 726, 727, 728, 729, 730, 731, 732, 733, 734, 735, 744, 745, 746, 747, 748, 749, 750, 751, 752] (by decide +kernel) (by decide +kernel)
set_option maxRecDepth 20000 in
theorem gL_law_X8_about : GoodIn wsL_law (wsV RL 113 RX8 yX8_about wsX8_about) := goodIn_app (goodIn_of _ (by decide +kernel)) ggL_law_X8_about
set_option maxRecDepth 20000 in
theorem ggL_law_X9_about : GoodIn wsL_law wsX9_about := goodIn_r _ [662, 149, 79, 254, 391, 339, 84, 675, 676, 677, 678, 679, 680, 681, 682, 683, 684, 685, 686, 687, 688, 689, 690, 691, 692, 693, 694, 695, 696, 697, 698, 699, 700, 701, 702, 703, 704, 705, 706, 707, 708, 709, 710, 711, 712, 713, 714, 715, 716, 717, 718, 719, 720] (by decide +kernel) (by decide +kernel)
set_option maxRecDepth 20000 in
theorem gL_law_X9_about : GoodIn wsL_law (wsV RL 116 RX9 yX9_about wsX9_about) := goodIn_app (goodIn_of _ (by decide +kernel)) ggL_law_X9_about
