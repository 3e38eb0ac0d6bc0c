set_option maxRecDepth 20000 in
theorem ggL_law_X8_init : GoodIn wsL_law wsX8_init := goodIn_r _ [8, 9, 10, 11, 12, 13, 14, 15, 16, 17, 18, 19, 20, 21, 22, 23, 24, 25, 26, 27, 28, 29, 30, 31, 32, 33, 34, 35, 36, 37, 38, 39, 40, 41, 42, 43, 44, 45, 46, 47, 48, 49, 50, 51, 52, 53, 54, 55, 56, 57, 58, 59, 60, 61, 62, 63, 64, 65, 66, 67, 68, 69, 70, 71, 72, 73, 663, 664, 665, 666, 667, 668, 669, 670, 671, 672, 673, 674, 721, 722, 723, 724, 725, 726, 727, 728, 729, 730, 731, 732, 733, 734, 735, 736, 737, 738, 739, 740, 741, 742, 743, 744, 745, 746, 747, 748, 749, 750, 751, 752, 753, 754, 755, 756, 757, 758, 759] (by decide +kernel) (by decide +kernel)
set_option maxRecDepth 20000 in
theorem gL_law_X8_init : GoodIn wsL_law (wsX8_init) := ggL_law_X8_init
set_option maxRecDepth 20000 in
theorem ggL_law_X9_init : GoodIn wsL_law wsX9_init := goodIn_r _ [76, 77, 10, 11, 12, 78, 79, 80, 81, 82, 83, 84, 85, 86, 87, 88, 89, 90, 91, 92, 93, 94, 95, 96, 97, 98, 99, 100, 101, 102, 103, 104, 105, 106, 107, 108, 109, 675, 676, 677, 678, 679, 680, 681, 682, 683, 684, 685, 686, 687, 688, 689, 690, 691, 692, 693, 694, 695, 696, 697, 698, 699, 700, 701, 702, 703, 704, 705, 706, 707, 708, 709, 710, 711, 712, 713, 714, 715, 716, 717, 718, 719, 720] (by decide +kernel) (by decide +kernel)
set_option maxRecDepth 20000 in
theorem gL_law_X9_init : GoodIn wsL_law (wsX9_init) := ggL_law_X9_init
set_option maxRecDepth 20000 in
theorem ggL_law_X8_depth : GoodIn wsL_law wsX8_depth := goodIn_r _ [113, 13, 114, 115, 116, 2, 117, 118, 119, 120, 663, 664, 665, 666, 667, 668, 669, 670, 671, 672, 673, 674] (by decide +kernel) (by decide +kernel)
set_option maxRecDepth 20000 in
theorem gL_law_X8_depth : GoodIn wsL_law (wsV RL 13 RX8 yX8_depth wsX8_depth) := goodIn_app (goodIn_of _ (by decide +kernel)) ggL_law_X8_depth
set_option maxRecDepth 20000 in
theorem ggL_law_X9_depth : GoodIn wsL_law wsX9_depth := goodIn_r _ [124, 78, 125, 126, 127, 5, 128, 129, 130, 131, 675, 676, 677, 678, 679, 680, 681, 682, 683, 684, 685, 686, 687, 688, 689, 690, 691, 692, 693, 694, 695, 696, 697, 698, 699, 700, 701, 702, 703, 704, 705, 706, 707, 708, 709, 710, 711, 712, 713, 714, 715, 716, 717, 718, 719, 720] (by decide +kernel) (by decide +kernel)
set_option maxRecDepth 20000 in
theorem gL_law_X9_depth : GoodIn wsL_law (wsV RL 17 RX9 yX9_depth wsX9_depth) := goodIn_app (goodIn_of _ (by decide +kernel)) ggL_law_X9_depth
set_option maxRecDepth 20000 in
theorem ggL_law_X8_mark : GoodIn wsL_law wsX8_mark := goodIn_r _ [135, 136, 15, 14, 137, 138, 115, 116, 2, 117, 118, 119, 120, 139, 140, 141, 10, 11, 142, 143, 144, 145, 146, 147, 148, 149, 150, 34, 35, 151, 152, 153, 154, 155, 156, 157, 158, 159, 160, 161, 162, 163, 70, 71, 72, 12, 73, 663, 664, 665, 666, 667, 668, 669, 670, 671, 672, 673, 674, 760, 761, 762, 763, 764, 765, 766, 767, 768, 769, 770, 771, 772, 773, 774, 775, 776, 777, 758, 759] (by decide +kernel) (by decide +kernel)
set_option maxRecDepth 20000 in
theorem gL_law_X8_mark : GoodIn wsL_law (wsV RL 18 RX8 yX8_mark wsX8_mark) := goodIn_app (goodIn_of _ (by decide +kernel)) ggL_law_X8_mark
set_option maxRecDepth 20000 in
theorem ggL_law_X9_mark : GoodIn wsL_law wsX9_mark := goodIn_r _ [167, 168, 79, 80, 81, 125, 126, 127, 5, 128, 129, 130, 131, 675, 676, 677, 678, 679, 680, 681, 682, 683, 684, 685, 686, 687, 688, 689, 690, 691, 692, 693, 694, 695, 696, 697, 698, 699, 700, 701, 702, 703, 704, 705, 706, 707, 708, 709, 710, 711, 712, 713, 714, 715, 716, 717, 718, 719, 720] (by decide +kernel) (by decide +kernel)
set_option maxRecDepth 20000 in
theorem gL_law_X9_mark : GoodIn wsL_law (wsV RL 22 RX9 yX9_mark wsX9_mark) := goodIn_app (goodIn_of _ (by decide +kernel)) ggL_law_X9_mark
set_option maxRecDepth 20000 in
theorem ggL_law_X8_sight : GoodIn wsL_law wsX8_sight := goodIn_r _ [172, 173, 174, 175, 2, 176, 136, 15, 177, 144, 178, 179, 159, 180, 160, 181, 182, 183, 184, 185, 760, 761, 762, 763, 764, 765, 766, 767, 768, 663, 664, 665, 666, 667, 668, 669, 670, 671, 672, 673, 674, 769, 770, 771, 772] (by decide +kernel) (by decide +kernel)
set_option maxRecDepth 20000 in
theorem gL_law_X8_sight : GoodIn wsL_law (wsV RL 23 RX8 yX8_sight wsX8_sight) := goodIn_app (goodIn_of _ (by decide +kernel)) ggL_law_X8_sight
set_option maxRecDepth 20000 in
theorem ggL_law_X9_sight : GoodIn wsL_law wsX9_sight := goodIn_r _ [189, 83, 84, 190, 191, 192, 5, 193, 168, 129, 130, 131, 675, 676, 677, 678, 679, 680, 681, 682, 683, 684, 685, 686, 687, 688, 689, 690, 691, 692, 693, 694, 695, 696, 697, 698, 699, 700, 701, 702, 703, 704, 705, 706, 707, 708, 709, 710, 711, 712, 713, 714, 715, 716, 717, 718, 719, 720] (by decide +kernel) (by decide +kernel)
set_option maxRecDepth 20000 in
theorem gL_law_X9_sight : GoodIn wsL_law (wsV RL 27 RX9 yX9_sight wsX9_sight) := goodIn_app (goodIn_of _ (by decide +kernel)) ggL_law_X9_sight
set_option maxRecDepth 20000 in
theorem ggL_law_X8_bearing : GoodIn wsL_law wsX8_bearing := goodIn_r _ [197, 173, 174, 175, 2, 176, 136, 15, 198, 199, 200, 118, 119, 120, 201, 144, 202, 203, 159, 181, 760, 761, 762, 763, 764, 765, 766, 767, 768, 663, 664, 665, 666, 667, 668, 669, 670, 671, 672, 673, 674, 769, 770, 771, 772] (by decide +kernel) (by decide +kernel)
set_option maxRecDepth 20000 in
theorem gL_law_X8_bearing : GoodIn wsL_law (wsV RL 28 RX8 yX8_bearing wsX8_bearing) := goodIn_app (goodIn_of _ (by decide +kernel)) ggL_law_X8_bearing
set_option maxRecDepth 20000 in
theorem ggL_law_X9_bearing : GoodIn wsL_law wsX9_bearing := goodIn_r _ [207, 79, 80, 83, 84, 190, 191, 192, 5, 193, 168, 129, 130, 131, 208, 209, 210, 675, 676, 677, 678, 679, 680, 681, 682, 683, 684, 685, 686, 687, 688, 689, 690, 691, 692, 693, 694, 695, 696, 697, 698, 699, 700, 701, 702, 703, 704, 705, 706, 707, 708, 709, 710, 711, 712, 713, 714, 715, 716, 717, 718, 719, 720] (by decide +kernel) (by decide +kernel)
set_option maxRecDepth 20000 in
theorem gL_law_X9_bearing : GoodIn wsL_law (wsV RL 32 RX9 yX9_bearing wsX9_bearing) := goodIn_app (goodIn_of _ (by decide +kernel)) ggL_law_X9_bearing
set_option maxRecDepth 20000 in
theorem ggL_law_X8_sounding : GoodIn wsL_law wsX8_sounding := goodIn_r _ [214, 173, 174, 175, 2, 176, 136, 15, 118, 119, 120, 215, 144, 216, 217, 180, 218, 219, 220, 221, 160, 222, 223, 224, 181, 760, 761, 762, 763, 764, 765, 766, 767, 768, 663, 664, 665, 666, 667, 668, 669, 670, 671, 672, 673, 674, 769, 770, 771, 772] (by decide +kernel) (by decide +kernel)
set_option maxRecDepth 20000 in
theorem gL_law_X8_sounding : GoodIn wsL_law (wsV RL 33 RX8 yX8_sounding wsX8_sounding) := goodIn_app (goodIn_of _ (by decide +kernel)) ggL_law_X8_sounding
set_option maxRecDepth 20000 in
theorem ggL_law_X9_sounding : GoodIn wsL_law wsX9_sounding := goodIn_r _ [228, 83, 78, 84, 190, 191, 192, 5, 193, 168, 129, 130, 131, 675, 676, 677, 678, 679, 680, 681, 682, 683, 684, 685, 686, 687, 688, 689, 690, 691, 692, 693, 694, 695, 696, 697, 698, 699, 700, 701, 702, 703, 704, 705, 706, 707, 708, 709, 710, 711, 712, 713, 714, 715, 716, 717, 718, 719, 720] (by decide +kernel) (by decide +kernel)
set_option maxRecDepth 20000 in
theorem gL_law_X9_sounding : GoodIn wsL_law (wsV RL 37 RX9 yX9_sounding wsX9_sounding) := goodIn_app (goodIn_of _ (by decide +kernel)) ggL_law_X9_sounding
set_option maxRecDepth 20000 in
theorem ggL_law_X8_lies : GoodIn wsL_law wsX8_lies := goodIn_r _ [232, 32, 13, 173, 174, 175, 2, 176, 136, 15, 118, 119, 120, 233, 31, 234, 235, 236, 237, 238, 239, 240, 241, 242, 243, 244, 245, 246, 223, 220, 224, 247, 219, 221, 248, 249, 250, 251, 252, 253, 254, 255, 256, 760, 761, 762, 763, 764, 765, 766, 767, 768, 663, 664, 665, 666, 667, 668, 669, 670, 671, 672, 673, 674, 769, 770, 771, 772, 752, 753, 754, 755, 756, 757] (by decide +kernel) (by decide +kernel)
set_option maxRecDepth 20000 in
theorem gL_law_X8_lies : GoodIn wsL_law (wsV RL 38 RX8 yX8_lies wsX8_lies) := goodIn_app (goodIn_of _ (by decide +kernel)) ggL_law_X8_lies
set_option maxRecDepth 20000 in
theorem ggL_law_X9_lies : GoodIn wsL_law wsX9_lies := goodIn_r _ [260, 83, 79, 80, 81, 84, 190, 191, 192, 5, 193, 168, 129, 130, 131, 261, 262, 263, 675, 676, 677, 678, 679, 680, 681, 682, 683, 684, 685, 686, 687, 688, 689, 690, 691, 692, 693, 694, 695, 696, 697, 698, 699, 700, 701, 702, 703, 704, 705, 706, 707, 708, 709, 710, 711, 712, 713, 714, 715, 716, 717, 718, 719, 720] (by decide +kernel) (by decide +kernel)
set_option maxRecDepth 20000 in
theorem gL_law_X9_lies : GoodIn wsL_law (wsV RL 42 RX9 yX9_lies wsX9_lies) := goodIn_app (goodIn_of _ (by decide +kernel)) ggL_law_X9_lies
set_option maxRecDepth 20000 in
theorem ggL_law_X8_day : GoodIn wsL_law wsX8_day := goodIn_r _ [267, 268, 118, 119, 2, 120, 663, 664, 665, 666, 667, 668, 669, 670, 671, 672, 673, 674] (by decide +kernel) (by decide +kernel)
set_option maxRecDepth 20000 in
theorem gL_law_X8_day : GoodIn wsL_law (wsV RL 43 RX8 yX8_day wsX8_day) := goodIn_app (goodIn_of _ (by decide +kernel)) ggL_law_X8_day
set_option maxRecDepth 20000 in
theorem ggL_law_X9_day : GoodIn wsL_law wsX9_day := goodIn_r _ [272, 273, 129, 130, 5, 131, 675, 676, 677, 678, 679, 680, 681, 682, 683, 684, 685, 686, 687, 688, 689, 690, 691, 692, 693, 694, 695, 696, 697, 698, 699, 700, 701, 702, 703, 704, 705, 706, 707, 708, 709, 710, 711, 712, 713, 714, 715, 716, 717, 718, 719, 720] (by decide +kernel) (by decide +kernel)
set_option maxRecDepth 20000 in
theorem gL_law_X9_day : GoodIn wsL_law (wsV RL 46 RX9 yX9_day wsX9_day) := goodIn_app (goodIn_of _ (by decide +kernel)) ggL_law_X9_day
set_option maxRecDepth 20000 in
theorem ggL_law_X8_chain : GoodIn wsL_law wsX8_chain := goodIn_r _ [277, 173, 174, 175, 2, 176, 136, 15, 118, 119, 120, 278, 279, 280, 281, 268, 282, 148, 283, 284, 285, 286, 287, 288, 289, 760, 761, 762, 763, 764, 765, 766, 767, 768, 663, 664, 665, 666, 667, 668, 669, 670, 671, 672, 673, 674, 773, 774, 775, 776, 777] (by decide +kernel) (by decide +kernel)
set_option maxRecDepth 20000 in
theorem gL_law_X8_chain : GoodIn wsL_law (wsV RL 47 RX8 yX8_chain wsX8_chain) := goodIn_app (goodIn_of _ (by decide +kernel)) ggL_law_X8_chain
set_option maxRecDepth 20000 in
theorem ggL_law_X9_chain : GoodIn wsL_law wsX9_chain := goodIn_r _ [293, 85, 273, 86, 87, 88, 190, 191, 192, 5, 193, 168, 129, 130, 131, 675, 676, 677, 678, 679, 680, 681, 682, 683, 684, 685, 686, 687, 688, 689, 690, 691, 692, 693, 694, 695, 696, 697, 698, 699, 700, 701, 702, 703, 704, 705, 706, 707, 708, 709, 710, 711, 712, 713, 714, 715, 716, 717, 718, 719, 720] (by decide +kernel) (by decide +kernel)
set_option maxRecDepth 20000 in
theorem gL_law_X9_chain : GoodIn wsL_law (wsV RL 51 RX9 yX9_chain wsX9_chain) := goodIn_app (goodIn_of _ (by decide +kernel)) ggL_law_X9_chain
set_option maxRecDepth 20000 in
theorem ggL_law_X8_wear : GoodIn wsL_law wsX8_wear := goodIn_r _ [297, 16, 118, 119, 2, 120, 663, 664, 665, 666, 667, 668, 669, 670, 671, 672, 673, 674] (by decide +kernel) (by decide +kernel)
set_option maxRecDepth 20000 in
theorem gL_law_X8_wear : GoodIn wsL_law (wsV RL 52 RX8 yX8_wear wsX8_wear) := goodIn_app (goodIn_of _ (by decide +kernel)) ggL_law_X8_wear
set_option maxRecDepth 20000 in
theorem ggL_law_X9_wear : GoodIn wsL_law wsX9_wear := goodIn_r _ [301, 89, 129, 130, 5, 131, 675, 676, 677, 678, 679, 680, 681, 682, 683, 684, 685, 686, 687, 688, 689, 690, 691, 692, 693, 694, 695, 696, 697, 698, 699, 700, 701, 702, 703, 704, 705, 706, 707, 708, 709, 710, 711, 712, 713, 714, 715, 716, 717, 718, 719, 720] (by decide +kernel) (by decide +kernel)
set_option maxRecDepth 20000 in
theorem gL_law_X9_wear : GoodIn wsL_law (wsV RL 55 RX9 yX9_wear wsX9_wear) := goodIn_app (goodIn_of _ (by decide +kernel)) ggL_law_X9_wear
set_option maxRecDepth 20000 in
theorem ggL_law_X8_chainOf : GoodIn wsL_law wsX8_chainOf := goodIn_r _ [305, 16, 306, 219, 220, 221, 173, 174, 175, 2, 176, 136, 15, 278, 279, 280, 281, 268, 307, 148, 308, 309, 286, 289, 310, 311, 312, 313, 288, 314, 315, 316, 287, 760, 761, 762, 763, 764, 765, 766, 767, 768, 773, 774, 775, 776, 777, 663, 664, 665, 666, 667, 668, 669, 670, 671, 672, 673, 674] (by decide +kernel) (by decide +kernel)
set_option maxRecDepth 20000 in
theorem gL_law_X8_chainOf : GoodIn wsL_law (wsV RL 56 RX8 yX8_chainOf wsX8_chainOf) := goodIn_app (goodIn_of _ (by decide +kernel)) ggL_law_X8_chainOf
set_option maxRecDepth 20000 in
theorem ggL_law_X9_chainOf : GoodIn wsL_law wsX9_chainOf := goodIn_r _ [320, 85, 86, 89, 88, 87, 273, 190, 191, 192, 5, 193, 168, 129, 130, 131, 675, 676, 677, 678, 679, 680, 681, 682, 683, 684, 685, 686, 687, 688, 689, 690, 691, 692, 693, 694, 695, 696, 697, 698, 699, 700, 701, 702, 703, 704, 705, 706, 707, 708, 709, 710, 711, 712, 713, 714, 715, 716, 717, 718, 719, 720] (by decide +kernel) (by decide +kernel)
set_option maxRecDepth 20000 in
theorem gL_law_X9_chainOf : GoodIn wsL_law (wsV RL 59 RX9 yX9_chainOf wsX9_chainOf) := goodIn_app (goodIn_of _ (by decide +kernel)) ggL_law_X9_chainOf
set_option maxRecDepth 20000 in
theorem ggL_law_X8_light : GoodIn wsL_law wsX8_light := goodIn_r _ [324, 36, 173, 174, 175, 2, 176, 136, 15, 325, 35, 326, 327, 328, 329, 330, 331, 73, 119, 120, 332, 333, 334, 335, 336, 337, 138, 338, 339, 152, 153, 248, 249, 340, 341, 342, 343, 344, 345, 346, 347, 348, 349, 350, 351, 352, 353, 760, 761, 762, 763, 764, 765, 766, 767, 768, 663, 664, 665, 666, 667, 668, 669, 670, 671, 672, 673, 674, 758, 759] (by decide +kernel) (by decide +kernel)
set_option maxRecDepth 20000 in
theorem gL_law_X8_light : GoodIn wsL_law (wsV RL 60 RX8 yX8_light wsX8_light) := goodIn_app (goodIn_of _ (by decide +kernel)) ggL_law_X8_light
set_option maxRecDepth 20000 in
theorem ggL_law_X9_light : GoodIn wsL_law wsX9_light := goodIn_r _ [357, 90, 104, 91, 358, 190, 191, 192, 5, 193, 168, 129, 130, 131, 359, 360, 361, 362, 363, 364, 365, 366, 79, 80, 261, 262, 263, 367, 368, 369, 370, 675, 676, 677, 678, 679, 680, 681, 682, 683, 684, 685, 686, 687, 688, 689, 690, 691, 692, 693, 694, 695, 696, 697, 698, 699, 700, 701, 702, 703, 704, 705, 706, 707, 708, 709, 710, 711, 712, 713, 714, 715, 716, 717, 718, 719, 720] (by decide +kernel) (by decide +kernel)
set_option maxRecDepth 20000 in
theorem gL_law_X9_light : GoodIn wsL_law (wsV RL 63 RX9 yX9_light wsX9_light) := goodIn_app (goodIn_of _ (by decide +kernel)) ggL_law_X9_light
set_option maxRecDepth 20000 in
theorem ggL_law_X8_near : GoodIn wsL_law wsX8_near := goodIn_r _ [374, 336, 118, 119, 2, 120, 375, 376, 377, 378, 136, 173, 174, 175, 176, 15, 337, 138, 338, 339, 152, 153, 248, 249, 340, 35, 341, 342, 328, 343, 344, 345, 346, 73, 663, 664, 665, 666, 667, 668, 669, 670, 671, 672, 673, 674, 760, 761, 762, 763, 764, 765, 766, 767, 768, 758, 759] (by decide +kernel) (by decide +kernel)
set_option maxRecDepth 20000 in
theorem gL_law_X8_near : GoodIn wsL_law (wsV RL 64 RX8 yX8_near wsX8_near) := goodIn_app (goodIn_of _ (by decide +kernel)) ggL_law_X8_near
set_option maxRecDepth 20000 in
theorem ggL_law_X9_near : GoodIn wsL_law wsX9_near := goodIn_r _ [382, 168, 358, 129, 130, 5, 131, 359, 360, 361, 362, 363, 364, 365, 366, 79, 80, 261, 262, 263, 367, 368, 369, 370, 90, 91, 675, 676, 677, 678, 679, 680, 681, 682, 683, 684, 685, 686, 687, 688, 689, 690, 691, 692, 693, 694, 695, 696, 697, 698, 699, 700, 701, 702, 703, 704, 705, 706, 707, 708, 709, 710, 711, 712, 713, 714, 715, 716, 717, 718, 719, 720] (by decide +kernel) (by decide +kernel)
set_option maxRecDepth 20000 in
theorem gL_law_X9_near : GoodIn wsL_law (wsV RL 67 RX9 yX9_near wsX9_near) := goodIn_app (goodIn_of _ (by decide +kernel)) ggL_law_X9_near
set_option maxRecDepth 20000 in
theorem ggL_law_X8_alike : GoodIn wsL_law wsX8_alike := goodIn_r _ [386, 173, 174, 175, 2, 176, 136, 15, 387, 35, 388, 389, 328, 340, 341, 342, 343, 344, 345, 346, 73, 760, 761, 762, 763, 764, 765, 766, 767, 768, 663, 664, 665, 666, 667, 668, 669, 670, 671, 672, 673, 674, 758, 759] (by decide +kernel) (by decide +kernel)
set_option maxRecDepth 20000 in
theorem gL_law_X8_alike : GoodIn wsL_law (wsV RL 68 RX8 yX8_alike wsX8_alike) := goodIn_app (goodIn_of _ (by decide +kernel)) ggL_law_X8_alike
set_option maxRecDepth 20000 in
theorem ggL_law_X9_alike : GoodIn wsL_law wsX9_alike := goodIn_r _ [393, 90, 190, 191, 192, 5, 193, 168, 129, 130, 131, 367, 368, 369, 370, 91, 675, 676, 677, 678, 679, 680, 681, 682, 683, 684, 685, 686, 687, 688, 689, 690, 691, 692, 693, 694, 695, 696, 697, 698, 699, 700, 701, 702, 703, 704, 705, 706, 707, 708, 709, 710, 711, 712, 713, 714, 715, 716, 717, 718, 719, 720] (by decide +kernel) (by decide +kernel)
set_option maxRecDepth 20000 in
theorem gL_law_X9_alike : GoodIn wsL_law (wsV RL 71 RX9 yX9_alike wsX9_alike) := goodIn_app (goodIn_of _ (by decide +kernel)) ggL_law_X9_alike
set_option maxRecDepth 20000 in
theorem ggL_law_X8_warn : GoodIn wsL_law wsX8_warn := goodIn_r _ [397, 20, 268, 173, 174, 175, 2, 176, 136, 15, 118, 119, 120, 398, 19, 399, 400, 401, 40, 41, 42, 43, 402, 403, 404, 405, 663, 664, 665, 666, 667, 668, 669, 670, 671, 672, 673, 674, 721, 722, 723, 724, 725] (by decide +kernel) (by decide +kernel)
set_option maxRecDepth 20000 in
theorem gL_law_X8_warn : GoodIn wsL_law (wsV RL 72 RX8 yX8_warn wsX8_warn) := goodIn_app (goodIn_of _ (by decide +kernel)) ggL_law_X8_warn
set_option maxRecDepth 20000 in
theorem ggL_law_X9_warn : GoodIn wsL_law wsX9_warn := goodIn_r _ [409, 410, 92, 93, 95, 94, 273, 190, 191, 192, 5, 193, 168, 129, 130, 131, 675, 676, 677, 678, 679, 680, 681, 682, 683, 684, 685, 686, 687, 688, 689, 690, 691, 692, 693, 694, 695, 696, 697, 698, 699, 700, 701, 702, 703, 704, 705, 706, 707, 708, 709, 710, 711, 712, 713, 714, 715, 716, 717, 718, 719, 720] (by decide +kernel) (by decide +kernel)
set_option maxRecDepth 20000 in
theorem gL_law_X9_warn : GoodIn wsL_law (wsV RL 75 RX9 yX9_warn wsX9_warn) := goodIn_app (goodIn_of _ (by decide +kernel)) ggL_law_X9_warn
set_option maxRecDepth 20000 in
theorem ggL_law_X8_cancel : GoodIn wsL_law wsX8_cancel := goodIn_r _ [414, 20, 268, 415, 19, 416, 417, 43, 418, 419, 420, 421, 401, 663, 664, 665, 666, 667, 668, 669, 670, 671, 672, 673, 674, 721, 722, 723, 724, 725] (by decide +kernel) (by decide +kernel)
set_option maxRecDepth 20000 in
theorem gL_law_X8_cancel : GoodIn wsL_law (wsV RL 76 RX8 yX8_cancel wsX8_cancel) := goodIn_app (goodIn_of _ (by decide +kernel)) ggL_law_X8_cancel
set_option maxRecDepth 20000 in
theorem ggL_law_X9_cancel : GoodIn wsL_law wsX9_cancel := goodIn_r _ [425, 410, 95, 273, 129, 130, 5, 131, 675, 676, 677, 678, 679, 680, 681, 682, 683, 684, 685, 686, 687, 688, 689, 690, 691, 692, 693, 694, 695, 696, 697, 698, 699, 700, 701, 702, 703, 704, 705, 706, 707, 708, 709, 710, 711, 712, 713, 714, 715, 716, 717, 718, 719, 720] (by decide +kernel) (by decide +kernel)
set_option maxRecDepth 20000 in
theorem gL_law_X9_cancel : GoodIn wsL_law (wsV RL 79 RX9 yX9_cancel wsX9_cancel) := goodIn_app (goodIn_of _ (by decide +kernel)) ggL_law_X9_cancel
set_option maxRecDepth 20000 in
theorem ggL_law_X8_list : GoodIn wsL_law wsX8_list := goodIn_r _ [429, 268, 20, 118, 119, 2, 120, 430, 19, 431, 432, 401, 433, 434, 435, 436, 42, 43, 663, 664, 665, 666, 667, 668, 669, 670, 671, 672, 673, 674, 721, 722, 723, 724, 725] (by decide +kernel) (by decide +kernel)
set_option maxRecDepth 20000 in
theorem gL_law_X8_list : GoodIn wsL_law (wsV RL 80 RX8 yX8_list wsX8_list) := goodIn_app (goodIn_of _ (by decide +kernel)) ggL_law_X8_list
set_option maxRecDepth 20000 in
theorem ggL_law_X9_list : GoodIn wsL_law wsX9_list := goodIn_r _ [440, 273, 410, 129, 130, 5, 131, 441, 442, 443, 444, 94, 95, 675, 676, 677, 678, 679, 680, 681, 682, 683, 684, 685, 686, 687, 688, 689, 690, 691, 692, 693, 694, 695, 696, 697, 698, 699, 700, 701, 702, 703, 704, 705, 706, 707, 708, 709, 710, 711, 712, 713, 714, 715, 716, 717, 718, 719, 720] (by decide +kernel) (by decide +kernel)
set_option maxRecDepth 20000 in
theorem gL_law_X9_list : GoodIn wsL_law (wsV RL 84 RX9 yX9_list wsX9_list) := goodIn_app (goodIn_of _ (by decide +kernel)) ggL_law_X9_list
set_option maxRecDepth 20000 in
theorem ggL_law_X8_listed : GoodIn wsL_law wsX8_listed := goodIn_r _ [448, 268, 20, 118, 119, 2, 120, 449, 19, 450, 451, 401, 433, 434, 435, 436, 42, 43, 663, 664, 665, 666, 667, 668, 669, 670, 671, 672, 673, 674, 721, 722, 723, 724, 725] (by decide +kernel) (by decide +kernel)
set_option maxRecDepth 20000 in
theorem gL_law_X8_listed : GoodIn wsL_law (wsV RL 85 RX8 yX8_listed wsX8_listed) := goodIn_app (goodIn_of _ (by decide +kernel)) ggL_law_X8_listed
set_option maxRecDepth 20000 in
theorem ggL_law_X9_listed : GoodIn wsL_law wsX9_listed := goodIn_r _ [455, 410, 273, 129, 130, 5, 131, 441, 442, 443, 444, 94, 95, 675, 676, 677, 678, 679, 680, 681, 682, 683, 684, 685, 686, 687, 688, 689, 690, 691, 692, 693, 694, 695, 696, 697, 698, 699, 700, 701, 702, 703, 704, 705, 706, 707, 708, 709, 710, 711, 712, 713, 714, 715, 716, 717, 718, 719, 720] (by decide +kernel) (by decide +kernel)
set_option maxRecDepth 20000 in
theorem gL_law_X9_listed : GoodIn wsL_law (wsV RL 88 RX9 yX9_listed wsX9_listed) := goodIn_app (goodIn_of _ (by decide +kernel)) ggL_law_X9_listed
set_option maxRecDepth 20000 in
theorem ggL_law_X8_warning : GoodIn wsL_law wsX8_warning := goodIn_r _ [459, 20, 419, 19, 420, 421, 401, 663, 664, 665, 666, 667, 668, 669, 670, 671, 672, 673, 674, 721, 722, 723, 724, 725] (by decide +kernel) (by decide +kernel)
set_option maxRecDepth 20000 in
theorem gL_law_X8_warning : GoodIn wsL_law (wsV RL 89 RX8 yX8_warning wsX8_warning) := goodIn_app (goodIn_of _ (by decide +kernel)) ggL_law_X8_warning
set_option maxRecDepth 20000 in
theorem ggL_law_X9_warning : GoodIn wsL_law wsX9_warning := goodIn_r _ [463, 410, 92, 93, 94, 95, 129, 130, 5, 131, 675, 676, 677, 678, 679, 680, 681, 682, 683, 684, 685, 686, 687, 688, 689, 690, 691, 692, 693, 694, 695, 696, 697, 698, 699, 700, 701, 702, 703, 704, 705, 706, 707, 708, 709, 710, 711, 712, 713, 714, 715, 716, 717, 718, 719, 720] (by decide +kernel) (by decide +kernel)
set_option maxRecDepth 20000 in
theorem gL_law_X9_warning : GoodIn wsL_law (wsV RL 92 RX9 yX9_warning wsX9_warning) := goodIn_app (goodIn_of _ (by decide +kernel)) ggL_law_X9_warning
set_option maxRecDepth 20000 in
theorem ggL_law_X8_job : GoodIn wsL_law wsX8_job := goodIn_r _ [467, 114, 173, 174, 175, 2, 176, 136, 15, 118, 119, 120, 760, 761, 762, 763, 764, 765, 766, 767, 768, 663, 664, 665, 666, 667, 668, 669, 670, 671, 672, 673, 674] (by decide +kernel) (by decide +kernel)
set_option maxRecDepth 20000 in
theorem gL_law_X8_job : GoodIn wsL_law (wsV RL 93 RX8 yX8_job wsX8_job) := goodIn_app (goodIn_of _ (by decide +kernel)) ggL_law_X8_job
set_option maxRecDepth 20000 in
theorem ggL_law_X9_job : GoodIn wsL_law wsX9_job := goodIn_r _ [471, 96, 97, 98, 125, 190, 191, 192, 5, 193, 168, 129, 130, 131, 675, 676, 677, 678, 679, 680, 681, 682, 683, 684, 685, 686, 687, 688, 689, 690, 691, 692, 693, 694, 695, 696, 697, 698, 699, 700, 701, 702, 703, 704, 705, 706, 707, 708, 709, 710, 711, 712, 713, 714, 715, 716, 717, 718, 719, 720] (by decide +kernel) (by decide +kernel)
set_option maxRecDepth 20000 in
theorem gL_law_X9_job : GoodIn wsL_law (wsV RL 96 RX9 yX9_job wsX9_job) := goodIn_app (goodIn_of _ (by decide +kernel)) ggL_law_X9_job
set_option maxRecDepth 20000 in
theorem ggL_law_X8_weather : GoodIn wsL_law wsX8_weather := goodIn_r _ [475, 24, 114, 118, 119, 2, 120, 663, 664, 665, 666, 667, 668, 669, 670, 671, 672, 673, 674, 726, 727, 728, 729, 730, 731, 732, 733, 734, 735] (by decide +kernel) (by decide +kernel)
set_option maxRecDepth 20000 in
theorem gL_law_X8_weather : GoodIn wsL_law (wsV RL 97 RX8 yX8_weather wsX8_weather) := goodIn_app (goodIn_of _ (by decide +kernel)) ggL_law_X8_weather
set_option maxRecDepth 20000 in
theorem ggL_law_X9_weather : GoodIn wsL_law wsX9_weather := goodIn_r _ [479, 99, 100, 125, 129, 130, 5, 131, 675, 676, 677, 678, 679, 680, 681, 682, 683, 684, 685, 686, 687, 688, 689, 690, 691, 692, 693, 694, 695, 696, 697, 698, 699, 700, 701, 702, 703, 704, 705, 706, 707, 708, 709, 710, 711, 712, 713, 714, 715, 716, 717, 718, 719, 720] (by decide +kernel) (by decide +kernel)
set_option maxRecDepth 20000 in
theorem gL_law_X9_weather : GoodIn wsL_law (wsV RL 100 RX9 yX9_weather wsX9_weather) := goodIn_app (goodIn_of _ (by decide +kernel)) ggL_law_X9_weather
set_option maxRecDepth 20000 in
theorem ggL_law_X8_ship : GoodIn wsL_law wsX8_ship := goodIn_r _ [483, 24, 114, 118, 119, 2, 120, 663, 664, 665, 666, 667, 668, 669, 670, 671, 672, 673, 674, 726, 727, 728, 729, 730, 731, 732, 733, 734, 735] (by decide +kernel) (by decide +kernel)
set_option maxRecDepth 20000 in
theorem gL_law_X8_ship : GoodIn wsL_law (wsV RL 101 RX8 yX8_ship wsX8_ship) := goodIn_app (goodIn_of _ (by decide +kernel)) ggL_law_X8_ship
set_option maxRecDepth 20000 in
theorem ggL_law_X9_ship : GoodIn wsL_law wsX9_ship := goodIn_r _ [487, 101, 488, 102, 489, 125, 129, 130, 5, 131, 675, 676, 677, 678, 679, 680, 681, 682, 683, 684, 685, 686, 687, 688, 689, 690, 691, 692, 693, 694, 695, 696, 697, 698, 699, 700, 701, 702, 703, 704, 705, 706, 707, 708, 709, 710, 711, 712, 713, 714, 715, 716, 717, 718, 719, 720] (by decide +kernel) (by decide +kernel)
set_option maxRecDepth 20000 in
theorem gL_law_X9_ship : GoodIn wsL_law (wsV RL 104 RX9 yX9_ship wsX9_ship) := goodIn_app (goodIn_of _ (by decide +kernel)) ggL_law_X9_ship
set_option maxRecDepth 20000 in
theorem ggL_law_X8_at : GoodIn wsL_law wsX8_at := goodIn_r _ [493, 24, 114, 115, 116, 2, 117, 118, 119, 120, 663, 664, 665, 666, 667, 668, 669, 670, 671, 672, 673, 674, 726, 727, 728, 729, 730, 731, 732, 733, 734, 735] (by decide +kernel) (by decide +kernel)
set_option maxRecDepth 20000 in
theorem gL_law_X8_at : GoodIn wsL_law (wsV RL 105 RX8 yX8_at wsX8_at) := goodIn_app (goodIn_of _ (by decide +kernel)) ggL_law_X8_at
set_option maxRecDepth 20000 in
theorem ggL_law_X9_at : GoodIn wsL_law wsX9_at := goodIn_r _ [497, 498, 499, 500, 103, 125, 126, 127, 5, 128, 129, 130, 131, 675, 676, 677, 678, 679, 680, 681, 682, 683, 684, 685, 686, 687, 688, 689, 690, 691, 692, 693, 694, 695, 696, 697, 698, 699, 700, 701, 702, 703, 704, 705, 706, 707, 708, 709, 710, 711, 712, 713, 714, 715, 716, 717, 718, 719, 720] (by decide +kernel) (by decide +kernel)
set_option maxRecDepth 20000 in
theorem gL_law_X9_at : GoodIn wsL_law (wsV RL 108 RX9 yX9_at wsX9_at) := goodIn_app (goodIn_of _ (by decide +kernel)) ggL_law_X9_at
set_option maxRecDepth 20000 in
theorem ggL_law_X8_round : GoodIn wsL_law wsX8_round := goodIn_r _ [504, 114, 28, 15, 13, 24, 505, 27, 506, 507, 508, 509, 510, 511, 512, 55, 56, 57, 58, 513, 514, 515, 516, 61, 60, 517, 23, 518, 519, 47, 520, 48, 51, 521, 522, 523, 524, 59, 525, 526, 527, 528, 529, 530, 531, 532, 533, 220, 534, 535, 219, 221, 536, 537, 538, 539, 63, 540, 62, 541, 223, 224, 542, 543, 544, 545, 546, 547, 548, 549, 550, 551, 552, 553, 554, 555, 556, 557, 558, 559, 560, 561, 562, 563, 564, 565, 566, 567, 568, 569, 570, 571, 572, 573, 574, 575, 576, 577, 578, 579, 580, 581, 582, 583, 64, 65, 584, 351, 352, 353, 585, 586, 587, 588, 589, 590, 591, 592, 593, 594, 595, 596, 597, 598, 599, 600, 66, 601, 602, 603, 604, 605, 606, 663, 664, 665, 666, 667, 668, 669, 670, 671, 672, 673, 674, 736, 737, 738, 739, 740, 741, 742, 743, 744, 745, 746, 747, 748, 749, 750, 751, 760, 761, 762, 763, 764, 765, 766, 767, 768, 726, 727, 728, 729, 730, 731, 732, 733, 734, 735] (by decide +kernel) (by decide +kernel)
set_option maxRecDepth 20000 in
theorem gL_law_X8_round : GoodIn wsL_law (wsV RL 109 RX8 yX8_round wsX8_round) := goodIn_app (goodIn_of _ (by decide +kernel)) ggL_law_X8_round
set_option maxRecDepth 20000 in
theorem ggL_law_X9_round : GoodIn wsL_law wsX9_round := goodIn_r _ [610, 611, 97, 106, 612, 613, 107, 614, 615, 616, 5, 617, 125, 500, 618, 619, 109, 96, 620, 621, 622, 623, 168, 108, 98, 624, 625, 626, 627, 105, 628, 629, 630, 631, 103, 632, 633, 634, 635, 498, 79, 499, 80, 101, 636, 637, 638, 639, 640, 641, 642, 643, 644, 645, 646, 489, 647, 648, 649, 650, 78, 99, 488, 100, 102, 129, 130, 131, 675, 676, 677, 678, 679, 680, 681, 682, 683, 684, 685, 686, 687, 688, 689, 690, 691, 692, 693, 694, 695, 696, 697, 698, 699, 700, 701, 702, 703, 704, 705, 706, 707, 708, 709, 710, 711, 712, 713, 714, 715, 716, 717, 718, 719, 720] (by decide +kernel) (by decide +kernel)
set_option maxRecDepth 20000 in
theorem gL_law_X9_round : GoodIn wsL_law (wsV RL 112 RX9 yX9_round wsX9_round) := goodIn_app (goodIn_of _ (by decide +kernel)) ggL_law_X9_round
set_option maxRecDepth 20000 in
theorem ggL_law_X8_about : GoodIn wsL_law wsX8_about := goodIn_r _ [654, 136, 268, 20, 336, 24, 655, 656, 657, 2, 658, 173, 174, 175, 176, 15, 663, 664, 665, 666, 667, 668, 669, 670, 671, 672, 673, 674, 721, 722, 723, 724, 725, 726, 727, 728, 729, 730, 731, 732, 733, 734, 735, 760, 761, 762, 763, 764, 765, 766, 767, 768] (by decide +kernel) (by decide +kernel)
set_option maxRecDepth 20000 in
theorem gL_law_X8_about : GoodIn wsL_law (wsV RL 113 RX8 yX8_about wsX8_about) := goodIn_app (goodIn_of _ (by decide +kernel)) ggL_law_X8_about
set_option maxRecDepth 20000 in
theorem ggL_law_X9_about : GoodIn wsL_law wsX9_about := goodIn_r _ [662, 168, 98, 273, 410, 358, 103, 675, 676, 677, 678, 679, 680, 681, 682, 683, 684, 685, 686, 687, 688, 689, 690, 691, 692, 693, 694, 695, 696, 697, 698, 699, 700, 701, 702, 703, 704, 705, 706, 707, 708, 709, 710, 711, 712, 713, 714, 715, 716, 717, 718, 719, 720] (by decide +kernel) (by decide +kernel)
set_option maxRecDepth 20000 in
theorem gL_law_X9_about : GoodIn wsL_law (wsV RL 116 RX9 yX9_about wsX9_about) := goodIn_app (goodIn_of _ (by decide +kernel)) ggL_law_X9_about
