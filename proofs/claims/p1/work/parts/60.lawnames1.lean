theorem mem_places {big ws : List Cond} (ps : List Nat) (h : ws = ps.filterMap (fun i => big[i]?)) : ∀ w ∈ ws, w ∈ big := by
  intro w hw
  rw [h] at hw
  obtain ⟨i, -, hi⟩ := List.mem_filterMap.mp hw
  exact List.mem_of_getElem? hi
set_option maxRecDepth 20000 in
theorem wsL_law_r1_in : ∀ w ∈ wsL_law_r1, w ∈ lw_tbl := mem_places [78, 79, 65, 748, 749, 70, 80, 81, 82, 83, 84, 85, 115, 208, 86, 209, 210, 88, 89, 66, 211, 116, 117, 67] (by decide +kernel)
set_option maxRecDepth 20000 in
theorem wsL_law_r2_in : ∀ w ∈ wsL_law_r2, w ∈ lw_tbl := mem_places [212, 165, 166, 68, 213, 195, 196, 69, 214, 91, 92, 93, 94, 96, 98, 100, 119, 120, 121, 122, 124, 132, 135, 140] (by decide +kernel)
set_option maxRecDepth 20000 in
theorem wsL_law_r3_in : ∀ w ∈ wsL_law_r3, w ∈ lw_tbl := mem_places [168, 169, 170, 198, 199, 200, 201, 750, 751, 752, 753, 754, 756, 757, 758, 893, 759, 760, 762, 763, 764, 765, 766, 767] (by decide +kernel)
set_option maxRecDepth 20000 in
theorem wsL_law_r4_in : ∀ w ∈ wsL_law_r4, w ∈ lw_tbl := mem_places [768, 771, 772, 773, 774, 775, 776, 777, 778, 779, 780, 782, 787, 788, 789, 793, 794, 795, 796, 245, 246, 247, 248, 219] (by decide +kernel)
set_option maxRecDepth 20000 in
theorem wsL_law_r5_in : ∀ w ∈ wsL_law_r5, w ∈ lw_tbl := mem_places [249, 250, 251, 252, 253, 254, 894, 895, 896, 897, 797, 898, 899, 900, 901, 902, 903, 255, 256, 257, 258, 216, 259, 71] (by decide +kernel)
set_option maxRecDepth 20000 in
theorem wsL_law_r6_in : ∀ w ∈ wsL_law_r6, w ∈ lw_tbl := mem_places [261, 262, 263, 264, 265, 72, 325, 288, 289, 73, 328, 312, 330, 314, 318, 322, 267, 268, 269, 287, 270, 274, 291, 292] (by decide +kernel)
set_option maxRecDepth 20000 in
theorem wsL_law_r7_in : ∀ w ∈ wsL_law_r7, w ∈ lw_tbl := mem_places [293, 904, 905, 906, 907, 755, 357, 358, 359, 360, 361, 363, 0, 364, 367, 1, 368, 272, 276, 369, 370, 74, 371, 908] (by decide +kernel)
set_option maxRecDepth 20000 in
theorem wsL_law_r8_in : ∀ w ∈ wsL_law_r8, w ∈ lw_tbl := mem_places [909, 910, 911, 912, 914, 51, 915, 372, 373, 374, 375, 376, 377, 378, 381, 2, 382, 916, 917, 918, 919, 920, 921, 922] (by decide +kernel)
set_option maxRecDepth 20000 in
theorem wsL_law_r9_in : ∀ w ∈ wsL_law_r9, w ∈ lw_tbl := mem_places [383, 384, 385, 386, 389, 3, 390, 391, 392, 75, 393, 394, 395, 396, 923, 924, 925, 926, 397, 398, 399, 400, 403, 4] (by decide +kernel)
set_option maxRecDepth 20000 in
theorem wsL_law_r10_in : ∀ w ∈ wsL_law_r10, w ∈ lw_tbl := mem_places [404, 171, 173, 174, 176, 178, 180, 405, 407, 5, 408, 409, 410, 412, 413, 414, 416, 6, 417, 420, 7, 421, 927, 928] (by decide +kernel)
set_option maxRecDepth 20000 in
theorem wsL_law_r11_in : ∀ w ∈ wsL_law_r11, w ∈ lw_tbl := mem_places [929, 930, 931, 932, 933, 422, 423, 424, 425, 217, 934, 935, 936, 937, 761, 426, 427, 428, 429, 430, 432, 8, 433, 436] (by decide +kernel)
set_option maxRecDepth 20000 in
theorem wsL_law_r12_in : ∀ w ∈ wsL_law_r12, w ∈ lw_tbl := mem_places [9, 437, 294, 296, 297, 298, 299, 938, 939, 940, 941, 438, 439, 440, 441, 942, 943, 944, 945, 442, 443, 444, 445, 454] (by decide +kernel)
set_option maxRecDepth 20000 in
theorem wsL_law_r13_in : ∀ w ∈ wsL_law_r13, w ∈ lw_tbl := mem_places [448, 10, 449, 450, 452, 11, 453, 457, 12, 458, 946, 947, 948, 949, 459, 460, 461, 462, 465, 13, 466, 202, 469, 14] (by decide +kernel)
set_option maxRecDepth 20000 in
theorem wsL_law_r14_in : ∀ w ∈ wsL_law_r14, w ∈ lw_tbl := mem_places [470, 472, 474, 15, 475, 218, 478, 16, 479, 483, 17, 484, 485, 487, 18, 488, 491, 19, 492, 493, 495, 494, 76, 950] (by decide +kernel)
set_option maxRecDepth 20000 in
theorem wsL_law_r15_in : ∀ w ∈ wsL_law_r15, w ∈ lw_tbl := mem_places [951, 952, 953, 769, 954, 956, 52, 957, 958, 960, 53, 961, 962, 964, 54, 965, 496, 497, 498, 499, 500, 502, 20, 503] (by decide +kernel)
set_option maxRecDepth 20000 in
theorem wsL_law_r16_in : ∀ w ∈ wsL_law_r16, w ∈ lw_tbl := mem_places [966, 967, 968, 969, 504, 505, 506, 507, 510, 21, 511, 970, 971, 972, 973, 512, 513, 514, 515, 518, 22, 519, 102, 520] (by decide +kernel)
set_option maxRecDepth 20000 in
theorem wsL_law_r17_in : ∀ w ∈ wsL_law_r17, w ∈ lw_tbl := mem_places [522, 23, 523, 974, 975, 976, 977, 770, 524, 525, 526, 527, 530, 24, 531, 532, 534, 25, 535, 978, 979, 980, 981, 536] (by decide +kernel)
set_option maxRecDepth 20000 in
theorem wsL_law_r18_in : ∀ w ∈ wsL_law_r18, w ∈ lw_tbl := mem_places [537, 538, 539, 542, 26, 543, 544, 546, 27, 547, 982, 983, 984, 985, 986, 988, 55, 989, 548, 549, 550, 551, 554, 28] (by decide +kernel)
set_option maxRecDepth 20000 in
theorem wsL_law_r19_in : ∀ w ∈ wsL_law_r19, w ∈ lw_tbl := mem_places [555, 990, 991, 992, 993, 556, 557, 558, 559, 994, 995, 996, 997, 561, 562, 563, 564, 998, 999, 1000, 1001, 565, 566, 567] (by decide +kernel)
set_option maxRecDepth 20000 in
theorem wsL_law_r20_in : ∀ w ∈ wsL_law_r20, w ∈ lw_tbl := mem_places [568, 1002, 1003, 1004, 1005, 569, 570, 571, 572, 1006, 1007, 1008, 1009, 781, 783, 573, 574, 575, 576, 1010, 1011, 1012, 1013, 784] (by decide +kernel)
set_option maxRecDepth 20000 in
theorem wsL_law_r21_in : ∀ w ∈ wsL_law_r21, w ∈ lw_tbl := mem_places [785, 786, 577, 578, 579, 580, 215, 581, 582, 77, 584, 585, 586, 587, 588, 589, 590, 591, 592, 593, 594, 595, 596, 597] (by decide +kernel)
set_option maxRecDepth 20000 in
theorem wsL_law_r22_in : ∀ w ∈ wsL_law_r22, w ∈ lw_tbl := mem_places [598, 641, 29, 642, 643, 645, 30, 646, 599, 647, 649, 31, 650, 653, 32, 654, 138, 655, 657, 33, 658, 659, 661, 34] (by decide +kernel)
set_option maxRecDepth 20000 in
theorem wsL_law_r23_in : ∀ w ∈ wsL_law_r23, w ∈ lw_tbl := mem_places [662, 663, 664, 665, 666, 667, 668, 669, 670, 672, 35, 673, 674, 689, 675, 677, 36, 678, 679, 680, 681, 682, 684, 37] (by decide +kernel)
set_option maxRecDepth 20000 in
theorem wsL_law_r24_in : ∀ w ∈ wsL_law_r24, w ∈ lw_tbl := mem_places [685, 686, 687, 688, 690, 692, 38, 693, 694, 696, 39, 697, 602, 604, 698, 700, 40, 701, 702, 703, 705, 41, 706, 707] (by decide +kernel)
set_option maxRecDepth 20000 in
theorem wsL_law_r25_in : ∀ w ∈ wsL_law_r25, w ∈ lw_tbl := mem_places [709, 42, 710, 711, 713, 43, 714, 600, 727, 715, 717, 44, 718, 719, 721, 45, 722, 723, 725, 46, 726, 728, 730, 47] (by decide +kernel)
set_option maxRecDepth 20000 in
theorem wsL_law_r26_in : ∀ w ∈ wsL_law_r26, w ∈ lw_tbl := mem_places [731, 734, 48, 735, 738, 49, 739, 1014, 1015, 1016, 1017, 792, 790, 791, 1018, 1020, 56, 1021, 798, 799, 1022, 1024, 57, 1025] (by decide +kernel)
set_option maxRecDepth 20000 in
theorem wsL_law_r27_in : ∀ w ∈ wsL_law_r27, w ∈ lw_tbl := mem_places [1026, 1028, 58, 1029, 1030, 1032, 59, 1033, 1034, 1036, 60, 1037, 1038, 1039, 1040, 1041, 1043, 61, 1044, 1045, 1047, 62, 1048, 1049] (by decide +kernel)
set_option maxRecDepth 20000 in
theorem wsL_law_r28_in : ∀ w ∈ wsL_law_r28, w ∈ lw_tbl := mem_places [1051, 63, 1052, 740, 741, 742, 743, 744, 746, 50, 747, 1053, 1054, 1055, 1056] (by decide +kernel)
set_option maxRecDepth 20000 in
theorem wsX80_in : ∀ w ∈ wsX80, w ∈ lw_tbl := mem_places [220, 222, 224, 226, 228, 230, 232, 234, 236, 238, 240, 242] (by decide +kernel)
set_option maxRecDepth 20000 in
theorem wsX90_in : ∀ w ∈ wsX90, w ∈ lw_tbl := mem_places [800, 802, 804, 806, 808, 810, 812, 814, 816, 818, 820, 822, 824, 826, 828, 830, 832, 834, 836, 838, 840, 842, 844, 846, 848, 850, 852, 854, 856, 858, 860, 862, 864, 866, 868, 870, 872, 874, 876, 878, 880, 882, 884, 886, 888, 890] (by decide +kernel)
set_option maxRecDepth 20000 in
theorem wsX70_in : ∀ w ∈ wsX70, w ∈ lw_tbl := mem_places [104, 106, 108, 110, 112] (by decide +kernel)
set_option maxRecDepth 20000 in
theorem wsX40_in : ∀ w ∈ wsX40, w ∈ lw_tbl := mem_places [144, 146, 148, 150, 152, 154, 156, 158, 160, 162] (by decide +kernel)
set_option maxRecDepth 20000 in
theorem wsX60_in : ∀ w ∈ wsX60, w ∈ lw_tbl := mem_places [182, 184, 186, 188, 190, 192] (by decide +kernel)
set_option maxRecDepth 20000 in
theorem wsX30_in : ∀ w ∈ wsX30, w ∈ lw_tbl := mem_places [203, 205] (by decide +kernel)
set_option maxRecDepth 20000 in
theorem wsX10_in : ∀ w ∈ wsX10, w ∈ lw_tbl := mem_places [338, 340, 342, 344, 346, 348, 350, 352, 354] (by decide +kernel)
set_option maxRecDepth 20000 in
theorem wsX50_in : ∀ w ∈ wsX50, w ∈ lw_tbl := mem_places [278, 280, 282, 284] (by decide +kernel)
set_option maxRecDepth 20000 in
theorem wsX00_in : ∀ w ∈ wsX00, w ∈ lw_tbl := mem_places [301, 303, 305, 307, 309] (by decide +kernel)
set_option maxRecDepth 20000 in
theorem wsX20_in : ∀ w ∈ wsX20, w ∈ lw_tbl := mem_places [606, 608, 610, 612, 614, 616, 618, 620, 622, 624, 626, 628, 630, 632, 634, 636] (by decide +kernel)
theorem wsL_law_in : ∀ w ∈ wsL_law, w ∈ lw_tbl := (List.forall_mem_append.mpr ⟨(List.forall_mem_append.mpr ⟨(List.forall_mem_append.mpr ⟨(List.forall_mem_append.mpr ⟨(List.forall_mem_append.mpr ⟨(List.forall_mem_append.mpr ⟨(List.forall_mem_append.mpr ⟨(List.forall_mem_append.mpr ⟨(List.forall_mem_append.mpr ⟨(List.forall_mem_append.mpr ⟨(List.forall_mem_append.mpr ⟨(List.forall_mem_append.mpr ⟨wsL_law_r1_in, (List.forall_mem_append.mpr ⟨wsL_law_r2_in, (List.forall_mem_append.mpr ⟨wsL_law_r3_in, (List.forall_mem_append.mpr ⟨wsL_law_r4_in, (List.forall_mem_append.mpr ⟨wsL_law_r5_in, (List.forall_mem_append.mpr ⟨wsL_law_r6_in, (List.forall_mem_append.mpr ⟨wsL_law_r7_in, (List.forall_mem_append.mpr ⟨wsL_law_r8_in, (List.forall_mem_append.mpr ⟨wsL_law_r9_in, (List.forall_mem_append.mpr ⟨wsL_law_r10_in, (List.forall_mem_append.mpr ⟨wsL_law_r11_in, (List.forall_mem_append.mpr ⟨wsL_law_r12_in, (List.forall_mem_append.mpr ⟨wsL_law_r13_in, (List.forall_mem_append.mpr ⟨wsL_law_r14_in, (List.forall_mem_append.mpr ⟨wsL_law_r15_in, (List.forall_mem_append.mpr ⟨wsL_law_r16_in, (List.forall_mem_append.mpr ⟨wsL_law_r17_in, (List.forall_mem_append.mpr ⟨wsL_law_r18_in, (List.forall_mem_append.mpr ⟨wsL_law_r19_in, (List.forall_mem_append.mpr ⟨wsL_law_r20_in, (List.forall_mem_append.mpr ⟨wsL_law_r21_in, (List.forall_mem_append.mpr ⟨wsL_law_r22_in, (List.forall_mem_append.mpr ⟨wsL_law_r23_in, (List.forall_mem_append.mpr ⟨wsL_law_r24_in, (List.forall_mem_append.mpr ⟨wsL_law_r25_in, (List.forall_mem_append.mpr ⟨wsL_law_r26_in, (List.forall_mem_append.mpr ⟨wsL_law_r27_in, wsL_law_r28_in⟩)⟩)⟩)⟩)⟩)⟩)⟩)⟩)⟩)⟩)⟩)⟩)⟩)⟩)⟩)⟩)⟩)⟩)⟩)⟩)⟩)⟩)⟩)⟩)⟩)⟩)⟩), wsX80_in⟩), wsX90_in⟩), wsX70_in⟩), wsX40_in⟩), wsX60_in⟩), wsX30_in⟩), wsX10_in⟩), wsX50_in⟩), wsX00_in⟩), wsX20_in⟩), fun _ h => absurd h List.not_mem_nil⟩)
