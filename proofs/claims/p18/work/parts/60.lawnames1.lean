theorem mem_places {big ws : List Cond} (ps : List Nat) (h : ws = ps.filterMap (fun i => big[i]?)) : ∀ w ∈ ws, w ∈ big := by
  intro w hw
  rw [h] at hw
  obtain ⟨i, -, hi⟩ := List.mem_filterMap.mp hw
  exact List.mem_of_getElem? hi
set_option maxRecDepth 20000 in
theorem wsL_law_r1_in : ∀ w ∈ wsL_law_r1, w ∈ lw_tbl := mem_places [78, 79, 65, 748, 749, 71, 80, 81, 82, 83, 84, 85, 115, 266, 86, 267, 268, 88, 89, 66, 269, 116, 117, 67] (by decide +kernel)
set_option maxRecDepth 20000 in
theorem wsL_law_r2_in : ∀ w ∈ wsL_law_r2, w ∈ lw_tbl := mem_places [270, 165, 166, 68, 271, 223, 224, 69, 272, 253, 254, 70, 273, 91, 92, 93, 94, 96, 98, 100, 119, 120, 121, 122] (by decide +kernel)
set_option maxRecDepth 20000 in
theorem wsL_law_r3_in : ∀ w ∈ wsL_law_r3, w ∈ lw_tbl := mem_places [124, 132, 135, 140, 168, 169, 170, 171, 172, 173, 174, 175, 176, 177, 178, 179, 180, 181, 182, 226, 227, 228, 256, 257] (by decide +kernel)
set_option maxRecDepth 20000 in
theorem wsL_law_r4_in : ∀ w ∈ wsL_law_r4, w ∈ lw_tbl := mem_places [258, 259, 750, 751, 752, 753, 754, 756, 757, 758, 893, 759, 760, 762, 763, 764, 765, 766, 767, 768, 771, 772, 773, 774] (by decide +kernel)
set_option maxRecDepth 20000 in
theorem wsL_law_r5_in : ∀ w ∈ wsL_law_r5, w ∈ lw_tbl := mem_places [775, 776, 777, 778, 779, 780, 782, 787, 788, 789, 793, 794, 795, 796, 303, 304, 305, 306, 277, 307, 308, 309, 310, 311] (by decide +kernel)
set_option maxRecDepth 20000 in
theorem wsL_law_r6_in : ∀ w ∈ wsL_law_r6, w ∈ lw_tbl := mem_places [312, 894, 895, 896, 897, 797, 898, 899, 900, 901, 902, 903, 313, 314, 315, 316, 274, 317, 72, 319, 320, 321, 322, 323] (by decide +kernel)
set_option maxRecDepth 20000 in
theorem wsL_law_r7_in : ∀ w ∈ wsL_law_r7, w ∈ lw_tbl := mem_places [73, 383, 346, 347, 74, 386, 370, 388, 372, 376, 380, 325, 326, 327, 345, 328, 332, 349, 350, 351, 904, 905, 906, 907] (by decide +kernel)
set_option maxRecDepth 20000 in
theorem wsL_law_r8_in : ∀ w ∈ wsL_law_r8, w ∈ lw_tbl := mem_places [755, 415, 416, 417, 418, 419, 421, 0, 422, 425, 1, 426, 330, 334, 427, 428, 75, 429, 908, 909, 910, 911, 912, 914] (by decide +kernel)
set_option maxRecDepth 20000 in
theorem wsL_law_r9_in : ∀ w ∈ wsL_law_r9, w ∈ lw_tbl := mem_places [51, 915, 430, 431, 432, 433, 434, 435, 436, 439, 2, 440, 916, 917, 918, 919, 920, 921, 922, 441, 442, 443, 444, 447] (by decide +kernel)
set_option maxRecDepth 20000 in
theorem wsL_law_r10_in : ∀ w ∈ wsL_law_r10, w ∈ lw_tbl := mem_places [3, 448, 449, 450, 76, 451, 452, 453, 454, 923, 924, 925, 926, 455, 456, 457, 458, 461, 4, 462, 229, 231, 232, 234] (by decide +kernel)
set_option maxRecDepth 20000 in
theorem wsL_law_r11_in : ∀ w ∈ wsL_law_r11, w ∈ lw_tbl := mem_places [236, 238, 463, 465, 5, 466, 467, 468, 470, 471, 472, 474, 6, 475, 478, 7, 479, 927, 928, 929, 930, 931, 932, 933] (by decide +kernel)
set_option maxRecDepth 20000 in
theorem wsL_law_r12_in : ∀ w ∈ wsL_law_r12, w ∈ lw_tbl := mem_places [480, 481, 482, 483, 275, 934, 935, 936, 937, 761, 484, 485, 486, 487, 488, 490, 8, 491, 494, 9, 495, 352, 354, 355] (by decide +kernel)
set_option maxRecDepth 20000 in
theorem wsL_law_r13_in : ∀ w ∈ wsL_law_r13, w ∈ lw_tbl := mem_places [356, 357, 938, 939, 940, 941, 496, 497, 498, 499, 942, 943, 944, 945, 500, 501, 502, 503, 512, 506, 10, 507, 508, 510] (by decide +kernel)
set_option maxRecDepth 20000 in
theorem wsL_law_r14_in : ∀ w ∈ wsL_law_r14, w ∈ lw_tbl := mem_places [11, 511, 515, 12, 516, 946, 947, 948, 949, 517, 518, 519, 520, 523, 13, 524, 260, 527, 14, 528, 530, 532, 15, 533] (by decide +kernel)
set_option maxRecDepth 20000 in
theorem wsL_law_r15_in : ∀ w ∈ wsL_law_r15, w ∈ lw_tbl := mem_places [276, 536, 16, 537, 541, 17, 542, 543, 545, 18, 546, 549, 19, 550, 551, 553, 552, 77, 950, 951, 952, 953, 769, 954] (by decide +kernel)
set_option maxRecDepth 20000 in
theorem wsL_law_r16_in : ∀ w ∈ wsL_law_r16, w ∈ lw_tbl := mem_places [956, 52, 957, 958, 960, 53, 961, 962, 964, 54, 965, 554, 555, 556, 557, 558, 560, 20, 561, 966, 967, 968, 969, 562] (by decide +kernel)
set_option maxRecDepth 20000 in
theorem wsL_law_r17_in : ∀ w ∈ wsL_law_r17, w ∈ lw_tbl := mem_places [563, 564, 565, 568, 21, 569, 970, 971, 972, 973, 570, 571, 572, 573, 576, 22, 577, 102, 578, 580, 23, 581, 974, 975] (by decide +kernel)
set_option maxRecDepth 20000 in
theorem wsL_law_r18_in : ∀ w ∈ wsL_law_r18, w ∈ lw_tbl := mem_places [976, 977, 770, 582, 583, 584, 585, 588, 24, 589, 590, 592, 25, 593, 978, 979, 980, 981, 594, 595, 596, 597, 600, 26] (by decide +kernel)
set_option maxRecDepth 20000 in
theorem wsL_law_r19_in : ∀ w ∈ wsL_law_r19, w ∈ lw_tbl := mem_places [601, 602, 604, 27, 605, 982, 983, 984, 985, 986, 988, 55, 989, 606, 607, 608, 609, 612, 28, 613, 990, 991, 992, 993] (by decide +kernel)
set_option maxRecDepth 20000 in
theorem wsL_law_r20_in : ∀ w ∈ wsL_law_r20, w ∈ lw_tbl := mem_places [614, 615, 616, 617, 994, 995, 996, 997, 619, 620, 621, 622, 998, 999, 1000, 1001, 623, 624, 625, 626, 1002, 1003, 1004, 1005] (by decide +kernel)
set_option maxRecDepth 20000 in
theorem wsL_law_r21_in : ∀ w ∈ wsL_law_r21, w ∈ lw_tbl := mem_places [627, 628, 629, 630, 1006, 1007, 1008, 1009, 781, 783, 631, 632, 633, 634, 1010, 1011, 1012, 1013, 784, 785, 786, 635, 636, 637] (by decide +kernel)
set_option maxRecDepth 20000 in
theorem wsL_law_r22_in : ∀ w ∈ wsL_law_r22, w ∈ lw_tbl := mem_places [638, 641, 29, 642, 643, 645, 30, 646, 183, 647, 649, 31, 650, 653, 32, 654, 138, 655, 657, 33, 658, 659, 661, 34] (by decide +kernel)
set_option maxRecDepth 20000 in
theorem wsL_law_r23_in : ∀ w ∈ wsL_law_r23, w ∈ lw_tbl := mem_places [662, 663, 664, 665, 666, 667, 668, 669, 670, 672, 35, 673, 674, 689, 675, 677, 36, 678, 679, 680, 681, 682, 684, 37] (by decide +kernel)
set_option maxRecDepth 20000 in
theorem wsL_law_r24_in : ∀ w ∈ wsL_law_r24, w ∈ lw_tbl := mem_places [685, 686, 687, 688, 690, 692, 38, 693, 694, 696, 39, 697, 186, 188, 698, 700, 40, 701, 702, 703, 705, 41, 706, 707] (by decide +kernel)
set_option maxRecDepth 20000 in
theorem wsL_law_r25_in : ∀ w ∈ wsL_law_r25, w ∈ lw_tbl := mem_places [709, 42, 710, 711, 713, 43, 714, 184, 727, 715, 717, 44, 718, 719, 721, 45, 722, 723, 725, 46, 726, 728, 730, 47] (by decide +kernel)
set_option maxRecDepth 20000 in
theorem wsL_law_r26_in : ∀ w ∈ wsL_law_r26, w ∈ lw_tbl := mem_places [731, 734, 48, 735, 738, 49, 739, 1014, 1015, 1016, 1017, 792, 790, 791, 1018, 1020, 56, 1021, 798, 799, 1022, 1024, 57, 1025] (by decide +kernel)
set_option maxRecDepth 20000 in
theorem wsL_law_r27_in : ∀ w ∈ wsL_law_r27, w ∈ lw_tbl := mem_places [1026, 1028, 58, 1029, 1030, 1032, 59, 1033, 1034, 1036, 60, 1037, 1038, 1039, 1040, 1041, 1043, 61, 1044, 1045, 1047, 62, 1048, 1049] (by decide +kernel)
set_option maxRecDepth 20000 in
theorem wsL_law_r28_in : ∀ w ∈ wsL_law_r28, w ∈ lw_tbl := mem_places [1051, 63, 1052, 740, 741, 742, 743, 744, 746, 50, 747, 1053, 1054, 1055, 1056] (by decide +kernel)
set_option maxRecDepth 20000 in
theorem wsX80_in : ∀ w ∈ wsX80, w ∈ lw_tbl := mem_places [278, 280, 282, 284, 286, 288, 290, 292, 294, 296, 298, 300] (by decide +kernel)
set_option maxRecDepth 20000 in
theorem wsX90_in : ∀ w ∈ wsX90, w ∈ lw_tbl := mem_places [800, 802, 804, 806, 808, 810, 812, 814, 816, 818, 820, 822, 824, 826, 828, 830, 832, 834, 836, 838, 840, 842, 844, 846, 848, 850, 852, 854, 856, 858, 860, 862, 864, 866, 868, 870, 872, 874, 876, 878, 880, 882, 884, 886, 888, 890] (by decide +kernel)
set_option maxRecDepth 20000 in
theorem wsX70_in : ∀ w ∈ wsX70, w ∈ lw_tbl := mem_places [104, 106, 108, 110, 112] (by decide +kernel)
set_option maxRecDepth 20000 in
theorem wsX40_in : ∀ w ∈ wsX40, w ∈ lw_tbl := mem_places [144, 146, 148, 150, 152, 154, 156, 158, 160, 162] (by decide +kernel)
set_option maxRecDepth 20000 in
theorem wsX20_in : ∀ w ∈ wsX20, w ∈ lw_tbl := mem_places [190, 192, 194, 196, 198, 200, 202, 204, 206, 208, 210, 212, 214, 216, 218, 220] (by decide +kernel)
set_option maxRecDepth 20000 in
theorem wsX60_in : ∀ w ∈ wsX60, w ∈ lw_tbl := mem_places [240, 242, 244, 246, 248, 250] (by decide +kernel)
set_option maxRecDepth 20000 in
theorem wsX30_in : ∀ w ∈ wsX30, w ∈ lw_tbl := mem_places [261, 263] (by decide +kernel)
set_option maxRecDepth 20000 in
theorem wsX10_in : ∀ w ∈ wsX10, w ∈ lw_tbl := mem_places [396, 398, 400, 402, 404, 406, 408, 410, 412] (by decide +kernel)
set_option maxRecDepth 20000 in
theorem wsX50_in : ∀ w ∈ wsX50, w ∈ lw_tbl := mem_places [336, 338, 340, 342] (by decide +kernel)
set_option maxRecDepth 20000 in
theorem wsX00_in : ∀ w ∈ wsX00, w ∈ lw_tbl := mem_places [359, 361, 363, 365, 367] (by decide +kernel)
theorem wsL_law_in : ∀ w ∈ wsL_law, w ∈ lw_tbl := (List.forall_mem_append.mpr ⟨(List.forall_mem_append.mpr ⟨(List.forall_mem_append.mpr ⟨(List.forall_mem_append.mpr ⟨(List.forall_mem_append.mpr ⟨(List.forall_mem_append.mpr ⟨(List.forall_mem_append.mpr ⟨(List.forall_mem_append.mpr ⟨(List.forall_mem_append.mpr ⟨(List.forall_mem_append.mpr ⟨(List.forall_mem_append.mpr ⟨(List.forall_mem_append.mpr ⟨wsL_law_r1_in, (List.forall_mem_append.mpr ⟨wsL_law_r2_in, (List.forall_mem_append.mpr ⟨wsL_law_r3_in, (List.forall_mem_append.mpr ⟨wsL_law_r4_in, (List.forall_mem_append.mpr ⟨wsL_law_r5_in, (List.forall_mem_append.mpr ⟨wsL_law_r6_in, (List.forall_mem_append.mpr ⟨wsL_law_r7_in, (List.forall_mem_append.mpr ⟨wsL_law_r8_in, (List.forall_mem_append.mpr ⟨wsL_law_r9_in, (List.forall_mem_append.mpr ⟨wsL_law_r10_in, (List.forall_mem_append.mpr ⟨wsL_law_r11_in, (List.forall_mem_append.mpr ⟨wsL_law_r12_in, (List.forall_mem_append.mpr ⟨wsL_law_r13_in, (List.forall_mem_append.mpr ⟨wsL_law_r14_in, (List.forall_mem_append.mpr ⟨wsL_law_r15_in, (List.forall_mem_append.mpr ⟨wsL_law_r16_in, (List.forall_mem_append.mpr ⟨wsL_law_r17_in, (List.forall_mem_append.mpr ⟨wsL_law_r18_in, (List.forall_mem_append.mpr ⟨wsL_law_r19_in, (List.forall_mem_append.mpr ⟨wsL_law_r20_in, (List.forall_mem_append.mpr ⟨wsL_law_r21_in, (List.forall_mem_append.mpr ⟨wsL_law_r22_in, (List.forall_mem_append.mpr ⟨wsL_law_r23_in, (List.forall_mem_append.mpr ⟨wsL_law_r24_in, (List.forall_mem_append.mpr ⟨wsL_law_r25_in, (List.forall_mem_append.mpr ⟨wsL_law_r26_in, (List.forall_mem_append.mpr ⟨wsL_law_r27_in, wsL_law_r28_in⟩)⟩)⟩)⟩)⟩)⟩)⟩)⟩)⟩)⟩)⟩)⟩)⟩)⟩)⟩)⟩)⟩)⟩)⟩)⟩)⟩)⟩)⟩)⟩)⟩)⟩)⟩), wsX80_in⟩), wsX90_in⟩), wsX70_in⟩), wsX40_in⟩), wsX20_in⟩), wsX60_in⟩), wsX30_in⟩), wsX10_in⟩), wsX50_in⟩), wsX00_in⟩), fun _ h => absurd h List.not_mem_nil⟩)
