theorem mem_idx {big : List Cond} (ws : List Cond) (ps : List Nat) (h : ps.filterMap (fun i => big[i]?) = ws) : ∀ w ∈ ws, w ∈ big := by
  intro w hw
  rw [← h] at hw
  obtain ⟨i, -, hi⟩ := List.mem_filterMap.mp hw
  exact List.mem_of_getElem? hi
set_option maxRecDepth 100000 in
theorem wsLr1 : ∀ w ∈ wsL_law0_r1, w ∈ lw_tbl := mem_idx _ [64, 65, 46, 790, 791, 55, 135, 1123, 66, 67, 68, 69, 70, 71, 133, 285, 134, 287, 288, 289, 72, 73, 47, 290] rfl
set_option maxRecDepth 100000 in
theorem wsLr2 : ∀ w ∈ wsL_law0_r2, w ∈ lw_tbl := mem_idx _ [136, 137, 48, 291, 155, 156, 49, 292, 177, 178, 50, 293, 190, 191, 51, 294, 295, 74, 75, 76, 77, 92, 94, 97] rfl
set_option maxRecDepth 100000 in
theorem wsLr3 : ∀ w ∈ wsL_law0_r3, w ∈ lw_tbl := mem_idx _ [100, 102, 104, 106, 108, 109, 78, 80, 0, 81, 110, 83, 84, 86, 87, 88, 90, 1, 91, 138, 139, 140, 141, 142] rfl
set_option maxRecDepth 100000 in
theorem wsLr4 : ∀ w ∈ wsL_law0_r4, w ∈ lw_tbl := mem_idx _ [145, 146, 157, 158, 159, 160, 161, 163, 165, 179, 180, 181, 182, 183, 184, 192, 193, 194, 195, 196, 197, 198, 206, 207] rfl
set_option maxRecDepth 100000 in
theorem wsLr5 : ∀ w ∈ wsL_law0_r5, w ∈ lw_tbl := mem_idx _ [208, 209, 93, 95, 101, 103, 98, 107, 105, 210, 211, 212, 213, 217, 219, 218, 52, 214, 215, 216, 220, 221, 222, 223] rfl
set_option maxRecDepth 100000 in
theorem wsLr6 : ∀ w ∈ wsL_law0_r6, w ∈ lw_tbl := mem_idx _ [226, 227, 228, 229, 162, 164, 230, 231, 232, 233, 234, 235, 53, 236, 238, 239, 240, 241, 242, 244, 2, 245, 246, 247] rfl
set_option maxRecDepth 100000 in
theorem wsLr7 : ∀ w ∈ wsL_law0_r7, w ∈ lw_tbl := mem_idx _ [248, 249, 250, 251, 252, 253, 254, 255, 256, 257, 258, 259, 260, 261, 262, 263, 264, 265, 266, 267, 54, 268, 269, 270] rfl
set_option maxRecDepth 100000 in
theorem wsLr8 : ∀ w ∈ wsL_law0_r8, w ∈ lw_tbl := mem_idx _ [271, 272, 273, 274, 275, 147, 143, 276, 278, 3, 279, 280, 281, 282, 283, 284, 792, 793, 794, 795, 797, 798, 799, 800] rfl
set_option maxRecDepth 100000 in
theorem wsLr9 : ∀ w ∈ wsL_law0_r9, w ∈ lw_tbl := mem_idx _ [801, 802, 803, 804, 805, 806, 807, 809, 810, 811, 812, 813, 814, 815, 816, 817, 323, 324, 45, 325, 326, 327, 328, 329] rfl
set_option maxRecDepth 100000 in
theorem wsLr10 : ∀ w ∈ wsL_law0_r10, w ∈ lw_tbl := mem_idx _ [330, 331, 332, 59, 402, 60, 286, 870, 871, 872, 873, 796, 874, 876, 15, 877, 818, 878, 879, 880, 866, 867, 868, 869] rfl
set_option maxRecDepth 100000 in
theorem wsLr11 : ∀ w ∈ wsL_law0_r11, w ∈ lw_tbl := mem_idx _ [418, 419, 420, 421, 422, 423, 424, 425, 426, 428, 5, 429, 430, 61, 881, 882, 883, 884, 885, 887, 16, 888, 889, 890] rfl
set_option maxRecDepth 100000 in
theorem wsLr12 : ∀ w ∈ wsL_law0_r12, w ∈ lw_tbl := mem_idx _ [891, 446, 447, 448, 449, 450, 451, 452, 453, 455, 6, 456, 111, 892, 893, 894, 895, 896, 898, 17, 899, 900, 902, 18] rfl
set_option maxRecDepth 100000 in
theorem wsLr13 : ∀ w ∈ wsL_law0_r13, w ∈ lw_tbl := mem_idx _ [903, 459, 460, 461, 462, 463, 464, 465, 466, 468, 7, 469, 904, 905, 906, 907, 908, 910, 19, 911, 471, 472, 473, 474] rfl
set_option maxRecDepth 100000 in
theorem wsLr14 : ∀ w ∈ wsL_law0_r14, w ∈ lw_tbl := mem_idx _ [475, 476, 477, 479, 481, 8, 482, 484, 485, 486, 487, 488, 490, 9, 491, 492, 493, 494, 495, 496, 498, 10, 499, 912] rfl
set_option maxRecDepth 100000 in
theorem wsLr15 : ∀ w ∈ wsL_law0_r15, w ∈ lw_tbl := mem_idx _ [913, 914, 915, 916, 918, 20, 919, 920, 922, 21, 923, 924, 926, 22, 927, 928, 930, 23, 931, 932, 934, 24, 935, 500] rfl
set_option maxRecDepth 100000 in
theorem wsLr16 : ∀ w ∈ wsL_law0_r16, w ∈ lw_tbl := mem_idx _ [501, 502, 503, 504, 505, 506, 507, 512, 62, 508, 509, 510, 511, 936, 937, 938, 939, 528, 529, 530, 531, 532, 533, 534] rfl
set_option maxRecDepth 100000 in
theorem wsLr17 : ∀ w ∈ wsL_law0_r17, w ∈ lw_tbl := mem_idx _ [535, 536, 537, 538, 539, 540, 542, 544, 11, 545, 555, 63, 546, 547, 548, 549, 550, 551, 552, 553, 940, 941, 942, 943] rfl
set_option maxRecDepth 100000 in
theorem wsLr18 : ∀ w ∈ wsL_law0_r18, w ∈ lw_tbl := mem_idx _ [944, 946, 25, 947, 948, 950, 26, 951, 952, 953, 954, 955, 957, 27, 958, 571, 572, 573, 574, 575, 576, 577, 578, 580] rfl
set_option maxRecDepth 100000 in
theorem wsLr19 : ∀ w ∈ wsL_law0_r19, w ∈ lw_tbl := mem_idx _ [12, 581, 959, 960, 961, 962, 583, 584, 585, 586, 587, 588, 589, 963, 964, 965, 966, 319, 320, 321, 322, 967, 968, 969] rfl
set_option maxRecDepth 100000 in
theorem wsLr20 : ∀ w ∈ wsL_law0_r20, w ∈ lw_tbl := mem_idx _ [970, 971, 973, 28, 974, 591, 592, 593, 594, 595, 596, 597, 598, 599, 600, 601, 975, 976, 977, 978, 979, 981, 29, 982] rfl
set_option maxRecDepth 100000 in
theorem wsLr21 : ∀ w ∈ wsL_law0_r21, w ∈ lw_tbl := mem_idx _ [602, 603, 604, 605, 606, 607, 608, 96, 99, 983, 984, 985, 986, 610, 611, 612, 613, 614, 615, 616, 617, 618, 619, 620] rfl
set_option maxRecDepth 100000 in
theorem wsLr22 : ∀ w ∈ wsL_law0_r22, w ∈ lw_tbl := mem_idx _ [987, 988, 989, 990, 991, 993, 30, 994, 995, 997, 31, 998, 621, 622, 623, 624, 625, 626, 627, 628, 999, 1000, 1001, 1002] rfl
set_option maxRecDepth 100000 in
theorem wsLr23 : ∀ w ∈ wsL_law0_r23, w ∈ lw_tbl := mem_idx _ [1003, 1005, 32, 1006, 629, 630, 631, 632, 633, 634, 635, 636, 1007, 1008, 1009, 1010, 1011, 1013, 33, 1014, 637, 638, 639, 640] rfl
set_option maxRecDepth 100000 in
theorem wsLr24 : ∀ w ∈ wsL_law0_r24, w ∈ lw_tbl := mem_idx _ [641, 642, 643, 144, 1015, 1016, 1017, 1018, 1019, 1021, 34, 1022, 644, 645, 646, 647, 648, 649, 650, 1023, 1024, 1025, 1026, 651] rfl
set_option maxRecDepth 100000 in
theorem wsLr25 : ∀ w ∈ wsL_law0_r25, w ∈ lw_tbl := mem_idx _ [652, 653, 654, 655, 656, 657, 658, 659, 660, 661, 662, 1027, 1028, 1029, 1030, 1031, 1033, 35, 1034, 663, 664, 665, 666, 667] rfl
set_option maxRecDepth 100000 in
theorem wsLr26 : ∀ w ∈ wsL_law0_r26, w ∈ lw_tbl := mem_idx _ [668, 669, 1035, 1036, 1037, 1038, 671, 672, 673, 674, 675, 676, 677, 678, 679, 680, 681, 682, 1039, 1040, 1041, 1042, 1043, 1045] rfl
set_option maxRecDepth 100000 in
theorem wsLr27 : ∀ w ∈ wsL_law0_r27, w ∈ lw_tbl := mem_idx _ [36, 1046, 683, 684, 685, 686, 687, 688, 689, 690, 692, 13, 693, 694, 696, 14, 697, 698, 1047, 1048, 1049, 1050, 1051, 1053] rfl
set_option maxRecDepth 100000 in
theorem wsLr28 : ∀ w ∈ wsL_law0_r28, w ∈ lw_tbl := mem_idx _ [37, 1054, 699, 700, 701, 702, 703, 704, 705, 1055, 1056, 1057, 1058, 706, 707, 708, 709, 710, 711, 712, 167, 714, 715, 716] rfl
set_option maxRecDepth 100000 in
theorem wsLr29 : ∀ w ∈ wsL_law0_r29, w ∈ lw_tbl := mem_idx _ [717, 1059, 1060, 1061, 1062, 1063, 1065, 38, 1066, 1067, 1069, 39, 1070, 808, 1071, 1073, 40, 1074, 1075, 1077, 41, 1078, 1079, 1081] rfl
set_option maxRecDepth 100000 in
theorem wsLr30 : ∀ w ∈ wsL_law0_r30, w ∈ lw_tbl := mem_idx _ [42, 1082, 1083, 1085, 43, 1086, 1087, 1089, 44, 1090, 718, 719, 720, 721, 722, 723, 724, 725, 1091, 1092, 1093, 1094, 726, 727] rfl
set_option maxRecDepth 100000 in
theorem wsLr31 : ∀ w ∈ wsL_law0_r31, w ∈ lw_tbl := mem_idx _ [728, 729, 730, 731, 732, 1095, 1096, 1097, 1098, 733, 734, 735, 736, 737, 738, 739, 741, 742, 743, 744, 1099, 1100, 1101, 1102] rfl
set_option maxRecDepth 100000 in
theorem wsLr32 : ∀ w ∈ wsL_law0_r32, w ∈ lw_tbl := mem_idx _ [745, 746, 747, 748, 749, 750, 751, 754, 755, 756, 757, 166, 1103, 1104, 1105, 1106, 758, 759, 760, 761, 762, 763, 764, 766] rfl
set_option maxRecDepth 100000 in
theorem wsLr33 : ∀ w ∈ wsL_law0_r33, w ∈ lw_tbl := mem_idx _ [1107, 1108, 1109, 1110, 767, 768, 769, 770, 771, 772, 773, 1111, 1112, 1113, 1114, 774, 775, 776, 777, 778, 779, 780, 781, 1115] rfl
set_option maxRecDepth 100000 in
theorem wsLr34 : ∀ w ∈ wsL_law0_r34, w ∈ lw_tbl := mem_idx _ [1116, 1117, 1118, 782, 783, 784, 785, 786, 787, 788, 1119, 1120, 1121, 1122] rfl
set_option maxRecDepth 100000 in
theorem wsLx50 : ∀ w ∈ wsX50, w ∈ lw_tbl := mem_idx _ [296, 298, 300, 302, 304, 306, 308, 310, 312, 314, 316] rfl
set_option maxRecDepth 100000 in
theorem wsLx60 : ∀ w ∈ wsX60, w ∈ lw_tbl := mem_idx _ [819, 821, 823, 825, 827, 829, 831, 833, 835, 837, 839, 841, 843, 845, 847, 849, 851, 853, 855, 857, 859, 861, 863] rfl
set_option maxRecDepth 100000 in
theorem wsLx00 : ∀ w ∈ wsX00, w ∈ lw_tbl := mem_idx _ [112, 114, 116, 118, 120, 122, 124, 126, 128, 130] rfl
set_option maxRecDepth 100000 in
theorem wsLx10 : ∀ w ∈ wsX10, w ∈ lw_tbl := mem_idx _ [148, 150, 152] rfl
set_option maxRecDepth 100000 in
theorem wsLx20 : ∀ w ∈ wsX20, w ∈ lw_tbl := mem_idx _ [168, 170, 172, 174] rfl
set_option maxRecDepth 100000 in
theorem wsLx30 : ∀ w ∈ wsX30, w ∈ lw_tbl := mem_idx _ [185, 187] rfl
set_option maxRecDepth 100000 in
theorem wsLx40 : ∀ w ∈ wsX40, w ∈ lw_tbl := mem_idx _ [199, 201, 203] rfl
theorem ap_in {a b : List Cond} (ha : ∀ w ∈ a, w ∈ lw_tbl) (hb : ∀ w ∈ b, w ∈ lw_tbl) : ∀ w ∈ a ++ b, w ∈ lw_tbl := List.forall_mem_append.mpr ⟨ha, hb⟩
theorem wsL_law_in0 : ∀ w ∈ wsL_law0, w ∈ lw_tbl := ap_in (ap_in (ap_in (ap_in (ap_in (ap_in (ap_in (ap_in (ap_in wsLr1 (ap_in wsLr2 (ap_in wsLr3 (ap_in wsLr4 (ap_in wsLr5 (ap_in wsLr6 (ap_in wsLr7 (ap_in wsLr8 (ap_in wsLr9 (ap_in wsLr10 (ap_in wsLr11 (ap_in wsLr12 (ap_in wsLr13 (ap_in wsLr14 (ap_in wsLr15 (ap_in wsLr16 (ap_in wsLr17 (ap_in wsLr18 (ap_in wsLr19 (ap_in wsLr20 (ap_in wsLr21 (ap_in wsLr22 (ap_in wsLr23 (ap_in wsLr24 (ap_in wsLr25 (ap_in wsLr26 (ap_in wsLr27 (ap_in wsLr28 (ap_in wsLr29 (ap_in wsLr30 (ap_in wsLr31 (ap_in wsLr32 (ap_in wsLr33 wsLr34))))))))))))))))))))))))))))))))) wsLx50) wsLx60) wsLx00) wsLx10) wsLx20) wsLx30) wsLx40) (fun _ h => nomatch h)
theorem wsL_law_x0 : ∀ w ∈ (vx_atS RX5 74 "java/lang/IllegalArgumentException" ["java/lang/RuntimeException", "java/lang/Exception"]).filter goodWord, w ∈ lw_tbl := mem_idx _ [56, 354, 363, 369, 372, 374, 355, 356, 70, 71, 357, 362, 370, 390, 344, 391, 346, 392, 348, 358, 360, 350, 386, 387, 389, 350, 377, 378, 379, 380, 380, 381, 382, 383, 383, 384, 385, 386, 376, 333, 341, 342, 343, 345, 347, 349, 353, 352, 351] (by decide +kernel)
theorem wsL_law_x1 : ∀ w ∈ (vx_atS RX5 84 "java/lang/IllegalStateException" ["java/lang/RuntimeException", "java/lang/Exception"]).filter goodWord, w ∈ lw_tbl := mem_idx _ [56, 354, 363, 369, 372, 374, 355, 356, 70, 71, 357, 362, 370, 390, 344, 391, 346, 392, 348, 358, 360, 350, 386, 387, 389, 350, 413, 414, 415, 380, 380, 381, 382, 383, 383, 384, 385, 386, 412, 403, 405, 365, 406, 407, 408, 409, 353, 352, 410] (by decide +kernel)
theorem wsL_law_x2 : ∀ w ∈ (vx_atS RX5 203 "java/lang/IndexOutOfBoundsException" ["java/lang/RuntimeException", "java/lang/Exception"]).filter goodWord, w ∈ lw_tbl := mem_idx _ [56, 354, 363, 369, 372, 374, 355, 356, 70, 71, 357, 362, 370, 390, 344, 391, 346, 392, 348, 358, 360, 350, 386, 387, 389, 350, 441, 442, 443, 380, 380, 381, 382, 383, 383, 384, 385, 386, 440, 431, 433, 366, 434, 435, 436, 437, 353, 352, 438] (by decide +kernel)
theorem wsL_law_x3 : ∀ w ∈ (vx_atS RX5 122 "java/lang/UnsupportedOperationException" ["java/lang/RuntimeException", "java/lang/Exception"]).filter goodWord, w ∈ lw_tbl := mem_idx _ [56, 354, 363, 369, 372, 374, 355, 356, 70, 71, 357, 362, 370, 390, 344, 391, 346, 392, 348, 358, 360, 350, 386, 387, 389, 350, 523, 524, 525, 380, 380, 381, 382, 383, 383, 384, 385, 386, 522, 513, 515, 367, 516, 517, 518, 519, 353, 352, 520] (by decide +kernel)
theorem wsL_law_x4 : ∀ w ∈ (vx_atS RX5 139 "java/util/NoSuchElementException" ["java/lang/RuntimeException", "java/lang/Exception"]).filter goodWord, w ∈ lw_tbl := mem_idx _ [56, 354, 363, 369, 372, 374, 355, 356, 70, 71, 357, 362, 370, 390, 344, 391, 346, 392, 348, 358, 360, 350, 386, 387, 389, 350, 566, 567, 568, 380, 380, 381, 382, 383, 383, 384, 385, 386, 565, 556, 558, 368, 559, 560, 561, 562, 353, 352, 563] (by decide +kernel)
theorem wsL_law_in : ∀ w ∈ wsL_law, w ∈ lw_tbl := fun w h => (List.mem_append.mp h).elim (fun h => (List.mem_append.mp h).elim (fun h => (List.mem_append.mp h).elim (fun h => (List.mem_append.mp h).elim (fun h => (List.mem_append.mp h).elim (fun h => wsL_law_in0 w h) (fun h => wsL_law_x0 w h)) (fun h => wsL_law_x1 w h)) (fun h => wsL_law_x2 w h)) (fun h => wsL_law_x3 w h)) (fun h => wsL_law_x4 w h)
