set_option maxRecDepth 20000 in
theorem ggL_law_X6_commits : GoodIn wsL_law wsX6_commits := goodIn_r _ [456, 189, 457, 458, 459, 5, 460, 232, 817, 818, 819, 820, 821, 822, 823, 824, 825, 826, 827, 828, 829, 830, 831, 832, 833, 834, 835, 836, 837, 838, 839] (by decide +kernel) (by decide +kernel)
set_option maxRecDepth 20000 in
theorem gL_law_X6_commits : GoodIn wsL_law (wsV RL 161 RX6 yX6_commits wsX6_commits) := goodIn_app (goodIn_of _ (by decide +kernel)) ggL_law_X6_commits
set_option maxRecDepth 20000 in
theorem ggL_law_L_parents : GoodIn wsL_law wsL_parents := goodIn_ca (goodIn_r _ [463, 243, 464, 465, 466, 2, 467, 23, 272, 273, 274, 275, 252, 253, 276, 468, 469, 470, 22, 471, 46, 47, 806, 807, 808, 809, 810, 811, 812, 813, 814, 815, 816, 840, 841, 842, 843, 844, 845, 846, 847, 848, 849] (by decide +kernel) (by decide +kernel)) (goodIn_sub (fun _ h => List.mem_append_left _ (List.mem_append_left _ (List.mem_append_right _ h))) (by decide +kernel))
set_option maxRecDepth 20000 in
theorem gL_law_L_parents : GoodIn wsL_law (va_wsS RL 162 yL_parents wsL_parents) := goodIn_app (goodIn_of _ (by decide +kernel)) ggL_law_L_parents
set_option maxRecDepth 20000 in
theorem ggL_law_X6_parents : GoodIn wsL_law wsX6_parents := goodIn_r _ [475, 281, 282, 283, 5, 284, 285, 286, 287, 288, 189, 262, 263, 264, 228, 229, 230, 231, 232, 476, 477, 478, 479, 190, 191, 817, 818, 819, 820, 821, 822, 823, 824, 825, 826, 827, 828, 829, 830, 831, 832, 833, 834, 835, 836, 837, 838, 839] (by decide +kernel) (by decide +kernel)
set_option maxRecDepth 20000 in
theorem gL_law_X6_parents : GoodIn wsL_law (wsV RL 164 RX6 yX6_parents wsX6_parents) := goodIn_app (goodIn_of _ (by decide +kernel)) ggL_law_X6_parents
set_option maxRecDepth 20000 in
theorem ggL_law_L_parentAt : GoodIn wsL_law wsL_parentAt := goodIn_ca (goodIn_ca (goodIn_r _ [482, 243, 380, 483, 484, 485, 2, 486, 394, 395, 23, 487, 488, 272, 273, 274, 275, 252, 253, 276, 468, 469, 470, 22, 471, 46, 47, 806, 807, 808, 809, 810, 811, 812, 813, 814, 815, 816, 840, 841, 842, 843, 844, 845, 846, 847, 848, 849] (by decide +kernel) (by decide +kernel)) (goodIn_sub (fun _ h => List.mem_append_right _ h) (by decide +kernel))) (goodIn_sub (fun _ h => List.mem_append_left _ (List.mem_append_left _ (List.mem_append_right _ h))) (by decide +kernel))
set_option maxRecDepth 20000 in
theorem gL_law_L_parentAt : GoodIn wsL_law (va_wsS RL 165 yL_parentAt wsL_parentAt) := goodIn_app (goodIn_of _ (by decide +kernel)) ggL_law_L_parentAt
set_option maxRecDepth 20000 in
theorem ggL_law_X6_parentAt : GoodIn wsL_law wsX6_parentAt := goodIn_r _ [492, 190, 191, 281, 282, 283, 5, 284, 285, 286, 287, 288, 189, 262, 263, 264, 228, 229, 230, 231, 232, 476, 477, 478, 479, 817, 818, 819, 820, 821, 822, 823, 824, 825, 826, 827, 828, 829, 830, 831, 832, 833, 834, 835, 836, 837, 838, 839] (by decide +kernel) (by decide +kernel)
set_option maxRecDepth 20000 in
theorem gL_law_X6_parentAt : GoodIn wsL_law (wsV RL 167 RX6 yX6_parentAt wsX6_parentAt) := goodIn_app (goodIn_of _ (by decide +kernel)) ggL_law_X6_parentAt
set_option maxRecDepth 20000 in
theorem ggL_law_L_isAncestor : GoodIn wsL_law wsL_isAncestor := goodIn_ca (goodIn_r _ [495, 243, 496, 497, 498, 2, 499, 23, 272, 273, 274, 275, 252, 253, 276, 500, 501, 502, 22, 503, 52, 53, 134, 135, 136, 59, 60, 137, 61, 62, 806, 807, 808, 809, 810, 811, 812, 813, 814, 815, 816, 840, 841, 842, 843, 844, 845, 846, 847, 848, 849] (by decide +kernel) (by decide +kernel)) (goodIn_sub (fun _ h => List.mem_append_left _ (List.mem_append_left _ (List.mem_append_right _ h))) (by decide +kernel))
set_option maxRecDepth 20000 in
theorem gL_law_L_isAncestor : GoodIn wsL_law (va_wsS RL 168 yL_isAncestor wsL_isAncestor) := goodIn_app (goodIn_of _ (by decide +kernel)) ggL_law_L_isAncestor
set_option maxRecDepth 20000 in
theorem ggL_law_X6_isAncestor : GoodIn wsL_law wsX6_isAncestor := goodIn_r _ [507, 508, 509, 510, 5, 511, 285, 286, 287, 288, 189, 262, 263, 264, 228, 229, 230, 231, 232, 512, 513, 514, 515, 192, 193, 416, 417, 418, 817, 818, 819, 820, 821, 822, 823, 824, 825, 826, 827, 828, 829, 830, 831, 832, 833, 834, 835, 836, 837, 838, 839] (by decide +kernel) (by decide +kernel)
set_option maxRecDepth 20000 in
theorem gL_law_X6_isAncestor : GoodIn wsL_law (wsV RL 170 RX6 yX6_isAncestor wsX6_isAncestor) := goodIn_app (goodIn_of _ (by decide +kernel)) ggL_law_X6_isAncestor
set_option maxRecDepth 20000 in
theorem ggL_law_L_base : GoodIn wsL_law wsL_base := goodIn_ca (goodIn_r _ [518, 243, 519, 520, 521, 2, 522, 23, 272, 273, 274, 275, 252, 253, 276, 523, 127, 128, 22, 129, 52, 53, 130, 131, 132, 133, 134, 135, 136, 59, 60, 137, 61, 62, 806, 807, 808, 809, 810, 811, 812, 813, 814, 815, 816, 840, 841, 842, 843, 844, 845, 846, 847, 848, 849] (by decide +kernel) (by decide +kernel)) (goodIn_sub (fun _ h => List.mem_append_left _ (List.mem_append_left _ (List.mem_append_right _ h))) (by decide +kernel))
set_option maxRecDepth 20000 in
theorem gL_law_L_base : GoodIn wsL_law (va_wsS RL 171 yL_base wsL_base) := goodIn_app (goodIn_of _ (by decide +kernel)) ggL_law_L_base
set_option maxRecDepth 20000 in
theorem ggL_law_X6_base : GoodIn wsL_law wsX6_base := goodIn_r _ [527, 508, 509, 510, 5, 511, 285, 286, 287, 288, 189, 262, 263, 264, 228, 229, 230, 231, 232, 528, 529, 530, 531, 512, 513, 514, 515, 192, 193, 416, 417, 418, 817, 818, 819, 820, 821, 822, 823, 824, 825, 826, 827, 828, 829, 830, 831, 832, 833, 834, 835, 836, 837, 838, 839] (by decide +kernel) (by decide +kernel)
set_option maxRecDepth 20000 in
theorem gL_law_X6_base : GoodIn wsL_law (wsV RL 173 RX6 yX6_base wsX6_base) := goodIn_app (goodIn_of _ (by decide +kernel)) ggL_law_X6_base
set_option maxRecDepth 20000 in
theorem ggL_law_L_sides : GoodIn wsL_law wsL_sides := goodIn_ca (goodIn_r _ [534, 243, 535, 536, 537, 2, 538, 39, 272, 273, 274, 275, 252, 253, 23, 276, 248, 249, 250, 251, 222, 539, 159, 160, 38, 161, 92, 93, 113, 114, 115, 162, 163, 164, 165, 166, 167, 168, 806, 807, 808, 809, 810, 811, 812, 813, 814, 815, 816, 840, 841, 842, 843, 844, 845, 846, 847, 848, 849, 859, 860, 861] (by decide +kernel) (by decide +kernel)) (goodIn_sub (fun _ h => List.mem_append_left _ (List.mem_append_left _ (List.mem_append_right _ h))) (by decide +kernel))
set_option maxRecDepth 20000 in
theorem gL_law_L_sides : GoodIn wsL_law (va_wsS RL 174 yL_sides wsL_sides) := goodIn_app (goodIn_of _ (by decide +kernel)) ggL_law_L_sides
set_option maxRecDepth 20000 in
theorem ggL_law_X6_sides : GoodIn wsL_law wsX6_sides := goodIn_r _ [543, 544, 545, 546, 5, 547, 285, 286, 287, 288, 189, 262, 263, 264, 258, 259, 260, 261, 227, 228, 229, 230, 231, 232, 408, 409, 410, 411, 194, 195, 233, 234, 235, 412, 413, 414, 415, 202, 416, 417, 418, 817, 818, 819, 820, 821, 822, 823, 824, 825, 826, 827, 828, 829, 830, 831, 832, 833, 834, 835, 836, 837, 838, 839] (by decide +kernel) (by decide +kernel)
set_option maxRecDepth 20000 in
theorem gL_law_X6_sides : GoodIn wsL_law (wsV RL 176 RX6 yX6_sides wsX6_sides) := goodIn_app (goodIn_of _ (by decide +kernel)) ggL_law_X6_sides
