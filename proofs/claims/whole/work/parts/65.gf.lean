set_option maxRecDepth 20000 in
theorem ggL_law_L_quote : GoodIn wsL_law wsL_quote := goodIn_ca (goodIn_ca (goodIn_ca (goodIn_r _ [746, 243, 212, 213, 747, 748, 749, 2, 750, 218, 219, 220, 221, 31, 668, 248, 249, 250, 251, 252, 253, 222, 751, 752, 753, 30, 754, 78, 755, 79, 80, 806, 807, 808, 809, 810, 811, 812, 813, 814, 815, 816, 853, 854, 855, 856] (by decide +kernel) (by decide +kernel)) (goodIn_sub (fun _ h => List.mem_append_left _ (List.mem_append_left _ (List.mem_append_left _ (List.mem_append_left _ (List.mem_append_right _ h))))) (by decide +kernel))) (goodIn_sub (fun _ h => List.mem_append_left _ (List.mem_append_left _ (List.mem_append_left _ (List.mem_append_right _ h)))) (by decide +kernel))) (goodIn_sub (fun _ h => List.mem_append_left _ (List.mem_append_left _ (List.mem_append_right _ h))) (by decide +kernel))
set_option maxRecDepth 20000 in
theorem gL_law_L_quote : GoodIn wsL_law (va_wsS RL 210 yL_quote wsL_quote) := goodIn_app (goodIn_of _ (by decide +kernel)) ggL_law_L_quote
set_option maxRecDepth 20000 in
theorem ggL_law_X6_quote : GoodIn wsL_law wsX6_quote := goodIn_r _ [759, 685, 199, 200, 201, 258, 259, 260, 5, 261, 227, 262, 263, 264, 228, 229, 230, 231, 232, 817, 818, 819, 820, 821, 822, 823, 824, 825, 826, 827, 828, 829, 830, 831, 832, 833, 834, 835, 836, 837, 838, 839] (by decide +kernel) (by decide +kernel)
set_option maxRecDepth 20000 in
theorem gL_law_X6_quote : GoodIn wsL_law (wsV RL 212 RX6 yX6_quote wsX6_quote) := goodIn_app (goodIn_of _ (by decide +kernel)) ggL_law_X6_quote
set_option maxRecDepth 20000 in
theorem ggL_law_L_isBroken : GoodIn wsL_law wsL_isBroken := goodIn_ca (goodIn_r _ [762, 243, 763, 764, 765, 2, 766, 252, 253, 31, 668, 39, 272, 273, 274, 275, 23, 276, 767, 155, 156, 30, 157, 78, 79, 80, 158, 159, 160, 38, 161, 92, 93, 113, 114, 115, 162, 163, 164, 165, 166, 167, 168, 169, 170, 171, 172, 91, 173, 174, 806, 807, 808, 809, 810, 811, 812, 813, 814, 815, 816, 853, 854, 855, 856, 840, 841, 842, 843, 844, 845, 846, 847, 848, 849, 859, 860, 861, 850, 851, 852] (by decide +kernel) (by decide +kernel)) (goodIn_sub (fun _ h => List.mem_append_left _ (List.mem_append_left _ (List.mem_append_right _ h))) (by decide +kernel))
set_option maxRecDepth 20000 in
theorem gL_law_L_isBroken : GoodIn wsL_law (va_wsS RL 213 yL_isBroken wsL_isBroken) := goodIn_app (goodIn_of _ (by decide +kernel)) ggL_law_L_isBroken
set_option maxRecDepth 20000 in
theorem ggL_law_X6_isBroken : GoodIn wsL_law wsX6_isBroken := goodIn_r _ [771, 685, 262, 263, 5, 264, 285, 286, 287, 288, 189, 228, 229, 230, 231, 232, 690, 691, 692, 693, 199, 200, 194, 195, 233, 234, 235, 694, 695, 696, 697, 203, 201, 412, 413, 414, 415, 202, 416, 417, 418, 419, 420, 421, 422, 817, 818, 819, 820, 821, 822, 823, 824, 825, 826, 827, 828, 829, 830, 831, 832, 833, 834, 835, 836, 837, 838, 839] (by decide +kernel) (by decide +kernel)
set_option maxRecDepth 20000 in
theorem gL_law_X6_isBroken : GoodIn wsL_law (wsV RL 215 RX6 yX6_isBroken wsX6_isBroken) := goodIn_app (goodIn_of _ (by decide +kernel)) ggL_law_X6_isBroken
set_option maxRecDepth 20000 in
theorem ggL_law_L_broken : GoodIn wsL_law wsL_broken := goodIn_ca (goodIn_r _ [774, 243, 775, 776, 777, 2, 778, 31, 668, 39, 272, 273, 274, 275, 252, 253, 23, 276, 767, 155, 156, 30, 157, 78, 79, 80, 158, 159, 160, 38, 161, 92, 93, 113, 114, 115, 162, 163, 164, 165, 166, 167, 168, 169, 170, 171, 172, 91, 173, 174, 806, 807, 808, 809, 810, 811, 812, 813, 814, 815, 816, 853, 854, 855, 856, 840, 841, 842, 843, 844, 845, 846, 847, 848, 849, 859, 860, 861, 850, 851, 852] (by decide +kernel) (by decide +kernel)) (goodIn_sub (fun _ h => List.mem_append_left _ (List.mem_append_left _ (List.mem_append_right _ h))) (by decide +kernel))
set_option maxRecDepth 20000 in
theorem gL_law_L_broken : GoodIn wsL_law (va_wsS RL 216 yL_broken wsL_broken) := goodIn_app (goodIn_of _ (by decide +kernel)) ggL_law_L_broken
set_option maxRecDepth 20000 in
theorem ggL_law_X6_broken : GoodIn wsL_law wsX6_broken := goodIn_r _ [782, 685, 281, 282, 283, 5, 284, 285, 286, 287, 288, 189, 262, 263, 264, 228, 229, 230, 231, 232, 690, 691, 692, 693, 199, 200, 194, 195, 233, 234, 235, 694, 695, 696, 697, 203, 201, 412, 413, 414, 415, 202, 416, 417, 418, 419, 420, 421, 422, 817, 818, 819, 820, 821, 822, 823, 824, 825, 826, 827, 828, 829, 830, 831, 832, 833, 834, 835, 836, 837, 838, 839] (by decide +kernel) (by decide +kernel)
set_option maxRecDepth 20000 in
theorem gL_law_X6_broken : GoodIn wsL_law (wsV RL 218 RX6 yX6_broken wsX6_broken) := goodIn_app (goodIn_of _ (by decide +kernel)) ggL_law_X6_broken
set_option maxRecDepth 20000 in
theorem ggL_law_L_sum : GoodIn wsL_law wsL_sum := goodIn_ca (goodIn_r _ [785, 243, 786, 787, 788, 2, 789, 222, 39, 272, 273, 274, 275, 252, 253, 23, 276, 385, 386, 387, 38, 388, 389, 159, 160, 161, 92, 93, 113, 114, 115, 162, 163, 164, 165, 166, 167, 168, 369, 370, 371, 372, 59, 60, 790, 170, 171, 172, 91, 173, 174, 806, 807, 808, 809, 810, 811, 812, 813, 814, 815, 816, 840, 841, 842, 843, 844, 845, 846, 847, 848, 849, 859, 860, 861, 850, 851, 852] (by decide +kernel) (by decide +kernel)) (goodIn_sub (fun _ h => List.mem_append_left _ (List.mem_append_left _ (List.mem_append_right _ h))) (by decide +kernel))
set_option maxRecDepth 20000 in
theorem gL_law_L_sum : GoodIn wsL_law (va_wsS RL 219 yL_sum wsL_sum) := goodIn_app (goodIn_of _ (by decide +kernel)) ggL_law_L_sum
set_option maxRecDepth 20000 in
theorem ggL_law_X6_sum : GoodIn wsL_law wsX6_sum := goodIn_r _ [794, 227, 194, 195, 203, 281, 282, 283, 5, 284, 285, 286, 287, 288, 189, 262, 263, 264, 228, 229, 230, 231, 232, 233, 234, 235, 419, 420, 421, 422, 202, 416, 417, 418, 408, 409, 410, 411, 412, 413, 414, 415, 817, 818, 819, 820, 821, 822, 823, 824, 825, 826, 827, 828, 829, 830, 831, 832, 833, 834, 835, 836, 837, 838, 839] (by decide +kernel) (by decide +kernel)
set_option maxRecDepth 20000 in
theorem gL_law_X6_sum : GoodIn wsL_law (wsV RL 221 RX6 yX6_sum wsX6_sum) := goodIn_app (goodIn_of _ (by decide +kernel)) ggL_law_X6_sum
set_option maxRecDepth 20000 in
theorem ggL_law_L_conflictShare : GoodIn wsL_law wsL_conflictShare := goodIn_ca (goodIn_ca (goodIn_r _ [797, 243, 380, 798, 799, 800, 2, 801, 394, 395, 222, 39, 272, 273, 274, 275, 252, 253, 23, 276, 582, 583, 584, 38, 585, 586, 386, 387, 388, 389, 159, 160, 161, 92, 93, 113, 114, 115, 162, 163, 164, 165, 166, 167, 168, 806, 807, 808, 809, 810, 811, 812, 813, 814, 815, 816, 840, 841, 842, 843, 844, 845, 846, 847, 848, 849, 859, 860, 861] (by decide +kernel) (by decide +kernel)) (goodIn_sub (fun _ h => List.mem_append_right _ h) (by decide +kernel))) (goodIn_sub (fun _ h => List.mem_append_left _ (List.mem_append_left _ (List.mem_append_right _ h))) (by decide +kernel))
set_option maxRecDepth 20000 in
theorem gL_law_L_conflictShare : GoodIn wsL_law (va_wsS RL 222 yL_conflictShare wsL_conflictShare) := goodIn_app (goodIn_of _ (by decide +kernel)) ggL_law_L_conflictShare
set_option maxRecDepth 20000 in
theorem ggL_law_X6_conflictShare : GoodIn wsL_law wsX6_conflictShare := goodIn_r _ [805, 227, 281, 282, 283, 5, 284, 285, 286, 287, 288, 189, 262, 263, 264, 228, 229, 230, 231, 232, 591, 592, 593, 594, 408, 409, 410, 411, 194, 195, 233, 234, 235, 412, 413, 414, 415, 202, 416, 417, 418, 817, 818, 819, 820, 821, 822, 823, 824, 825, 826, 827, 828, 829, 830, 831, 832, 833, 834, 835, 836, 837, 838, 839] (by decide +kernel) (by decide +kernel)
set_option maxRecDepth 20000 in
theorem gL_law_X6_conflictShare : GoodIn wsL_law (wsV RL 225 RX6 yX6_conflictShare wsX6_conflictShare) := goodIn_app (goodIn_of _ (by decide +kernel)) ggL_law_X6_conflictShare
