set_option maxRecDepth 20000 in
theorem ggL_law_X8_init : GoodIn wsL_law wsX8_init := goodIn_r _ [8, 9, 10, 11, 12, 13, 14, 15, 16, 17, 18, 19, 20, 21, 22, 23, 24, 25, 26, 27, 28, 29, 30, 31, 32, 33, 34, 35, 36, 37, 38, 39, 40, 41, 42, 43, 44, 45, 46, 47, 48, 49, 50, 51, 52, 53, 54, 55, 56, 57, 58, 59, 60, 61, 62, 63, 64, 65, 66, 67, 68, 69, 70, 71, 72, 73, 74, 75, 76, 77, 78, 79, 80, 81, 82, 83, 84, 85, 86, 87, 88, 89, 90, 91, 92, 93, 94, 95, 96, 97, 98, 99, 100, 101, 102, 103, 104, 105, 106, 824, 825, 826, 827, 828, 797, 798, 799, 800, 801, 802, 803, 829, 830, 831, 832, 833, 834, 835, 836, 837, 838, 839, 840, 841, 842, 843, 844, 845, 846, 847, 848, 849, 850, 851, 852, 853, 854, 855, 856, 857, 858, 859] (by decide +kernel) (by decide +kernel)
set_option maxRecDepth 20000 in
theorem gL_law_X8_init : GoodIn wsL_law (wsX8_init) := ggL_law_X8_init
set_option maxRecDepth 20000 in
theorem ggL_law_X9_init : GoodIn wsL_law wsX9_init := goodIn_r _ [109, 110, 10, 11, 43, 111, 112, 113, 114, 115, 116, 117, 118, 119, 120, 121, 122, 123, 124, 125, 126, 127, 804, 805, 806, 807, 808, 809, 810, 811, 812, 813, 814, 815, 816, 817, 818, 819, 820, 821, 822, 823] (by decide +kernel) (by decide +kernel)
set_option maxRecDepth 20000 in
theorem gL_law_X9_init : GoodIn wsL_law (wsX9_init) := ggL_law_X9_init
set_option maxRecDepth 20000 in
theorem ggL_law_X8_judge : GoodIn wsL_law wsX8_judge := goodIn_r _ [131, 15, 132, 133, 2, 134, 135, 136, 137, 14, 138, 139, 44, 45, 797, 798, 799, 800, 801, 802, 803, 824, 825, 826, 827, 828] (by decide +kernel) (by decide +kernel)
set_option maxRecDepth 20000 in
theorem gL_law_X8_judge : GoodIn wsL_law (wsV RL 13 RX8 yX8_judge wsX8_judge) := goodIn_app (goodIn_of _ (by decide +kernel)) ggL_law_X8_judge
set_option maxRecDepth 20000 in
theorem ggL_law_X9_judge : GoodIn wsL_law wsX9_judge := goodIn_r _ [143, 144, 145, 146, 111, 112, 119, 147, 148, 5, 149, 150, 151, 152, 804, 805, 806, 807, 808, 809, 810, 811, 812, 813, 814, 815, 816, 817, 818, 819, 820, 821, 822, 823] (by decide +kernel) (by decide +kernel)
set_option maxRecDepth 20000 in
theorem gL_law_X9_judge : GoodIn wsL_law (wsV RL 17 RX9 yX9_judge wsX9_judge) := goodIn_app (goodIn_of _ (by decide +kernel)) ggL_law_X9_judge
set_option maxRecDepth 20000 in
theorem ggL_law_X8_paper : GoodIn wsL_law wsX8_paper := goodIn_r _ [156, 15, 19, 157, 158, 159, 14, 160, 139, 132, 133, 2, 134, 161, 162, 163, 18, 164, 165, 51, 52, 54, 797, 798, 799, 800, 801, 802, 803, 824, 825, 826, 827, 828, 829, 830, 831, 832, 833, 834] (by decide +kernel) (by decide +kernel)
set_option maxRecDepth 20000 in
theorem gL_law_X8_paper : GoodIn wsL_law (wsV RL 18 RX8 yX8_paper wsX8_paper) := goodIn_app (goodIn_of _ (by decide +kernel)) ggL_law_X8_paper
set_option maxRecDepth 20000 in
theorem ggL_law_X9_paper : GoodIn wsL_law wsX9_paper := goodIn_r _ [169, 170, 171, 115, 116, 118, 172, 173, 174, 5, 175, 146, 147, 148, 149, 804, 805, 806, 807, 808, 809, 810, 811, 812, 813, 814, 815, 816, 817, 818, 819, 820, 821, 822, 823] (by decide +kernel) (by decide +kernel)
set_option maxRecDepth 20000 in
theorem gL_law_X9_paper : GoodIn wsL_law (wsV RL 21 RX9 yX9_paper wsX9_paper) := goodIn_app (goodIn_of _ (by decide +kernel)) ggL_law_X9_paper
set_option maxRecDepth 20000 in
theorem ggL_law_X8_tie : GoodIn wsL_law wsX8_tie := goodIn_r _ [179, 15, 157, 158, 159, 14, 160, 139, 132, 133, 2, 134, 180, 181, 182, 183, 47, 184, 185, 186, 187, 188, 797, 798, 799, 800, 801, 802, 803, 824, 825, 826, 827, 828] (by decide +kernel) (by decide +kernel)
set_option maxRecDepth 20000 in
theorem gL_law_X8_tie : GoodIn wsL_law (wsV RL 22 RX8 yX8_tie wsX8_tie) := goodIn_app (goodIn_of _ (by decide +kernel)) ggL_law_X8_tie
set_option maxRecDepth 20000 in
theorem ggL_law_X9_tie : GoodIn wsL_law wsX9_tie := goodIn_r _ [192, 193, 114, 172, 173, 174, 5, 175, 146, 147, 148, 149, 804, 805, 806, 807, 808, 809, 810, 811, 812, 813, 814, 815, 816, 817, 818, 819, 820, 821, 822, 823] (by decide +kernel) (by decide +kernel)
set_option maxRecDepth 20000 in
theorem gL_law_X9_tie : GoodIn wsL_law (wsV RL 26 RX9 yX9_tie wsX9_tie) := goodIn_app (goodIn_of _ (by decide +kernel)) ggL_law_X9_tie
set_option maxRecDepth 20000 in
theorem ggL_law_X8_mark : GoodIn wsL_law wsX8_mark := goodIn_r _ [197, 15, 19, 198, 23, 199, 157, 158, 159, 14, 160, 139, 200, 201, 202, 18, 203, 165, 132, 133, 2, 134, 204, 205, 206, 797, 798, 799, 800, 801, 802, 803, 829, 830, 831, 832, 833, 834, 835, 836, 824, 825, 826, 827, 828] (by decide +kernel) (by decide +kernel)
set_option maxRecDepth 20000 in
theorem gL_law_X8_mark : GoodIn wsL_law (wsV RL 27 RX8 yX8_mark wsX8_mark) := goodIn_app (goodIn_of _ (by decide +kernel)) ggL_law_X8_mark
set_option maxRecDepth 20000 in
theorem ggL_law_X9_mark : GoodIn wsL_law wsX9_mark := goodIn_r _ [210, 193, 170, 116, 119, 172, 173, 174, 5, 175, 146, 147, 148, 149, 211, 212, 213, 214, 171, 150, 151, 152, 804, 805, 806, 807, 808, 809, 810, 811, 812, 813, 814, 815, 816, 817, 818, 819, 820, 821, 822, 823] (by decide +kernel) (by decide +kernel)
set_option maxRecDepth 20000 in
theorem gL_law_X9_mark : GoodIn wsL_law (wsV RL 30 RX9 yX9_mark wsX9_mark) := goodIn_app (goodIn_of _ (by decide +kernel)) ggL_law_X9_mark
set_option maxRecDepth 20000 in
theorem ggL_law_X8_set : GoodIn wsL_law wsX8_set := goodIn_r _ [218, 15, 219, 19, 220, 157, 158, 159, 14, 160, 139, 221, 222, 2, 223, 132, 133, 134, 204, 205, 206, 200, 201, 202, 18, 203, 165, 224, 225, 226, 227, 228, 797, 798, 799, 800, 801, 802, 803, 824, 825, 826, 827, 828, 829, 830, 831, 832, 833, 834] (by decide +kernel) (by decide +kernel)
set_option maxRecDepth 20000 in
theorem gL_law_X8_set : GoodIn wsL_law (wsV RL 31 RX8 yX8_set wsX8_set) := goodIn_app (goodIn_of _ (by decide +kernel)) ggL_law_X8_set
set_option maxRecDepth 20000 in
theorem ggL_law_X9_set : GoodIn wsL_law wsX9_set := goodIn_r _ [232, 145, 193, 233, 234, 113, 117, 118, 147, 148, 5, 149, 172, 173, 174, 175, 146, 211, 212, 213, 214, 171, 804, 805, 806, 807, 808, 809, 810, 811, 812, 813, 814, 815, 816, 817, 818, 819, 820, 821, 822, 823] (by decide +kernel) (by decide +kernel)
set_option maxRecDepth 20000 in
theorem gL_law_X9_set : GoodIn wsL_law (wsV RL 34 RX9 yX9_set wsX9_set) := goodIn_app (goodIn_of _ (by decide +kernel)) ggL_law_X9_set
set_option maxRecDepth 20000 in
theorem ggL_law_X8_say : GoodIn wsL_law wsX8_say := goodIn_r _ [238, 27, 132, 133, 2, 134, 239, 240, 241, 26, 242, 243, 76, 797, 798, 799, 800, 801, 802, 803, 837, 838] (by decide +kernel) (by decide +kernel)
set_option maxRecDepth 20000 in
theorem gL_law_X8_say : GoodIn wsL_law (wsV RL 35 RX8 yX8_say wsX8_say) := goodIn_app (goodIn_of _ (by decide +kernel)) ggL_law_X8_say
set_option maxRecDepth 20000 in
theorem ggL_law_X9_say : GoodIn wsL_law wsX9_say := goodIn_r _ [247, 248, 249, 250, 121, 147, 148, 5, 149, 804, 805, 806, 807, 808, 809, 810, 811, 812, 813, 814, 815, 816, 817, 818, 819, 820, 821, 822, 823] (by decide +kernel) (by decide +kernel)
