set_option maxRecDepth 20000 in
theorem gL_law_X9_say : GoodIn wsL_law (wsV RL 39 RX9 yX9_say wsX9_say) := goodIn_app (goodIn_of _ (by decide +kernel)) ggL_law_X9_say
set_option maxRecDepth 20000 in
theorem ggL_law_X8_wipe : GoodIn wsL_law wsX8_wipe := goodIn_r _ [254, 27, 255, 256, 257, 26, 258, 243, 797, 798, 799, 800, 801, 802, 803, 837, 838] (by decide +kernel) (by decide +kernel)
set_option maxRecDepth 20000 in
theorem gL_law_X8_wipe : GoodIn wsL_law (wsV RL 40 RX8 yX8_wipe wsX8_wipe) := goodIn_app (goodIn_of _ (by decide +kernel)) ggL_law_X8_wipe
set_option maxRecDepth 20000 in
theorem ggL_law_X9_wipe : GoodIn wsL_law wsX9_wipe := goodIn_r _ [262, 250, 804, 805, 806, 807, 808, 809, 810, 811, 812, 813, 814, 815, 816, 817, 818, 819, 820, 821, 822, 823] (by decide +kernel) (by decide +kernel)
set_option maxRecDepth 20000 in
theorem gL_law_X9_wipe : GoodIn wsL_law (wsV RL 44 RX9 yX9_wipe wsX9_wipe) := goodIn_app (goodIn_of _ (by decide +kernel)) ggL_law_X9_wipe
set_option maxRecDepth 20000 in
theorem ggL_law_X8_fault : GoodIn wsL_law wsX8_fault := goodIn_r _ [266, 27, 267, 268, 269, 26, 270, 243, 76, 271, 272, 273, 274, 275, 276, 277, 278, 279, 280, 281, 282, 797, 798, 799, 800, 801, 802, 803, 837, 838] (by decide +kernel) (by decide +kernel)
set_option maxRecDepth 20000 in
theorem gL_law_X8_fault : GoodIn wsL_law (wsV RL 45 RX8 yX8_fault wsX8_fault) := goodIn_app (goodIn_of _ (by decide +kernel)) ggL_law_X8_fault
set_option maxRecDepth 20000 in
theorem ggL_law_X9_fault : GoodIn wsL_law wsX9_fault := goodIn_r _ [286, 250, 121, 287, 288, 5, 289, 290, 291, 292, 293, 147, 148, 149, 294, 295, 296, 804, 805, 806, 807, 808, 809, 810, 811, 812, 813, 814, 815, 816, 817, 818, 819, 820, 821, 822, 823] (by decide +kernel) (by decide +kernel)
set_option maxRecDepth 20000 in
theorem gL_law_X9_fault : GoodIn wsL_law (wsV RL 48 RX9 yX9_fault wsX9_fault) := goodIn_app (goodIn_of _ (by decide +kernel)) ggL_law_X9_fault
set_option maxRecDepth 20000 in
theorem ggL_law_X8_rule : GoodIn wsL_law wsX8_rule := goodIn_r _ [300, 27, 31, 301, 267, 268, 269, 26, 270, 243, 76, 271, 272, 273, 274, 275, 276, 277, 278, 279, 280, 281, 282, 302, 303, 304, 30, 305, 306, 307, 308, 309, 310, 311, 312, 313, 80, 81, 82, 314, 315, 316, 317, 255, 256, 257, 258, 797, 798, 799, 800, 801, 802, 803, 839, 840, 841, 842, 837, 838] (by decide +kernel) (by decide +kernel)
set_option maxRecDepth 20000 in
theorem gL_law_X8_rule : GoodIn wsL_law (wsV RL 49 RX8 yX8_rule wsX8_rule) := goodIn_app (goodIn_of _ (by decide +kernel)) ggL_law_X8_rule
set_option maxRecDepth 20000 in
theorem ggL_law_X9_rule : GoodIn wsL_law wsX9_rule := goodIn_r _ [321, 322, 250, 121, 122, 123, 124, 323, 284, 285, 5, 286, 287, 288, 289, 290, 291, 292, 293, 147, 148, 149, 294, 295, 296, 804, 805, 806, 807, 808, 809, 810, 811, 812, 813, 814, 815, 816, 817, 818, 819, 820, 821, 822, 823] (by decide +kernel) (by decide +kernel)
set_option maxRecDepth 20000 in
theorem gL_law_X9_rule : GoodIn wsL_law (wsV RL 52 RX9 yX9_rule wsX9_rule) := goodIn_app (goodIn_of _ (by decide +kernel)) ggL_law_X9_rule
set_option maxRecDepth 20000 in
theorem ggL_law_X8_yes : GoodIn wsL_law wsX8_yes := goodIn_r _ [327, 19, 31, 301, 23, 200, 201, 202, 18, 203, 165, 328, 329, 330, 22, 331, 64, 332, 333, 334, 63, 335, 68, 336, 337, 338, 70, 71, 72, 339, 340, 341, 342, 343, 344, 345, 346, 60, 347, 348, 349, 350, 351, 352, 353, 30, 354, 355, 306, 80, 81, 82, 356, 357, 358, 359, 360, 361, 362, 363, 797, 798, 799, 800, 801, 802, 803, 839, 840, 841, 842, 829, 830, 831, 832, 833, 834, 835, 836, 857, 858, 859] (by decide +kernel) (by decide +kernel)
set_option maxRecDepth 20000 in
theorem gL_law_X8_yes : GoodIn wsL_law (wsV RL 53 RX8 yX8_yes wsX8_yes) := goodIn_app (goodIn_of _ (by decide +kernel)) ggL_law_X8_yes
set_option maxRecDepth 20000 in
theorem ggL_law_X9_yes : GoodIn wsL_law wsX9_yes := goodIn_r _ [367, 322, 146, 119, 125, 211, 212, 213, 5, 214, 171, 147, 148, 149, 368, 369, 370, 371, 150, 151, 152, 372, 373, 374, 375, 122, 123, 124, 376, 377, 378, 379, 804, 805, 806, 807, 808, 809, 810, 811, 812, 813, 814, 815, 816, 817, 818, 819, 820, 821, 822, 823] (by decide +kernel) (by decide +kernel)
set_option maxRecDepth 20000 in
theorem gL_law_X9_yes : GoodIn wsL_law (wsV RL 56 RX9 yX9_yes wsX9_yes) := goodIn_app (goodIn_of _ (by decide +kernel)) ggL_law_X9_yes
set_option maxRecDepth 20000 in
theorem ggL_law_X8_taken : GoodIn wsL_law wsX8_taken := goodIn_r _ [383, 19, 384, 35, 385, 200, 201, 202, 18, 203, 165, 386, 387, 388, 2, 389, 15, 390, 132, 133, 134, 391, 392, 393, 394, 395, 396, 397, 31, 301, 398, 399, 400, 34, 401, 88, 91, 402, 333, 334, 63, 335, 68, 336, 337, 338, 70, 71, 72, 403, 404, 405, 406, 90, 407, 89, 408, 409, 410, 411, 412, 413, 414, 415, 416, 181, 182, 14, 183, 47, 184, 158, 159, 160, 139, 417, 418, 419, 420, 421, 422, 423, 424, 425, 426, 427, 428, 429, 430, 52, 431, 432, 433, 434, 92, 435, 436, 352, 353, 30, 354, 355, 306, 80, 81, 82, 356, 357, 358, 359, 360, 361, 362, 363, 437, 438, 439, 348, 349, 350, 440, 441, 442, 443, 444, 445, 446, 447, 448, 797, 798, 799, 800, 801, 802, 803, 829, 830, 831, 832, 833, 834, 824, 825, 826, 827, 828, 839, 840, 841, 842, 843, 844, 845, 846, 847, 857, 858, 859] (by decide +kernel) (by decide +kernel)
set_option maxRecDepth 20000 in
theorem gL_law_X8_taken : GoodIn wsL_law (wsV RL 57 RX8 yX8_taken wsX8_taken) := goodIn_app (goodIn_of _ (by decide +kernel)) ggL_law_X8_taken
set_option maxRecDepth 20000 in
theorem ggL_law_X9_taken : GoodIn wsL_law wsX9_taken := goodIn_r _ [452, 453, 454, 322, 455, 211, 212, 213, 5, 214, 171, 147, 148, 149, 456, 457, 458, 459, 146, 460, 461, 462, 463, 464, 465, 466, 125, 115, 467, 468, 469, 470, 116, 368, 369, 370, 371, 471, 472, 473, 474, 112, 475, 476, 477, 478, 111, 479, 480, 481, 482, 114, 483, 484, 485, 372, 373, 374, 375, 122, 123, 124, 376, 377, 378, 379, 486, 487, 488, 489, 490, 491, 492, 493, 494, 495, 496, 497, 498, 499, 804, 805, 806, 807, 808, 809, 810, 811, 812, 813, 814, 815, 816, 817, 818, 819, 820, 821, 822, 823] (by decide +kernel) (by decide +kernel)
set_option maxRecDepth 20000 in
theorem gL_law_X9_taken : GoodIn wsL_law (wsV RL 61 RX9 yX9_taken wsX9_taken) := goodIn_app (goodIn_of _ (by decide +kernel)) ggL_law_X9_taken
set_option maxRecDepth 20000 in
theorem ggL_law_X8_lot : GoodIn wsL_law wsX8_lot := goodIn_r _ [503, 19, 384, 35, 385, 504, 200, 201, 202, 18, 203, 165, 386, 387, 388, 2, 389, 15, 390, 132, 133, 134, 391, 392, 393, 394, 395, 396, 397, 31, 301, 398, 399, 400, 34, 401, 88, 91, 402, 333, 334, 63, 335, 68, 336, 337, 338, 70, 71, 72, 403, 404, 405, 406, 90, 407, 89, 408, 409, 410, 411, 412, 413, 414, 415, 416, 181, 182, 14, 183, 47, 184, 158, 159, 160, 139, 417, 418, 419, 420, 421, 422, 423, 424, 425, 426, 427, 428, 429, 430, 52, 431, 432, 433, 434, 92, 435, 436, 352, 353, 30, 354, 355, 306, 80, 81, 82, 356, 357, 358, 359, 360, 361, 362, 363, 437, 438, 439, 348, 349, 350, 440, 441, 442, 443, 444, 445, 446, 447, 448, 797, 798, 799, 800, 801, 802, 803, 829, 830, 831, 832, 833, 834, 824, 825, 826, 827, 828, 839, 840, 841, 842, 843, 844, 845, 846, 847, 857, 858, 859] (by decide +kernel) (by decide +kernel)
set_option maxRecDepth 20000 in
theorem gL_law_X8_lot : GoodIn wsL_law (wsV RL 62 RX8 yX8_lot wsX8_lot) := goodIn_app (goodIn_of _ (by decide +kernel)) ggL_law_X8_lot
set_option maxRecDepth 20000 in
theorem ggL_law_X9_lot : GoodIn wsL_law wsX9_lot := goodIn_r _ [508, 453, 454, 322, 455, 211, 212, 213, 5, 214, 171, 147, 148, 149, 456, 457, 458, 459, 146, 460, 461, 462, 463, 464, 465, 466, 125, 115, 467, 468, 469, 470, 116, 368, 369, 370, 371, 471, 472, 473, 474, 112, 475, 476, 477, 478, 111, 479, 480, 481, 482, 114, 483, 484, 485, 372, 373, 374, 375, 122, 123, 124, 376, 377, 378, 379, 486, 487, 488, 489, 490, 491, 492, 493, 494, 495, 496, 497, 498, 499, 804, 805, 806, 807, 808, 809, 810, 811, 812, 813, 814, 815, 816, 817, 818, 819, 820, 821, 822, 823] (by decide +kernel) (by decide +kernel)
set_option maxRecDepth 20000 in
theorem gL_law_X9_lot : GoodIn wsL_law (wsV RL 66 RX9 yX9_lot wsX9_lot) := goodIn_app (goodIn_of _ (by decide +kernel)) ggL_law_X9_lot
set_option maxRecDepth 20000 in
theorem ggL_law_X8_right : GoodIn wsL_law wsX8_right := goodIn_r _ [512, 384, 35, 385, 513, 514, 2, 515, 132, 133, 134, 386, 387, 388, 389, 15, 390, 391, 392, 393, 394, 395, 396, 397, 31, 301, 516, 517, 518, 34, 519, 91, 520, 408, 521, 522, 399, 400, 401, 88, 402, 333, 334, 63, 335, 68, 336, 337, 338, 70, 71, 72, 403, 404, 405, 406, 90, 407, 89, 409, 410, 411, 412, 413, 414, 415, 416, 181, 182, 14, 183, 47, 184, 158, 159, 160, 139, 417, 418, 419, 420, 421, 422, 423, 424, 425, 426, 427, 428, 429, 18, 430, 52, 431, 432, 433, 434, 92, 435, 436, 352, 353, 30, 354, 355, 306, 80, 81, 82, 356, 357, 358, 359, 360, 361, 362, 363, 437, 438, 439, 348, 349, 350, 440, 441, 442, 443, 444, 445, 446, 447, 448, 797, 798, 799, 800, 801, 802, 803, 824, 825, 826, 827, 828, 839, 840, 841, 842, 843, 844, 845, 846, 847, 829, 830, 831, 832, 833, 834, 857, 858, 859] (by decide +kernel) (by decide +kernel)
set_option maxRecDepth 20000 in
theorem gL_law_X8_right : GoodIn wsL_law (wsV RL 67 RX8 yX8_right wsX8_right) := goodIn_app (goodIn_of _ (by decide +kernel)) ggL_law_X8_right
