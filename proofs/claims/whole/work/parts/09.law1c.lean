set_option maxRecDepth 20000 in
theorem ggL_law_X9_right : GoodIn wsL_law wsX9_right := goodIn_r _ [526, 170, 454, 322, 455, 490, 147, 148, 5, 149, 456, 457, 458, 459, 146, 460, 461, 462, 527, 528, 529, 530, 171, 115, 494, 495, 496, 463, 464, 465, 466, 125, 467, 468, 469, 470, 116, 368, 369, 370, 371, 471, 472, 473, 474, 112, 475, 476, 477, 478, 111, 479, 480, 481, 482, 114, 483, 484, 485, 372, 373, 374, 375, 122, 123, 124, 376, 377, 378, 379, 486, 487, 488, 489, 491, 492, 493, 497, 498, 499, 804, 805, 806, 807, 808, 809, 810, 811, 812, 813, 814, 815, 816, 817, 818, 819, 820, 821, 822, 823] (by decide +kernel) (by decide +kernel)
set_option maxRecDepth 20000 in
theorem gL_law_X9_right : GoodIn wsL_law (wsV RL 70 RX9 yX9_right wsX9_right) := goodIn_app (goodIn_of _ (by decide +kernel)) ggL_law_X9_right
set_option maxRecDepth 20000 in
theorem ggL_law_X8_more : GoodIn wsL_law wsX8_more := goodIn_r _ [534, 15, 384, 35, 385, 513, 514, 2, 515, 132, 133, 134, 386, 387, 388, 389, 390, 391, 392, 393, 157, 158, 159, 14, 160, 139, 535, 437, 438, 394, 395, 396, 397, 31, 301, 516, 517, 518, 34, 519, 91, 520, 408, 521, 522, 399, 400, 401, 88, 402, 333, 334, 63, 335, 68, 336, 337, 338, 70, 71, 72, 403, 404, 405, 406, 90, 407, 89, 409, 410, 411, 412, 413, 414, 415, 416, 181, 182, 183, 47, 184, 417, 418, 419, 420, 421, 422, 423, 424, 425, 426, 427, 428, 429, 18, 430, 52, 431, 432, 433, 434, 92, 435, 436, 352, 353, 30, 354, 355, 306, 80, 81, 82, 356, 357, 358, 359, 360, 361, 362, 363, 439, 348, 349, 350, 440, 441, 442, 443, 444, 445, 446, 447, 448, 797, 798, 799, 800, 801, 802, 803, 824, 825, 826, 827, 828, 839, 840, 841, 842, 843, 844, 845, 846, 847, 829, 830, 831, 832, 833, 834, 857, 858, 859] (by decide +kernel) (by decide +kernel)
set_option maxRecDepth 20000 in
theorem gL_law_X8_more : GoodIn wsL_law (wsV RL 71 RX8 yX8_more wsX8_more) := goodIn_app (goodIn_of _ (by decide +kernel)) ggL_law_X8_more
set_option maxRecDepth 20000 in
theorem ggL_law_X9_more : GoodIn wsL_law wsX9_more := goodIn_r _ [539, 453, 170, 454, 322, 455, 490, 172, 173, 174, 5, 175, 146, 147, 148, 149, 456, 457, 458, 459, 460, 461, 462, 527, 528, 529, 530, 171, 115, 494, 495, 496, 463, 464, 465, 466, 125, 467, 468, 469, 470, 116, 368, 369, 370, 371, 471, 472, 473, 474, 112, 475, 476, 477, 478, 111, 479, 480, 481, 482, 114, 483, 484, 485, 372, 373, 374, 375, 122, 123, 124, 376, 377, 378, 379, 486, 487, 488, 489, 491, 492, 493, 497, 498, 499, 804, 805, 806, 807, 808, 809, 810, 811, 812, 813, 814, 815, 816, 817, 818, 819, 820, 821, 822, 823] (by decide +kernel) (by decide +kernel)
set_option maxRecDepth 20000 in
theorem gL_law_X9_more : GoodIn wsL_law (wsV RL 74 RX9 yX9_more wsX9_more) := goodIn_app (goodIn_of _ (by decide +kernel)) ggL_law_X9_more
set_option maxRecDepth 20000 in
theorem ggL_law_X8_rounds : GoodIn wsL_law wsX8_rounds := goodIn_r _ [543, 19, 384, 385, 35, 386, 387, 388, 2, 389, 15, 390, 132, 133, 134, 391, 392, 393, 200, 201, 202, 18, 203, 165, 394, 395, 396, 397, 31, 301, 398, 399, 400, 34, 401, 88, 91, 402, 333, 334, 63, 335, 68, 336, 337, 338, 70, 71, 72, 403, 404, 405, 406, 90, 407, 89, 408, 409, 410, 411, 412, 413, 414, 415, 416, 181, 182, 14, 183, 47, 184, 158, 159, 160, 139, 417, 418, 419, 420, 421, 422, 423, 424, 425, 426, 427, 428, 429, 430, 52, 431, 432, 433, 434, 92, 435, 436, 352, 353, 30, 354, 355, 306, 80, 81, 82, 356, 357, 358, 359, 360, 361, 362, 363, 437, 438, 439, 348, 349, 350, 544, 545, 546, 440, 441, 442, 443, 444, 445, 446, 447, 448, 547, 548, 549, 550, 551, 552, 553, 554, 797, 798, 799, 800, 801, 802, 803, 824, 825, 826, 827, 828, 829, 830, 831, 832, 833, 834, 839, 840, 841, 842, 843, 844, 845, 846, 847, 857, 858, 859] (by decide +kernel) (by decide +kernel)
set_option maxRecDepth 20000 in
theorem gL_law_X8_rounds : GoodIn wsL_law (wsV RL 75 RX8 yX8_rounds wsX8_rounds) := goodIn_app (goodIn_of _ (by decide +kernel)) ggL_law_X8_rounds
set_option maxRecDepth 20000 in
theorem ggL_law_X9_rounds : GoodIn wsL_law wsX9_rounds := goodIn_r _ [558, 453, 490, 454, 322, 455, 211, 212, 213, 5, 214, 171, 147, 148, 149, 456, 457, 458, 459, 146, 460, 461, 462, 486, 487, 488, 489, 467, 468, 469, 470, 116, 491, 492, 493, 494, 495, 496, 463, 464, 465, 466, 125, 115, 368, 369, 370, 371, 471, 472, 473, 474, 112, 475, 476, 477, 478, 111, 479, 480, 481, 482, 114, 483, 484, 485, 372, 373, 374, 375, 122, 123, 124, 376, 377, 378, 379, 497, 498, 499, 804, 805, 806, 807, 808, 809, 810, 811, 812, 813, 814, 815, 816, 817, 818, 819, 820, 821, 822, 823] (by decide +kernel) (by decide +kernel)
set_option maxRecDepth 20000 in
theorem gL_law_X9_rounds : GoodIn wsL_law (wsV RL 79 RX9 yX9_rounds wsX9_rounds) := goodIn_app (goodIn_of _ (by decide +kernel)) ggL_law_X9_rounds
set_option maxRecDepth 20000 in
theorem ggL_law_X8_worth : GoodIn wsL_law wsX8_worth := goodIn_r _ [562, 19, 563, 564, 35, 23, 200, 201, 202, 18, 203, 165, 132, 133, 2, 134, 391, 392, 393, 565, 566, 567, 34, 568, 90, 407, 569, 340, 341, 22, 342, 343, 344, 345, 346, 60, 570, 409, 410, 411, 412, 413, 91, 414, 415, 416, 181, 182, 14, 183, 47, 184, 158, 159, 160, 139, 417, 418, 419, 420, 421, 422, 423, 424, 425, 426, 440, 441, 442, 443, 444, 445, 446, 447, 448, 797, 798, 799, 800, 801, 802, 803, 829, 830, 831, 832, 833, 834, 843, 844, 845, 846, 847, 824, 825, 826, 827, 828, 835, 836] (by decide +kernel) (by decide +kernel)
set_option maxRecDepth 20000 in
theorem gL_law_X8_worth : GoodIn wsL_law (wsV RL 80 RX8 yX8_worth wsX8_worth) := goodIn_app (goodIn_of _ (by decide +kernel)) ggL_law_X8_worth
set_option maxRecDepth 20000 in
theorem ggL_law_X9_worth : GoodIn wsL_law wsX9_worth := goodIn_r _ [574, 453, 170, 454, 211, 212, 213, 5, 214, 171, 147, 148, 149, 460, 461, 462, 575, 576, 577, 578, 146, 119, 150, 151, 152, 475, 476, 477, 478, 111, 479, 480, 481, 482, 116, 114, 483, 484, 485, 471, 472, 473, 474, 112, 497, 498, 499, 804, 805, 806, 807, 808, 809, 810, 811, 812, 813, 814, 815, 816, 817, 818, 819, 820, 821, 822, 823] (by decide +kernel) (by decide +kernel)
set_option maxRecDepth 20000 in
theorem gL_law_X9_worth : GoodIn wsL_law (wsV RL 83 RX9 yX9_worth wsX9_worth) := goodIn_app (goodIn_of _ (by decide +kernel)) ggL_law_X9_worth
set_option maxRecDepth 20000 in
theorem ggL_law_X8_joined : GoodIn wsL_law wsX8_joined := goodIn_r _ [582, 15, 23, 157, 158, 159, 14, 160, 139, 583, 584, 585, 22, 586, 587, 588, 589, 590, 339, 340, 341, 342, 343, 344, 345, 346, 60, 797, 798, 799, 800, 801, 802, 803, 824, 825, 826, 827, 828, 835, 836] (by decide +kernel) (by decide +kernel)
set_option maxRecDepth 20000 in
theorem gL_law_X8_joined : GoodIn wsL_law (wsV RL 84 RX8 yX8_joined wsX8_joined) := goodIn_app (goodIn_of _ (by decide +kernel)) ggL_law_X8_joined
set_option maxRecDepth 20000 in
theorem ggL_law_X9_joined : GoodIn wsL_law wsX9_joined := goodIn_r _ [594, 172, 173, 174, 5, 175, 146, 147, 148, 149, 595, 596, 597, 598, 171, 119, 150, 151, 152, 804, 805, 806, 807, 808, 809, 810, 811, 812, 813, 814, 815, 816, 817, 818, 819, 820, 821, 822, 823] (by decide +kernel) (by decide +kernel)
set_option maxRecDepth 20000 in
theorem gL_law_X9_joined : GoodIn wsL_law (wsV RL 87 RX9 yX9_joined wsX9_joined) := goodIn_app (goodIn_of _ (by decide +kernel)) ggL_law_X9_joined
set_option maxRecDepth 20000 in
theorem ggL_law_X8_parts : GoodIn wsL_law wsX8_parts := goodIn_r _ [602, 15, 390, 23, 583, 584, 585, 22, 586, 587, 588, 589, 590, 339, 340, 341, 342, 343, 344, 345, 346, 60, 797, 798, 799, 800, 801, 802, 803, 824, 825, 826, 827, 828, 835, 836] (by decide +kernel) (by decide +kernel)
set_option maxRecDepth 20000 in
theorem gL_law_X8_parts : GoodIn wsL_law (wsV RL 88 RX8 yX8_parts wsX8_parts) := goodIn_app (goodIn_of _ (by decide +kernel)) ggL_law_X8_parts
set_option maxRecDepth 20000 in
theorem ggL_law_X9_parts : GoodIn wsL_law wsX9_parts := goodIn_r _ [606, 146, 595, 596, 597, 5, 598, 171, 119, 150, 151, 152, 804, 805, 806, 807, 808, 809, 810, 811, 812, 813, 814, 815, 816, 817, 818, 819, 820, 821, 822, 823] (by decide +kernel) (by decide +kernel)
set_option maxRecDepth 20000 in
theorem gL_law_X9_parts : GoodIn wsL_law (wsV RL 91 RX9 yX9_parts wsX9_parts) := goodIn_app (goodIn_of _ (by decide +kernel)) ggL_law_X9_parts
set_option maxRecDepth 20000 in
theorem ggL_law_X8_harsh : GoodIn wsL_law wsX8_harsh := goodIn_r _ [610, 15, 563, 564, 19, 611, 23, 612, 157, 158, 159, 14, 160, 139, 391, 392, 2, 393, 132, 133, 134, 613, 614, 615, 22, 616, 339, 340, 341, 342, 343, 344, 345, 346, 60, 617, 618, 619, 620, 587, 588, 589, 590, 621, 549, 550, 551, 552, 553, 554, 622, 623, 624, 625, 626, 627, 628, 629, 440, 441, 442, 443, 444, 422, 445, 446, 447, 448, 797, 798, 799, 800, 801, 802, 803, 829, 830, 831, 832, 833, 834, 824, 825, 826, 827, 828, 835, 836] (by decide +kernel) (by decide +kernel)
set_option maxRecDepth 20000 in
theorem gL_law_X8_harsh : GoodIn wsL_law (wsV RL 92 RX8 yX8_harsh wsX8_harsh) := goodIn_app (goodIn_of _ (by decide +kernel)) ggL_law_X8_harsh
set_option maxRecDepth 20000 in
theorem ggL_law_X9_harsh : GoodIn wsL_law wsX9_harsh := goodIn_r _ [633, 453, 454, 171, 146, 119, 634, 172, 173, 174, 5, 175, 147, 148, 149, 460, 461, 462, 150, 151, 152, 497, 498, 499, 804, 805, 806, 807, 808, 809, 810, 811, 812, 813, 814, 815, 816, 817, 818, 819, 820, 821, 822, 823] (by decide +kernel) (by decide +kernel)
set_option maxRecDepth 20000 in
theorem gL_law_X9_harsh : GoodIn wsL_law (wsV RL 96 RX9 yX9_harsh wsX9_harsh) := goodIn_app (goodIn_of _ (by decide +kernel)) ggL_law_X9_harsh
set_option maxRecDepth 20000 in
theorem ggL_law_X8_swap : GoodIn wsL_law wsX8_swap := goodIn_r _ [638, 15, 390, 639, 640, 641, 2, 642, 19, 611, 198, 23, 643, 344, 345, 22, 346, 60, 797, 798, 799, 800, 801, 802, 803, 824, 825, 826, 827, 828, 829, 830, 831, 832, 833, 834, 835, 836] (by decide +kernel) (by decide +kernel)
