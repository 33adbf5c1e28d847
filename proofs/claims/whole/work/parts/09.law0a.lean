set_option maxRecDepth 20000 in
theorem lawin_r1 : ∀ w ∈ wsL_law_r1, w ∈ lw_tbl := fun w h => (goodIn_p wsL_law_r1 [58, 61] (by decide +kernel) (by decide +kernel) w h).1
set_option maxRecDepth 20000 in
theorem lawin_r4 : ∀ w ∈ wsL_law_r4, w ∈ lw_tbl := fun w h => (goodIn_p wsL_law_r4 [151, 164, 180, 200, 224] (by decide +kernel) (by decide +kernel) w h).1
set_option maxRecDepth 20000 in
theorem lawin_r7 : ∀ w ∈ wsL_law_r7, w ∈ lw_tbl := fun w h => (goodIn_p wsL_law_r7 [749, 752, 292, 296, 300] (by decide +kernel) (by decide +kernel) w h).1
set_option maxRecDepth 20000 in
theorem lawin_r10 : ∀ w ∈ wsL_law_r10, w ∈ lw_tbl := fun w h => (goodIn_p wsL_law_r10 [328, 331, 335, 778, 339] (by decide +kernel) (by decide +kernel) w h).1
set_option maxRecDepth 20000 in
theorem lawin_r13 : ∀ w ∈ wsL_law_r13, w ∈ lw_tbl := fun w h => (goodIn_p wsL_law_r13 [797, 802, 375, 379] (by decide +kernel) (by decide +kernel) w h).1
set_option maxRecDepth 20000 in
theorem lawin_r16 : ∀ w ∈ wsL_law_r16, w ∈ lw_tbl := fun w h => (goodIn_p wsL_law_r16 [425, 813, 817, 821, 825, 429] (by decide +kernel) (by decide +kernel) w h).1
set_option maxRecDepth 20000 in
theorem lawin_r19 : ∀ w ∈ wsL_law_r19, w ∈ lw_tbl := fun w h => (goodIn_p wsL_law_r19 [472, 476, 482, 485, 488, 829] (by decide +kernel) (by decide +kernel) w h).1
set_option maxRecDepth 20000 in
theorem lawin_r22 : ∀ w ∈ wsL_law_r22, w ∈ lw_tbl := fun w h => (goodIn_p wsL_law_r22 [880, 497, 500, 504, 884] (by decide +kernel) (by decide +kernel) w h).1
set_option maxRecDepth 20000 in
theorem lawin_r25 : ∀ w ∈ wsL_law_r25, w ∈ lw_tbl := fun w h => (goodIn_p wsL_law_r25 [904, 541, 545, 549, 908, 912] (by decide +kernel) (by decide +kernel) w h).1
set_option maxRecDepth 20000 in
theorem lawin_r28 : ∀ w ∈ wsL_law_r28, w ∈ lw_tbl := fun w h => (goodIn_p wsL_law_r28 [929, 588, 933, 592, 596, 937] (by decide +kernel) (by decide +kernel) w h).1
set_option maxRecDepth 20000 in
theorem lawin_r31 : ∀ w ∈ wsL_law_r31, w ∈ lw_tbl := fun w h => (goodIn_p wsL_law_r31 [638, 643, 647, 651, 946, 950] (by decide +kernel) (by decide +kernel) w h).1
set_option maxRecDepth 20000 in
theorem lawin_r34 : ∀ w ∈ wsL_law_r34, w ∈ lw_tbl := fun w h => (goodIn_p wsL_law_r34 [672, 981] (by decide +kernel) (by decide +kernel) w h).1
set_option maxRecDepth 20000 in
theorem lawin_wsX00 : ∀ w ∈ wsX00, w ∈ lw_tbl := fun w h => (goodIn_p wsX00 [] (by decide +kernel) (by decide +kernel) w h).1
set_option maxRecDepth 20000 in
theorem lawin_wsX60 : ∀ w ∈ wsX60, w ∈ lw_tbl := fun w h => (goodIn_p wsX60 [] (by decide +kernel) (by decide +kernel) w h).1
set_option maxRecDepth 20000 in
theorem lawin_wsX20 : ∀ w ∈ wsX20, w ∈ lw_tbl := fun w h => (goodIn_p wsX20 [] (by decide +kernel) (by decide +kernel) w h).1
