theorem dX0_init_0 : decode cX0_init 0 = .ok (.aload_n 0, 1) := by decide +kernel
theorem dX0_init_1 : decode cX0_init 1 = .ok (.invokespecial 3, 3) := by decide +kernel
theorem dX0_init_4 : decode cX0_init 4 = .ok (.aload_n 0, 1) := by decide +kernel
theorem dX0_init_5 : decode cX0_init 5 = .ok (.bipush 6, 2) := by decide +kernel
theorem dX0_init_7 : decode cX0_init 7 = .ok (.newarray .int, 2) := by decide +kernel
theorem dX0_init_9 : decode cX0_init 9 = .ok (.putfield 9, 3) := by decide +kernel
theorem dX0_init_12 : decode cX0_init 12 = .ok (.aload_n 0, 1) := by decide +kernel
theorem dX0_init_13 : decode cX0_init 13 = .ok (.bipush 6, 2) := by decide +kernel
theorem dX0_init_15 : decode cX0_init 15 = .ok (.newarray .int, 2) := by decide +kernel
theorem dX0_init_17 : decode cX0_init 17 = .ok (.putfield 15, 3) := by decide +kernel
theorem dX0_init_20 : decode cX0_init 20 = .ok (.aload_n 0, 1) := by decide +kernel
theorem dX0_init_21 : decode cX0_init 21 = .ok (.bipush 6, 2) := by decide +kernel
theorem dX0_init_23 : decode cX0_init 23 = .ok (.newarray .int, 2) := by decide +kernel
theorem dX0_init_25 : decode cX0_init 25 = .ok (.putfield 18, 3) := by decide +kernel
theorem dX0_init_28 : decode cX0_init 28 = .ok (.aload_n 0, 1) := by decide +kernel
theorem dX0_init_29 : decode cX0_init 29 = .ok (.bipush 36, 2) := by decide +kernel
theorem dX0_init_31 : decode cX0_init 31 = .ok (.newarray .int, 2) := by decide +kernel
theorem dX0_init_33 : decode cX0_init 33 = .ok (.putfield 21, 3) := by decide +kernel
theorem dX0_init_36 : decode cX0_init 36 = .ok (.return_, 1) := by decide +kernel
theorem dX0_has_0 : decode cX0_has 0 = .ok (.iload_n 1, 1) := by decide +kernel
theorem dX0_has_1 : decode cX0_has 1 = .ok (.ifCond .lt 15, 3) := by decide +kernel
theorem dX0_has_4 : decode cX0_has 4 = .ok (.iload_n 1, 1) := by decide +kernel
theorem dX0_has_5 : decode cX0_has 5 = .ok (.aload_n 0, 1) := by decide +kernel
theorem dX0_has_6 : decode cX0_has 6 = .ok (.getfield 24, 3) := by decide +kernel
theorem dX0_has_9 : decode cX0_has 9 = .ok (.if_icmp .ge 7, 3) := by decide +kernel
theorem dX0_has_12 : decode cX0_has 12 = .ok (.iconst 1, 1) := by decide +kernel
theorem dX0_has_13 : decode cX0_has 13 = .ok (.goto 4, 3) := by decide +kernel
theorem dX0_has_16 : decode cX0_has 16 = .ok (.iconst 0, 1) := by decide +kernel
theorem dX0_has_17 : decode cX0_has 17 = .ok (.ireturn, 1) := by decide +kernel
theorem dX0_add_0 : decode cX0_add 0 = .ok (.aload_n 0, 1) := by decide +kernel
theorem dX0_add_1 : decode cX0_add 1 = .ok (.getfield 24, 3) := by decide +kernel
theorem dX0_add_4 : decode cX0_add 4 = .ok (.bipush 6, 2) := by decide +kernel
theorem dX0_add_6 : decode cX0_add 6 = .ok (.if_icmp .lt 6, 3) := by decide +kernel
theorem dX0_add_9 : decode cX0_add 9 = .ok (.bipush (-4), 2) := by decide +kernel
theorem dX0_add_11 : decode cX0_add 11 = .ok (.ireturn, 1) := by decide +kernel
theorem dX0_add_12 : decode cX0_add 12 = .ok (.aload_n 0, 1) := by decide +kernel
theorem dX0_add_13 : decode cX0_add 13 = .ok (.getfield 9, 3) := by decide +kernel
theorem dX0_add_16 : decode cX0_add 16 = .ok (.aload_n 0, 1) := by decide +kernel
theorem dX0_add_17 : decode cX0_add 17 = .ok (.getfield 24, 3) := by decide +kernel
theorem dX0_add_20 : decode cX0_add 20 = .ok (.iload_n 1, 1) := by decide +kernel
theorem dX0_add_21 : decode cX0_add 21 = .ok (.iastore, 1) := by decide +kernel
theorem dX0_add_22 : decode cX0_add 22 = .ok (.aload_n 0, 1) := by decide +kernel
theorem dX0_add_23 : decode cX0_add 23 = .ok (.getfield 15, 3) := by decide +kernel
theorem dX0_add_26 : decode cX0_add 26 = .ok (.aload_n 0, 1) := by decide +kernel
theorem dX0_add_27 : decode cX0_add 27 = .ok (.getfield 24, 3) := by decide +kernel
theorem dX0_add_30 : decode cX0_add 30 = .ok (.iload_n 2, 1) := by decide +kernel
theorem dX0_add_31 : decode cX0_add 31 = .ok (.iastore, 1) := by decide +kernel
theorem dX0_add_32 : decode cX0_add 32 = .ok (.aload_n 0, 1) := by decide +kernel
theorem dX0_add_33 : decode cX0_add 33 = .ok (.dup, 1) := by decide +kernel
theorem dX0_add_34 : decode cX0_add 34 = .ok (.getfield 24, 3) := by decide +kernel
theorem dX0_add_37 : decode cX0_add 37 = .ok (.dup_x1, 1) := by decide +kernel
theorem dX0_add_38 : decode cX0_add 38 = .ok (.iconst 1, 1) := by decide +kernel
theorem dX0_add_39 : decode cX0_add 39 = .ok (.iadd, 1) := by decide +kernel
theorem dX0_add_40 : decode cX0_add 40 = .ok (.putfield 24, 3) := by decide +kernel
theorem dX0_add_43 : decode cX0_add 43 = .ok (.ireturn, 1) := by decide +kernel
set_option maxRecDepth 20000 in
theorem ggX0_tieOf_X0_has : GoodIn wsX0_tieOf wsX0_has := goodIn_r _ [6, 7, 8, 9, 10, 11, 12] (by decide +kernel) (by decide +kernel)
set_option maxRecDepth 20000 in
theorem gX0_tieOf_X0_has : GoodIn wsX0_tieOf (wsV RX0 28 RX0 yX0_has wsX0_has) := goodIn_app (goodIn_of _ (by decide +kernel)) ggX0_tieOf_X0_has
theorem dX0_tieOf_0 : decode cX0_tieOf 0 = .ok (.aload_n 0, 1) := by decide +kernel
theorem dX0_tieOf_1 : decode cX0_tieOf 1 = .ok (.iload_n 1, 1) := by decide +kernel
theorem dX0_tieOf_2 : decode cX0_tieOf 2 = .ok (.invokevirtual 28, 3) := by decide +kernel
theorem dX0_tieOf_5 : decode cX0_tieOf 5 = .ok (.ifCond .eq 25, 3) := by decide +kernel
theorem dX0_tieOf_8 : decode cX0_tieOf 8 = .ok (.aload_n 0, 1) := by decide +kernel
theorem dX0_tieOf_9 : decode cX0_tieOf 9 = .ok (.iload_n 2, 1) := by decide +kernel
theorem dX0_tieOf_10 : decode cX0_tieOf 10 = .ok (.invokevirtual 28, 3) := by decide +kernel
theorem dX0_tieOf_13 : decode cX0_tieOf 13 = .ok (.ifCond .eq 17, 3) := by decide +kernel
theorem dX0_tieOf_16 : decode cX0_tieOf 16 = .ok (.aload_n 0, 1) := by decide +kernel
theorem dX0_tieOf_17 : decode cX0_tieOf 17 = .ok (.getfield 21, 3) := by decide +kernel
theorem dX0_tieOf_20 : decode cX0_tieOf 20 = .ok (.iload_n 1, 1) := by decide +kernel
theorem dX0_tieOf_21 : decode cX0_tieOf 21 = .ok (.bipush 6, 2) := by decide +kernel
theorem dX0_tieOf_23 : decode cX0_tieOf 23 = .ok (.imul, 1) := by decide +kernel
theorem dX0_tieOf_24 : decode cX0_tieOf 24 = .ok (.iload_n 2, 1) := by decide +kernel
theorem dX0_tieOf_25 : decode cX0_tieOf 25 = .ok (.iadd, 1) := by decide +kernel
theorem dX0_tieOf_26 : decode cX0_tieOf 26 = .ok (.iaload, 1) := by decide +kernel
theorem dX0_tieOf_27 : decode cX0_tieOf 27 = .ok (.goto 4, 3) := by decide +kernel
theorem dX0_tieOf_30 : decode cX0_tieOf 30 = .ok (.iconst 0, 1) := by decide +kernel
theorem dX0_tieOf_31 : decode cX0_tieOf 31 = .ok (.ireturn, 1) := by decide +kernel
theorem dX0_putTie_0 : decode cX0_putTie 0 = .ok (.aload_n 0, 1) := by decide +kernel
theorem dX0_putTie_1 : decode cX0_putTie 1 = .ok (.getfield 21, 3) := by decide +kernel
theorem dX0_putTie_4 : decode cX0_putTie 4 = .ok (.iload_n 1, 1) := by decide +kernel
theorem dX0_putTie_5 : decode cX0_putTie 5 = .ok (.bipush 6, 2) := by decide +kernel
theorem dX0_putTie_7 : decode cX0_putTie 7 = .ok (.imul, 1) := by decide +kernel
theorem dX0_putTie_8 : decode cX0_putTie 8 = .ok (.iload_n 2, 1) := by decide +kernel
theorem dX0_putTie_9 : decode cX0_putTie 9 = .ok (.iadd, 1) := by decide +kernel
theorem dX0_putTie_10 : decode cX0_putTie 10 = .ok (.iload_n 3, 1) := by decide +kernel
theorem dX0_putTie_11 : decode cX0_putTie 11 = .ok (.iastore, 1) := by decide +kernel
theorem dX0_putTie_12 : decode cX0_putTie 12 = .ok (.aload_n 0, 1) := by decide +kernel
theorem dX0_putTie_13 : decode cX0_putTie 13 = .ok (.getfield 21, 3) := by decide +kernel
theorem dX0_putTie_16 : decode cX0_putTie 16 = .ok (.iload_n 2, 1) := by decide +kernel
theorem dX0_putTie_17 : decode cX0_putTie 17 = .ok (.bipush 6, 2) := by decide +kernel
theorem dX0_putTie_19 : decode cX0_putTie 19 = .ok (.imul, 1) := by decide +kernel
theorem dX0_putTie_20 : decode cX0_putTie 20 = .ok (.iload_n 1, 1) := by decide +kernel
theorem dX0_putTie_21 : decode cX0_putTie 21 = .ok (.iadd, 1) := by decide +kernel
theorem dX0_putTie_22 : decode cX0_putTie 22 = .ok (.iload_n 3, 1) := by decide +kernel
theorem dX0_putTie_23 : decode cX0_putTie 23 = .ok (.iastore, 1) := by decide +kernel
theorem dX0_putTie_24 : decode cX0_putTie 24 = .ok (.return_, 1) := by decide +kernel
theorem dX0_withKeys_0 : decode cX0_withKeys 0 = .ok (.iconst 0, 1) := by decide +kernel
theorem dX0_withKeys_1 : decode cX0_withKeys 1 = .ok (.istore_n 2, 1) := by decide +kernel
theorem dX0_withKeys_2 : decode cX0_withKeys 2 = .ok (.iconst 0, 1) := by decide +kernel
theorem dX0_withKeys_3 : decode cX0_withKeys 3 = .ok (.istore_n 3, 1) := by decide +kernel
theorem dX0_withKeys_4 : decode cX0_withKeys 4 = .ok (.iload_n 3, 1) := by decide +kernel
theorem dX0_withKeys_5 : decode cX0_withKeys 5 = .ok (.aload_n 0, 1) := by decide +kernel
theorem dX0_withKeys_6 : decode cX0_withKeys 6 = .ok (.getfield 24, 3) := by decide +kernel
theorem dX0_withKeys_9 : decode cX0_withKeys 9 = .ok (.if_icmp .ge 27, 3) := by decide +kernel
theorem dX0_withKeys_12 : decode cX0_withKeys 12 = .ok (.aload_n 0, 1) := by decide +kernel
theorem dX0_withKeys_13 : decode cX0_withKeys 13 = .ok (.getfield 18, 3) := by decide +kernel
theorem dX0_withKeys_16 : decode cX0_withKeys 16 = .ok (.iload_n 3, 1) := by decide +kernel
theorem dX0_withKeys_17 : decode cX0_withKeys 17 = .ok (.iaload, 1) := by decide +kernel
theorem dX0_withKeys_18 : decode cX0_withKeys 18 = .ok (.iload_n 1, 1) := by decide +kernel
theorem dX0_withKeys_19 : decode cX0_withKeys 19 = .ok (.iand, 1) := by decide +kernel
theorem dX0_withKeys_20 : decode cX0_withKeys 20 = .ok (.iload_n 1, 1) := by decide +kernel
theorem dX0_withKeys_21 : decode cX0_withKeys 21 = .ok (.if_icmp .ne 9, 3) := by decide +kernel
theorem dX0_withKeys_24 : decode cX0_withKeys 24 = .ok (.iload_n 2, 1) := by decide +kernel
theorem dX0_withKeys_25 : decode cX0_withKeys 25 = .ok (.iconst 1, 1) := by decide +kernel
theorem dX0_withKeys_26 : decode cX0_withKeys 26 = .ok (.iload_n 3, 1) := by decide +kernel
theorem dX0_withKeys_27 : decode cX0_withKeys 27 = .ok (.ishl, 1) := by decide +kernel
theorem dX0_withKeys_28 : decode cX0_withKeys 28 = .ok (.ior, 1) := by decide +kernel
theorem dX0_withKeys_29 : decode cX0_withKeys 29 = .ok (.istore_n 2, 1) := by decide +kernel
theorem dX0_withKeys_30 : decode cX0_withKeys 30 = .ok (.iinc 3 1, 3) := by decide +kernel
theorem dX0_withKeys_33 : decode cX0_withKeys 33 = .ok (.goto (-29), 3) := by decide +kernel
theorem dX0_withKeys_36 : decode cX0_withKeys 36 = .ok (.iload_n 2, 1) := by decide +kernel
theorem dX0_withKeys_37 : decode cX0_withKeys 37 = .ok (.ireturn, 1) := by decide +kernel
set_option maxRecDepth 20000 in
theorem ggX1_init_X7_init : GoodIn wsX1_init wsX7_init := goodIn_r _ [11, 12, 2, 3, 4, 13, 20, 21, 22] (by decide +kernel) (by decide +kernel)
set_option maxRecDepth 20000 in
theorem gX1_init_X7_init_n17 : GoodIn wsX1_init (wsX7_init) := ggX1_init_X7_init
set_option maxRecDepth 20000 in
theorem ggX1_init_J7_fill_53178 : GoodIn wsX1_init wsJ7_fill_53178 := goodIn_r _ [17] (by decide +kernel) (by decide +kernel)
set_option maxRecDepth 20000 in
theorem gX1_init_J7_fill_53178 : GoodIn wsX1_init (va_wsS RX1 22 yJ7_fill_53178 wsJ7_fill_53178) := goodIn_app (goodIn_of _ (by decide +kernel)) ggX1_init_J7_fill_53178
theorem dX1_init_0 : decode cX1_init 0 = .ok (.aload_n 0, 1) := by decide +kernel
theorem dX1_init_1 : decode cX1_init 1 = .ok (.invokespecial 3, 3) := by decide +kernel
theorem dX1_init_4 : decode cX1_init 4 = .ok (.aload_n 0, 1) := by decide +kernel
theorem dX1_init_5 : decode cX1_init 5 = .ok (.bipush 36, 2) := by decide +kernel
theorem dX1_init_7 : decode cX1_init 7 = .ok (.newarray .int, 2) := by decide +kernel
theorem dX1_init_9 : decode cX1_init 9 = .ok (.putfield 9, 3) := by decide +kernel
theorem dX1_init_12 : decode cX1_init 12 = .ok (.aload_n 0, 1) := by decide +kernel
theorem dX1_init_13 : decode cX1_init 13 = .ok (.new 15, 3) := by decide +kernel
theorem dX1_init_16 : decode cX1_init 16 = .ok (.dup, 1) := by decide +kernel
theorem dX1_init_17 : decode cX1_init 17 = .ok (.invokespecial 17, 3) := by decide +kernel
theorem dX1_init_20 : decode cX1_init 20 = .ok (.putfield 18, 3) := by decide +kernel
theorem dX1_init_23 : decode cX1_init 23 = .ok (.aload_n 0, 1) := by decide +kernel
theorem dX1_init_24 : decode cX1_init 24 = .ok (.getfield 9, 3) := by decide +kernel
theorem dX1_init_27 : decode cX1_init 27 = .ok (.bipush (-6), 2) := by decide +kernel
theorem dX1_init_29 : decode cX1_init 29 = .ok (.invokestatic 22, 3) := by decide +kernel
theorem dX1_init_32 : decode cX1_init 32 = .ok (.return_, 1) := by decide +kernel
theorem dX1_of_0 : decode cX1_of 0 = .ok (.aload_n 0, 1) := by decide +kernel
theorem dX1_of_1 : decode cX1_of 1 = .ok (.getfield 9, 3) := by decide +kernel
theorem dX1_of_4 : decode cX1_of 4 = .ok (.iload_n 1, 1) := by decide +kernel
theorem dX1_of_5 : decode cX1_of 5 = .ok (.bipush 6, 2) := by decide +kernel
theorem dX1_of_7 : decode cX1_of 7 = .ok (.imul, 1) := by decide +kernel
theorem dX1_of_8 : decode cX1_of 8 = .ok (.iload_n 2, 1) := by decide +kernel
theorem dX1_of_9 : decode cX1_of 9 = .ok (.iadd, 1) := by decide +kernel
theorem dX1_of_10 : decode cX1_of 10 = .ok (.iaload, 1) := by decide +kernel
theorem dX1_of_11 : decode cX1_of 11 = .ok (.ireturn, 1) := by decide +kernel
set_option maxRecDepth 20000 in
theorem ggX1_has_X1_of : GoodIn wsX1_has wsX1_of := goodIn_r _ [5, 6, 7, 8] (by decide +kernel) (by decide +kernel)
set_option maxRecDepth 20000 in
theorem gX1_has_X1_of : GoodIn wsX1_has (wsV RX1 28 RX1 yX1_of wsX1_of) := goodIn_app (goodIn_of _ (by decide +kernel)) ggX1_has_X1_of
theorem dX1_has_0 : decode cX1_has 0 = .ok (.aload_n 0, 1) := by decide +kernel
theorem dX1_has_1 : decode cX1_has 1 = .ok (.iload_n 1, 1) := by decide +kernel
theorem dX1_has_2 : decode cX1_has 2 = .ok (.iload_n 2, 1) := by decide +kernel
theorem dX1_has_3 : decode cX1_has 3 = .ok (.invokevirtual 28, 3) := by decide +kernel
theorem dX1_has_6 : decode cX1_has 6 = .ok (.bipush (-6), 2) := by decide +kernel
theorem dX1_has_8 : decode cX1_has 8 = .ok (.if_icmp .eq 7, 3) := by decide +kernel
theorem dX1_has_11 : decode cX1_has 11 = .ok (.iconst 1, 1) := by decide +kernel
theorem dX1_has_12 : decode cX1_has 12 = .ok (.goto 4, 3) := by decide +kernel
theorem dX1_has_15 : decode cX1_has 15 = .ok (.iconst 0, 1) := by decide +kernel
theorem dX1_has_16 : decode cX1_has 16 = .ok (.ireturn, 1) := by decide +kernel
set_option maxRecDepth 20000 in
theorem ggX1_countAll_X1_countOf : GoodIn wsX1_countAll wsX1_countOf := goodIn_r _ [5, 6, 7, 8, 4, 9, 10, 11, 12, 13, 14, 15, 16, 17, 18, 19, 20, 21, 22, 23, 24, 25, 26, 27] (by decide +kernel) (by decide +kernel)
set_option maxRecDepth 20000 in
theorem gX1_countAll_X1_countOf : GoodIn wsX1_countAll (wsV RX1 32 RX1 yX1_countOf wsX1_countOf) := goodIn_app (goodIn_of _ (by decide +kernel)) ggX1_countAll_X1_countOf
theorem dX1_countAll_0 : decode cX1_countAll 0 = .ok (.iconst 0, 1) := by decide +kernel
theorem dX1_countAll_1 : decode cX1_countAll 1 = .ok (.istore_n 1, 1) := by decide +kernel
theorem dX1_countAll_2 : decode cX1_countAll 2 = .ok (.iconst 0, 1) := by decide +kernel
theorem dX1_countAll_3 : decode cX1_countAll 3 = .ok (.istore_n 2, 1) := by decide +kernel
theorem dX1_countAll_4 : decode cX1_countAll 4 = .ok (.iload_n 2, 1) := by decide +kernel
theorem dX1_countAll_5 : decode cX1_countAll 5 = .ok (.bipush 6, 2) := by decide +kernel
theorem dX1_countAll_7 : decode cX1_countAll 7 = .ok (.if_icmp .ge 17, 3) := by decide +kernel
theorem dX1_countAll_10 : decode cX1_countAll 10 = .ok (.iload_n 1, 1) := by decide +kernel
theorem dX1_countAll_11 : decode cX1_countAll 11 = .ok (.aload_n 0, 1) := by decide +kernel
theorem dX1_countAll_12 : decode cX1_countAll 12 = .ok (.iload_n 2, 1) := by decide +kernel
theorem dX1_countAll_13 : decode cX1_countAll 13 = .ok (.invokevirtual 32, 3) := by decide +kernel
theorem dX1_countAll_16 : decode cX1_countAll 16 = .ok (.iadd, 1) := by decide +kernel
theorem dX1_countAll_17 : decode cX1_countAll 17 = .ok (.istore_n 1, 1) := by decide +kernel
theorem dX1_countAll_18 : decode cX1_countAll 18 = .ok (.iinc 2 1, 3) := by decide +kernel
theorem dX1_countAll_21 : decode cX1_countAll 21 = .ok (.goto (-17), 3) := by decide +kernel
theorem dX1_countAll_24 : decode cX1_countAll 24 = .ok (.iload_n 1, 1) := by decide +kernel
theorem dX1_countAll_25 : decode cX1_countAll 25 = .ok (.ireturn, 1) := by decide +kernel
set_option maxRecDepth 20000 in
theorem ggX1_countOf_X1_judgesOf : GoodIn wsX1_countOf wsX1_judgesOf := goodIn_r _ [5, 6, 7, 8, 4, 9, 10, 11, 12, 13, 14, 22, 23] (by decide +kernel) (by decide +kernel)
set_option maxRecDepth 20000 in
theorem gX1_countOf_X1_judgesOf : GoodIn wsX1_countOf (wsV RX1 36 RX1 yX1_judgesOf wsX1_judgesOf) := goodIn_app (goodIn_of _ (by decide +kernel)) ggX1_countOf_X1_judgesOf
set_option maxRecDepth 20000 in
theorem ggX1_countOf_J6_bitCount_0f7a4 : GoodIn wsX1_countOf wsJ6_bitCount_0f7a4 := goodIn_r _ [18, 19, 20, 21] (by decide +kernel) (by decide +kernel)
set_option maxRecDepth 20000 in
theorem gX1_countOf_J6_bitCount_0f7a4 : GoodIn wsX1_countOf (va_wsS RX1 39 yJ6_bitCount_0f7a4 wsJ6_bitCount_0f7a4) := goodIn_app (goodIn_of _ (by decide +kernel)) ggX1_countOf_J6_bitCount_0f7a4
theorem dX1_countOf_0 : decode cX1_countOf 0 = .ok (.aload_n 0, 1) := by decide +kernel
theorem dX1_countOf_1 : decode cX1_countOf 1 = .ok (.iload_n 1, 1) := by decide +kernel
theorem dX1_countOf_2 : decode cX1_countOf 2 = .ok (.invokevirtual 36, 3) := by decide +kernel
theorem dX1_countOf_5 : decode cX1_countOf 5 = .ok (.invokestatic 39, 3) := by decide +kernel
theorem dX1_countOf_8 : decode cX1_countOf 8 = .ok (.ireturn, 1) := by decide +kernel
set_option maxRecDepth 20000 in
theorem ggX1_sumOf_X1_has : GoodIn wsX1_sumOf wsX1_has := goodIn_r _ [5, 6, 7, 8, 4, 9, 10, 11, 12] (by decide +kernel) (by decide +kernel)
set_option maxRecDepth 20000 in
theorem gX1_sumOf_X1_has : GoodIn wsX1_sumOf (wsV RX1 44 RX1 yX1_has wsX1_has) := goodIn_app (goodIn_of _ (by decide +kernel)) ggX1_sumOf_X1_has
set_option maxRecDepth 20000 in
theorem ggX1_sumOf_X1_of : GoodIn wsX1_sumOf wsX1_of := goodIn_r _ [9, 10, 11, 12] (by decide +kernel) (by decide +kernel)
set_option maxRecDepth 20000 in
theorem gX1_sumOf_X1_of : GoodIn wsX1_sumOf (wsV RX1 28 RX1 yX1_of wsX1_of) := goodIn_app (goodIn_of _ (by decide +kernel)) ggX1_sumOf_X1_of
theorem dX1_sumOf_0 : decode cX1_sumOf 0 = .ok (.iconst 0, 1) := by decide +kernel
theorem dX1_sumOf_1 : decode cX1_sumOf 1 = .ok (.istore_n 2, 1) := by decide +kernel
theorem dX1_sumOf_2 : decode cX1_sumOf 2 = .ok (.iconst 0, 1) := by decide +kernel
theorem dX1_sumOf_3 : decode cX1_sumOf 3 = .ok (.istore_n 3, 1) := by decide +kernel
theorem dX1_sumOf_4 : decode cX1_sumOf 4 = .ok (.iload_n 3, 1) := by decide +kernel
theorem dX1_sumOf_5 : decode cX1_sumOf 5 = .ok (.bipush 6, 2) := by decide +kernel
theorem dX1_sumOf_7 : decode cX1_sumOf 7 = .ok (.if_icmp .ge 31, 3) := by decide +kernel
theorem dX1_sumOf_10 : decode cX1_sumOf 10 = .ok (.iload_n 2, 1) := by decide +kernel
theorem dX1_sumOf_11 : decode cX1_sumOf 11 = .ok (.aload_n 0, 1) := by decide +kernel
theorem dX1_sumOf_12 : decode cX1_sumOf 12 = .ok (.iload_n 3, 1) := by decide +kernel
theorem dX1_sumOf_13 : decode cX1_sumOf 13 = .ok (.iload_n 1, 1) := by decide +kernel
theorem dX1_sumOf_14 : decode cX1_sumOf 14 = .ok (.invokevirtual 44, 3) := by decide +kernel
theorem dX1_sumOf_17 : decode cX1_sumOf 17 = .ok (.ifCond .eq 12, 3) := by decide +kernel
theorem dX1_sumOf_20 : decode cX1_sumOf 20 = .ok (.aload_n 0, 1) := by decide +kernel
theorem dX1_sumOf_21 : decode cX1_sumOf 21 = .ok (.iload_n 3, 1) := by decide +kernel
theorem dX1_sumOf_22 : decode cX1_sumOf 22 = .ok (.iload_n 1, 1) := by decide +kernel
theorem dX1_sumOf_23 : decode cX1_sumOf 23 = .ok (.invokevirtual 28, 3) := by decide +kernel
theorem dX1_sumOf_26 : decode cX1_sumOf 26 = .ok (.goto 4, 3) := by decide +kernel
theorem dX1_sumOf_29 : decode cX1_sumOf 29 = .ok (.iconst 0, 1) := by decide +kernel
theorem dX1_sumOf_30 : decode cX1_sumOf 30 = .ok (.iadd, 1) := by decide +kernel
theorem dX1_sumOf_31 : decode cX1_sumOf 31 = .ok (.istore_n 2, 1) := by decide +kernel
theorem dX1_sumOf_32 : decode cX1_sumOf 32 = .ok (.iinc 3 1, 3) := by decide +kernel
theorem dX1_sumOf_35 : decode cX1_sumOf 35 = .ok (.goto (-31), 3) := by decide +kernel
theorem dX1_sumOf_38 : decode cX1_sumOf 38 = .ok (.iload_n 2, 1) := by decide +kernel
theorem dX1_sumOf_39 : decode cX1_sumOf 39 = .ok (.ireturn, 1) := by decide +kernel
set_option maxRecDepth 20000 in
theorem ggX1_tallyOf_X7_clear : GoodIn wsX1_tallyOf wsX7_clear := goodIn_r _ [6, 7, 8, 9, 10, 11, 12, 13, 30, 31, 32] (by decide +kernel) (by decide +kernel)
set_option maxRecDepth 20000 in
theorem gX1_tallyOf_X7_clear : GoodIn wsX1_tallyOf (wsV RX1 48 RX7 yX7_clear wsX7_clear) := goodIn_app (goodIn_of _ (by decide +kernel)) ggX1_tallyOf_X7_clear
set_option maxRecDepth 20000 in
theorem ggX1_tallyOf_X1_has : GoodIn wsX1_tallyOf wsX1_has := goodIn_r _ [18, 19, 20, 21, 17, 22, 23, 28, 29] (by decide +kernel) (by decide +kernel)
set_option maxRecDepth 20000 in
theorem gX1_tallyOf_X1_has : GoodIn wsX1_tallyOf (wsV RX1 44 RX1 yX1_has wsX1_has) := goodIn_app (goodIn_of _ (by decide +kernel)) ggX1_tallyOf_X1_has
set_option maxRecDepth 20000 in
theorem ggX1_tallyOf_X1_of : GoodIn wsX1_tallyOf wsX1_of := goodIn_r _ [22, 23, 28, 29] (by decide +kernel) (by decide +kernel)
set_option maxRecDepth 20000 in
theorem gX1_tallyOf_X1_of : GoodIn wsX1_tallyOf (wsV RX1 28 RX1 yX1_of wsX1_of) := goodIn_app (goodIn_of _ (by decide +kernel)) ggX1_tallyOf_X1_of
set_option maxRecDepth 20000 in
theorem ggX1_tallyOf_X7_put : GoodIn wsX1_tallyOf wsX7_put := goodIn_r _ [27, 7, 8, 9, 30, 31, 32] (by decide +kernel) (by decide +kernel)
set_option maxRecDepth 20000 in
theorem gX1_tallyOf_X7_put : GoodIn wsX1_tallyOf (wsV RX1 51 RX7 yX7_put wsX7_put) := goodIn_app (goodIn_of _ (by decide +kernel)) ggX1_tallyOf_X7_put
theorem dX1_tallyOf_0 : decode cX1_tallyOf 0 = .ok (.aload_n 0, 1) := by decide +kernel
theorem dX1_tallyOf_1 : decode cX1_tallyOf 1 = .ok (.getfield 18, 3) := by decide +kernel
theorem dX1_tallyOf_4 : decode cX1_tallyOf 4 = .ok (.invokevirtual 48, 3) := by decide +kernel
theorem dX1_tallyOf_7 : decode cX1_tallyOf 7 = .ok (.iconst 0, 1) := by decide +kernel
theorem dX1_tallyOf_8 : decode cX1_tallyOf 8 = .ok (.istore_n 2, 1) := by decide +kernel
theorem dX1_tallyOf_9 : decode cX1_tallyOf 9 = .ok (.iload_n 2, 1) := by decide +kernel
theorem dX1_tallyOf_10 : decode cX1_tallyOf 10 = .ok (.bipush 6, 2) := by decide +kernel
theorem dX1_tallyOf_12 : decode cX1_tallyOf 12 = .ok (.if_icmp .ge 32, 3) := by decide +kernel
theorem dX1_tallyOf_15 : decode cX1_tallyOf 15 = .ok (.aload_n 0, 1) := by decide +kernel
theorem dX1_tallyOf_16 : decode cX1_tallyOf 16 = .ok (.iload_n 2, 1) := by decide +kernel
theorem dX1_tallyOf_17 : decode cX1_tallyOf 17 = .ok (.iload_n 1, 1) := by decide +kernel
theorem dX1_tallyOf_18 : decode cX1_tallyOf 18 = .ok (.invokevirtual 44, 3) := by decide +kernel
theorem dX1_tallyOf_21 : decode cX1_tallyOf 21 = .ok (.ifCond .eq 17, 3) := by decide +kernel
theorem dX1_tallyOf_24 : decode cX1_tallyOf 24 = .ok (.aload_n 0, 1) := by decide +kernel
theorem dX1_tallyOf_25 : decode cX1_tallyOf 25 = .ok (.getfield 18, 3) := by decide +kernel
theorem dX1_tallyOf_28 : decode cX1_tallyOf 28 = .ok (.aload_n 0, 1) := by decide +kernel
theorem dX1_tallyOf_29 : decode cX1_tallyOf 29 = .ok (.iload_n 2, 1) := by decide +kernel
theorem dX1_tallyOf_30 : decode cX1_tallyOf 30 = .ok (.iload_n 1, 1) := by decide +kernel
theorem dX1_tallyOf_31 : decode cX1_tallyOf 31 = .ok (.invokevirtual 28, 3) := by decide +kernel
theorem dX1_tallyOf_34 : decode cX1_tallyOf 34 = .ok (.iconst 1, 1) := by decide +kernel
theorem dX1_tallyOf_35 : decode cX1_tallyOf 35 = .ok (.invokevirtual 51, 3) := by decide +kernel
theorem dX1_tallyOf_38 : decode cX1_tallyOf 38 = .ok (.iinc 2 1, 3) := by decide +kernel
theorem dX1_tallyOf_41 : decode cX1_tallyOf 41 = .ok (.goto (-32), 3) := by decide +kernel
theorem dX1_tallyOf_44 : decode cX1_tallyOf 44 = .ok (.aload_n 0, 1) := by decide +kernel
theorem dX1_tallyOf_45 : decode cX1_tallyOf 45 = .ok (.getfield 18, 3) := by decide +kernel
theorem dX1_tallyOf_48 : decode cX1_tallyOf 48 = .ok (.areturn, 1) := by decide +kernel
set_option maxRecDepth 20000 in
theorem ggX1_judgesOf_X1_has : GoodIn wsX1_judgesOf wsX1_has := goodIn_r _ [5, 6, 7, 8, 4, 9, 10, 11, 12] (by decide +kernel) (by decide +kernel)
set_option maxRecDepth 20000 in
theorem gX1_judgesOf_X1_has : GoodIn wsX1_judgesOf (wsV RX1 44 RX1 yX1_has wsX1_has) := goodIn_app (goodIn_of _ (by decide +kernel)) ggX1_judgesOf_X1_has
theorem dX1_judgesOf_0 : decode cX1_judgesOf 0 = .ok (.iconst 0, 1) := by decide +kernel
theorem dX1_judgesOf_1 : decode cX1_judgesOf 1 = .ok (.istore_n 2, 1) := by decide +kernel
theorem dX1_judgesOf_2 : decode cX1_judgesOf 2 = .ok (.iconst 0, 1) := by decide +kernel
theorem dX1_judgesOf_3 : decode cX1_judgesOf 3 = .ok (.istore_n 3, 1) := by decide +kernel
theorem dX1_judgesOf_4 : decode cX1_judgesOf 4 = .ok (.iload_n 3, 1) := by decide +kernel
theorem dX1_judgesOf_5 : decode cX1_judgesOf 5 = .ok (.bipush 6, 2) := by decide +kernel
theorem dX1_judgesOf_7 : decode cX1_judgesOf 7 = .ok (.if_icmp .ge 28, 3) := by decide +kernel
theorem dX1_judgesOf_10 : decode cX1_judgesOf 10 = .ok (.iload_n 2, 1) := by decide +kernel
theorem dX1_judgesOf_11 : decode cX1_judgesOf 11 = .ok (.aload_n 0, 1) := by decide +kernel
theorem dX1_judgesOf_12 : decode cX1_judgesOf 12 = .ok (.iload_n 3, 1) := by decide +kernel
theorem dX1_judgesOf_13 : decode cX1_judgesOf 13 = .ok (.iload_n 1, 1) := by decide +kernel
theorem dX1_judgesOf_14 : decode cX1_judgesOf 14 = .ok (.invokevirtual 44, 3) := by decide +kernel
theorem dX1_judgesOf_17 : decode cX1_judgesOf 17 = .ok (.ifCond .eq 9, 3) := by decide +kernel
theorem dX1_judgesOf_20 : decode cX1_judgesOf 20 = .ok (.iconst 1, 1) := by decide +kernel
theorem dX1_judgesOf_21 : decode cX1_judgesOf 21 = .ok (.iload_n 3, 1) := by decide +kernel
theorem dX1_judgesOf_22 : decode cX1_judgesOf 22 = .ok (.ishl, 1) := by decide +kernel
theorem dX1_judgesOf_23 : decode cX1_judgesOf 23 = .ok (.goto 4, 3) := by decide +kernel
theorem dX1_judgesOf_26 : decode cX1_judgesOf 26 = .ok (.iconst 0, 1) := by decide +kernel
theorem dX1_judgesOf_27 : decode cX1_judgesOf 27 = .ok (.ior, 1) := by decide +kernel
theorem dX1_judgesOf_28 : decode cX1_judgesOf 28 = .ok (.istore_n 2, 1) := by decide +kernel
theorem dX1_judgesOf_29 : decode cX1_judgesOf 29 = .ok (.iinc 3 1, 3) := by decide +kernel
theorem dX1_judgesOf_32 : decode cX1_judgesOf 32 = .ok (.goto (-28), 3) := by decide +kernel
theorem dX1_judgesOf_35 : decode cX1_judgesOf 35 = .ok (.iload_n 2, 1) := by decide +kernel
theorem dX1_judgesOf_36 : decode cX1_judgesOf 36 = .ok (.ireturn, 1) := by decide +kernel
set_option maxRecDepth 20000 in
theorem ggX1_joinedWith_X1_judgesOf : GoodIn wsX1_joinedWith wsX1_judgesOf := goodIn_r _ [5, 6, 7, 8, 4, 9, 10, 11, 12, 13, 14, 15, 16] (by decide +kernel) (by decide +kernel)
set_option maxRecDepth 20000 in
theorem gX1_joinedWith_X1_judgesOf : GoodIn wsX1_joinedWith (wsV RX1 36 RX1 yX1_judgesOf wsX1_judgesOf) := goodIn_app (goodIn_of _ (by decide +kernel)) ggX1_joinedWith_X1_judgesOf
theorem dX1_joinedWith_0 : decode cX1_joinedWith 0 = .ok (.iconst 0, 1) := by decide +kernel
theorem dX1_joinedWith_1 : decode cX1_joinedWith 1 = .ok (.istore_n 2, 1) := by decide +kernel
theorem dX1_joinedWith_2 : decode cX1_joinedWith 2 = .ok (.iconst 1, 1) := by decide +kernel
theorem dX1_joinedWith_3 : decode cX1_joinedWith 3 = .ok (.iload_n 1, 1) := by decide +kernel
theorem dX1_joinedWith_4 : decode cX1_joinedWith 4 = .ok (.ishl, 1) := by decide +kernel
theorem dX1_joinedWith_5 : decode cX1_joinedWith 5 = .ok (.istore_n 3, 1) := by decide +kernel
theorem dX1_joinedWith_6 : decode cX1_joinedWith 6 = .ok (.iconst 0, 1) := by decide +kernel
theorem dX1_joinedWith_7 : decode cX1_joinedWith 7 = .ok (.istore 4, 2) := by decide +kernel
theorem dX1_joinedWith_9 : decode cX1_joinedWith 9 = .ok (.iload 4, 2) := by decide +kernel
theorem dX1_joinedWith_11 : decode cX1_joinedWith 11 = .ok (.bipush 6, 2) := by decide +kernel
theorem dX1_joinedWith_13 : decode cX1_joinedWith 13 = .ok (.if_icmp .ge 49, 3) := by decide +kernel
theorem dX1_joinedWith_16 : decode cX1_joinedWith 16 = .ok (.iconst 0, 1) := by decide +kernel
theorem dX1_joinedWith_17 : decode cX1_joinedWith 17 = .ok (.istore 5, 2) := by decide +kernel
theorem dX1_joinedWith_19 : decode cX1_joinedWith 19 = .ok (.iload 5, 2) := by decide +kernel
theorem dX1_joinedWith_21 : decode cX1_joinedWith 21 = .ok (.bipush 6, 2) := by decide +kernel
theorem dX1_joinedWith_23 : decode cX1_joinedWith 23 = .ok (.if_icmp .ge 29, 3) := by decide +kernel
theorem dX1_joinedWith_26 : decode cX1_joinedWith 26 = .ok (.aload_n 0, 1) := by decide +kernel
theorem dX1_joinedWith_27 : decode cX1_joinedWith 27 = .ok (.iload 5, 2) := by decide +kernel
theorem dX1_joinedWith_29 : decode cX1_joinedWith 29 = .ok (.invokevirtual 36, 3) := by decide +kernel
theorem dX1_joinedWith_32 : decode cX1_joinedWith 32 = .ok (.istore 6, 2) := by decide +kernel
theorem dX1_joinedWith_34 : decode cX1_joinedWith 34 = .ok (.iload 6, 2) := by decide +kernel
theorem dX1_joinedWith_36 : decode cX1_joinedWith 36 = .ok (.iload_n 3, 1) := by decide +kernel
theorem dX1_joinedWith_37 : decode cX1_joinedWith 37 = .ok (.iand, 1) := by decide +kernel
theorem dX1_joinedWith_38 : decode cX1_joinedWith 38 = .ok (.ifCond .eq 8, 3) := by decide +kernel
theorem dX1_joinedWith_41 : decode cX1_joinedWith 41 = .ok (.iload_n 2, 1) := by decide +kernel
theorem dX1_joinedWith_42 : decode cX1_joinedWith 42 = .ok (.iload 6, 2) := by decide +kernel
theorem dX1_joinedWith_44 : decode cX1_joinedWith 44 = .ok (.ior, 1) := by decide +kernel
theorem dX1_joinedWith_45 : decode cX1_joinedWith 45 = .ok (.istore_n 2, 1) := by decide +kernel
theorem dX1_joinedWith_46 : decode cX1_joinedWith 46 = .ok (.iinc 5 1, 3) := by decide +kernel
theorem dX1_joinedWith_49 : decode cX1_joinedWith 49 = .ok (.goto (-30), 3) := by decide +kernel
theorem dX1_joinedWith_52 : decode cX1_joinedWith 52 = .ok (.iload_n 3, 1) := by decide +kernel
theorem dX1_joinedWith_53 : decode cX1_joinedWith 53 = .ok (.iload_n 2, 1) := by decide +kernel
theorem dX1_joinedWith_54 : decode cX1_joinedWith 54 = .ok (.ior, 1) := by decide +kernel
theorem dX1_joinedWith_55 : decode cX1_joinedWith 55 = .ok (.istore_n 3, 1) := by decide +kernel
theorem dX1_joinedWith_56 : decode cX1_joinedWith 56 = .ok (.iinc 4 1, 3) := by decide +kernel
theorem dX1_joinedWith_59 : decode cX1_joinedWith 59 = .ok (.goto (-50), 3) := by decide +kernel
theorem dX1_joinedWith_62 : decode cX1_joinedWith 62 = .ok (.iload_n 2, 1) := by decide +kernel
theorem dX1_joinedWith_63 : decode cX1_joinedWith 63 = .ok (.ireturn, 1) := by decide +kernel
set_option maxRecDepth 20000 in
theorem ggX1_comparable_X1_has : GoodIn wsX1_comparable wsX1_has := goodIn_r _ [5, 6, 7, 8, 4, 9, 10, 26, 27] (by decide +kernel) (by decide +kernel)
set_option maxRecDepth 20000 in
theorem gX1_comparable_X1_has : GoodIn wsX1_comparable (wsV RX1 44 RX1 yX1_has wsX1_has) := goodIn_app (goodIn_of _ (by decide +kernel)) ggX1_comparable_X1_has
set_option maxRecDepth 20000 in
theorem ggX1_comparable_X1_countOf : GoodIn wsX1_comparable wsX1_countOf := goodIn_r _ [14, 15, 16, 17, 4, 18, 1, 2, 3, 5, 6, 7, 8, 9, 10, 19, 20, 21, 22, 23, 24, 25, 26, 27] (by decide +kernel) (by decide +kernel)
set_option maxRecDepth 20000 in
theorem gX1_comparable_X1_countOf : GoodIn wsX1_comparable (wsV RX1 32 RX1 yX1_countOf wsX1_countOf) := goodIn_app (goodIn_of _ (by decide +kernel)) ggX1_comparable_X1_countOf
theorem dX1_comparable_0 : decode cX1_comparable 0 = .ok (.aload_n 0, 1) := by decide +kernel
theorem dX1_comparable_1 : decode cX1_comparable 1 = .ok (.iload_n 1, 1) := by decide +kernel
theorem dX1_comparable_2 : decode cX1_comparable 2 = .ok (.iload_n 2, 1) := by decide +kernel
theorem dX1_comparable_3 : decode cX1_comparable 3 = .ok (.invokevirtual 44, 3) := by decide +kernel
theorem dX1_comparable_6 : decode cX1_comparable 6 = .ok (.ifCond .eq 16, 3) := by decide +kernel
theorem dX1_comparable_9 : decode cX1_comparable 9 = .ok (.aload_n 0, 1) := by decide +kernel
theorem dX1_comparable_10 : decode cX1_comparable 10 = .ok (.iload_n 2, 1) := by decide +kernel
theorem dX1_comparable_11 : decode cX1_comparable 11 = .ok (.invokevirtual 32, 3) := by decide +kernel
theorem dX1_comparable_14 : decode cX1_comparable 14 = .ok (.iconst 1, 1) := by decide +kernel
theorem dX1_comparable_15 : decode cX1_comparable 15 = .ok (.if_icmp .le 7, 3) := by decide +kernel
theorem dX1_comparable_18 : decode cX1_comparable 18 = .ok (.iconst 1, 1) := by decide +kernel
theorem dX1_comparable_19 : decode cX1_comparable 19 = .ok (.goto 4, 3) := by decide +kernel
theorem dX1_comparable_22 : decode cX1_comparable 22 = .ok (.iconst 0, 1) := by decide +kernel
theorem dX1_comparable_23 : decode cX1_comparable 23 = .ok (.ireturn, 1) := by decide +kernel
set_option maxRecDepth 20000 in
theorem ggX1_aboveOthers_X1_countOf : GoodIn wsX1_aboveOthers wsX1_countOf := goodIn_r _ [5, 6, 7, 8, 4, 9, 10, 11, 12, 13, 14, 15, 16, 17, 18, 19, 20, 21, 22, 23, 24, 25, 30, 31] (by decide +kernel) (by decide +kernel)
set_option maxRecDepth 20000 in
theorem gX1_aboveOthers_X1_countOf : GoodIn wsX1_aboveOthers (wsV RX1 32 RX1 yX1_countOf wsX1_countOf) := goodIn_app (goodIn_of _ (by decide +kernel)) ggX1_aboveOthers_X1_countOf
set_option maxRecDepth 20000 in
theorem ggX1_aboveOthers_X1_of : GoodIn wsX1_aboveOthers wsX1_of := goodIn_r _ [17, 18, 30, 31] (by decide +kernel) (by decide +kernel)
set_option maxRecDepth 20000 in
theorem gX1_aboveOthers_X1_of : GoodIn wsX1_aboveOthers (wsV RX1 28 RX1 yX1_of wsX1_of) := goodIn_app (goodIn_of _ (by decide +kernel)) ggX1_aboveOthers_X1_of
set_option maxRecDepth 20000 in
theorem ggX1_aboveOthers_X1_sumOf : GoodIn wsX1_aboveOthers wsX1_sumOf := goodIn_r _ [29, 10, 11, 12, 4, 13, 14, 15, 16, 17, 18, 30, 31] (by decide +kernel) (by decide +kernel)
set_option maxRecDepth 20000 in
theorem gX1_aboveOthers_X1_sumOf : GoodIn wsX1_aboveOthers (wsV RX1 55 RX1 yX1_sumOf wsX1_sumOf) := goodIn_app (goodIn_of _ (by decide +kernel)) ggX1_aboveOthers_X1_sumOf
theorem dX1_aboveOthers_0 : decode cX1_aboveOthers 0 = .ok (.aload_n 0, 1) := by decide +kernel
theorem dX1_aboveOthers_1 : decode cX1_aboveOthers 1 = .ok (.iload_n 2, 1) := by decide +kernel
theorem dX1_aboveOthers_2 : decode cX1_aboveOthers 2 = .ok (.invokevirtual 32, 3) := by decide +kernel
theorem dX1_aboveOthers_5 : decode cX1_aboveOthers 5 = .ok (.iconst 1, 1) := by decide +kernel
theorem dX1_aboveOthers_6 : decode cX1_aboveOthers 6 = .ok (.isub, 1) := by decide +kernel
theorem dX1_aboveOthers_7 : decode cX1_aboveOthers 7 = .ok (.istore_n 3, 1) := by decide +kernel
theorem dX1_aboveOthers_8 : decode cX1_aboveOthers 8 = .ok (.iload_n 3, 1) := by decide +kernel
theorem dX1_aboveOthers_9 : decode cX1_aboveOthers 9 = .ok (.ifCond .gt 5, 3) := by decide +kernel
theorem dX1_aboveOthers_12 : decode cX1_aboveOthers 12 = .ok (.iconst 0, 1) := by decide +kernel
theorem dX1_aboveOthers_13 : decode cX1_aboveOthers 13 = .ok (.ireturn, 1) := by decide +kernel
theorem dX1_aboveOthers_14 : decode cX1_aboveOthers 14 = .ok (.aload_n 0, 1) := by decide +kernel
theorem dX1_aboveOthers_15 : decode cX1_aboveOthers 15 = .ok (.iload_n 1, 1) := by decide +kernel
theorem dX1_aboveOthers_16 : decode cX1_aboveOthers 16 = .ok (.iload_n 2, 1) := by decide +kernel
theorem dX1_aboveOthers_17 : decode cX1_aboveOthers 17 = .ok (.invokevirtual 28, 3) := by decide +kernel
theorem dX1_aboveOthers_20 : decode cX1_aboveOthers 20 = .ok (.istore 4, 2) := by decide +kernel
theorem dX1_aboveOthers_22 : decode cX1_aboveOthers 22 = .ok (.iload 4, 2) := by decide +kernel
theorem dX1_aboveOthers_24 : decode cX1_aboveOthers 24 = .ok (.bipush 60, 2) := by decide +kernel
theorem dX1_aboveOthers_26 : decode cX1_aboveOthers 26 = .ok (.imul, 1) := by decide +kernel
theorem dX1_aboveOthers_27 : decode cX1_aboveOthers 27 = .ok (.aload_n 0, 1) := by decide +kernel
theorem dX1_aboveOthers_28 : decode cX1_aboveOthers 28 = .ok (.iload_n 2, 1) := by decide +kernel
theorem dX1_aboveOthers_29 : decode cX1_aboveOthers 29 = .ok (.invokevirtual 55, 3) := by decide +kernel
theorem dX1_aboveOthers_32 : decode cX1_aboveOthers 32 = .ok (.iload 4, 2) := by decide +kernel
theorem dX1_aboveOthers_34 : decode cX1_aboveOthers 34 = .ok (.isub, 1) := by decide +kernel
theorem dX1_aboveOthers_35 : decode cX1_aboveOthers 35 = .ok (.bipush 60, 2) := by decide +kernel
theorem dX1_aboveOthers_37 : decode cX1_aboveOthers 37 = .ok (.iload_n 3, 1) := by decide +kernel
theorem dX1_aboveOthers_38 : decode cX1_aboveOthers 38 = .ok (.idiv, 1) := by decide +kernel
theorem dX1_aboveOthers_39 : decode cX1_aboveOthers 39 = .ok (.imul, 1) := by decide +kernel
theorem dX1_aboveOthers_40 : decode cX1_aboveOthers 40 = .ok (.isub, 1) := by decide +kernel
theorem dX1_aboveOthers_41 : decode cX1_aboveOthers 41 = .ok (.ireturn, 1) := by decide +kernel
theorem dX2_init_0 : decode cX2_init 0 = .ok (.aload_n 0, 1) := by decide +kernel
theorem dX2_init_1 : decode cX2_init 1 = .ok (.invokespecial 3, 3) := by decide +kernel
theorem dX2_init_4 : decode cX2_init 4 = .ok (.aload_n 0, 1) := by decide +kernel
theorem dX2_init_5 : decode cX2_init 5 = .ok (.bipush 6, 2) := by decide +kernel
theorem dX2_init_7 : decode cX2_init 7 = .ok (.newarray .int, 2) := by decide +kernel
theorem dX2_init_9 : decode cX2_init 9 = .ok (.putfield 9, 3) := by decide +kernel
theorem dX2_init_12 : decode cX2_init 12 = .ok (.aload_n 0, 1) := by decide +kernel
theorem dX2_init_13 : decode cX2_init 13 = .ok (.bipush 6, 2) := by decide +kernel
theorem dX2_init_15 : decode cX2_init 15 = .ok (.newarray .int, 2) := by decide +kernel
theorem dX2_init_17 : decode cX2_init 17 = .ok (.putfield 15, 3) := by decide +kernel
theorem dX2_init_20 : decode cX2_init 20 = .ok (.aload_n 0, 1) := by decide +kernel
theorem dX2_init_21 : decode cX2_init 21 = .ok (.bipush 6, 2) := by decide +kernel
theorem dX2_init_23 : decode cX2_init 23 = .ok (.newarray .int, 2) := by decide +kernel
theorem dX2_init_25 : decode cX2_init 25 = .ok (.putfield 18, 3) := by decide +kernel
theorem dX2_init_28 : decode cX2_init 28 = .ok (.aload_n 0, 1) := by decide +kernel
theorem dX2_init_29 : decode cX2_init 29 = .ok (.bipush 6, 2) := by decide +kernel
theorem dX2_init_31 : decode cX2_init 31 = .ok (.newarray .long, 2) := by decide +kernel
theorem dX2_init_33 : decode cX2_init 33 = .ok (.putfield 21, 3) := by decide +kernel
theorem dX2_init_36 : decode cX2_init 36 = .ok (.aload_n 0, 1) := by decide +kernel
theorem dX2_init_37 : decode cX2_init 37 = .ok (.bipush 6, 2) := by decide +kernel
theorem dX2_init_39 : decode cX2_init 39 = .ok (.newarray .long, 2) := by decide +kernel
theorem dX2_init_41 : decode cX2_init 41 = .ok (.putfield 25, 3) := by decide +kernel
theorem dX2_init_44 : decode cX2_init 44 = .ok (.aload_n 0, 1) := by decide +kernel
theorem dX2_init_45 : decode cX2_init 45 = .ok (.bipush 6, 2) := by decide +kernel
theorem dX2_init_47 : decode cX2_init 47 = .ok (.newarray .int, 2) := by decide +kernel
theorem dX2_init_49 : decode cX2_init 49 = .ok (.putfield 28, 3) := by decide +kernel
theorem dX2_init_52 : decode cX2_init 52 = .ok (.aload_n 0, 1) := by decide +kernel
theorem dX2_init_53 : decode cX2_init 53 = .ok (.bipush 6, 2) := by decide +kernel
theorem dX2_init_55 : decode cX2_init 55 = .ok (.newarray .int, 2) := by decide +kernel
theorem dX2_init_57 : decode cX2_init 57 = .ok (.putfield 31, 3) := by decide +kernel
theorem dX2_init_60 : decode cX2_init 60 = .ok (.aload_n 0, 1) := by decide +kernel
theorem dX2_init_61 : decode cX2_init 61 = .ok (.aload_n 1, 1) := by decide +kernel
theorem dX2_init_62 : decode cX2_init 62 = .ok (.putfield 34, 3) := by decide +kernel
theorem dX2_init_65 : decode cX2_init 65 = .ok (.aload_n 0, 1) := by decide +kernel
theorem dX2_init_66 : decode cX2_init 66 = .ok (.aload_n 2, 1) := by decide +kernel
theorem dX2_init_67 : decode cX2_init 67 = .ok (.putfield 38, 3) := by decide +kernel
theorem dX2_init_70 : decode cX2_init 70 = .ok (.return_, 1) := by decide +kernel
set_option maxRecDepth 20000 in
theorem ggX2_find_J7_fill_53178 : GoodIn wsX2_find wsJ7_fill_53178 := goodIn_r _ [9] (by decide +kernel) (by decide +kernel)
set_option maxRecDepth 20000 in
theorem gX2_find_J7_fill_53178 : GoodIn wsX2_find (va_wsS RX2 42 yJ7_fill_53178 wsJ7_fill_53178) := goodIn_app (goodIn_of _ (by decide +kernel)) ggX2_find_J7_fill_53178
set_option maxRecDepth 20000 in
theorem ggX2_find_X2_spreadChains : GoodIn wsX2_find wsX2_spreadChains := goodIn_r _ [14, 15, 3, 16, 17, 18, 19, 4, 5, 20, 21, 1, 22, 23, 8, 24, 6, 7, 9, 25, 26, 27, 28, 29, 30, 13, 31, 32, 33, 34, 35, 36, 37, 38, 39, 40, 41, 42, 43, 44, 45, 46, 47, 48, 49, 50, 51, 52, 53, 54, 55, 56, 57, 58, 59, 60, 61, 70, 71, 72, 73, 74, 75, 76, 77, 78, 79, 80, 81, 82, 83, 84, 85, 86, 87, 88, 89] (by decide +kernel) (by decide +kernel)
set_option maxRecDepth 20000 in
theorem gX2_find_X2_spreadChains : GoodIn wsX2_find (wsV RX2 54 RX2 yX2_spreadChains wsX2_spreadChains) := goodIn_app (goodIn_of _ (by decide +kernel)) ggX2_find_X2_spreadChains
set_option maxRecDepth 20000 in
theorem ggX2_find_X2_bestEnd : GoodIn wsX2_find wsX2_bestEnd := goodIn_r _ [65, 16, 20, 21, 2, 17, 70, 71, 72, 73, 74, 75, 76, 77, 78, 85, 86, 87, 88, 89] (by decide +kernel) (by decide +kernel)
set_option maxRecDepth 20000 in
theorem gX2_find_X2_bestEnd : GoodIn wsX2_find (wsV RX2 57 RX2 yX2_bestEnd wsX2_bestEnd) := goodIn_app (goodIn_of _ (by decide +kernel)) ggX2_find_X2_bestEnd
set_option maxRecDepth 20000 in
theorem ggX2_find_X2_change : GoodIn wsX2_find wsX2_change := goodIn_r _ [69, 2, 19, 1, 18, 3, 70, 71, 72, 73, 74, 75, 76, 77, 78] (by decide +kernel) (by decide +kernel)
set_option maxRecDepth 20000 in
theorem gX2_find_X2_change : GoodIn wsX2_find (wsV RX2 61 RX2 yX2_change wsX2_change) := goodIn_app (goodIn_of _ (by decide +kernel)) ggX2_find_X2_change
theorem dX2_find_0 : decode cX2_find 0 = .ok (.aload_n 0, 1) := by decide +kernel
theorem dX2_find_1 : decode cX2_find 1 = .ok (.getfield 9, 3) := by decide +kernel
theorem dX2_find_4 : decode cX2_find 4 = .ok (.iconst 0, 1) := by decide +kernel
theorem dX2_find_5 : decode cX2_find 5 = .ok (.invokestatic 42, 3) := by decide +kernel
theorem dX2_find_8 : decode cX2_find 8 = .ok (.aload_n 0, 1) := by decide +kernel
theorem dX2_find_9 : decode cX2_find 9 = .ok (.getfield 18, 3) := by decide +kernel
theorem dX2_find_12 : decode cX2_find 12 = .ok (.iconst 0, 1) := by decide +kernel
theorem dX2_find_13 : decode cX2_find 13 = .ok (.invokestatic 42, 3) := by decide +kernel
theorem dX2_find_16 : decode cX2_find 16 = .ok (.aload_n 0, 1) := by decide +kernel
theorem dX2_find_17 : decode cX2_find 17 = .ok (.getfield 15, 3) := by decide +kernel
theorem dX2_find_20 : decode cX2_find 20 = .ok (.iload_n 1, 1) := by decide +kernel
theorem dX2_find_21 : decode cX2_find 21 = .ok (.invokestatic 42, 3) := by decide +kernel
theorem dX2_find_24 : decode cX2_find 24 = .ok (.iconst 0, 1) := by decide +kernel
theorem dX2_find_25 : decode cX2_find 25 = .ok (.istore_n 3, 1) := by decide +kernel
theorem dX2_find_26 : decode cX2_find 26 = .ok (.iload_n 3, 1) := by decide +kernel
theorem dX2_find_27 : decode cX2_find 27 = .ok (.iload_n 1, 1) := by decide +kernel
theorem dX2_find_28 : decode cX2_find 28 = .ok (.aload_n 0, 1) := by decide +kernel
theorem dX2_find_29 : decode cX2_find 29 = .ok (.getfield 38, 3) := by decide +kernel
theorem dX2_find_32 : decode cX2_find 32 = .ok (.getfield 48, 3) := by decide +kernel
theorem dX2_find_35 : decode cX2_find 35 = .ok (.imul, 1) := by decide +kernel
theorem dX2_find_36 : decode cX2_find 36 = .ok (.if_icmp .ge 35, 3) := by decide +kernel
theorem dX2_find_39 : decode cX2_find 39 = .ok (.aload_n 0, 1) := by decide +kernel
theorem dX2_find_40 : decode cX2_find 40 = .ok (.invokevirtual 54, 3) := by decide +kernel
theorem dX2_find_43 : decode cX2_find 43 = .ok (.aload_n 0, 1) := by decide +kernel
theorem dX2_find_44 : decode cX2_find 44 = .ok (.iload_n 2, 1) := by decide +kernel
theorem dX2_find_45 : decode cX2_find 45 = .ok (.invokevirtual 57, 3) := by decide +kernel
theorem dX2_find_48 : decode cX2_find 48 = .ok (.istore 4, 2) := by decide +kernel
theorem dX2_find_50 : decode cX2_find 50 = .ok (.iload 4, 2) := by decide +kernel
theorem dX2_find_52 : decode cX2_find 52 = .ok (.bipush (-6), 2) := by decide +kernel
theorem dX2_find_54 : decode cX2_find 54 = .ok (.if_icmp .ne 5, 3) := by decide +kernel
theorem dX2_find_57 : decode cX2_find 57 = .ok (.iconst 0, 1) := by decide +kernel
theorem dX2_find_58 : decode cX2_find 58 = .ok (.ireturn, 1) := by decide +kernel
theorem dX2_find_59 : decode cX2_find 59 = .ok (.aload_n 0, 1) := by decide +kernel
theorem dX2_find_60 : decode cX2_find 60 = .ok (.iload 4, 2) := by decide +kernel
theorem dX2_find_62 : decode cX2_find 62 = .ok (.invokevirtual 61, 3) := by decide +kernel
theorem dX2_find_65 : decode cX2_find 65 = .ok (.iinc 3 1, 3) := by decide +kernel
theorem dX2_find_68 : decode cX2_find 68 = .ok (.goto (-42), 3) := by decide +kernel
theorem dX2_find_71 : decode cX2_find 71 = .ok (.iconst 1, 1) := by decide +kernel
theorem dX2_find_72 : decode cX2_find 72 = .ok (.ireturn, 1) := by decide +kernel
set_option maxRecDepth 20000 in
theorem ggX2_bidsTogether_X8_hasBit : GoodIn wsX2_bidsTogether wsX8_hasBit := goodIn_r _ [8] (by decide +kernel) (by decide +kernel)
set_option maxRecDepth 20000 in
theorem gX2_bidsTogether_X8_hasBit_n68 : GoodIn wsX2_bidsTogether (wsX8_hasBit) := ggX2_bidsTogether_X8_hasBit
set_option maxRecDepth 20000 in
theorem ggX2_bidsTogether_X4_bidOf : GoodIn wsX2_bidsTogether wsX4_bidOf := goodIn_r _ [13, 14, 24, 25, 26, 27, 28, 29] (by decide +kernel) (by decide +kernel)
set_option maxRecDepth 20000 in
theorem gX2_bidsTogether_X4_bidOf : GoodIn wsX2_bidsTogether (wsV RX2 72 RX4 yX4_bidOf wsX4_bidOf) := goodIn_app (goodIn_of _ (by decide +kernel)) ggX2_bidsTogether_X4_bidOf
theorem dX2_bidsTogether_0 : decode cX2_bidsTogether 0 = .ok (.iconst 0, 1) := by decide +kernel
theorem dX2_bidsTogether_1 : decode cX2_bidsTogether 1 = .ok (.istore_n 1, 1) := by decide +kernel
theorem dX2_bidsTogether_2 : decode cX2_bidsTogether 2 = .ok (.iconst 0, 1) := by decide +kernel
theorem dX2_bidsTogether_3 : decode cX2_bidsTogether 3 = .ok (.istore_n 2, 1) := by decide +kernel
theorem dX2_bidsTogether_4 : decode cX2_bidsTogether 4 = .ok (.iload_n 2, 1) := by decide +kernel
theorem dX2_bidsTogether_5 : decode cX2_bidsTogether 5 = .ok (.aload_n 0, 1) := by decide +kernel
theorem dX2_bidsTogether_6 : decode cX2_bidsTogether 6 = .ok (.getfield 38, 3) := by decide +kernel
theorem dX2_bidsTogether_9 : decode cX2_bidsTogether 9 = .ok (.getfield 48, 3) := by decide +kernel
theorem dX2_bidsTogether_12 : decode cX2_bidsTogether 12 = .ok (.if_icmp .ge 57, 3) := by decide +kernel
theorem dX2_bidsTogether_15 : decode cX2_bidsTogether 15 = .ok (.iconst 0, 1) := by decide +kernel
theorem dX2_bidsTogether_16 : decode cX2_bidsTogether 16 = .ok (.istore_n 3, 1) := by decide +kernel
theorem dX2_bidsTogether_17 : decode cX2_bidsTogether 17 = .ok (.iload_n 3, 1) := by decide +kernel
theorem dX2_bidsTogether_18 : decode cX2_bidsTogether 18 = .ok (.aload_n 0, 1) := by decide +kernel
theorem dX2_bidsTogether_19 : decode cX2_bidsTogether 19 = .ok (.getfield 34, 3) := by decide +kernel
theorem dX2_bidsTogether_22 : decode cX2_bidsTogether 22 = .ok (.getfield 65, 3) := by decide +kernel
theorem dX2_bidsTogether_25 : decode cX2_bidsTogether 25 = .ok (.if_icmp .ge 38, 3) := by decide +kernel
theorem dX2_bidsTogether_28 : decode cX2_bidsTogether 28 = .ok (.iload_n 1, 1) := by decide +kernel
theorem dX2_bidsTogether_29 : decode cX2_bidsTogether 29 = .ok (.aload_n 0, 1) := by decide +kernel
theorem dX2_bidsTogether_30 : decode cX2_bidsTogether 30 = .ok (.getfield 9, 3) := by decide +kernel
theorem dX2_bidsTogether_33 : decode cX2_bidsTogether 33 = .ok (.iload_n 2, 1) := by decide +kernel
theorem dX2_bidsTogether_34 : decode cX2_bidsTogether 34 = .ok (.iaload, 1) := by decide +kernel
theorem dX2_bidsTogether_35 : decode cX2_bidsTogether 35 = .ok (.iload_n 3, 1) := by decide +kernel
theorem dX2_bidsTogether_36 : decode cX2_bidsTogether 36 = .ok (.invokestatic 68, 3) := by decide +kernel
theorem dX2_bidsTogether_39 : decode cX2_bidsTogether 39 = .ok (.ifCond .eq 15, 3) := by decide +kernel
theorem dX2_bidsTogether_42 : decode cX2_bidsTogether 42 = .ok (.aload_n 0, 1) := by decide +kernel
theorem dX2_bidsTogether_43 : decode cX2_bidsTogether 43 = .ok (.getfield 38, 3) := by decide +kernel
theorem dX2_bidsTogether_46 : decode cX2_bidsTogether 46 = .ok (.iload_n 3, 1) := by decide +kernel
theorem dX2_bidsTogether_47 : decode cX2_bidsTogether 47 = .ok (.iload_n 2, 1) := by decide +kernel
theorem dX2_bidsTogether_48 : decode cX2_bidsTogether 48 = .ok (.invokevirtual 72, 3) := by decide +kernel
theorem dX2_bidsTogether_51 : decode cX2_bidsTogether 51 = .ok (.goto 4, 3) := by decide +kernel
theorem dX2_bidsTogether_54 : decode cX2_bidsTogether 54 = .ok (.iconst 0, 1) := by decide +kernel
theorem dX2_bidsTogether_55 : decode cX2_bidsTogether 55 = .ok (.iadd, 1) := by decide +kernel
theorem dX2_bidsTogether_56 : decode cX2_bidsTogether 56 = .ok (.istore_n 1, 1) := by decide +kernel
theorem dX2_bidsTogether_57 : decode cX2_bidsTogether 57 = .ok (.iinc 3 1, 3) := by decide +kernel
theorem dX2_bidsTogether_60 : decode cX2_bidsTogether 60 = .ok (.goto (-43), 3) := by decide +kernel
theorem dX2_bidsTogether_63 : decode cX2_bidsTogether 63 = .ok (.iinc 2 1, 3) := by decide +kernel
theorem dX2_bidsTogether_66 : decode cX2_bidsTogether 66 = .ok (.goto (-62), 3) := by decide +kernel
theorem dX2_bidsTogether_69 : decode cX2_bidsTogether 69 = .ok (.iload_n 1, 1) := by decide +kernel
theorem dX2_bidsTogether_70 : decode cX2_bidsTogether 70 = .ok (.ireturn, 1) := by decide +kernel
set_option maxRecDepth 20000 in
theorem ggX2_allows_X0_tieOf : GoodIn wsX2_allows wsX0_tieOf := goodIn_r _ [8, 9, 10, 11, 12, 7, 13, 14, 30, 31, 32, 33, 34] (by decide +kernel) (by decide +kernel)
set_option maxRecDepth 20000 in
theorem gX2_allows_X0_tieOf : GoodIn wsX2_allows (wsV RX2 79 RX0 yX0_tieOf wsX0_tieOf) := goodIn_app (goodIn_of _ (by decide +kernel)) ggX2_allows_X0_tieOf
theorem dX2_allows_0 : decode cX2_allows 0 = .ok (.aload_n 0, 1) := by decide +kernel
theorem dX2_allows_1 : decode cX2_allows 1 = .ok (.getfield 38, 3) := by decide +kernel
theorem dX2_allows_4 : decode cX2_allows 4 = .ok (.getfield 76, 3) := by decide +kernel
theorem dX2_allows_7 : decode cX2_allows 7 = .ok (.iload_n 2, 1) := by decide +kernel
theorem dX2_allows_8 : decode cX2_allows 8 = .ok (.iaload, 1) := by decide +kernel
theorem dX2_allows_9 : decode cX2_allows 9 = .ok (.istore_n 3, 1) := by decide +kernel
theorem dX2_allows_10 : decode cX2_allows 10 = .ok (.iload_n 3, 1) := by decide +kernel
theorem dX2_allows_11 : decode cX2_allows 11 = .ok (.iload_n 1, 1) := by decide +kernel
theorem dX2_allows_12 : decode cX2_allows 12 = .ok (.if_icmp .eq 20, 3) := by decide +kernel
theorem dX2_allows_15 : decode cX2_allows 15 = .ok (.aload_n 0, 1) := by decide +kernel
theorem dX2_allows_16 : decode cX2_allows 16 = .ok (.getfield 34, 3) := by decide +kernel
theorem dX2_allows_19 : decode cX2_allows 19 = .ok (.iload_n 1, 1) := by decide +kernel
theorem dX2_allows_20 : decode cX2_allows 20 = .ok (.iload_n 3, 1) := by decide +kernel
theorem dX2_allows_21 : decode cX2_allows 21 = .ok (.invokevirtual 79, 3) := by decide +kernel
theorem dX2_allows_24 : decode cX2_allows 24 = .ok (.iconst (-1), 1) := by decide +kernel
theorem dX2_allows_25 : decode cX2_allows 25 = .ok (.if_icmp .eq 7, 3) := by decide +kernel
theorem dX2_allows_28 : decode cX2_allows 28 = .ok (.iconst 1, 1) := by decide +kernel
theorem dX2_allows_29 : decode cX2_allows 29 = .ok (.goto 4, 3) := by decide +kernel
theorem dX2_allows_32 : decode cX2_allows 32 = .ok (.iconst 0, 1) := by decide +kernel
theorem dX2_allows_33 : decode cX2_allows 33 = .ok (.ireturn, 1) := by decide +kernel
set_option maxRecDepth 20000 in
theorem ggX2_weight_X4_bidOf : GoodIn wsX2_weight wsX4_bidOf := goodIn_r _ [6, 7, 17, 18, 19, 20, 21, 22] (by decide +kernel) (by decide +kernel)
set_option maxRecDepth 20000 in
theorem gX2_weight_X4_bidOf : GoodIn wsX2_weight (wsV RX2 72 RX4 yX4_bidOf wsX4_bidOf) := goodIn_app (goodIn_of _ (by decide +kernel)) ggX2_weight_X4_bidOf
theorem dX2_weight_0 : decode cX2_weight 0 = .ok (.aload_n 0, 1) := by decide +kernel
theorem dX2_weight_1 : decode cX2_weight 1 = .ok (.getfield 38, 3) := by decide +kernel
theorem dX2_weight_4 : decode cX2_weight 4 = .ok (.iload_n 1, 1) := by decide +kernel
theorem dX2_weight_5 : decode cX2_weight 5 = .ok (.iload_n 2, 1) := by decide +kernel
theorem dX2_weight_6 : decode cX2_weight 6 = .ok (.invokevirtual 72, 3) := by decide +kernel
theorem dX2_weight_9 : decode cX2_weight 9 = .ok (.i2l, 1) := by decide +kernel
theorem dX2_weight_10 : decode cX2_weight 10 = .ok (.lstore_n 3, 1) := by decide +kernel
theorem dX2_weight_11 : decode cX2_weight 11 = .ok (.iconst 5, 1) := by decide +kernel
theorem dX2_weight_12 : decode cX2_weight 12 = .ok (.iload_n 2, 1) := by decide +kernel
theorem dX2_weight_13 : decode cX2_weight 13 = .ok (.isub, 1) := by decide +kernel
theorem dX2_weight_14 : decode cX2_weight 14 = .ok (.bipush 6, 2) := by decide +kernel
theorem dX2_weight_16 : decode cX2_weight 16 = .ok (.imul, 1) := by decide +kernel
theorem dX2_weight_17 : decode cX2_weight 17 = .ok (.iload_n 1, 1) := by decide +kernel
theorem dX2_weight_18 : decode cX2_weight 18 = .ok (.iadd, 1) := by decide +kernel
theorem dX2_weight_19 : decode cX2_weight 19 = .ok (.istore 5, 2) := by decide +kernel
theorem dX2_weight_21 : decode cX2_weight 21 = .ok (.lload_n 3, 1) := by decide +kernel
theorem dX2_weight_22 : decode cX2_weight 22 = .ok (.bipush 36, 2) := by decide +kernel
theorem dX2_weight_24 : decode cX2_weight 24 = .ok (.lshl, 1) := by decide +kernel
theorem dX2_weight_25 : decode cX2_weight 25 = .ok (.lconst 1, 1) := by decide +kernel
theorem dX2_weight_26 : decode cX2_weight 26 = .ok (.iload 5, 2) := by decide +kernel
theorem dX2_weight_28 : decode cX2_weight 28 = .ok (.lshl, 1) := by decide +kernel
theorem dX2_weight_29 : decode cX2_weight 29 = .ok (.lsub, 1) := by decide +kernel
theorem dX2_weight_30 : decode cX2_weight 30 = .ok (.lreturn, 1) := by decide +kernel
set_option maxRecDepth 20000 in
theorem ggX2_spreadChains_J7_fill_d0a16 : GoodIn wsX2_spreadChains wsJ7_fill_d0a16 := goodIn_r _ [15] (by decide +kernel) (by decide +kernel)
set_option maxRecDepth 20000 in
theorem gX2_spreadChains_J7_fill_d0a16 : GoodIn wsX2_spreadChains (va_wsS RX2 84 yJ7_fill_d0a16 wsJ7_fill_d0a16) := goodIn_app (goodIn_of _ (by decide +kernel)) ggX2_spreadChains_J7_fill_d0a16
set_option maxRecDepth 20000 in
theorem ggX2_spreadChains_J7_fill_53178 : GoodIn wsX2_spreadChains wsJ7_fill_53178 := goodIn_r _ [18] (by decide +kernel) (by decide +kernel)
set_option maxRecDepth 20000 in
theorem gX2_spreadChains_J7_fill_53178 : GoodIn wsX2_spreadChains (va_wsS RX2 42 yJ7_fill_53178 wsJ7_fill_53178) := goodIn_app (goodIn_of _ (by decide +kernel)) ggX2_spreadChains_J7_fill_53178
set_option maxRecDepth 20000 in
theorem ggX2_spreadChains_X8_hasBit : GoodIn wsX2_spreadChains wsX8_hasBit := goodIn_r _ [21] (by decide +kernel) (by decide +kernel)
set_option maxRecDepth 20000 in
theorem gX2_spreadChains_X8_hasBit_n68 : GoodIn wsX2_spreadChains (wsX8_hasBit) := ggX2_spreadChains_X8_hasBit
set_option maxRecDepth 20000 in
theorem ggX2_spreadChains_X2_giveUp : GoodIn wsX2_spreadChains wsX2_giveUp := goodIn_r _ [26, 4, 3, 1, 5, 27, 28, 29, 25, 30, 7, 31, 32, 33, 34, 35, 36, 57, 58, 59, 60, 61, 62, 63, 64, 65, 66, 67, 68, 69, 70, 71] (by decide +kernel) (by decide +kernel)
set_option maxRecDepth 20000 in
theorem gX2_spreadChains_X2_giveUp : GoodIn wsX2_spreadChains (wsV RX2 87 RX2 yX2_giveUp wsX2_giveUp) := goodIn_app (goodIn_of _ (by decide +kernel)) ggX2_spreadChains_X2_giveUp
set_option maxRecDepth 20000 in
theorem ggX2_spreadChains_X2_giveTo : GoodIn wsX2_spreadChains wsX2_giveTo := goodIn_r _ [40, 1, 3, 4, 6, 41, 42, 43, 25, 44, 7, 45, 9, 46, 47, 48, 49, 50, 51, 52, 53, 54, 55, 56, 27, 28, 29, 30, 31, 32, 33, 34, 35, 36, 57, 58, 59, 60, 61, 62, 63, 64, 65, 66, 67, 68, 69, 70, 71, 72, 73, 74, 75, 76] (by decide +kernel) (by decide +kernel)
set_option maxRecDepth 20000 in
theorem gX2_spreadChains_X2_giveTo : GoodIn wsX2_spreadChains (wsV RX2 90 RX2 yX2_giveTo wsX2_giveTo) := goodIn_app (goodIn_of _ (by decide +kernel)) ggX2_spreadChains_X2_giveTo
theorem dX2_spreadChains_0 : decode cX2_spreadChains 0 = .ok (.iconst 0, 1) := by decide +kernel
theorem dX2_spreadChains_1 : decode cX2_spreadChains 1 = .ok (.istore_n 1, 1) := by decide +kernel
theorem dX2_spreadChains_2 : decode cX2_spreadChains 2 = .ok (.iload_n 1, 1) := by decide +kernel
theorem dX2_spreadChains_3 : decode cX2_spreadChains 3 = .ok (.bipush 6, 2) := by decide +kernel
theorem dX2_spreadChains_5 : decode cX2_spreadChains 5 = .ok (.if_icmp .ge 31, 3) := by decide +kernel
theorem dX2_spreadChains_8 : decode cX2_spreadChains 8 = .ok (.aload_n 0, 1) := by decide +kernel
theorem dX2_spreadChains_9 : decode cX2_spreadChains 9 = .ok (.getfield 21, 3) := by decide +kernel
theorem dX2_spreadChains_12 : decode cX2_spreadChains 12 = .ok (.iload_n 1, 1) := by decide +kernel
theorem dX2_spreadChains_13 : decode cX2_spreadChains 13 = .ok (.aload_n 0, 1) := by decide +kernel
theorem dX2_spreadChains_14 : decode cX2_spreadChains 14 = .ok (.getfield 15, 3) := by decide +kernel
theorem dX2_spreadChains_17 : decode cX2_spreadChains 17 = .ok (.iload_n 1, 1) := by decide +kernel
theorem dX2_spreadChains_18 : decode cX2_spreadChains 18 = .ok (.iaload, 1) := by decide +kernel
theorem dX2_spreadChains_19 : decode cX2_spreadChains 19 = .ok (.ifCond .le 7, 3) := by decide +kernel
theorem dX2_spreadChains_22 : decode cX2_spreadChains 22 = .ok (.lconst 0, 1) := by decide +kernel
theorem dX2_spreadChains_23 : decode cX2_spreadChains 23 = .ok (.goto 6, 3) := by decide +kernel
theorem dX2_spreadChains_26 : decode cX2_spreadChains 26 = .ok (.ldc2_w 82, 3) := by decide +kernel
theorem dX2_spreadChains_29 : decode cX2_spreadChains 29 = .ok (.lastore, 1) := by decide +kernel
theorem dX2_spreadChains_30 : decode cX2_spreadChains 30 = .ok (.iinc 1 1, 3) := by decide +kernel
theorem dX2_spreadChains_33 : decode cX2_spreadChains 33 = .ok (.goto (-31), 3) := by decide +kernel
theorem dX2_spreadChains_36 : decode cX2_spreadChains 36 = .ok (.aload_n 0, 1) := by decide +kernel
theorem dX2_spreadChains_37 : decode cX2_spreadChains 37 = .ok (.getfield 25, 3) := by decide +kernel
theorem dX2_spreadChains_40 : decode cX2_spreadChains 40 = .ok (.ldc2_w 82, 3) := by decide +kernel
theorem dX2_spreadChains_43 : decode cX2_spreadChains 43 = .ok (.invokestatic 84, 3) := by decide +kernel
theorem dX2_spreadChains_46 : decode cX2_spreadChains 46 = .ok (.aload_n 0, 1) := by decide +kernel
theorem dX2_spreadChains_47 : decode cX2_spreadChains 47 = .ok (.getfield 28, 3) := by decide +kernel
theorem dX2_spreadChains_50 : decode cX2_spreadChains 50 = .ok (.bipush (-6), 2) := by decide +kernel
theorem dX2_spreadChains_52 : decode cX2_spreadChains 52 = .ok (.invokestatic 42, 3) := by decide +kernel
theorem dX2_spreadChains_55 : decode cX2_spreadChains 55 = .ok (.aload_n 0, 1) := by decide +kernel
theorem dX2_spreadChains_56 : decode cX2_spreadChains 56 = .ok (.getfield 31, 3) := by decide +kernel
theorem dX2_spreadChains_59 : decode cX2_spreadChains 59 = .ok (.bipush (-6), 2) := by decide +kernel
theorem dX2_spreadChains_61 : decode cX2_spreadChains 61 = .ok (.invokestatic 42, 3) := by decide +kernel
theorem dX2_spreadChains_64 : decode cX2_spreadChains 64 = .ok (.iconst 1, 1) := by decide +kernel
theorem dX2_spreadChains_65 : decode cX2_spreadChains 65 = .ok (.istore_n 1, 1) := by decide +kernel
theorem dX2_spreadChains_66 : decode cX2_spreadChains 66 = .ok (.iconst 0, 1) := by decide +kernel
theorem dX2_spreadChains_67 : decode cX2_spreadChains 67 = .ok (.istore_n 2, 1) := by decide +kernel
theorem dX2_spreadChains_68 : decode cX2_spreadChains 68 = .ok (.iload_n 2, 1) := by decide +kernel
theorem dX2_spreadChains_69 : decode cX2_spreadChains 69 = .ok (.bipush 12, 2) := by decide +kernel
theorem dX2_spreadChains_71 : decode cX2_spreadChains 71 = .ok (.if_icmp .ge 89, 3) := by decide +kernel
theorem dX2_spreadChains_74 : decode cX2_spreadChains 74 = .ok (.iload_n 1, 1) := by decide +kernel
theorem dX2_spreadChains_75 : decode cX2_spreadChains 75 = .ok (.ifCond .eq 85, 3) := by decide +kernel
theorem dX2_spreadChains_78 : decode cX2_spreadChains 78 = .ok (.iconst 0, 1) := by decide +kernel
theorem dX2_spreadChains_79 : decode cX2_spreadChains 79 = .ok (.istore_n 1, 1) := by decide +kernel
theorem dX2_spreadChains_80 : decode cX2_spreadChains 80 = .ok (.iconst 0, 1) := by decide +kernel
theorem dX2_spreadChains_81 : decode cX2_spreadChains 81 = .ok (.istore_n 3, 1) := by decide +kernel
theorem dX2_spreadChains_82 : decode cX2_spreadChains 82 = .ok (.iload_n 3, 1) := by decide +kernel
theorem dX2_spreadChains_83 : decode cX2_spreadChains 83 = .ok (.aload_n 0, 1) := by decide +kernel
theorem dX2_spreadChains_84 : decode cX2_spreadChains 84 = .ok (.getfield 38, 3) := by decide +kernel
theorem dX2_spreadChains_87 : decode cX2_spreadChains 87 = .ok (.getfield 48, 3) := by decide +kernel
theorem dX2_spreadChains_90 : decode cX2_spreadChains 90 = .ok (.if_icmp .ge 64, 3) := by decide +kernel
theorem dX2_spreadChains_93 : decode cX2_spreadChains 93 = .ok (.iconst 0, 1) := by decide +kernel
theorem dX2_spreadChains_94 : decode cX2_spreadChains 94 = .ok (.istore 4, 2) := by decide +kernel
theorem dX2_spreadChains_96 : decode cX2_spreadChains 96 = .ok (.iload 4, 2) := by decide +kernel
theorem dX2_spreadChains_98 : decode cX2_spreadChains 98 = .ok (.aload_n 0, 1) := by decide +kernel
theorem dX2_spreadChains_99 : decode cX2_spreadChains 99 = .ok (.getfield 34, 3) := by decide +kernel
theorem dX2_spreadChains_102 : decode cX2_spreadChains 102 = .ok (.getfield 65, 3) := by decide +kernel
theorem dX2_spreadChains_105 : decode cX2_spreadChains 105 = .ok (.if_icmp .ge 43, 3) := by decide +kernel
theorem dX2_spreadChains_108 : decode cX2_spreadChains 108 = .ok (.iload_n 1, 1) := by decide +kernel
theorem dX2_spreadChains_109 : decode cX2_spreadChains 109 = .ok (.aload_n 0, 1) := by decide +kernel
theorem dX2_spreadChains_110 : decode cX2_spreadChains 110 = .ok (.getfield 9, 3) := by decide +kernel
theorem dX2_spreadChains_113 : decode cX2_spreadChains 113 = .ok (.iload_n 3, 1) := by decide +kernel
theorem dX2_spreadChains_114 : decode cX2_spreadChains 114 = .ok (.iaload, 1) := by decide +kernel
theorem dX2_spreadChains_115 : decode cX2_spreadChains 115 = .ok (.iload 4, 2) := by decide +kernel
theorem dX2_spreadChains_117 : decode cX2_spreadChains 117 = .ok (.invokestatic 68, 3) := by decide +kernel
theorem dX2_spreadChains_120 : decode cX2_spreadChains 120 = .ok (.ifCond .eq 13, 3) := by decide +kernel
theorem dX2_spreadChains_123 : decode cX2_spreadChains 123 = .ok (.aload_n 0, 1) := by decide +kernel
theorem dX2_spreadChains_124 : decode cX2_spreadChains 124 = .ok (.iload 4, 2) := by decide +kernel
theorem dX2_spreadChains_126 : decode cX2_spreadChains 126 = .ok (.iload_n 3, 1) := by decide +kernel
theorem dX2_spreadChains_127 : decode cX2_spreadChains 127 = .ok (.invokevirtual 87, 3) := by decide +kernel
theorem dX2_spreadChains_130 : decode cX2_spreadChains 130 = .ok (.goto 10, 3) := by decide +kernel
theorem dX2_spreadChains_133 : decode cX2_spreadChains 133 = .ok (.aload_n 0, 1) := by decide +kernel
theorem dX2_spreadChains_134 : decode cX2_spreadChains 134 = .ok (.iload 4, 2) := by decide +kernel
theorem dX2_spreadChains_136 : decode cX2_spreadChains 136 = .ok (.iload_n 3, 1) := by decide +kernel
theorem dX2_spreadChains_137 : decode cX2_spreadChains 137 = .ok (.invokevirtual 90, 3) := by decide +kernel
theorem dX2_spreadChains_140 : decode cX2_spreadChains 140 = .ok (.ior, 1) := by decide +kernel
theorem dX2_spreadChains_141 : decode cX2_spreadChains 141 = .ok (.istore_n 1, 1) := by decide +kernel
theorem dX2_spreadChains_142 : decode cX2_spreadChains 142 = .ok (.iinc 4 1, 3) := by decide +kernel
theorem dX2_spreadChains_145 : decode cX2_spreadChains 145 = .ok (.goto (-49), 3) := by decide +kernel
theorem dX2_spreadChains_148 : decode cX2_spreadChains 148 = .ok (.iinc 3 1, 3) := by decide +kernel
theorem dX2_spreadChains_151 : decode cX2_spreadChains 151 = .ok (.goto (-69), 3) := by decide +kernel
theorem dX2_spreadChains_154 : decode cX2_spreadChains 154 = .ok (.iinc 2 1, 3) := by decide +kernel
theorem dX2_spreadChains_157 : decode cX2_spreadChains 157 = .ok (.goto (-89), 3) := by decide +kernel
theorem dX2_spreadChains_160 : decode cX2_spreadChains 160 = .ok (.return_, 1) := by decide +kernel
set_option maxRecDepth 20000 in
theorem ggX2_giveTo_X2_allows : GoodIn wsX2_giveTo wsX2_allows := goodIn_r _ [9, 10, 11, 12, 13, 14, 15, 16, 17, 18, 19, 20, 21, 22, 23, 34, 35, 36, 37, 38, 39, 40, 41, 42, 43, 44, 45, 46, 47, 48, 49, 50, 51, 52, 53] (by decide +kernel) (by decide +kernel)
set_option maxRecDepth 20000 in
theorem gX2_giveTo_X2_allows : GoodIn wsX2_giveTo (wsV RX2 93 RX2 yX2_allows wsX2_allows) := goodIn_app (goodIn_of _ (by decide +kernel)) ggX2_giveTo_X2_allows
set_option maxRecDepth 20000 in
theorem ggX2_giveTo_X2_weight : GoodIn wsX2_giveTo wsX2_weight := goodIn_r _ [27, 10, 28, 29, 30, 31, 32, 33, 34, 35, 36, 37, 38, 39, 40, 41, 42, 43, 44, 45, 46, 47, 48] (by decide +kernel) (by decide +kernel)
set_option maxRecDepth 20000 in
theorem gX2_giveTo_X2_weight : GoodIn wsX2_giveTo (wsV RX2 96 RX2 yX2_weight wsX2_weight) := goodIn_app (goodIn_of _ (by decide +kernel)) ggX2_giveTo_X2_weight
theorem dX2_giveTo_0 : decode cX2_giveTo 0 = .ok (.aload_n 0, 1) := by decide +kernel
theorem dX2_giveTo_1 : decode cX2_giveTo 1 = .ok (.getfield 21, 3) := by decide +kernel
theorem dX2_giveTo_4 : decode cX2_giveTo 4 = .ok (.iload_n 2, 1) := by decide +kernel
theorem dX2_giveTo_5 : decode cX2_giveTo 5 = .ok (.laload, 1) := by decide +kernel
theorem dX2_giveTo_6 : decode cX2_giveTo 6 = .ok (.ldc2_w 82, 3) := by decide +kernel
theorem dX2_giveTo_9 : decode cX2_giveTo 9 = .ok (.lcmp, 1) := by decide +kernel
theorem dX2_giveTo_10 : decode cX2_giveTo 10 = .ok (.ifCond .eq 12, 3) := by decide +kernel
theorem dX2_giveTo_13 : decode cX2_giveTo 13 = .ok (.aload_n 0, 1) := by decide +kernel
theorem dX2_giveTo_14 : decode cX2_giveTo 14 = .ok (.iload_n 1, 1) := by decide +kernel
theorem dX2_giveTo_15 : decode cX2_giveTo 15 = .ok (.iload_n 2, 1) := by decide +kernel
theorem dX2_giveTo_16 : decode cX2_giveTo 16 = .ok (.invokevirtual 93, 3) := by decide +kernel
theorem dX2_giveTo_19 : decode cX2_giveTo 19 = .ok (.ifCond .ne 5, 3) := by decide +kernel
theorem dX2_giveTo_22 : decode cX2_giveTo 22 = .ok (.iconst 0, 1) := by decide +kernel
theorem dX2_giveTo_23 : decode cX2_giveTo 23 = .ok (.ireturn, 1) := by decide +kernel
theorem dX2_giveTo_24 : decode cX2_giveTo 24 = .ok (.aload_n 0, 1) := by decide +kernel
theorem dX2_giveTo_25 : decode cX2_giveTo 25 = .ok (.getfield 21, 3) := by decide +kernel
theorem dX2_giveTo_28 : decode cX2_giveTo 28 = .ok (.iload_n 2, 1) := by decide +kernel
theorem dX2_giveTo_29 : decode cX2_giveTo 29 = .ok (.laload, 1) := by decide +kernel
theorem dX2_giveTo_30 : decode cX2_giveTo 30 = .ok (.aload_n 0, 1) := by decide +kernel
theorem dX2_giveTo_31 : decode cX2_giveTo 31 = .ok (.iload_n 1, 1) := by decide +kernel
theorem dX2_giveTo_32 : decode cX2_giveTo 32 = .ok (.iload_n 2, 1) := by decide +kernel
theorem dX2_giveTo_33 : decode cX2_giveTo 33 = .ok (.invokevirtual 96, 3) := by decide +kernel
theorem dX2_giveTo_36 : decode cX2_giveTo 36 = .ok (.ladd, 1) := by decide +kernel
theorem dX2_giveTo_37 : decode cX2_giveTo 37 = .ok (.lstore_n 3, 1) := by decide +kernel
theorem dX2_giveTo_38 : decode cX2_giveTo 38 = .ok (.lload_n 3, 1) := by decide +kernel
theorem dX2_giveTo_39 : decode cX2_giveTo 39 = .ok (.aload_n 0, 1) := by decide +kernel
theorem dX2_giveTo_40 : decode cX2_giveTo 40 = .ok (.getfield 25, 3) := by decide +kernel
theorem dX2_giveTo_43 : decode cX2_giveTo 43 = .ok (.iload_n 1, 1) := by decide +kernel
theorem dX2_giveTo_44 : decode cX2_giveTo 44 = .ok (.laload, 1) := by decide +kernel
theorem dX2_giveTo_45 : decode cX2_giveTo 45 = .ok (.lcmp, 1) := by decide +kernel
theorem dX2_giveTo_46 : decode cX2_giveTo 46 = .ok (.ifCond .gt 5, 3) := by decide +kernel
theorem dX2_giveTo_49 : decode cX2_giveTo 49 = .ok (.iconst 0, 1) := by decide +kernel
theorem dX2_giveTo_50 : decode cX2_giveTo 50 = .ok (.ireturn, 1) := by decide +kernel
theorem dX2_giveTo_51 : decode cX2_giveTo 51 = .ok (.aload_n 0, 1) := by decide +kernel
theorem dX2_giveTo_52 : decode cX2_giveTo 52 = .ok (.getfield 25, 3) := by decide +kernel
theorem dX2_giveTo_55 : decode cX2_giveTo 55 = .ok (.iload_n 1, 1) := by decide +kernel
theorem dX2_giveTo_56 : decode cX2_giveTo 56 = .ok (.lload_n 3, 1) := by decide +kernel
theorem dX2_giveTo_57 : decode cX2_giveTo 57 = .ok (.lastore, 1) := by decide +kernel
theorem dX2_giveTo_58 : decode cX2_giveTo 58 = .ok (.aload_n 0, 1) := by decide +kernel
theorem dX2_giveTo_59 : decode cX2_giveTo 59 = .ok (.getfield 31, 3) := by decide +kernel
theorem dX2_giveTo_62 : decode cX2_giveTo 62 = .ok (.iload_n 1, 1) := by decide +kernel
theorem dX2_giveTo_63 : decode cX2_giveTo 63 = .ok (.iload_n 2, 1) := by decide +kernel
theorem dX2_giveTo_64 : decode cX2_giveTo 64 = .ok (.iastore, 1) := by decide +kernel
theorem dX2_giveTo_65 : decode cX2_giveTo 65 = .ok (.iconst 1, 1) := by decide +kernel
theorem dX2_giveTo_66 : decode cX2_giveTo 66 = .ok (.ireturn, 1) := by decide +kernel
set_option maxRecDepth 20000 in
theorem ggX2_giveUp_X2_weight : GoodIn wsX2_giveUp wsX2_weight := goodIn_r _ [9, 10, 11, 12, 13, 14, 15, 16, 17, 18, 19, 20, 21, 22, 23, 24, 25, 26, 27, 28, 29, 30, 31] (by decide +kernel) (by decide +kernel)
set_option maxRecDepth 20000 in
theorem gX2_giveUp_X2_weight : GoodIn wsX2_giveUp (wsV RX2 96 RX2 yX2_weight wsX2_weight) := goodIn_app (goodIn_of _ (by decide +kernel)) ggX2_giveUp_X2_weight
theorem dX2_giveUp_0 : decode cX2_giveUp 0 = .ok (.aload_n 0, 1) := by decide +kernel
theorem dX2_giveUp_1 : decode cX2_giveUp 1 = .ok (.getfield 25, 3) := by decide +kernel
theorem dX2_giveUp_4 : decode cX2_giveUp 4 = .ok (.iload_n 1, 1) := by decide +kernel
theorem dX2_giveUp_5 : decode cX2_giveUp 5 = .ok (.laload, 1) := by decide +kernel
theorem dX2_giveUp_6 : decode cX2_giveUp 6 = .ok (.ldc2_w 82, 3) := by decide +kernel
theorem dX2_giveUp_9 : decode cX2_giveUp 9 = .ok (.lcmp, 1) := by decide +kernel
theorem dX2_giveUp_10 : decode cX2_giveUp 10 = .ok (.ifCond .ne 5, 3) := by decide +kernel
theorem dX2_giveUp_13 : decode cX2_giveUp 13 = .ok (.iconst 0, 1) := by decide +kernel
theorem dX2_giveUp_14 : decode cX2_giveUp 14 = .ok (.ireturn, 1) := by decide +kernel
theorem dX2_giveUp_15 : decode cX2_giveUp 15 = .ok (.aload_n 0, 1) := by decide +kernel
theorem dX2_giveUp_16 : decode cX2_giveUp 16 = .ok (.getfield 25, 3) := by decide +kernel
theorem dX2_giveUp_19 : decode cX2_giveUp 19 = .ok (.iload_n 1, 1) := by decide +kernel
theorem dX2_giveUp_20 : decode cX2_giveUp 20 = .ok (.laload, 1) := by decide +kernel
theorem dX2_giveUp_21 : decode cX2_giveUp 21 = .ok (.aload_n 0, 1) := by decide +kernel
theorem dX2_giveUp_22 : decode cX2_giveUp 22 = .ok (.iload_n 1, 1) := by decide +kernel
theorem dX2_giveUp_23 : decode cX2_giveUp 23 = .ok (.iload_n 2, 1) := by decide +kernel
theorem dX2_giveUp_24 : decode cX2_giveUp 24 = .ok (.invokevirtual 96, 3) := by decide +kernel
theorem dX2_giveUp_27 : decode cX2_giveUp 27 = .ok (.lsub, 1) := by decide +kernel
theorem dX2_giveUp_28 : decode cX2_giveUp 28 = .ok (.lstore_n 3, 1) := by decide +kernel
theorem dX2_giveUp_29 : decode cX2_giveUp 29 = .ok (.lload_n 3, 1) := by decide +kernel
theorem dX2_giveUp_30 : decode cX2_giveUp 30 = .ok (.aload_n 0, 1) := by decide +kernel
theorem dX2_giveUp_31 : decode cX2_giveUp 31 = .ok (.getfield 21, 3) := by decide +kernel
theorem dX2_giveUp_34 : decode cX2_giveUp 34 = .ok (.iload_n 2, 1) := by decide +kernel
theorem dX2_giveUp_35 : decode cX2_giveUp 35 = .ok (.laload, 1) := by decide +kernel
theorem dX2_giveUp_36 : decode cX2_giveUp 36 = .ok (.lcmp, 1) := by decide +kernel
theorem dX2_giveUp_37 : decode cX2_giveUp 37 = .ok (.ifCond .gt 5, 3) := by decide +kernel
theorem dX2_giveUp_40 : decode cX2_giveUp 40 = .ok (.iconst 0, 1) := by decide +kernel
theorem dX2_giveUp_41 : decode cX2_giveUp 41 = .ok (.ireturn, 1) := by decide +kernel
theorem dX2_giveUp_42 : decode cX2_giveUp 42 = .ok (.aload_n 0, 1) := by decide +kernel
theorem dX2_giveUp_43 : decode cX2_giveUp 43 = .ok (.getfield 21, 3) := by decide +kernel
theorem dX2_giveUp_46 : decode cX2_giveUp 46 = .ok (.iload_n 2, 1) := by decide +kernel
theorem dX2_giveUp_47 : decode cX2_giveUp 47 = .ok (.lload_n 3, 1) := by decide +kernel
theorem dX2_giveUp_48 : decode cX2_giveUp 48 = .ok (.lastore, 1) := by decide +kernel
theorem dX2_giveUp_49 : decode cX2_giveUp 49 = .ok (.aload_n 0, 1) := by decide +kernel
theorem dX2_giveUp_50 : decode cX2_giveUp 50 = .ok (.getfield 28, 3) := by decide +kernel
theorem dX2_giveUp_53 : decode cX2_giveUp 53 = .ok (.iload_n 2, 1) := by decide +kernel
theorem dX2_giveUp_54 : decode cX2_giveUp 54 = .ok (.iload_n 1, 1) := by decide +kernel
theorem dX2_giveUp_55 : decode cX2_giveUp 55 = .ok (.iastore, 1) := by decide +kernel
theorem dX2_giveUp_56 : decode cX2_giveUp 56 = .ok (.iconst 1, 1) := by decide +kernel
theorem dX2_giveUp_57 : decode cX2_giveUp 57 = .ok (.ireturn, 1) := by decide +kernel
theorem dX2_bestEnd_0 : decode cX2_bestEnd 0 = .ok (.bipush (-6), 2) := by decide +kernel
theorem dX2_bestEnd_2 : decode cX2_bestEnd 2 = .ok (.istore_n 2, 1) := by decide +kernel
theorem dX2_bestEnd_3 : decode cX2_bestEnd 3 = .ok (.ldc2_w 82, 3) := by decide +kernel
theorem dX2_bestEnd_6 : decode cX2_bestEnd 6 = .ok (.lstore_n 3, 1) := by decide +kernel
theorem dX2_bestEnd_7 : decode cX2_bestEnd 7 = .ok (.iconst 0, 1) := by decide +kernel
theorem dX2_bestEnd_8 : decode cX2_bestEnd 8 = .ok (.istore 5, 2) := by decide +kernel
theorem dX2_bestEnd_10 : decode cX2_bestEnd 10 = .ok (.iload 5, 2) := by decide +kernel
theorem dX2_bestEnd_12 : decode cX2_bestEnd 12 = .ok (.aload_n 0, 1) := by decide +kernel
theorem dX2_bestEnd_13 : decode cX2_bestEnd 13 = .ok (.getfield 34, 3) := by decide +kernel
theorem dX2_bestEnd_16 : decode cX2_bestEnd 16 = .ok (.getfield 65, 3) := by decide +kernel
theorem dX2_bestEnd_19 : decode cX2_bestEnd 19 = .ok (.if_icmp .ge 43, 3) := by decide +kernel
theorem dX2_bestEnd_22 : decode cX2_bestEnd 22 = .ok (.aload_n 0, 1) := by decide +kernel
theorem dX2_bestEnd_23 : decode cX2_bestEnd 23 = .ok (.getfield 18, 3) := by decide +kernel
theorem dX2_bestEnd_26 : decode cX2_bestEnd 26 = .ok (.iload 5, 2) := by decide +kernel
theorem dX2_bestEnd_28 : decode cX2_bestEnd 28 = .ok (.iaload, 1) := by decide +kernel
theorem dX2_bestEnd_29 : decode cX2_bestEnd 29 = .ok (.iload_n 1, 1) := by decide +kernel
theorem dX2_bestEnd_30 : decode cX2_bestEnd 30 = .ok (.if_icmp .ge 26, 3) := by decide +kernel
theorem dX2_bestEnd_33 : decode cX2_bestEnd 33 = .ok (.aload_n 0, 1) := by decide +kernel
theorem dX2_bestEnd_34 : decode cX2_bestEnd 34 = .ok (.getfield 25, 3) := by decide +kernel
theorem dX2_bestEnd_37 : decode cX2_bestEnd 37 = .ok (.iload 5, 2) := by decide +kernel
theorem dX2_bestEnd_39 : decode cX2_bestEnd 39 = .ok (.laload, 1) := by decide +kernel
theorem dX2_bestEnd_40 : decode cX2_bestEnd 40 = .ok (.lload_n 3, 1) := by decide +kernel
theorem dX2_bestEnd_41 : decode cX2_bestEnd 41 = .ok (.lcmp, 1) := by decide +kernel
theorem dX2_bestEnd_42 : decode cX2_bestEnd 42 = .ok (.ifCond .le 14, 3) := by decide +kernel
theorem dX2_bestEnd_45 : decode cX2_bestEnd 45 = .ok (.iload 5, 2) := by decide +kernel
theorem dX2_bestEnd_47 : decode cX2_bestEnd 47 = .ok (.istore_n 2, 1) := by decide +kernel
theorem dX2_bestEnd_48 : decode cX2_bestEnd 48 = .ok (.aload_n 0, 1) := by decide +kernel
theorem dX2_bestEnd_49 : decode cX2_bestEnd 49 = .ok (.getfield 25, 3) := by decide +kernel
theorem dX2_bestEnd_52 : decode cX2_bestEnd 52 = .ok (.iload 5, 2) := by decide +kernel
theorem dX2_bestEnd_54 : decode cX2_bestEnd 54 = .ok (.laload, 1) := by decide +kernel
theorem dX2_bestEnd_55 : decode cX2_bestEnd 55 = .ok (.lstore_n 3, 1) := by decide +kernel
theorem dX2_bestEnd_56 : decode cX2_bestEnd 56 = .ok (.iinc 5 1, 3) := by decide +kernel
theorem dX2_bestEnd_59 : decode cX2_bestEnd 59 = .ok (.goto (-49), 3) := by decide +kernel
theorem dX2_bestEnd_62 : decode cX2_bestEnd 62 = .ok (.iload_n 2, 1) := by decide +kernel
theorem dX2_bestEnd_63 : decode cX2_bestEnd 63 = .ok (.ireturn, 1) := by decide +kernel
theorem dX2_change_0 : decode cX2_change 0 = .ok (.aload_n 0, 1) := by decide +kernel
theorem dX2_change_1 : decode cX2_change 1 = .ok (.getfield 18, 3) := by decide +kernel
theorem dX2_change_4 : decode cX2_change 4 = .ok (.iload_n 1, 1) := by decide +kernel
theorem dX2_change_5 : decode cX2_change 5 = .ok (.dup2, 1) := by decide +kernel
theorem dX2_change_6 : decode cX2_change 6 = .ok (.iaload, 1) := by decide +kernel
theorem dX2_change_7 : decode cX2_change 7 = .ok (.iconst 1, 1) := by decide +kernel
theorem dX2_change_8 : decode cX2_change 8 = .ok (.iadd, 1) := by decide +kernel
theorem dX2_change_9 : decode cX2_change 9 = .ok (.iastore, 1) := by decide +kernel
theorem dX2_change_10 : decode cX2_change 10 = .ok (.iload_n 1, 1) := by decide +kernel
theorem dX2_change_11 : decode cX2_change 11 = .ok (.istore_n 2, 1) := by decide +kernel
theorem dX2_change_12 : decode cX2_change 12 = .ok (.iconst 0, 1) := by decide +kernel
theorem dX2_change_13 : decode cX2_change 13 = .ok (.istore_n 3, 1) := by decide +kernel
theorem dX2_change_14 : decode cX2_change 14 = .ok (.iload_n 3, 1) := by decide +kernel
theorem dX2_change_15 : decode cX2_change 15 = .ok (.bipush 6, 2) := by decide +kernel
theorem dX2_change_17 : decode cX2_change 17 = .ok (.if_icmp .ge 87, 3) := by decide +kernel
theorem dX2_change_20 : decode cX2_change 20 = .ok (.iload_n 2, 1) := by decide +kernel
theorem dX2_change_21 : decode cX2_change 21 = .ok (.bipush (-6), 2) := by decide +kernel
theorem dX2_change_23 : decode cX2_change 23 = .ok (.if_icmp .eq 81, 3) := by decide +kernel
theorem dX2_change_26 : decode cX2_change 26 = .ok (.aload_n 0, 1) := by decide +kernel
theorem dX2_change_27 : decode cX2_change 27 = .ok (.getfield 31, 3) := by decide +kernel
theorem dX2_change_30 : decode cX2_change 30 = .ok (.iload_n 2, 1) := by decide +kernel
theorem dX2_change_31 : decode cX2_change 31 = .ok (.iaload, 1) := by decide +kernel
theorem dX2_change_32 : decode cX2_change 32 = .ok (.istore 4, 2) := by decide +kernel
theorem dX2_change_34 : decode cX2_change 34 = .ok (.iload 4, 2) := by decide +kernel
theorem dX2_change_36 : decode cX2_change 36 = .ok (.bipush (-6), 2) := by decide +kernel
theorem dX2_change_38 : decode cX2_change 38 = .ok (.if_icmp .ne 4, 3) := by decide +kernel
theorem dX2_change_41 : decode cX2_change 41 = .ok (.return_, 1) := by decide +kernel
theorem dX2_change_42 : decode cX2_change 42 = .ok (.aload_n 0, 1) := by decide +kernel
theorem dX2_change_43 : decode cX2_change 43 = .ok (.getfield 9, 3) := by decide +kernel
theorem dX2_change_46 : decode cX2_change 46 = .ok (.iload 4, 2) := by decide +kernel
theorem dX2_change_48 : decode cX2_change 48 = .ok (.dup2, 1) := by decide +kernel
theorem dX2_change_49 : decode cX2_change 49 = .ok (.iaload, 1) := by decide +kernel
theorem dX2_change_50 : decode cX2_change 50 = .ok (.iconst 1, 1) := by decide +kernel
theorem dX2_change_51 : decode cX2_change 51 = .ok (.iload_n 2, 1) := by decide +kernel
theorem dX2_change_52 : decode cX2_change 52 = .ok (.ishl, 1) := by decide +kernel
theorem dX2_change_53 : decode cX2_change 53 = .ok (.ior, 1) := by decide +kernel
theorem dX2_change_54 : decode cX2_change 54 = .ok (.iastore, 1) := by decide +kernel
theorem dX2_change_55 : decode cX2_change 55 = .ok (.aload_n 0, 1) := by decide +kernel
theorem dX2_change_56 : decode cX2_change 56 = .ok (.getfield 28, 3) := by decide +kernel
theorem dX2_change_59 : decode cX2_change 59 = .ok (.iload 4, 2) := by decide +kernel
theorem dX2_change_61 : decode cX2_change 61 = .ok (.iaload, 1) := by decide +kernel
theorem dX2_change_62 : decode cX2_change 62 = .ok (.istore_n 2, 1) := by decide +kernel
theorem dX2_change_63 : decode cX2_change 63 = .ok (.iload_n 2, 1) := by decide +kernel
theorem dX2_change_64 : decode cX2_change 64 = .ok (.bipush (-6), 2) := by decide +kernel
theorem dX2_change_66 : decode cX2_change 66 = .ok (.if_icmp .ne 17, 3) := by decide +kernel
theorem dX2_change_69 : decode cX2_change 69 = .ok (.aload_n 0, 1) := by decide +kernel
theorem dX2_change_70 : decode cX2_change 70 = .ok (.getfield 15, 3) := by decide +kernel
theorem dX2_change_73 : decode cX2_change 73 = .ok (.iload 4, 2) := by decide +kernel
theorem dX2_change_75 : decode cX2_change 75 = .ok (.dup2, 1) := by decide +kernel
theorem dX2_change_76 : decode cX2_change 76 = .ok (.iaload, 1) := by decide +kernel
theorem dX2_change_77 : decode cX2_change 77 = .ok (.iconst 1, 1) := by decide +kernel
theorem dX2_change_78 : decode cX2_change 78 = .ok (.isub, 1) := by decide +kernel
theorem dX2_change_79 : decode cX2_change 79 = .ok (.iastore, 1) := by decide +kernel
theorem dX2_change_80 : decode cX2_change 80 = .ok (.goto 18, 3) := by decide +kernel
theorem dX2_change_83 : decode cX2_change 83 = .ok (.aload_n 0, 1) := by decide +kernel
theorem dX2_change_84 : decode cX2_change 84 = .ok (.getfield 9, 3) := by decide +kernel
theorem dX2_change_87 : decode cX2_change 87 = .ok (.iload 4, 2) := by decide +kernel
theorem dX2_change_89 : decode cX2_change 89 = .ok (.dup2, 1) := by decide +kernel
theorem dX2_change_90 : decode cX2_change 90 = .ok (.iaload, 1) := by decide +kernel
theorem dX2_change_91 : decode cX2_change 91 = .ok (.iconst 1, 1) := by decide +kernel
theorem dX2_change_92 : decode cX2_change 92 = .ok (.iload_n 2, 1) := by decide +kernel
theorem dX2_change_93 : decode cX2_change 93 = .ok (.ishl, 1) := by decide +kernel
theorem dX2_change_94 : decode cX2_change 94 = .ok (.iconst (-1), 1) := by decide +kernel
theorem dX2_change_95 : decode cX2_change 95 = .ok (.ixor, 1) := by decide +kernel
theorem dX2_change_96 : decode cX2_change 96 = .ok (.iand, 1) := by decide +kernel
theorem dX2_change_97 : decode cX2_change 97 = .ok (.iastore, 1) := by decide +kernel
theorem dX2_change_98 : decode cX2_change 98 = .ok (.iinc 3 1, 3) := by decide +kernel
theorem dX2_change_101 : decode cX2_change 101 = .ok (.goto (-87), 3) := by decide +kernel
theorem dX2_change_104 : decode cX2_change 104 = .ok (.return_, 1) := by decide +kernel
set_option maxRecDepth 20000 in
theorem ggX3_init_X7_init : GoodIn wsX3_init wsX7_init := goodIn_r _ [14, 15, 2, 3, 8, 16, 17, 18, 19] (by decide +kernel) (by decide +kernel)
set_option maxRecDepth 20000 in
theorem gX3_init_X7_init_n11 : GoodIn wsX3_init (wsX7_init) := ggX3_init_X7_init
theorem dX3_init_0 : decode cX3_init 0 = .ok (.aload_n 0, 1) := by decide +kernel
theorem dX3_init_1 : decode cX3_init 1 = .ok (.invokespecial 3, 3) := by decide +kernel
theorem dX3_init_4 : decode cX3_init 4 = .ok (.aload_n 0, 1) := by decide +kernel
theorem dX3_init_5 : decode cX3_init 5 = .ok (.new 9, 3) := by decide +kernel
theorem dX3_init_8 : decode cX3_init 8 = .ok (.dup, 1) := by decide +kernel
theorem dX3_init_9 : decode cX3_init 9 = .ok (.invokespecial 11, 3) := by decide +kernel
theorem dX3_init_12 : decode cX3_init 12 = .ok (.putfield 12, 3) := by decide +kernel
theorem dX3_init_15 : decode cX3_init 15 = .ok (.aload_n 0, 1) := by decide +kernel
theorem dX3_init_16 : decode cX3_init 16 = .ok (.bipush 36, 2) := by decide +kernel
theorem dX3_init_18 : decode cX3_init 18 = .ok (.newarray .int, 2) := by decide +kernel
theorem dX3_init_20 : decode cX3_init 20 = .ok (.putfield 18, 3) := by decide +kernel
theorem dX3_init_23 : decode cX3_init 23 = .ok (.aload_n 0, 1) := by decide +kernel
theorem dX3_init_24 : decode cX3_init 24 = .ok (.aload_n 1, 1) := by decide +kernel
theorem dX3_init_25 : decode cX3_init 25 = .ok (.putfield 22, 3) := by decide +kernel
theorem dX3_init_28 : decode cX3_init 28 = .ok (.aload_n 0, 1) := by decide +kernel
theorem dX3_init_29 : decode cX3_init 29 = .ok (.aload_n 2, 1) := by decide +kernel
theorem dX3_init_30 : decode cX3_init 30 = .ok (.putfield 26, 3) := by decide +kernel
theorem dX3_init_33 : decode cX3_init 33 = .ok (.aload_n 0, 1) := by decide +kernel
theorem dX3_init_34 : decode cX3_init 34 = .ok (.aload_n 3, 1) := by decide +kernel
theorem dX3_init_35 : decode cX3_init 35 = .ok (.putfield 30, 3) := by decide +kernel
theorem dX3_init_38 : decode cX3_init 38 = .ok (.return_, 1) := by decide +kernel
set_option maxRecDepth 20000 in
theorem ggX3_waysTaken_X7_clear : GoodIn wsX3_waysTaken wsX7_clear := goodIn_r _ [7, 8, 9, 10, 11, 12, 13, 14, 94, 95, 96] (by decide +kernel) (by decide +kernel)
set_option maxRecDepth 20000 in
theorem gX3_waysTaken_X7_clear : GoodIn wsX3_waysTaken (wsV RX3 34 RX7 yX7_clear wsX7_clear) := goodIn_app (goodIn_of _ (by decide +kernel)) ggX3_waysTaken_X7_clear
set_option maxRecDepth 20000 in
theorem ggX3_waysTaken_X3_layOutWays : GoodIn wsX3_waysTaken wsX3_layOutWays := goodIn_r _ [19, 20, 21, 22, 2, 23, 24, 25, 26, 18, 27, 28, 29, 30, 31, 32, 33, 34, 35, 36, 37, 38, 39, 40, 41, 42, 43, 44, 45, 46, 47, 48, 49, 50, 51, 89, 90, 91, 92, 93, 97, 98, 99, 100, 101, 102, 103, 104, 105, 106, 107] (by decide +kernel) (by decide +kernel)
set_option maxRecDepth 20000 in
theorem gX3_waysTaken_X3_layOutWays : GoodIn wsX3_waysTaken (wsV RX3 37 RX3 yX3_layOutWays wsX3_layOutWays) := goodIn_app (goodIn_of _ (by decide +kernel)) ggX3_waysTaken_X3_layOutWays
set_option maxRecDepth 20000 in
theorem ggX3_waysTaken_X4_withoutWriter : GoodIn wsX3_waysTaken wsX4_withoutWriter := goodIn_r _ [56, 57, 102, 103, 104, 105, 106, 107] (by decide +kernel) (by decide +kernel)
set_option maxRecDepth 20000 in
theorem gX3_waysTaken_X4_withoutWriter : GoodIn wsX3_waysTaken (wsV RX3 41 RX4 yX4_withoutWriter wsX4_withoutWriter) := goodIn_app (goodIn_of _ (by decide +kernel)) ggX3_waysTaken_X4_withoutWriter
set_option maxRecDepth 20000 in
theorem ggX3_waysTaken_X3_waysFrom : GoodIn wsX3_waysTaken wsX3_waysFrom := goodIn_r _ [61, 62, 1, 63, 22, 64, 65, 66, 67, 68, 69, 70, 71, 72, 73, 74, 75, 76, 6, 77, 9, 10, 78, 79, 80, 81, 8, 82, 83, 84, 58, 59, 60, 18, 85, 86, 87, 88, 89, 90, 91, 92, 93, 94, 95, 96, 108, 109, 110, 111] (by decide +kernel) (by decide +kernel)
set_option maxRecDepth 20000 in
theorem gX3_waysTaken_X3_waysFrom : GoodIn wsX3_waysTaken (wsV RX3 47 RX3 yX3_waysFrom wsX3_waysFrom) := goodIn_app (goodIn_of _ (by decide +kernel)) ggX3_waysTaken_X3_waysFrom
theorem dX3_waysTaken_0 : decode cX3_waysTaken 0 = .ok (.aload_n 0, 1) := by decide +kernel
theorem dX3_waysTaken_1 : decode cX3_waysTaken 1 = .ok (.getfield 12, 3) := by decide +kernel
theorem dX3_waysTaken_4 : decode cX3_waysTaken 4 = .ok (.invokevirtual 34, 3) := by decide +kernel
theorem dX3_waysTaken_7 : decode cX3_waysTaken 7 = .ok (.aload_n 0, 1) := by decide +kernel
theorem dX3_waysTaken_8 : decode cX3_waysTaken 8 = .ok (.iload_n 1, 1) := by decide +kernel
theorem dX3_waysTaken_9 : decode cX3_waysTaken 9 = .ok (.invokevirtual 37, 3) := by decide +kernel
theorem dX3_waysTaken_12 : decode cX3_waysTaken 12 = .ok (.aload_n 0, 1) := by decide +kernel
theorem dX3_waysTaken_13 : decode cX3_waysTaken 13 = .ok (.iconst 0, 1) := by decide +kernel
theorem dX3_waysTaken_14 : decode cX3_waysTaken 14 = .ok (.aload_n 0, 1) := by decide +kernel
theorem dX3_waysTaken_15 : decode cX3_waysTaken 15 = .ok (.getfield 26, 3) := by decide +kernel
theorem dX3_waysTaken_18 : decode cX3_waysTaken 18 = .ok (.iload_n 1, 1) := by decide +kernel
theorem dX3_waysTaken_19 : decode cX3_waysTaken 19 = .ok (.iload_n 2, 1) := by decide +kernel
theorem dX3_waysTaken_20 : decode cX3_waysTaken 20 = .ok (.invokevirtual 41, 3) := by decide +kernel
theorem dX3_waysTaken_23 : decode cX3_waysTaken 23 = .ok (.invokevirtual 47, 3) := by decide +kernel
theorem dX3_waysTaken_26 : decode cX3_waysTaken 26 = .ok (.lreturn, 1) := by decide +kernel
set_option maxRecDepth 20000 in
theorem ggX3_layOutWays_X3_waysOfMark : GoodIn wsX3_layOutWays wsX3_waysOfMark := goodIn_r _ [10, 1, 11, 4, 12, 13, 14, 15, 16, 17, 18, 19, 20, 21, 22, 23, 24, 25, 26, 9, 27, 28, 29, 30, 31, 32, 33, 34, 35, 36, 37, 38, 39, 40, 41, 42, 43, 44, 45, 46, 47, 48, 49, 50] (by decide +kernel) (by decide +kernel)
set_option maxRecDepth 20000 in
theorem gX3_layOutWays_X3_waysOfMark : GoodIn wsX3_layOutWays (wsV RX3 60 RX3 yX3_waysOfMark wsX3_waysOfMark) := goodIn_app (goodIn_of _ (by decide +kernel)) ggX3_layOutWays_X3_waysOfMark
theorem dX3_layOutWays_0 : decode cX3_layOutWays 0 = .ok (.iconst 0, 1) := by decide +kernel
theorem dX3_layOutWays_1 : decode cX3_layOutWays 1 = .ok (.istore_n 2, 1) := by decide +kernel
theorem dX3_layOutWays_2 : decode cX3_layOutWays 2 = .ok (.iload_n 2, 1) := by decide +kernel
theorem dX3_layOutWays_3 : decode cX3_layOutWays 3 = .ok (.aload_n 0, 1) := by decide +kernel
theorem dX3_layOutWays_4 : decode cX3_layOutWays 4 = .ok (.getfield 22, 3) := by decide +kernel
theorem dX3_layOutWays_7 : decode cX3_layOutWays 7 = .ok (.getfield 51, 3) := by decide +kernel
theorem dX3_layOutWays_10 : decode cX3_layOutWays 10 = .ok (.if_icmp .ge 49, 3) := by decide +kernel
theorem dX3_layOutWays_13 : decode cX3_layOutWays 13 = .ok (.iconst 0, 1) := by decide +kernel
theorem dX3_layOutWays_14 : decode cX3_layOutWays 14 = .ok (.istore_n 3, 1) := by decide +kernel
theorem dX3_layOutWays_15 : decode cX3_layOutWays 15 = .ok (.iload_n 3, 1) := by decide +kernel
theorem dX3_layOutWays_16 : decode cX3_layOutWays 16 = .ok (.iconst 5, 1) := by decide +kernel
theorem dX3_layOutWays_17 : decode cX3_layOutWays 17 = .ok (.if_icmp .gt 36, 3) := by decide +kernel
theorem dX3_layOutWays_20 : decode cX3_layOutWays 20 = .ok (.aload_n 0, 1) := by decide +kernel
theorem dX3_layOutWays_21 : decode cX3_layOutWays 21 = .ok (.getfield 18, 3) := by decide +kernel
theorem dX3_layOutWays_24 : decode cX3_layOutWays 24 = .ok (.iload_n 2, 1) := by decide +kernel
theorem dX3_layOutWays_25 : decode cX3_layOutWays 25 = .ok (.bipush 6, 2) := by decide +kernel
theorem dX3_layOutWays_27 : decode cX3_layOutWays 27 = .ok (.imul, 1) := by decide +kernel
theorem dX3_layOutWays_28 : decode cX3_layOutWays 28 = .ok (.iload_n 3, 1) := by decide +kernel
theorem dX3_layOutWays_29 : decode cX3_layOutWays 29 = .ok (.iadd, 1) := by decide +kernel
theorem dX3_layOutWays_30 : decode cX3_layOutWays 30 = .ok (.aload_n 0, 1) := by decide +kernel
theorem dX3_layOutWays_31 : decode cX3_layOutWays 31 = .ok (.iload_n 2, 1) := by decide +kernel
theorem dX3_layOutWays_32 : decode cX3_layOutWays 32 = .ok (.iload_n 1, 1) := by decide +kernel
theorem dX3_layOutWays_33 : decode cX3_layOutWays 33 = .ok (.aload_n 0, 1) := by decide +kernel
theorem dX3_layOutWays_34 : decode cX3_layOutWays 34 = .ok (.getfield 26, 3) := by decide +kernel
theorem dX3_layOutWays_37 : decode cX3_layOutWays 37 = .ok (.getfield 57, 3) := by decide +kernel
theorem dX3_layOutWays_40 : decode cX3_layOutWays 40 = .ok (.iload_n 1, 1) := by decide +kernel
theorem dX3_layOutWays_41 : decode cX3_layOutWays 41 = .ok (.iaload, 1) := by decide +kernel
theorem dX3_layOutWays_42 : decode cX3_layOutWays 42 = .ok (.iload_n 3, 1) := by decide +kernel
theorem dX3_layOutWays_43 : decode cX3_layOutWays 43 = .ok (.invokevirtual 60, 3) := by decide +kernel
theorem dX3_layOutWays_46 : decode cX3_layOutWays 46 = .ok (.iastore, 1) := by decide +kernel
theorem dX3_layOutWays_47 : decode cX3_layOutWays 47 = .ok (.iinc 3 1, 3) := by decide +kernel
theorem dX3_layOutWays_50 : decode cX3_layOutWays 50 = .ok (.goto (-35), 3) := by decide +kernel
theorem dX3_layOutWays_53 : decode cX3_layOutWays 53 = .ok (.iinc 2 1, 3) := by decide +kernel
theorem dX3_layOutWays_56 : decode cX3_layOutWays 56 = .ok (.goto (-54), 3) := by decide +kernel
theorem dX3_layOutWays_59 : decode cX3_layOutWays 59 = .ok (.return_, 1) := by decide +kernel
set_option maxRecDepth 20000 in
theorem ggX3_waysFrom_X5_quarters : GoodIn wsX3_waysFrom wsX5_quarters := goodIn_r _ [9, 10, 11, 12, 13, 14, 15, 16, 17, 18, 19, 20, 21, 22, 23, 24, 25, 26, 43, 44, 45, 46, 47, 48, 49] (by decide +kernel) (by decide +kernel)
set_option maxRecDepth 20000 in
theorem gX3_waysFrom_X5_quarters : GoodIn wsX3_waysFrom (wsV RX3 64 RX5 yX5_quarters wsX5_quarters) := goodIn_app (goodIn_of _ (by decide +kernel)) ggX3_waysFrom_X5_quarters
set_option maxRecDepth 20000 in
theorem ggX3_waysFrom_X8_hasBit : GoodIn wsX3_waysFrom wsX8_hasBit := goodIn_r _ [29] (by decide +kernel) (by decide +kernel)
set_option maxRecDepth 20000 in
theorem gX3_waysFrom_X8_hasBit_n70 : GoodIn wsX3_waysFrom (wsX8_hasBit) := ggX3_waysFrom_X8_hasBit
set_option maxRecDepth 20000 in
theorem ggX3_waysFrom_X3_waysFrom : GoodIn wsX3_waysFrom wsX3_waysFrom := goodIn_r _ [0, 1, 2, 3, 4, 5, 6, 7, 8, 9, 10, 11, 12, 13, 14, 15, 16, 17, 18, 19, 20, 21, 22, 23, 24, 25, 26, 27, 28, 29, 30, 31, 32, 33, 34, 35, 36, 37, 38, 39, 40, 41, 42, 43, 44, 45, 46, 47, 48, 49] (by decide +kernel) (by decide +kernel)
set_option maxRecDepth 20000 in
theorem gX3_waysFrom_X3_waysFrom : GoodIn wsX3_waysFrom (wsV RX3 47 RX3 yX3_waysFrom wsX3_waysFrom) := goodIn_app (goodIn_of _ (by decide +kernel)) ggX3_waysFrom_X3_waysFrom
set_option maxRecDepth 20000 in
theorem ggX3_waysFrom_X7_put : GoodIn wsX3_waysFrom wsX7_put := goodIn_r _ [37, 26, 20, 21, 43, 44, 45] (by decide +kernel) (by decide +kernel)
set_option maxRecDepth 20000 in
theorem gX3_waysFrom_X7_put : GoodIn wsX3_waysFrom (wsV RX3 76 RX7 yX7_put wsX7_put) := goodIn_app (goodIn_of _ (by decide +kernel)) ggX3_waysFrom_X7_put
theorem dX3_waysFrom_0 : decode cX3_waysFrom 0 = .ok (.iload_n 1, 1) := by decide +kernel
theorem dX3_waysFrom_1 : decode cX3_waysFrom 1 = .ok (.bipush 6, 2) := by decide +kernel
theorem dX3_waysFrom_3 : decode cX3_waysFrom 3 = .ok (.if_icmp .lt 16, 3) := by decide +kernel
theorem dX3_waysFrom_6 : decode cX3_waysFrom 6 = .ok (.aload_n 0, 1) := by decide +kernel
theorem dX3_waysFrom_7 : decode cX3_waysFrom 7 = .ok (.getfield 30, 3) := by decide +kernel
theorem dX3_waysFrom_10 : decode cX3_waysFrom 10 = .ok (.aload_n 0, 1) := by decide +kernel
theorem dX3_waysFrom_11 : decode cX3_waysFrom 11 = .ok (.getfield 12, 3) := by decide +kernel
theorem dX3_waysFrom_14 : decode cX3_waysFrom 14 = .ok (.invokevirtual 64, 3) := by decide +kernel
theorem dX3_waysFrom_17 : decode cX3_waysFrom 17 = .ok (.i2l, 1) := by decide +kernel
theorem dX3_waysFrom_18 : decode cX3_waysFrom 18 = .ok (.lreturn, 1) := by decide +kernel
theorem dX3_waysFrom_19 : decode cX3_waysFrom 19 = .ok (.iload_n 2, 1) := by decide +kernel
theorem dX3_waysFrom_20 : decode cX3_waysFrom 20 = .ok (.iload_n 1, 1) := by decide +kernel
theorem dX3_waysFrom_21 : decode cX3_waysFrom 21 = .ok (.invokestatic 70, 3) := by decide +kernel
theorem dX3_waysFrom_24 : decode cX3_waysFrom 24 = .ok (.ifCond .ne 16, 3) := by decide +kernel
theorem dX3_waysFrom_27 : decode cX3_waysFrom 27 = .ok (.ldc2_w 74, 3) := by decide +kernel
theorem dX3_waysFrom_30 : decode cX3_waysFrom 30 = .ok (.aload_n 0, 1) := by decide +kernel
theorem dX3_waysFrom_31 : decode cX3_waysFrom 31 = .ok (.iload_n 1, 1) := by decide +kernel
theorem dX3_waysFrom_32 : decode cX3_waysFrom 32 = .ok (.iconst 1, 1) := by decide +kernel
theorem dX3_waysFrom_33 : decode cX3_waysFrom 33 = .ok (.iadd, 1) := by decide +kernel
theorem dX3_waysFrom_34 : decode cX3_waysFrom 34 = .ok (.iload_n 2, 1) := by decide +kernel
theorem dX3_waysFrom_35 : decode cX3_waysFrom 35 = .ok (.invokevirtual 47, 3) := by decide +kernel
theorem dX3_waysFrom_38 : decode cX3_waysFrom 38 = .ok (.lmul, 1) := by decide +kernel
theorem dX3_waysFrom_39 : decode cX3_waysFrom 39 = .ok (.lreturn, 1) := by decide +kernel
theorem dX3_waysFrom_40 : decode cX3_waysFrom 40 = .ok (.lconst 0, 1) := by decide +kernel
theorem dX3_waysFrom_41 : decode cX3_waysFrom 41 = .ok (.lstore_n 3, 1) := by decide +kernel
theorem dX3_waysFrom_42 : decode cX3_waysFrom 42 = .ok (.iconst 0, 1) := by decide +kernel
theorem dX3_waysFrom_43 : decode cX3_waysFrom 43 = .ok (.istore 5, 2) := by decide +kernel
theorem dX3_waysFrom_45 : decode cX3_waysFrom 45 = .ok (.iload 5, 2) := by decide +kernel
theorem dX3_waysFrom_47 : decode cX3_waysFrom 47 = .ok (.iconst 5, 1) := by decide +kernel
theorem dX3_waysFrom_48 : decode cX3_waysFrom 48 = .ok (.if_icmp .gt 63, 3) := by decide +kernel
theorem dX3_waysFrom_51 : decode cX3_waysFrom 51 = .ok (.aload_n 0, 1) := by decide +kernel
theorem dX3_waysFrom_52 : decode cX3_waysFrom 52 = .ok (.getfield 18, 3) := by decide +kernel
theorem dX3_waysFrom_55 : decode cX3_waysFrom 55 = .ok (.iload_n 1, 1) := by decide +kernel
theorem dX3_waysFrom_56 : decode cX3_waysFrom 56 = .ok (.bipush 6, 2) := by decide +kernel
theorem dX3_waysFrom_58 : decode cX3_waysFrom 58 = .ok (.imul, 1) := by decide +kernel
theorem dX3_waysFrom_59 : decode cX3_waysFrom 59 = .ok (.iload 5, 2) := by decide +kernel
theorem dX3_waysFrom_61 : decode cX3_waysFrom 61 = .ok (.iadd, 1) := by decide +kernel
theorem dX3_waysFrom_62 : decode cX3_waysFrom 62 = .ok (.iaload, 1) := by decide +kernel
theorem dX3_waysFrom_63 : decode cX3_waysFrom 63 = .ok (.istore 6, 2) := by decide +kernel
theorem dX3_waysFrom_65 : decode cX3_waysFrom 65 = .ok (.iload 6, 2) := by decide +kernel
theorem dX3_waysFrom_67 : decode cX3_waysFrom 67 = .ok (.ifCond .le 38, 3) := by decide +kernel
theorem dX3_waysFrom_70 : decode cX3_waysFrom 70 = .ok (.aload_n 0, 1) := by decide +kernel
theorem dX3_waysFrom_71 : decode cX3_waysFrom 71 = .ok (.getfield 12, 3) := by decide +kernel
theorem dX3_waysFrom_74 : decode cX3_waysFrom 74 = .ok (.iload 5, 2) := by decide +kernel
theorem dX3_waysFrom_76 : decode cX3_waysFrom 76 = .ok (.iconst 1, 1) := by decide +kernel
theorem dX3_waysFrom_77 : decode cX3_waysFrom 77 = .ok (.invokevirtual 76, 3) := by decide +kernel
theorem dX3_waysFrom_80 : decode cX3_waysFrom 80 = .ok (.lload_n 3, 1) := by decide +kernel
theorem dX3_waysFrom_81 : decode cX3_waysFrom 81 = .ok (.iload 6, 2) := by decide +kernel
theorem dX3_waysFrom_83 : decode cX3_waysFrom 83 = .ok (.i2l, 1) := by decide +kernel
theorem dX3_waysFrom_84 : decode cX3_waysFrom 84 = .ok (.aload_n 0, 1) := by decide +kernel
theorem dX3_waysFrom_85 : decode cX3_waysFrom 85 = .ok (.iload_n 1, 1) := by decide +kernel
theorem dX3_waysFrom_86 : decode cX3_waysFrom 86 = .ok (.iconst 1, 1) := by decide +kernel
theorem dX3_waysFrom_87 : decode cX3_waysFrom 87 = .ok (.iadd, 1) := by decide +kernel
theorem dX3_waysFrom_88 : decode cX3_waysFrom 88 = .ok (.iload_n 2, 1) := by decide +kernel
theorem dX3_waysFrom_89 : decode cX3_waysFrom 89 = .ok (.invokevirtual 47, 3) := by decide +kernel
theorem dX3_waysFrom_92 : decode cX3_waysFrom 92 = .ok (.lmul, 1) := by decide +kernel
theorem dX3_waysFrom_93 : decode cX3_waysFrom 93 = .ok (.ladd, 1) := by decide +kernel
theorem dX3_waysFrom_94 : decode cX3_waysFrom 94 = .ok (.lstore_n 3, 1) := by decide +kernel
theorem dX3_waysFrom_95 : decode cX3_waysFrom 95 = .ok (.aload_n 0, 1) := by decide +kernel
theorem dX3_waysFrom_96 : decode cX3_waysFrom 96 = .ok (.getfield 12, 3) := by decide +kernel
theorem dX3_waysFrom_99 : decode cX3_waysFrom 99 = .ok (.iload 5, 2) := by decide +kernel
theorem dX3_waysFrom_101 : decode cX3_waysFrom 101 = .ok (.iconst (-1), 1) := by decide +kernel
theorem dX3_waysFrom_102 : decode cX3_waysFrom 102 = .ok (.invokevirtual 76, 3) := by decide +kernel
theorem dX3_waysFrom_105 : decode cX3_waysFrom 105 = .ok (.iinc 5 1, 3) := by decide +kernel
theorem dX3_waysFrom_108 : decode cX3_waysFrom 108 = .ok (.goto (-63), 3) := by decide +kernel
theorem dX3_waysFrom_111 : decode cX3_waysFrom 111 = .ok (.lload_n 3, 1) := by decide +kernel
theorem dX3_waysFrom_112 : decode cX3_waysFrom 112 = .ok (.lreturn, 1) := by decide +kernel
set_option maxRecDepth 20000 in
theorem ggX3_waysRight_X3_waysTaken : GoodIn wsX3_waysRight wsX3_waysTaken := goodIn_r _ [9, 10, 1, 11, 12, 13, 14, 15, 16, 17, 18, 19, 20, 21, 22, 23, 24, 25, 8, 26, 27, 28, 29, 3, 30, 31, 32, 33, 34, 35, 36, 37, 38, 39, 40, 41, 42, 43, 44, 45, 46, 47, 48, 49, 50, 51, 52, 53, 54, 55, 56, 57, 58, 59, 60, 61, 62, 63, 64, 65, 66, 67, 68, 69, 70, 71, 72, 73, 74, 75, 76, 77, 78, 79, 80, 81, 82, 83, 84, 85, 86, 87, 88, 89, 90, 91, 92, 93, 94, 95, 96, 97, 98, 99, 106, 107, 108, 109, 110, 111, 112, 113, 100, 101, 102, 103, 104, 105, 114, 115, 116, 117] (by decide +kernel) (by decide +kernel)
set_option maxRecDepth 20000 in
theorem gX3_waysRight_X3_waysTaken : GoodIn wsX3_waysRight (wsV RX3 81 RX3 yX3_waysTaken wsX3_waysTaken) := goodIn_app (goodIn_of _ (by decide +kernel)) ggX3_waysRight_X3_waysTaken
theorem dX3_waysRight_0 : decode cX3_waysRight 0 = .ok (.lconst 0, 1) := by decide +kernel
theorem dX3_waysRight_1 : decode cX3_waysRight 1 = .ok (.lstore_n 3, 1) := by decide +kernel
theorem dX3_waysRight_2 : decode cX3_waysRight 2 = .ok (.iconst 0, 1) := by decide +kernel
theorem dX3_waysRight_3 : decode cX3_waysRight 3 = .ok (.istore 5, 2) := by decide +kernel
theorem dX3_waysRight_5 : decode cX3_waysRight 5 = .ok (.iload 5, 2) := by decide +kernel
theorem dX3_waysRight_7 : decode cX3_waysRight 7 = .ok (.aload_n 0, 1) := by decide +kernel
theorem dX3_waysRight_8 : decode cX3_waysRight 8 = .ok (.getfield 26, 3) := by decide +kernel
theorem dX3_waysRight_11 : decode cX3_waysRight 11 = .ok (.getfield 80, 3) := by decide +kernel
theorem dX3_waysRight_14 : decode cX3_waysRight 14 = .ok (.if_icmp .ge 46, 3) := by decide +kernel
theorem dX3_waysRight_17 : decode cX3_waysRight 17 = .ok (.aload_n 0, 1) := by decide +kernel
theorem dX3_waysRight_18 : decode cX3_waysRight 18 = .ok (.iload 5, 2) := by decide +kernel
theorem dX3_waysRight_20 : decode cX3_waysRight 20 = .ok (.iload_n 2, 1) := by decide +kernel
theorem dX3_waysRight_21 : decode cX3_waysRight 21 = .ok (.invokevirtual 81, 3) := by decide +kernel
theorem dX3_waysRight_24 : decode cX3_waysRight 24 = .ok (.lstore 6, 2) := by decide +kernel
theorem dX3_waysRight_26 : decode cX3_waysRight 26 = .ok (.lload_n 3, 1) := by decide +kernel
theorem dX3_waysRight_27 : decode cX3_waysRight 27 = .ok (.aload_n 0, 1) := by decide +kernel
theorem dX3_waysRight_28 : decode cX3_waysRight 28 = .ok (.getfield 26, 3) := by decide +kernel
theorem dX3_waysRight_31 : decode cX3_waysRight 31 = .ok (.getfield 57, 3) := by decide +kernel
theorem dX3_waysRight_34 : decode cX3_waysRight 34 = .ok (.iload 5, 2) := by decide +kernel
theorem dX3_waysRight_36 : decode cX3_waysRight 36 = .ok (.iaload, 1) := by decide +kernel
theorem dX3_waysRight_37 : decode cX3_waysRight 37 = .ok (.iload_n 1, 1) := by decide +kernel
theorem dX3_waysRight_38 : decode cX3_waysRight 38 = .ok (.if_icmp .lt 8, 3) := by decide +kernel
theorem dX3_waysRight_41 : decode cX3_waysRight 41 = .ok (.lload 6, 2) := by decide +kernel
theorem dX3_waysRight_43 : decode cX3_waysRight 43 = .ok (.goto 9, 3) := by decide +kernel
theorem dX3_waysRight_46 : decode cX3_waysRight 46 = .ok (.ldc2_w 84, 3) := by decide +kernel
theorem dX3_waysRight_49 : decode cX3_waysRight 49 = .ok (.lload 6, 2) := by decide +kernel
theorem dX3_waysRight_51 : decode cX3_waysRight 51 = .ok (.lsub, 1) := by decide +kernel
theorem dX3_waysRight_52 : decode cX3_waysRight 52 = .ok (.ladd, 1) := by decide +kernel
theorem dX3_waysRight_53 : decode cX3_waysRight 53 = .ok (.lstore_n 3, 1) := by decide +kernel
theorem dX3_waysRight_54 : decode cX3_waysRight 54 = .ok (.iinc 5 1, 3) := by decide +kernel
theorem dX3_waysRight_57 : decode cX3_waysRight 57 = .ok (.goto (-52), 3) := by decide +kernel
theorem dX3_waysRight_60 : decode cX3_waysRight 60 = .ok (.lload_n 3, 1) := by decide +kernel
theorem dX3_waysRight_61 : decode cX3_waysRight 61 = .ok (.lreturn, 1) := by decide +kernel
set_option maxRecDepth 20000 in
theorem ggX3_waysOfMarks_X1_has : GoodIn wsX3_waysOfMarks wsX1_has := goodIn_r _ [7, 8, 9, 10, 6, 11, 12, 54, 55] (by decide +kernel) (by decide +kernel)
set_option maxRecDepth 20000 in
theorem gX3_waysOfMarks_X1_has : GoodIn wsX3_waysOfMarks (wsV RX3 86 RX1 yX1_has wsX1_has) := goodIn_app (goodIn_of _ (by decide +kernel)) ggX3_waysOfMarks_X1_has
set_option maxRecDepth 20000 in
theorem ggX3_waysOfMarks_X1_of : GoodIn wsX3_waysOfMarks wsX1_of := goodIn_r _ [11, 12, 54, 55] (by decide +kernel) (by decide +kernel)
set_option maxRecDepth 20000 in
theorem gX3_waysOfMarks_X1_of : GoodIn wsX3_waysOfMarks (wsV RX3 91 RX1 yX1_of wsX1_of) := goodIn_app (goodIn_of _ (by decide +kernel)) ggX3_waysOfMarks_X1_of
set_option maxRecDepth 20000 in
theorem ggX3_waysOfMarks_X3_waysOfMark : GoodIn wsX3_waysOfMarks wsX3_waysOfMark := goodIn_r _ [18, 1, 19, 20, 21, 22, 23, 24, 25, 26, 27, 28, 29, 30, 31, 32, 33, 34, 35, 17, 36, 37, 38, 39, 40, 41, 42, 43, 44, 45, 46, 47, 48, 49, 50, 51, 52, 53, 56, 57, 58, 59, 60, 61] (by decide +kernel) (by decide +kernel)
set_option maxRecDepth 20000 in
theorem gX3_waysOfMarks_X3_waysOfMark : GoodIn wsX3_waysOfMarks (wsV RX3 60 RX3 yX3_waysOfMark wsX3_waysOfMark) := goodIn_app (goodIn_of _ (by decide +kernel)) ggX3_waysOfMarks_X3_waysOfMark
theorem dX3_waysOfMarks_0 : decode cX3_waysOfMarks 0 = .ok (.lconst 1, 1) := by decide +kernel
theorem dX3_waysOfMarks_1 : decode cX3_waysOfMarks 1 = .ok (.lstore 4, 2) := by decide +kernel
theorem dX3_waysOfMarks_3 : decode cX3_waysOfMarks 3 = .ok (.iconst 0, 1) := by decide +kernel
theorem dX3_waysOfMarks_4 : decode cX3_waysOfMarks 4 = .ok (.istore 6, 2) := by decide +kernel
theorem dX3_waysOfMarks_6 : decode cX3_waysOfMarks 6 = .ok (.iload 6, 2) := by decide +kernel
theorem dX3_waysOfMarks_8 : decode cX3_waysOfMarks 8 = .ok (.aload_n 0, 1) := by decide +kernel
theorem dX3_waysOfMarks_9 : decode cX3_waysOfMarks 9 = .ok (.getfield 22, 3) := by decide +kernel
theorem dX3_waysOfMarks_12 : decode cX3_waysOfMarks 12 = .ok (.getfield 51, 3) := by decide +kernel
theorem dX3_waysOfMarks_15 : decode cX3_waysOfMarks 15 = .ok (.if_icmp .ge 40, 3) := by decide +kernel
theorem dX3_waysOfMarks_18 : decode cX3_waysOfMarks 18 = .ok (.aload_n 1, 1) := by decide +kernel
theorem dX3_waysOfMarks_19 : decode cX3_waysOfMarks 19 = .ok (.iload 6, 2) := by decide +kernel
theorem dX3_waysOfMarks_21 : decode cX3_waysOfMarks 21 = .ok (.iload_n 2, 1) := by decide +kernel
theorem dX3_waysOfMarks_22 : decode cX3_waysOfMarks 22 = .ok (.invokevirtual 86, 3) := by decide +kernel
theorem dX3_waysOfMarks_25 : decode cX3_waysOfMarks 25 = .ok (.ifCond .eq 24, 3) := by decide +kernel
theorem dX3_waysOfMarks_28 : decode cX3_waysOfMarks 28 = .ok (.lload 4, 2) := by decide +kernel
theorem dX3_waysOfMarks_30 : decode cX3_waysOfMarks 30 = .ok (.aload_n 0, 1) := by decide +kernel
theorem dX3_waysOfMarks_31 : decode cX3_waysOfMarks 31 = .ok (.iload 6, 2) := by decide +kernel
theorem dX3_waysOfMarks_33 : decode cX3_waysOfMarks 33 = .ok (.iload_n 2, 1) := by decide +kernel
theorem dX3_waysOfMarks_34 : decode cX3_waysOfMarks 34 = .ok (.iload_n 3, 1) := by decide +kernel
theorem dX3_waysOfMarks_35 : decode cX3_waysOfMarks 35 = .ok (.aload_n 1, 1) := by decide +kernel
theorem dX3_waysOfMarks_36 : decode cX3_waysOfMarks 36 = .ok (.iload 6, 2) := by decide +kernel
theorem dX3_waysOfMarks_38 : decode cX3_waysOfMarks 38 = .ok (.iload_n 2, 1) := by decide +kernel
theorem dX3_waysOfMarks_39 : decode cX3_waysOfMarks 39 = .ok (.invokevirtual 91, 3) := by decide +kernel
theorem dX3_waysOfMarks_42 : decode cX3_waysOfMarks 42 = .ok (.invokevirtual 60, 3) := by decide +kernel
theorem dX3_waysOfMarks_45 : decode cX3_waysOfMarks 45 = .ok (.i2l, 1) := by decide +kernel
theorem dX3_waysOfMarks_46 : decode cX3_waysOfMarks 46 = .ok (.lmul, 1) := by decide +kernel
theorem dX3_waysOfMarks_47 : decode cX3_waysOfMarks 47 = .ok (.lstore 4, 2) := by decide +kernel
theorem dX3_waysOfMarks_49 : decode cX3_waysOfMarks 49 = .ok (.iinc 6 1, 3) := by decide +kernel
theorem dX3_waysOfMarks_52 : decode cX3_waysOfMarks 52 = .ok (.goto (-46), 3) := by decide +kernel
theorem dX3_waysOfMarks_55 : decode cX3_waysOfMarks 55 = .ok (.lload 4, 2) := by decide +kernel
theorem dX3_waysOfMarks_57 : decode cX3_waysOfMarks 57 = .ok (.lreturn, 1) := by decide +kernel
set_option maxRecDepth 20000 in
theorem ggX3_waysOfMark_X0_tieOf : GoodIn wsX3_waysOfMark wsX0_tieOf := goodIn_r _ [10, 11, 12, 13, 14, 9, 15, 16, 33, 34, 35, 36, 37] (by decide +kernel) (by decide +kernel)
set_option maxRecDepth 20000 in
theorem gX3_waysOfMark_X0_tieOf : GoodIn wsX3_waysOfMark (wsV RX3 100 RX0 yX0_tieOf wsX0_tieOf) := goodIn_app (goodIn_of _ (by decide +kernel)) ggX3_waysOfMark_X0_tieOf
set_option maxRecDepth 20000 in
theorem ggX3_waysOfMark_X3_bounded : GoodIn wsX3_waysOfMark wsX3_bounded := goodIn_r _ [20, 21, 22, 23, 24, 25, 26, 27] (by decide +kernel) (by decide +kernel)
set_option maxRecDepth 20000 in
theorem gX3_waysOfMark_X3_bounded : GoodIn wsX3_waysOfMark (va_wsS RX3 106 yX3_bounded wsX3_bounded) := goodIn_app (goodIn_of _ (by decide +kernel)) ggX3_waysOfMark_X3_bounded
theorem dX3_waysOfMark_0 : decode cX3_waysOfMark 0 = .ok (.iload_n 3, 1) := by decide +kernel
theorem dX3_waysOfMark_1 : decode cX3_waysOfMark 1 = .ok (.aload_n 0, 1) := by decide +kernel
theorem dX3_waysOfMark_2 : decode cX3_waysOfMark 2 = .ok (.getfield 22, 3) := by decide +kernel
theorem dX3_waysOfMark_5 : decode cX3_waysOfMark 5 = .ok (.getfield 94, 3) := by decide +kernel
theorem dX3_waysOfMark_8 : decode cX3_waysOfMark 8 = .ok (.iload_n 1, 1) := by decide +kernel
theorem dX3_waysOfMark_9 : decode cX3_waysOfMark 9 = .ok (.iaload, 1) := by decide +kernel
theorem dX3_waysOfMark_10 : decode cX3_waysOfMark 10 = .ok (.iadd, 1) := by decide +kernel
theorem dX3_waysOfMark_11 : decode cX3_waysOfMark 11 = .ok (.aload_n 0, 1) := by decide +kernel
theorem dX3_waysOfMark_12 : decode cX3_waysOfMark 12 = .ok (.getfield 22, 3) := by decide +kernel
theorem dX3_waysOfMark_15 : decode cX3_waysOfMark 15 = .ok (.iload_n 1, 1) := by decide +kernel
theorem dX3_waysOfMark_16 : decode cX3_waysOfMark 16 = .ok (.aload_n 0, 1) := by decide +kernel
theorem dX3_waysOfMark_17 : decode cX3_waysOfMark 17 = .ok (.getfield 26, 3) := by decide +kernel
theorem dX3_waysOfMark_20 : decode cX3_waysOfMark 20 = .ok (.getfield 97, 3) := by decide +kernel
theorem dX3_waysOfMark_23 : decode cX3_waysOfMark 23 = .ok (.iload_n 2, 1) := by decide +kernel
theorem dX3_waysOfMark_24 : decode cX3_waysOfMark 24 = .ok (.iaload, 1) := by decide +kernel
theorem dX3_waysOfMark_25 : decode cX3_waysOfMark 25 = .ok (.invokevirtual 100, 3) := by decide +kernel
theorem dX3_waysOfMark_28 : decode cX3_waysOfMark 28 = .ok (.iadd, 1) := by decide +kernel
theorem dX3_waysOfMark_29 : decode cX3_waysOfMark 29 = .ok (.istore 5, 2) := by decide +kernel
theorem dX3_waysOfMark_31 : decode cX3_waysOfMark 31 = .ok (.aload_n 0, 1) := by decide +kernel
theorem dX3_waysOfMark_32 : decode cX3_waysOfMark 32 = .ok (.getfield 22, 3) := by decide +kernel
theorem dX3_waysOfMark_35 : decode cX3_waysOfMark 35 = .ok (.getfield 103, 3) := by decide +kernel
theorem dX3_waysOfMark_38 : decode cX3_waysOfMark 38 = .ok (.iload_n 1, 1) := by decide +kernel
theorem dX3_waysOfMark_39 : decode cX3_waysOfMark 39 = .ok (.iaload, 1) := by decide +kernel
theorem dX3_waysOfMark_40 : decode cX3_waysOfMark 40 = .ok (.istore 6, 2) := by decide +kernel
theorem dX3_waysOfMark_42 : decode cX3_waysOfMark 42 = .ok (.iconst 0, 1) := by decide +kernel
theorem dX3_waysOfMark_43 : decode cX3_waysOfMark 43 = .ok (.istore 7, 2) := by decide +kernel
theorem dX3_waysOfMark_45 : decode cX3_waysOfMark 45 = .ok (.iload 7, 2) := by decide +kernel
theorem dX3_waysOfMark_47 : decode cX3_waysOfMark 47 = .ok (.iload 5, 2) := by decide +kernel
theorem dX3_waysOfMark_49 : decode cX3_waysOfMark 49 = .ok (.iconst 1, 1) := by decide +kernel
theorem dX3_waysOfMark_50 : decode cX3_waysOfMark 50 = .ok (.isub, 1) := by decide +kernel
theorem dX3_waysOfMark_51 : decode cX3_waysOfMark 51 = .ok (.invokestatic 106, 3) := by decide +kernel
theorem dX3_waysOfMark_54 : decode cX3_waysOfMark 54 = .ok (.iload 4, 2) := by decide +kernel
theorem dX3_waysOfMark_56 : decode cX3_waysOfMark 56 = .ok (.if_icmp .ne 8, 3) := by decide +kernel
theorem dX3_waysOfMark_59 : decode cX3_waysOfMark 59 = .ok (.iload 6, 2) := by decide +kernel
theorem dX3_waysOfMark_61 : decode cX3_waysOfMark 61 = .ok (.goto 4, 3) := by decide +kernel
theorem dX3_waysOfMark_64 : decode cX3_waysOfMark 64 = .ok (.iconst 0, 1) := by decide +kernel
theorem dX3_waysOfMark_65 : decode cX3_waysOfMark 65 = .ok (.iadd, 1) := by decide +kernel
theorem dX3_waysOfMark_66 : decode cX3_waysOfMark 66 = .ok (.istore 7, 2) := by decide +kernel
theorem dX3_waysOfMark_68 : decode cX3_waysOfMark 68 = .ok (.iload 7, 2) := by decide +kernel
theorem dX3_waysOfMark_70 : decode cX3_waysOfMark 70 = .ok (.iload 5, 2) := by decide +kernel
theorem dX3_waysOfMark_72 : decode cX3_waysOfMark 72 = .ok (.invokestatic 106, 3) := by decide +kernel
theorem dX3_waysOfMark_75 : decode cX3_waysOfMark 75 = .ok (.iload 4, 2) := by decide +kernel
theorem dX3_waysOfMark_77 : decode cX3_waysOfMark 77 = .ok (.if_icmp .ne 12, 3) := by decide +kernel
theorem dX3_waysOfMark_80 : decode cX3_waysOfMark 80 = .ok (.iconst 4, 1) := by decide +kernel
theorem dX3_waysOfMark_81 : decode cX3_waysOfMark 81 = .ok (.iconst 2, 1) := by decide +kernel
theorem dX3_waysOfMark_82 : decode cX3_waysOfMark 82 = .ok (.iload 6, 2) := by decide +kernel
theorem dX3_waysOfMark_84 : decode cX3_waysOfMark 84 = .ok (.imul, 1) := by decide +kernel
theorem dX3_waysOfMark_85 : decode cX3_waysOfMark 85 = .ok (.isub, 1) := by decide +kernel
theorem dX3_waysOfMark_86 : decode cX3_waysOfMark 86 = .ok (.goto 4, 3) := by decide +kernel
theorem dX3_waysOfMark_89 : decode cX3_waysOfMark 89 = .ok (.iconst 0, 1) := by decide +kernel
theorem dX3_waysOfMark_90 : decode cX3_waysOfMark 90 = .ok (.iadd, 1) := by decide +kernel
theorem dX3_waysOfMark_91 : decode cX3_waysOfMark 91 = .ok (.istore 7, 2) := by decide +kernel
theorem dX3_waysOfMark_93 : decode cX3_waysOfMark 93 = .ok (.iload 7, 2) := by decide +kernel
theorem dX3_waysOfMark_95 : decode cX3_waysOfMark 95 = .ok (.iload 5, 2) := by decide +kernel
theorem dX3_waysOfMark_97 : decode cX3_waysOfMark 97 = .ok (.iconst 1, 1) := by decide +kernel
theorem dX3_waysOfMark_98 : decode cX3_waysOfMark 98 = .ok (.iadd, 1) := by decide +kernel
theorem dX3_waysOfMark_99 : decode cX3_waysOfMark 99 = .ok (.invokestatic 106, 3) := by decide +kernel
theorem dX3_waysOfMark_102 : decode cX3_waysOfMark 102 = .ok (.iload 4, 2) := by decide +kernel
theorem dX3_waysOfMark_104 : decode cX3_waysOfMark 104 = .ok (.if_icmp .ne 8, 3) := by decide +kernel
theorem dX3_waysOfMark_107 : decode cX3_waysOfMark 107 = .ok (.iload 6, 2) := by decide +kernel
theorem dX3_waysOfMark_109 : decode cX3_waysOfMark 109 = .ok (.goto 4, 3) := by decide +kernel
theorem dX3_waysOfMark_112 : decode cX3_waysOfMark 112 = .ok (.iconst 0, 1) := by decide +kernel
theorem dX3_waysOfMark_113 : decode cX3_waysOfMark 113 = .ok (.iadd, 1) := by decide +kernel
theorem dX3_waysOfMark_114 : decode cX3_waysOfMark 114 = .ok (.istore 7, 2) := by decide +kernel
theorem dX3_waysOfMark_116 : decode cX3_waysOfMark 116 = .ok (.iload 7, 2) := by decide +kernel
theorem dX3_waysOfMark_118 : decode cX3_waysOfMark 118 = .ok (.ireturn, 1) := by decide +kernel
theorem dX3_bounded_0 : decode cX3_bounded 0 = .ok (.iconst 0, 1) := by decide +kernel
theorem dX3_bounded_1 : decode cX3_bounded 1 = .ok (.iconst 5, 1) := by decide +kernel
theorem dX3_bounded_2 : decode cX3_bounded 2 = .ok (.iload_n 0, 1) := by decide +kernel
theorem dX3_bounded_3 : decode cX3_bounded 3 = .ok (.invokestatic 110, 3) := by decide +kernel
theorem dX3_bounded_6 : decode cX3_bounded 6 = .ok (.invokestatic 115, 3) := by decide +kernel
theorem dX3_bounded_9 : decode cX3_bounded 9 = .ok (.ireturn, 1) := by decide +kernel
theorem dX4_init_0 : decode cX4_init 0 = .ok (.aload_n 0, 1) := by decide +kernel
theorem dX4_init_1 : decode cX4_init 1 = .ok (.invokespecial 3, 3) := by decide +kernel
theorem dX4_init_4 : decode cX4_init 4 = .ok (.aload_n 0, 1) := by decide +kernel
theorem dX4_init_5 : decode cX4_init 5 = .ok (.bipush 6, 2) := by decide +kernel
theorem dX4_init_7 : decode cX4_init 7 = .ok (.newarray .int, 2) := by decide +kernel
theorem dX4_init_9 : decode cX4_init 9 = .ok (.putfield 9, 3) := by decide +kernel
theorem dX4_init_12 : decode cX4_init 12 = .ok (.aload_n 0, 1) := by decide +kernel
theorem dX4_init_13 : decode cX4_init 13 = .ok (.bipush 6, 2) := by decide +kernel
theorem dX4_init_15 : decode cX4_init 15 = .ok (.newarray .int, 2) := by decide +kernel
theorem dX4_init_17 : decode cX4_init 17 = .ok (.putfield 15, 3) := by decide +kernel
theorem dX4_init_20 : decode cX4_init 20 = .ok (.aload_n 0, 1) := by decide +kernel
theorem dX4_init_21 : decode cX4_init 21 = .ok (.bipush 6, 2) := by decide +kernel
theorem dX4_init_23 : decode cX4_init 23 = .ok (.newarray .int, 2) := by decide +kernel
theorem dX4_init_25 : decode cX4_init 25 = .ok (.putfield 18, 3) := by decide +kernel
theorem dX4_init_28 : decode cX4_init 28 = .ok (.aload_n 0, 1) := by decide +kernel
theorem dX4_init_29 : decode cX4_init 29 = .ok (.bipush 6, 2) := by decide +kernel
theorem dX4_init_31 : decode cX4_init 31 = .ok (.newarray .int, 2) := by decide +kernel
theorem dX4_init_33 : decode cX4_init 33 = .ok (.putfield 21, 3) := by decide +kernel
theorem dX4_init_36 : decode cX4_init 36 = .ok (.aload_n 0, 1) := by decide +kernel
theorem dX4_init_37 : decode cX4_init 37 = .ok (.bipush 36, 2) := by decide +kernel
theorem dX4_init_39 : decode cX4_init 39 = .ok (.newarray .int, 2) := by decide +kernel
theorem dX4_init_41 : decode cX4_init 41 = .ok (.putfield 24, 3) := by decide +kernel
theorem dX4_init_44 : decode cX4_init 44 = .ok (.return_, 1) := by decide +kernel
theorem dX4_has_0 : decode cX4_has 0 = .ok (.iload_n 1, 1) := by decide +kernel
theorem dX4_has_1 : decode cX4_has 1 = .ok (.ifCond .lt 15, 3) := by decide +kernel
theorem dX4_has_4 : decode cX4_has 4 = .ok (.iload_n 1, 1) := by decide +kernel
theorem dX4_has_5 : decode cX4_has 5 = .ok (.aload_n 0, 1) := by decide +kernel
theorem dX4_has_6 : decode cX4_has 6 = .ok (.getfield 27, 3) := by decide +kernel
theorem dX4_has_9 : decode cX4_has 9 = .ok (.if_icmp .ge 7, 3) := by decide +kernel
theorem dX4_has_12 : decode cX4_has 12 = .ok (.iconst 1, 1) := by decide +kernel
theorem dX4_has_13 : decode cX4_has 13 = .ok (.goto 4, 3) := by decide +kernel
theorem dX4_has_16 : decode cX4_has 16 = .ok (.iconst 0, 1) := by decide +kernel
theorem dX4_has_17 : decode cX4_has 17 = .ok (.ireturn, 1) := by decide +kernel
theorem dX4_add_0 : decode cX4_add 0 = .ok (.aload_n 0, 1) := by decide +kernel
theorem dX4_add_1 : decode cX4_add 1 = .ok (.getfield 27, 3) := by decide +kernel
theorem dX4_add_4 : decode cX4_add 4 = .ok (.bipush 6, 2) := by decide +kernel
theorem dX4_add_6 : decode cX4_add 6 = .ok (.if_icmp .lt 6, 3) := by decide +kernel
theorem dX4_add_9 : decode cX4_add 9 = .ok (.bipush (-4), 2) := by decide +kernel
theorem dX4_add_11 : decode cX4_add 11 = .ok (.ireturn, 1) := by decide +kernel
theorem dX4_add_12 : decode cX4_add 12 = .ok (.aload_n 0, 1) := by decide +kernel
theorem dX4_add_13 : decode cX4_add 13 = .ok (.getfield 9, 3) := by decide +kernel
theorem dX4_add_16 : decode cX4_add 16 = .ok (.aload_n 0, 1) := by decide +kernel
theorem dX4_add_17 : decode cX4_add 17 = .ok (.getfield 27, 3) := by decide +kernel
theorem dX4_add_20 : decode cX4_add 20 = .ok (.iload_n 1, 1) := by decide +kernel
theorem dX4_add_21 : decode cX4_add 21 = .ok (.iastore, 1) := by decide +kernel
theorem dX4_add_22 : decode cX4_add 22 = .ok (.aload_n 0, 1) := by decide +kernel
theorem dX4_add_23 : decode cX4_add 23 = .ok (.getfield 15, 3) := by decide +kernel
theorem dX4_add_26 : decode cX4_add 26 = .ok (.aload_n 0, 1) := by decide +kernel
theorem dX4_add_27 : decode cX4_add 27 = .ok (.getfield 27, 3) := by decide +kernel
theorem dX4_add_30 : decode cX4_add 30 = .ok (.iload_n 2, 1) := by decide +kernel
theorem dX4_add_31 : decode cX4_add 31 = .ok (.iastore, 1) := by decide +kernel
theorem dX4_add_32 : decode cX4_add 32 = .ok (.aload_n 0, 1) := by decide +kernel
theorem dX4_add_33 : decode cX4_add 33 = .ok (.getfield 21, 3) := by decide +kernel
theorem dX4_add_36 : decode cX4_add 36 = .ok (.aload_n 0, 1) := by decide +kernel
theorem dX4_add_37 : decode cX4_add 37 = .ok (.getfield 27, 3) := by decide +kernel
theorem dX4_add_40 : decode cX4_add 40 = .ok (.bipush (-6), 2) := by decide +kernel
theorem dX4_add_42 : decode cX4_add 42 = .ok (.iastore, 1) := by decide +kernel
