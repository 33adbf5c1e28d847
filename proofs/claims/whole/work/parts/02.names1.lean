theorem dX4_add_43 : decode cX4_add 43 = .ok (.aload_n 0, 1) := by decide +kernel
theorem dX4_add_44 : decode cX4_add 44 = .ok (.dup, 1) := by decide +kernel
theorem dX4_add_45 : decode cX4_add 45 = .ok (.getfield 27, 3) := by decide +kernel
theorem dX4_add_48 : decode cX4_add 48 = .ok (.dup_x1, 1) := by decide +kernel
theorem dX4_add_49 : decode cX4_add 49 = .ok (.iconst 1, 1) := by decide +kernel
theorem dX4_add_50 : decode cX4_add 50 = .ok (.iadd, 1) := by decide +kernel
theorem dX4_add_51 : decode cX4_add 51 = .ok (.putfield 27, 3) := by decide +kernel
theorem dX4_add_54 : decode cX4_add 54 = .ok (.ireturn, 1) := by decide +kernel
theorem dX4_bidOf_0 : decode cX4_bidOf 0 = .ok (.aload_n 0, 1) := by decide +kernel
theorem dX4_bidOf_1 : decode cX4_bidOf 1 = .ok (.getfield 24, 3) := by decide +kernel
theorem dX4_bidOf_4 : decode cX4_bidOf 4 = .ok (.iload_n 1, 1) := by decide +kernel
theorem dX4_bidOf_5 : decode cX4_bidOf 5 = .ok (.bipush 6, 2) := by decide +kernel
theorem dX4_bidOf_7 : decode cX4_bidOf 7 = .ok (.imul, 1) := by decide +kernel
theorem dX4_bidOf_8 : decode cX4_bidOf 8 = .ok (.iload_n 2, 1) := by decide +kernel
theorem dX4_bidOf_9 : decode cX4_bidOf 9 = .ok (.iadd, 1) := by decide +kernel
theorem dX4_bidOf_10 : decode cX4_bidOf 10 = .ok (.iaload, 1) := by decide +kernel
theorem dX4_bidOf_11 : decode cX4_bidOf 11 = .ok (.ireturn, 1) := by decide +kernel
theorem dX4_withoutWriter_0 : decode cX4_withoutWriter 0 = .ok (.aload_n 0, 1) := by decide +kernel
theorem dX4_withoutWriter_1 : decode cX4_withoutWriter 1 = .ok (.getfield 15, 3) := by decide +kernel
theorem dX4_withoutWriter_4 : decode cX4_withoutWriter 4 = .ok (.iload_n 1, 1) := by decide +kernel
theorem dX4_withoutWriter_5 : decode cX4_withoutWriter 5 = .ok (.iaload, 1) := by decide +kernel
theorem dX4_withoutWriter_6 : decode cX4_withoutWriter 6 = .ok (.istore_n 3, 1) := by decide +kernel
theorem dX4_withoutWriter_7 : decode cX4_withoutWriter 7 = .ok (.iload_n 3, 1) := by decide +kernel
theorem dX4_withoutWriter_8 : decode cX4_withoutWriter 8 = .ok (.bipush (-6), 2) := by decide +kernel
theorem dX4_withoutWriter_10 : decode cX4_withoutWriter 10 = .ok (.if_icmp .ne 7, 3) := by decide +kernel
theorem dX4_withoutWriter_13 : decode cX4_withoutWriter 13 = .ok (.iload_n 2, 1) := by decide +kernel
theorem dX4_withoutWriter_14 : decode cX4_withoutWriter 14 = .ok (.goto 10, 3) := by decide +kernel
theorem dX4_withoutWriter_17 : decode cX4_withoutWriter 17 = .ok (.iload_n 2, 1) := by decide +kernel
theorem dX4_withoutWriter_18 : decode cX4_withoutWriter 18 = .ok (.iconst 1, 1) := by decide +kernel
theorem dX4_withoutWriter_19 : decode cX4_withoutWriter 19 = .ok (.iload_n 3, 1) := by decide +kernel
theorem dX4_withoutWriter_20 : decode cX4_withoutWriter 20 = .ok (.ishl, 1) := by decide +kernel
theorem dX4_withoutWriter_21 : decode cX4_withoutWriter 21 = .ok (.iconst (-1), 1) := by decide +kernel
theorem dX4_withoutWriter_22 : decode cX4_withoutWriter 22 = .ok (.ixor, 1) := by decide +kernel
theorem dX4_withoutWriter_23 : decode cX4_withoutWriter 23 = .ok (.iand, 1) := by decide +kernel
theorem dX4_withoutWriter_24 : decode cX4_withoutWriter 24 = .ok (.ireturn, 1) := by decide +kernel
theorem dX5_init_0 : decode cX5_init 0 = .ok (.aload_n 0, 1) := by decide +kernel
theorem dX5_init_1 : decode cX5_init 1 = .ok (.invokespecial 3, 3) := by decide +kernel
theorem dX5_init_4 : decode cX5_init 4 = .ok (.aload_n 0, 1) := by decide +kernel
theorem dX5_init_5 : decode cX5_init 5 = .ok (.bipush 10, 2) := by decide +kernel
theorem dX5_init_7 : decode cX5_init 7 = .ok (.newarray .int, 2) := by decide +kernel
theorem dX5_init_9 : decode cX5_init 9 = .ok (.putfield 11, 3) := by decide +kernel
theorem dX5_init_12 : decode cX5_init 12 = .ok (.aload_n 0, 1) := by decide +kernel
theorem dX5_init_13 : decode cX5_init 13 = .ok (.bipush 10, 2) := by decide +kernel
theorem dX5_init_15 : decode cX5_init 15 = .ok (.newarray .int, 2) := by decide +kernel
theorem dX5_init_17 : decode cX5_init 17 = .ok (.putfield 15, 3) := by decide +kernel
theorem dX5_init_20 : decode cX5_init 20 = .ok (.aload_n 0, 1) := by decide +kernel
theorem dX5_init_21 : decode cX5_init 21 = .ok (.bipush 10, 2) := by decide +kernel
theorem dX5_init_23 : decode cX5_init 23 = .ok (.newarray .int, 2) := by decide +kernel
theorem dX5_init_25 : decode cX5_init 25 = .ok (.putfield 18, 3) := by decide +kernel
theorem dX5_init_28 : decode cX5_init 28 = .ok (.return_, 1) := by decide +kernel
set_option maxRecDepth 20000 in
theorem ggX5_read_X6_after : GoodIn wsX5_read wsX6_after := goodIn_r _ [7, 8, 9, 6, 10, 11, 12, 13] (by decide +kernel) (by decide +kernel)
set_option maxRecDepth 20000 in
theorem gX5_read_X6_after : GoodIn wsX5_read (va_wsS RX5 29 yX6_after wsX6_after) := goodIn_app (goodIn_of _ (by decide +kernel)) ggX5_read_X6_after
set_option maxRecDepth 20000 in
theorem ggX5_read_X5_begin : GoodIn wsX5_read wsX5_begin := goodIn_r _ [18, 19, 1, 20, 21, 26, 27, 28, 29] (by decide +kernel) (by decide +kernel)
set_option maxRecDepth 20000 in
theorem gX5_read_X5_begin : GoodIn wsX5_read (wsV RX5 33 RX5 yX5_begin wsX5_begin) := goodIn_app (goodIn_of _ (by decide +kernel)) ggX5_read_X5_begin
set_option maxRecDepth 20000 in
theorem ggX5_read_X5_goOn : GoodIn wsX5_read wsX5_goOn := goodIn_r _ [25, 20, 21, 26, 27, 28, 29] (by decide +kernel) (by decide +kernel)
set_option maxRecDepth 20000 in
theorem gX5_read_X5_goOn : GoodIn wsX5_read (wsV RX5 37 RX5 yX5_goOn wsX5_goOn) := goodIn_app (goodIn_of _ (by decide +kernel)) ggX5_read_X5_goOn
theorem dX5_read_0 : decode cX5_read 0 = .ok (.iconst 0, 1) := by decide +kernel
theorem dX5_read_1 : decode cX5_read 1 = .ok (.istore_n 2, 1) := by decide +kernel
theorem dX5_read_2 : decode cX5_read 2 = .ok (.aload_n 0, 1) := by decide +kernel
theorem dX5_read_3 : decode cX5_read 3 = .ok (.iconst 0, 1) := by decide +kernel
theorem dX5_read_4 : decode cX5_read 4 = .ok (.putfield 21, 3) := by decide +kernel
theorem dX5_read_7 : decode cX5_read 7 = .ok (.iconst 0, 1) := by decide +kernel
theorem dX5_read_8 : decode cX5_read 8 = .ok (.istore_n 3, 1) := by decide +kernel
theorem dX5_read_9 : decode cX5_read 9 = .ok (.iload_n 3, 1) := by decide +kernel
theorem dX5_read_10 : decode cX5_read 10 = .ok (.aload_n 1, 1) := by decide +kernel
theorem dX5_read_11 : decode cX5_read 11 = .ok (.getfield 25, 3) := by decide +kernel
theorem dX5_read_14 : decode cX5_read 14 = .ok (.if_icmp .ge 70, 3) := by decide +kernel
theorem dX5_read_17 : decode cX5_read 17 = .ok (.aload_n 1, 1) := by decide +kernel
theorem dX5_read_18 : decode cX5_read 18 = .ok (.getfield 26, 3) := by decide +kernel
theorem dX5_read_21 : decode cX5_read 21 = .ok (.iload_n 3, 1) := by decide +kernel
theorem dX5_read_22 : decode cX5_read 22 = .ok (.iaload, 1) := by decide +kernel
theorem dX5_read_23 : decode cX5_read 23 = .ok (.istore 4, 2) := by decide +kernel
theorem dX5_read_25 : decode cX5_read 25 = .ok (.iload_n 2, 1) := by decide +kernel
theorem dX5_read_26 : decode cX5_read 26 = .ok (.iload 4, 2) := by decide +kernel
theorem dX5_read_28 : decode cX5_read 28 = .ok (.invokestatic 29, 3) := by decide +kernel
theorem dX5_read_31 : decode cX5_read 31 = .ok (.istore_n 2, 1) := by decide +kernel
theorem dX5_read_32 : decode cX5_read 32 = .ok (.iload_n 2, 1) := by decide +kernel
theorem dX5_read_33 : decode cX5_read 33 = .ok (.iconst 1, 1) := by decide +kernel
theorem dX5_read_34 : decode cX5_read 34 = .ok (.if_icmp .ne 21, 3) := by decide +kernel
theorem dX5_read_37 : decode cX5_read 37 = .ok (.aload_n 0, 1) := by decide +kernel
theorem dX5_read_38 : decode cX5_read 38 = .ok (.getfield 21, 3) := by decide +kernel
theorem dX5_read_41 : decode cX5_read 41 = .ok (.bipush 10, 2) := by decide +kernel
theorem dX5_read_43 : decode cX5_read 43 = .ok (.if_icmp .ge 12, 3) := by decide +kernel
theorem dX5_read_46 : decode cX5_read 46 = .ok (.aload_n 0, 1) := by decide +kernel
theorem dX5_read_47 : decode cX5_read 47 = .ok (.iload 4, 2) := by decide +kernel
theorem dX5_read_49 : decode cX5_read 49 = .ok (.invokevirtual 33, 3) := by decide +kernel
theorem dX5_read_52 : decode cX5_read 52 = .ok (.goto 26, 3) := by decide +kernel
theorem dX5_read_55 : decode cX5_read 55 = .ok (.aload_n 0, 1) := by decide +kernel
theorem dX5_read_56 : decode cX5_read 56 = .ok (.getfield 21, 3) := by decide +kernel
theorem dX5_read_59 : decode cX5_read 59 = .ok (.ifCond .le 19, 3) := by decide +kernel
theorem dX5_read_62 : decode cX5_read 62 = .ok (.aload_n 0, 1) := by decide +kernel
theorem dX5_read_63 : decode cX5_read 63 = .ok (.aload_n 0, 1) := by decide +kernel
theorem dX5_read_64 : decode cX5_read 64 = .ok (.getfield 21, 3) := by decide +kernel
theorem dX5_read_67 : decode cX5_read 67 = .ok (.iconst 1, 1) := by decide +kernel
theorem dX5_read_68 : decode cX5_read 68 = .ok (.isub, 1) := by decide +kernel
theorem dX5_read_69 : decode cX5_read 69 = .ok (.iload_n 2, 1) := by decide +kernel
theorem dX5_read_70 : decode cX5_read 70 = .ok (.iload 4, 2) := by decide +kernel
theorem dX5_read_72 : decode cX5_read 72 = .ok (.bipush 48, 2) := by decide +kernel
theorem dX5_read_74 : decode cX5_read 74 = .ok (.isub, 1) := by decide +kernel
theorem dX5_read_75 : decode cX5_read 75 = .ok (.invokevirtual 37, 3) := by decide +kernel
theorem dX5_read_78 : decode cX5_read 78 = .ok (.iinc 3 1, 3) := by decide +kernel
theorem dX5_read_81 : decode cX5_read 81 = .ok (.goto (-72), 3) := by decide +kernel
theorem dX5_read_84 : decode cX5_read 84 = .ok (.return_, 1) := by decide +kernel
theorem dX5_begin_0 : decode cX5_begin 0 = .ok (.aload_n 0, 1) := by decide +kernel
theorem dX5_begin_1 : decode cX5_begin 1 = .ok (.getfield 11, 3) := by decide +kernel
theorem dX5_begin_4 : decode cX5_begin 4 = .ok (.aload_n 0, 1) := by decide +kernel
theorem dX5_begin_5 : decode cX5_begin 5 = .ok (.getfield 21, 3) := by decide +kernel
theorem dX5_begin_8 : decode cX5_begin 8 = .ok (.iload_n 1, 1) := by decide +kernel
theorem dX5_begin_9 : decode cX5_begin 9 = .ok (.iastore, 1) := by decide +kernel
theorem dX5_begin_10 : decode cX5_begin 10 = .ok (.aload_n 0, 1) := by decide +kernel
theorem dX5_begin_11 : decode cX5_begin 11 = .ok (.getfield 15, 3) := by decide +kernel
theorem dX5_begin_14 : decode cX5_begin 14 = .ok (.aload_n 0, 1) := by decide +kernel
theorem dX5_begin_15 : decode cX5_begin 15 = .ok (.getfield 21, 3) := by decide +kernel
theorem dX5_begin_18 : decode cX5_begin 18 = .ok (.iconst 0, 1) := by decide +kernel
theorem dX5_begin_19 : decode cX5_begin 19 = .ok (.iastore, 1) := by decide +kernel
theorem dX5_begin_20 : decode cX5_begin 20 = .ok (.aload_n 0, 1) := by decide +kernel
theorem dX5_begin_21 : decode cX5_begin 21 = .ok (.getfield 18, 3) := by decide +kernel
theorem dX5_begin_24 : decode cX5_begin 24 = .ok (.aload_n 0, 1) := by decide +kernel
theorem dX5_begin_25 : decode cX5_begin 25 = .ok (.getfield 21, 3) := by decide +kernel
theorem dX5_begin_28 : decode cX5_begin 28 = .ok (.iconst 4, 1) := by decide +kernel
theorem dX5_begin_29 : decode cX5_begin 29 = .ok (.iastore, 1) := by decide +kernel
theorem dX5_begin_30 : decode cX5_begin 30 = .ok (.aload_n 0, 1) := by decide +kernel
theorem dX5_begin_31 : decode cX5_begin 31 = .ok (.dup, 1) := by decide +kernel
theorem dX5_begin_32 : decode cX5_begin 32 = .ok (.getfield 21, 3) := by decide +kernel
theorem dX5_begin_35 : decode cX5_begin 35 = .ok (.iconst 1, 1) := by decide +kernel
theorem dX5_begin_36 : decode cX5_begin 36 = .ok (.iadd, 1) := by decide +kernel
theorem dX5_begin_37 : decode cX5_begin 37 = .ok (.putfield 21, 3) := by decide +kernel
theorem dX5_begin_40 : decode cX5_begin 40 = .ok (.return_, 1) := by decide +kernel
theorem dX5_goOn_0 : decode cX5_goOn 0 = .ok (.iload_n 2, 1) := by decide +kernel
theorem dX5_goOn_1 : decode cX5_goOn 1 = .ok (.iconst 3, 1) := by decide +kernel
theorem dX5_goOn_2 : decode cX5_goOn 2 = .ok (.if_icmp .eq 8, 3) := by decide +kernel
theorem dX5_goOn_5 : decode cX5_goOn 5 = .ok (.iload_n 2, 1) := by decide +kernel
theorem dX5_goOn_6 : decode cX5_goOn 6 = .ok (.iconst 4, 1) := by decide +kernel
theorem dX5_goOn_7 : decode cX5_goOn 7 = .ok (.if_icmp .ne 23, 3) := by decide +kernel
theorem dX5_goOn_10 : decode cX5_goOn 10 = .ok (.aload_n 0, 1) := by decide +kernel
theorem dX5_goOn_11 : decode cX5_goOn 11 = .ok (.getfield 15, 3) := by decide +kernel
theorem dX5_goOn_14 : decode cX5_goOn 14 = .ok (.iload_n 1, 1) := by decide +kernel
theorem dX5_goOn_15 : decode cX5_goOn 15 = .ok (.bipush 10, 2) := by decide +kernel
theorem dX5_goOn_17 : decode cX5_goOn 17 = .ok (.aload_n 0, 1) := by decide +kernel
theorem dX5_goOn_18 : decode cX5_goOn 18 = .ok (.getfield 15, 3) := by decide +kernel
theorem dX5_goOn_21 : decode cX5_goOn 21 = .ok (.iload_n 1, 1) := by decide +kernel
theorem dX5_goOn_22 : decode cX5_goOn 22 = .ok (.iaload, 1) := by decide +kernel
theorem dX5_goOn_23 : decode cX5_goOn 23 = .ok (.imul, 1) := by decide +kernel
theorem dX5_goOn_24 : decode cX5_goOn 24 = .ok (.iload_n 3, 1) := by decide +kernel
theorem dX5_goOn_25 : decode cX5_goOn 25 = .ok (.iadd, 1) := by decide +kernel
theorem dX5_goOn_26 : decode cX5_goOn 26 = .ok (.iastore, 1) := by decide +kernel
theorem dX5_goOn_27 : decode cX5_goOn 27 = .ok (.goto 16, 3) := by decide +kernel
theorem dX5_goOn_30 : decode cX5_goOn 30 = .ok (.iload_n 2, 1) := by decide +kernel
theorem dX5_goOn_31 : decode cX5_goOn 31 = .ok (.bipush 6, 2) := by decide +kernel
theorem dX5_goOn_33 : decode cX5_goOn 33 = .ok (.if_icmp .ne 10, 3) := by decide +kernel
theorem dX5_goOn_36 : decode cX5_goOn 36 = .ok (.aload_n 0, 1) := by decide +kernel
theorem dX5_goOn_37 : decode cX5_goOn 37 = .ok (.getfield 18, 3) := by decide +kernel
theorem dX5_goOn_40 : decode cX5_goOn 40 = .ok (.iload_n 1, 1) := by decide +kernel
theorem dX5_goOn_41 : decode cX5_goOn 41 = .ok (.iload_n 3, 1) := by decide +kernel
theorem dX5_goOn_42 : decode cX5_goOn 42 = .ok (.iastore, 1) := by decide +kernel
theorem dX5_goOn_43 : decode cX5_goOn 43 = .ok (.return_, 1) := by decide +kernel
set_option maxRecDepth 20000 in
theorem ggX5_quarters_X7_tenths : GoodIn wsX5_quarters wsX7_tenths := goodIn_r _ [10, 11, 12, 13, 14, 15, 9, 16, 17, 18, 19, 20] (by decide +kernel) (by decide +kernel)
set_option maxRecDepth 20000 in
theorem gX5_quarters_X7_tenths : GoodIn wsX5_quarters (wsV RX5 44 RX7 yX7_tenths wsX7_tenths) := goodIn_app (goodIn_of _ (by decide +kernel)) ggX5_quarters_X7_tenths
theorem dX5_quarters_0 : decode cX5_quarters 0 = .ok (.aload_n 1, 1) := by decide +kernel
theorem dX5_quarters_1 : decode cX5_quarters 1 = .ok (.getfield 41, 3) := by decide +kernel
theorem dX5_quarters_4 : decode cX5_quarters 4 = .ok (.ifCond .gt 5, 3) := by decide +kernel
theorem dX5_quarters_7 : decode cX5_quarters 7 = .ok (.iconst 0, 1) := by decide +kernel
theorem dX5_quarters_8 : decode cX5_quarters 8 = .ok (.ireturn, 1) := by decide +kernel
theorem dX5_quarters_9 : decode cX5_quarters 9 = .ok (.iconst 0, 1) := by decide +kernel
theorem dX5_quarters_10 : decode cX5_quarters 10 = .ok (.istore_n 2, 1) := by decide +kernel
theorem dX5_quarters_11 : decode cX5_quarters 11 = .ok (.iload_n 2, 1) := by decide +kernel
theorem dX5_quarters_12 : decode cX5_quarters 12 = .ok (.aload_n 0, 1) := by decide +kernel
theorem dX5_quarters_13 : decode cX5_quarters 13 = .ok (.getfield 21, 3) := by decide +kernel
theorem dX5_quarters_16 : decode cX5_quarters 16 = .ok (.if_icmp .ge 35, 3) := by decide +kernel
theorem dX5_quarters_19 : decode cX5_quarters 19 = .ok (.aload_n 1, 1) := by decide +kernel
theorem dX5_quarters_20 : decode cX5_quarters 20 = .ok (.aload_n 0, 1) := by decide +kernel
theorem dX5_quarters_21 : decode cX5_quarters 21 = .ok (.getfield 11, 3) := by decide +kernel
theorem dX5_quarters_24 : decode cX5_quarters 24 = .ok (.iload_n 2, 1) := by decide +kernel
theorem dX5_quarters_25 : decode cX5_quarters 25 = .ok (.iaload, 1) := by decide +kernel
theorem dX5_quarters_26 : decode cX5_quarters 26 = .ok (.invokevirtual 44, 3) := by decide +kernel
theorem dX5_quarters_29 : decode cX5_quarters 29 = .ok (.aload_n 0, 1) := by decide +kernel
theorem dX5_quarters_30 : decode cX5_quarters 30 = .ok (.getfield 15, 3) := by decide +kernel
theorem dX5_quarters_33 : decode cX5_quarters 33 = .ok (.iload_n 2, 1) := by decide +kernel
theorem dX5_quarters_34 : decode cX5_quarters 34 = .ok (.iaload, 1) := by decide +kernel
theorem dX5_quarters_35 : decode cX5_quarters 35 = .ok (.if_icmp .le 10, 3) := by decide +kernel
theorem dX5_quarters_38 : decode cX5_quarters 38 = .ok (.aload_n 0, 1) := by decide +kernel
theorem dX5_quarters_39 : decode cX5_quarters 39 = .ok (.getfield 18, 3) := by decide +kernel
theorem dX5_quarters_42 : decode cX5_quarters 42 = .ok (.iload_n 2, 1) := by decide +kernel
theorem dX5_quarters_43 : decode cX5_quarters 43 = .ok (.iaload, 1) := by decide +kernel
theorem dX5_quarters_44 : decode cX5_quarters 44 = .ok (.ireturn, 1) := by decide +kernel
theorem dX5_quarters_45 : decode cX5_quarters 45 = .ok (.iinc 2 1, 3) := by decide +kernel
theorem dX5_quarters_48 : decode cX5_quarters 48 = .ok (.goto (-37), 3) := by decide +kernel
theorem dX5_quarters_51 : decode cX5_quarters 51 = .ok (.iconst 0, 1) := by decide +kernel
theorem dX5_quarters_52 : decode cX5_quarters 52 = .ok (.ireturn, 1) := by decide +kernel
theorem dX6_init_0 : decode cX6_init 0 = .ok (.aload_n 0, 1) := by decide +kernel
theorem dX6_init_1 : decode cX6_init 1 = .ok (.invokespecial 3, 3) := by decide +kernel
theorem dX6_init_4 : decode cX6_init 4 = .ok (.aload_n 0, 1) := by decide +kernel
theorem dX6_init_5 : decode cX6_init 5 = .ok (.bipush 40, 2) := by decide +kernel
theorem dX6_init_7 : decode cX6_init 7 = .ok (.newarray .int, 2) := by decide +kernel
theorem dX6_init_9 : decode cX6_init 9 = .ok (.putfield 11, 3) := by decide +kernel
theorem dX6_init_12 : decode cX6_init 12 = .ok (.return_, 1) := by decide +kernel
theorem dX6_add_0 : decode cX6_add 0 = .ok (.aload_n 0, 1) := by decide +kernel
theorem dX6_add_1 : decode cX6_add 1 = .ok (.getfield 15, 3) := by decide +kernel
theorem dX6_add_4 : decode cX6_add 4 = .ok (.bipush 40, 2) := by decide +kernel
theorem dX6_add_6 : decode cX6_add 6 = .ok (.if_icmp .lt 6, 3) := by decide +kernel
theorem dX6_add_9 : decode cX6_add 9 = .ok (.bipush (-4), 2) := by decide +kernel
theorem dX6_add_11 : decode cX6_add 11 = .ok (.ireturn, 1) := by decide +kernel
theorem dX6_add_12 : decode cX6_add 12 = .ok (.aload_n 0, 1) := by decide +kernel
theorem dX6_add_13 : decode cX6_add 13 = .ok (.getfield 11, 3) := by decide +kernel
theorem dX6_add_16 : decode cX6_add 16 = .ok (.aload_n 0, 1) := by decide +kernel
theorem dX6_add_17 : decode cX6_add 17 = .ok (.getfield 15, 3) := by decide +kernel
theorem dX6_add_20 : decode cX6_add 20 = .ok (.iload_n 1, 1) := by decide +kernel
theorem dX6_add_21 : decode cX6_add 21 = .ok (.iastore, 1) := by decide +kernel
theorem dX6_add_22 : decode cX6_add 22 = .ok (.aload_n 0, 1) := by decide +kernel
theorem dX6_add_23 : decode cX6_add 23 = .ok (.dup, 1) := by decide +kernel
theorem dX6_add_24 : decode cX6_add 24 = .ok (.getfield 15, 3) := by decide +kernel
theorem dX6_add_27 : decode cX6_add 27 = .ok (.iconst 1, 1) := by decide +kernel
theorem dX6_add_28 : decode cX6_add 28 = .ok (.iadd, 1) := by decide +kernel
theorem dX6_add_29 : decode cX6_add 29 = .ok (.putfield 15, 3) := by decide +kernel
theorem dX6_add_32 : decode cX6_add 32 = .ok (.aload_n 0, 1) := by decide +kernel
theorem dX6_add_33 : decode cX6_add 33 = .ok (.getfield 15, 3) := by decide +kernel
theorem dX6_add_36 : decode cX6_add 36 = .ok (.ireturn, 1) := by decide +kernel
theorem dX6_clear_0 : decode cX6_clear 0 = .ok (.aload_n 0, 1) := by decide +kernel
theorem dX6_clear_1 : decode cX6_clear 1 = .ok (.getfield 15, 3) := by decide +kernel
theorem dX6_clear_4 : decode cX6_clear 4 = .ok (.istore_n 1, 1) := by decide +kernel
theorem dX6_clear_5 : decode cX6_clear 5 = .ok (.aload_n 0, 1) := by decide +kernel
theorem dX6_clear_6 : decode cX6_clear 6 = .ok (.iconst 0, 1) := by decide +kernel
theorem dX6_clear_7 : decode cX6_clear 7 = .ok (.putfield 15, 3) := by decide +kernel
theorem dX6_clear_10 : decode cX6_clear 10 = .ok (.iload_n 1, 1) := by decide +kernel
theorem dX6_clear_11 : decode cX6_clear 11 = .ok (.ireturn, 1) := by decide +kernel
set_option maxRecDepth 20000 in
theorem ggX6_firstFault_X6_after : GoodIn wsX6_firstFault wsX6_after := goodIn_r _ [6, 7, 8, 5, 9, 10, 11, 12] (by decide +kernel) (by decide +kernel)
set_option maxRecDepth 20000 in
theorem gX6_firstFault_X6_after : GoodIn wsX6_firstFault (va_wsS RX6 19 yX6_after wsX6_after) := goodIn_app (goodIn_of _ (by decide +kernel)) ggX6_firstFault_X6_after
set_option maxRecDepth 20000 in
theorem ggX6_firstFault_X6_mayEnd : GoodIn wsX6_firstFault wsX6_mayEnd := goodIn_r _ [15] (by decide +kernel) (by decide +kernel)
set_option maxRecDepth 20000 in
theorem gX6_firstFault_X6_mayEnd : GoodIn wsX6_firstFault (va_wsS RX6 23 yX6_mayEnd wsX6_mayEnd) := goodIn_app (goodIn_of _ (by decide +kernel)) ggX6_firstFault_X6_mayEnd
theorem dX6_firstFault_0 : decode cX6_firstFault 0 = .ok (.iconst 0, 1) := by decide +kernel
theorem dX6_firstFault_1 : decode cX6_firstFault 1 = .ok (.istore_n 1, 1) := by decide +kernel
theorem dX6_firstFault_2 : decode cX6_firstFault 2 = .ok (.iconst 0, 1) := by decide +kernel
theorem dX6_firstFault_3 : decode cX6_firstFault 3 = .ok (.istore_n 2, 1) := by decide +kernel
theorem dX6_firstFault_4 : decode cX6_firstFault 4 = .ok (.iload_n 2, 1) := by decide +kernel
theorem dX6_firstFault_5 : decode cX6_firstFault 5 = .ok (.aload_n 0, 1) := by decide +kernel
theorem dX6_firstFault_6 : decode cX6_firstFault 6 = .ok (.getfield 15, 3) := by decide +kernel
theorem dX6_firstFault_9 : decode cX6_firstFault 9 = .ok (.if_icmp .ge 27, 3) := by decide +kernel
theorem dX6_firstFault_12 : decode cX6_firstFault 12 = .ok (.iload_n 1, 1) := by decide +kernel
theorem dX6_firstFault_13 : decode cX6_firstFault 13 = .ok (.aload_n 0, 1) := by decide +kernel
theorem dX6_firstFault_14 : decode cX6_firstFault 14 = .ok (.getfield 11, 3) := by decide +kernel
theorem dX6_firstFault_17 : decode cX6_firstFault 17 = .ok (.iload_n 2, 1) := by decide +kernel
theorem dX6_firstFault_18 : decode cX6_firstFault 18 = .ok (.iaload, 1) := by decide +kernel
theorem dX6_firstFault_19 : decode cX6_firstFault 19 = .ok (.invokestatic 19, 3) := by decide +kernel
theorem dX6_firstFault_22 : decode cX6_firstFault 22 = .ok (.istore_n 1, 1) := by decide +kernel
theorem dX6_firstFault_23 : decode cX6_firstFault 23 = .ok (.iload_n 1, 1) := by decide +kernel
theorem dX6_firstFault_24 : decode cX6_firstFault 24 = .ok (.iconst (-1), 1) := by decide +kernel
theorem dX6_firstFault_25 : decode cX6_firstFault 25 = .ok (.if_icmp .ne 5, 3) := by decide +kernel
theorem dX6_firstFault_28 : decode cX6_firstFault 28 = .ok (.iload_n 2, 1) := by decide +kernel
theorem dX6_firstFault_29 : decode cX6_firstFault 29 = .ok (.ireturn, 1) := by decide +kernel
theorem dX6_firstFault_30 : decode cX6_firstFault 30 = .ok (.iinc 2 1, 3) := by decide +kernel
theorem dX6_firstFault_33 : decode cX6_firstFault 33 = .ok (.goto (-29), 3) := by decide +kernel
theorem dX6_firstFault_36 : decode cX6_firstFault 36 = .ok (.iload_n 1, 1) := by decide +kernel
theorem dX6_firstFault_37 : decode cX6_firstFault 37 = .ok (.invokestatic 23, 3) := by decide +kernel
theorem dX6_firstFault_40 : decode cX6_firstFault 40 = .ok (.ifCond .eq 8, 3) := by decide +kernel
theorem dX6_firstFault_43 : decode cX6_firstFault 43 = .ok (.bipush (-6), 2) := by decide +kernel
theorem dX6_firstFault_45 : decode cX6_firstFault 45 = .ok (.goto 7, 3) := by decide +kernel
theorem dX6_firstFault_48 : decode cX6_firstFault 48 = .ok (.aload_n 0, 1) := by decide +kernel
theorem dX6_firstFault_49 : decode cX6_firstFault 49 = .ok (.getfield 15, 3) := by decide +kernel
theorem dX6_firstFault_52 : decode cX6_firstFault 52 = .ok (.ireturn, 1) := by decide +kernel
theorem dX6_mayEnd_0 : decode cX6_mayEnd 0 = .ok (.iload_n 0, 1) := by decide +kernel
theorem dX6_mayEnd_1 : decode cX6_mayEnd 1 = .ok (.iconst 3, 1) := by decide +kernel
theorem dX6_mayEnd_2 : decode cX6_mayEnd 2 = .ok (.if_icmp .eq 14, 3) := by decide +kernel
theorem dX6_mayEnd_5 : decode cX6_mayEnd 5 = .ok (.iload_n 0, 1) := by decide +kernel
theorem dX6_mayEnd_6 : decode cX6_mayEnd 6 = .ok (.iconst 4, 1) := by decide +kernel
theorem dX6_mayEnd_7 : decode cX6_mayEnd 7 = .ok (.if_icmp .eq 9, 3) := by decide +kernel
theorem dX6_mayEnd_10 : decode cX6_mayEnd 10 = .ok (.iload_n 0, 1) := by decide +kernel
theorem dX6_mayEnd_11 : decode cX6_mayEnd 11 = .ok (.bipush 6, 2) := by decide +kernel
theorem dX6_mayEnd_13 : decode cX6_mayEnd 13 = .ok (.if_icmp .ne 7, 3) := by decide +kernel
theorem dX6_mayEnd_16 : decode cX6_mayEnd 16 = .ok (.iconst 1, 1) := by decide +kernel
theorem dX6_mayEnd_17 : decode cX6_mayEnd 17 = .ok (.goto 4, 3) := by decide +kernel
theorem dX6_mayEnd_20 : decode cX6_mayEnd 20 = .ok (.iconst 0, 1) := by decide +kernel
theorem dX6_mayEnd_21 : decode cX6_mayEnd 21 = .ok (.ireturn, 1) := by decide +kernel
set_option maxRecDepth 20000 in
theorem ggX6_after_X6_isDigit : GoodIn wsX6_after wsX6_isDigit := goodIn_r _ [4] (by decide +kernel) (by decide +kernel)
set_option maxRecDepth 20000 in
theorem gX6_after_X6_isDigit : GoodIn wsX6_after (va_wsS RX6 27 yX6_isDigit wsX6_isDigit) := goodIn_app (goodIn_of _ (by decide +kernel)) ggX6_after_X6_isDigit
set_option maxRecDepth 20000 in
theorem ggX6_after_X6_afterNumber : GoodIn wsX6_after wsX6_afterNumber := goodIn_r _ [7] (by decide +kernel) (by decide +kernel)
set_option maxRecDepth 20000 in
theorem gX6_after_X6_afterNumber : GoodIn wsX6_after (va_wsS RX6 30 yX6_afterNumber wsX6_afterNumber) := goodIn_app (goodIn_of _ (by decide +kernel)) ggX6_after_X6_afterNumber
theorem dX6_after_0 : decode cX6_after 0 = .ok (.iload_n 0, 1) := by decide +kernel
theorem dX6_after_1 : decode cX6_after 1 = .ok (.tableswitch 150 0 6 #[43, 73, 85, 98, 114, 119, 138], 43) := by decide +kernel
theorem dX6_after_44 : decode cX6_after 44 = .ok (.iload_n 1, 1) := by decide +kernel
theorem dX6_after_45 : decode cX6_after 45 = .ok (.bipush 97, 2) := by decide +kernel
theorem dX6_after_47 : decode cX6_after 47 = .ok (.if_icmp .eq 21, 3) := by decide +kernel
theorem dX6_after_50 : decode cX6_after 50 = .ok (.iload_n 1, 1) := by decide +kernel
theorem dX6_after_51 : decode cX6_after 51 = .ok (.bipush 109, 2) := by decide +kernel
theorem dX6_after_53 : decode cX6_after 53 = .ok (.if_icmp .eq 15, 3) := by decide +kernel
theorem dX6_after_56 : decode cX6_after 56 = .ok (.iload_n 1, 1) := by decide +kernel
theorem dX6_after_57 : decode cX6_after 57 = .ok (.bipush 108, 2) := by decide +kernel
theorem dX6_after_59 : decode cX6_after 59 = .ok (.if_icmp .eq 9, 3) := by decide +kernel
theorem dX6_after_62 : decode cX6_after 62 = .ok (.iload_n 1, 1) := by decide +kernel
theorem dX6_after_63 : decode cX6_after 63 = .ok (.bipush 103, 2) := by decide +kernel
theorem dX6_after_65 : decode cX6_after 65 = .ok (.if_icmp .ne 7, 3) := by decide +kernel
theorem dX6_after_68 : decode cX6_after 68 = .ok (.iconst 1, 1) := by decide +kernel
theorem dX6_after_69 : decode cX6_after 69 = .ok (.goto 4, 3) := by decide +kernel
theorem dX6_after_72 : decode cX6_after 72 = .ok (.iconst (-1), 1) := by decide +kernel
theorem dX6_after_73 : decode cX6_after 73 = .ok (.ireturn, 1) := by decide +kernel
theorem dX6_after_74 : decode cX6_after 74 = .ok (.iload_n 1, 1) := by decide +kernel
theorem dX6_after_75 : decode cX6_after 75 = .ok (.bipush 62, 2) := by decide +kernel
theorem dX6_after_77 : decode cX6_after 77 = .ok (.if_icmp .ne 7, 3) := by decide +kernel
theorem dX6_after_80 : decode cX6_after 80 = .ok (.iconst 2, 1) := by decide +kernel
theorem dX6_after_81 : decode cX6_after 81 = .ok (.goto 4, 3) := by decide +kernel
theorem dX6_after_84 : decode cX6_after 84 = .ok (.iconst (-1), 1) := by decide +kernel
theorem dX6_after_85 : decode cX6_after 85 = .ok (.ireturn, 1) := by decide +kernel
theorem dX6_after_86 : decode cX6_after 86 = .ok (.iload_n 1, 1) := by decide +kernel
theorem dX6_after_87 : decode cX6_after 87 = .ok (.invokestatic 27, 3) := by decide +kernel
theorem dX6_after_90 : decode cX6_after 90 = .ok (.ifCond .eq 7, 3) := by decide +kernel
theorem dX6_after_93 : decode cX6_after 93 = .ok (.iconst 3, 1) := by decide +kernel
theorem dX6_after_94 : decode cX6_after 94 = .ok (.goto 4, 3) := by decide +kernel
theorem dX6_after_97 : decode cX6_after 97 = .ok (.iconst (-1), 1) := by decide +kernel
theorem dX6_after_98 : decode cX6_after 98 = .ok (.ireturn, 1) := by decide +kernel
theorem dX6_after_99 : decode cX6_after 99 = .ok (.iload_n 1, 1) := by decide +kernel
theorem dX6_after_100 : decode cX6_after 100 = .ok (.invokestatic 27, 3) := by decide +kernel
theorem dX6_after_103 : decode cX6_after 103 = .ok (.ifCond .eq 7, 3) := by decide +kernel
theorem dX6_after_106 : decode cX6_after 106 = .ok (.iconst 4, 1) := by decide +kernel
theorem dX6_after_107 : decode cX6_after 107 = .ok (.goto 7, 3) := by decide +kernel
theorem dX6_after_110 : decode cX6_after 110 = .ok (.iload_n 1, 1) := by decide +kernel
theorem dX6_after_111 : decode cX6_after 111 = .ok (.invokestatic 30, 3) := by decide +kernel
theorem dX6_after_114 : decode cX6_after 114 = .ok (.ireturn, 1) := by decide +kernel
theorem dX6_after_115 : decode cX6_after 115 = .ok (.iload_n 1, 1) := by decide +kernel
theorem dX6_after_116 : decode cX6_after 116 = .ok (.invokestatic 30, 3) := by decide +kernel
theorem dX6_after_119 : decode cX6_after 119 = .ok (.ireturn, 1) := by decide +kernel
theorem dX6_after_120 : decode cX6_after 120 = .ok (.iload_n 1, 1) := by decide +kernel
theorem dX6_after_121 : decode cX6_after 121 = .ok (.bipush 49, 2) := by decide +kernel
theorem dX6_after_123 : decode cX6_after 123 = .ok (.if_icmp .lt 14, 3) := by decide +kernel
theorem dX6_after_126 : decode cX6_after 126 = .ok (.iload_n 1, 1) := by decide +kernel
theorem dX6_after_127 : decode cX6_after 127 = .ok (.bipush 51, 2) := by decide +kernel
theorem dX6_after_129 : decode cX6_after 129 = .ok (.if_icmp .gt 8, 3) := by decide +kernel
theorem dX6_after_132 : decode cX6_after 132 = .ok (.bipush 6, 2) := by decide +kernel
theorem dX6_after_134 : decode cX6_after 134 = .ok (.goto 4, 3) := by decide +kernel
theorem dX6_after_137 : decode cX6_after 137 = .ok (.iconst (-1), 1) := by decide +kernel
theorem dX6_after_138 : decode cX6_after 138 = .ok (.ireturn, 1) := by decide +kernel
theorem dX6_after_139 : decode cX6_after 139 = .ok (.iload_n 1, 1) := by decide +kernel
theorem dX6_after_140 : decode cX6_after 140 = .ok (.bipush 59, 2) := by decide +kernel
theorem dX6_after_142 : decode cX6_after 142 = .ok (.if_icmp .ne 7, 3) := by decide +kernel
theorem dX6_after_145 : decode cX6_after 145 = .ok (.iconst 0, 1) := by decide +kernel
theorem dX6_after_146 : decode cX6_after 146 = .ok (.goto 4, 3) := by decide +kernel
theorem dX6_after_149 : decode cX6_after 149 = .ok (.iconst (-1), 1) := by decide +kernel
theorem dX6_after_150 : decode cX6_after 150 = .ok (.ireturn, 1) := by decide +kernel
theorem dX6_after_151 : decode cX6_after 151 = .ok (.iconst (-1), 1) := by decide +kernel
theorem dX6_after_152 : decode cX6_after 152 = .ok (.ireturn, 1) := by decide +kernel
theorem dX6_isDigit_0 : decode cX6_isDigit 0 = .ok (.iload_n 0, 1) := by decide +kernel
theorem dX6_isDigit_1 : decode cX6_isDigit 1 = .ok (.bipush 48, 2) := by decide +kernel
theorem dX6_isDigit_3 : decode cX6_isDigit 3 = .ok (.if_icmp .lt 13, 3) := by decide +kernel
theorem dX6_isDigit_6 : decode cX6_isDigit 6 = .ok (.iload_n 0, 1) := by decide +kernel
theorem dX6_isDigit_7 : decode cX6_isDigit 7 = .ok (.bipush 57, 2) := by decide +kernel
theorem dX6_isDigit_9 : decode cX6_isDigit 9 = .ok (.if_icmp .gt 7, 3) := by decide +kernel
theorem dX6_isDigit_12 : decode cX6_isDigit 12 = .ok (.iconst 1, 1) := by decide +kernel
theorem dX6_isDigit_13 : decode cX6_isDigit 13 = .ok (.goto 4, 3) := by decide +kernel
theorem dX6_isDigit_16 : decode cX6_isDigit 16 = .ok (.iconst 0, 1) := by decide +kernel
theorem dX6_isDigit_17 : decode cX6_isDigit 17 = .ok (.ireturn, 1) := by decide +kernel
theorem dX6_afterNumber_0 : decode cX6_afterNumber 0 = .ok (.iload_n 0, 1) := by decide +kernel
theorem dX6_afterNumber_1 : decode cX6_afterNumber 1 = .ok (.bipush 63, 2) := by decide +kernel
theorem dX6_afterNumber_3 : decode cX6_afterNumber 3 = .ok (.if_icmp .ne 5, 3) := by decide +kernel
theorem dX6_afterNumber_6 : decode cX6_afterNumber 6 = .ok (.iconst 5, 1) := by decide +kernel
theorem dX6_afterNumber_7 : decode cX6_afterNumber 7 = .ok (.ireturn, 1) := by decide +kernel
theorem dX6_afterNumber_8 : decode cX6_afterNumber 8 = .ok (.iload_n 0, 1) := by decide +kernel
theorem dX6_afterNumber_9 : decode cX6_afterNumber 9 = .ok (.bipush 59, 2) := by decide +kernel
theorem dX6_afterNumber_11 : decode cX6_afterNumber 11 = .ok (.if_icmp .ne 7, 3) := by decide +kernel
theorem dX6_afterNumber_14 : decode cX6_afterNumber 14 = .ok (.iconst 0, 1) := by decide +kernel
theorem dX6_afterNumber_15 : decode cX6_afterNumber 15 = .ok (.goto 4, 3) := by decide +kernel
theorem dX6_afterNumber_18 : decode cX6_afterNumber 18 = .ok (.iconst (-1), 1) := by decide +kernel
theorem dX6_afterNumber_19 : decode cX6_afterNumber 19 = .ok (.ireturn, 1) := by decide +kernel
theorem dX7_init_0 : decode cX7_init 0 = .ok (.aload_n 0, 1) := by decide +kernel
theorem dX7_init_1 : decode cX7_init 1 = .ok (.invokespecial 3, 3) := by decide +kernel
theorem dX7_init_4 : decode cX7_init 4 = .ok (.aload_n 0, 1) := by decide +kernel
theorem dX7_init_5 : decode cX7_init 5 = .ok (.bipush 6, 2) := by decide +kernel
theorem dX7_init_7 : decode cX7_init 7 = .ok (.newarray .int, 2) := by decide +kernel
theorem dX7_init_9 : decode cX7_init 9 = .ok (.putfield 9, 3) := by decide +kernel
theorem dX7_init_12 : decode cX7_init 12 = .ok (.return_, 1) := by decide +kernel
set_option maxRecDepth 20000 in
theorem ggX7_clear_J7_fill_53178 : GoodIn wsX7_clear wsJ7_fill_53178 := goodIn_r _ [7] (by decide +kernel) (by decide +kernel)
set_option maxRecDepth 20000 in
theorem gX7_clear_J7_fill_53178 : GoodIn wsX7_clear (va_wsS RX7 15 yJ7_fill_53178 wsJ7_fill_53178) := goodIn_app (goodIn_of _ (by decide +kernel)) ggX7_clear_J7_fill_53178
theorem dX7_clear_0 : decode cX7_clear 0 = .ok (.aload_n 0, 1) := by decide +kernel
theorem dX7_clear_1 : decode cX7_clear 1 = .ok (.getfield 9, 3) := by decide +kernel
theorem dX7_clear_4 : decode cX7_clear 4 = .ok (.iconst 0, 1) := by decide +kernel
theorem dX7_clear_5 : decode cX7_clear 5 = .ok (.invokestatic 15, 3) := by decide +kernel
theorem dX7_clear_8 : decode cX7_clear 8 = .ok (.aload_n 0, 1) := by decide +kernel
theorem dX7_clear_9 : decode cX7_clear 9 = .ok (.iconst 0, 1) := by decide +kernel
theorem dX7_clear_10 : decode cX7_clear 10 = .ok (.putfield 21, 3) := by decide +kernel
theorem dX7_clear_13 : decode cX7_clear 13 = .ok (.aload_n 0, 1) := by decide +kernel
theorem dX7_clear_14 : decode cX7_clear 14 = .ok (.iconst 0, 1) := by decide +kernel
theorem dX7_clear_15 : decode cX7_clear 15 = .ok (.putfield 25, 3) := by decide +kernel
theorem dX7_clear_18 : decode cX7_clear 18 = .ok (.return_, 1) := by decide +kernel
theorem dX7_put_0 : decode cX7_put 0 = .ok (.aload_n 0, 1) := by decide +kernel
theorem dX7_put_1 : decode cX7_put 1 = .ok (.getfield 9, 3) := by decide +kernel
theorem dX7_put_4 : decode cX7_put 4 = .ok (.iload_n 1, 1) := by decide +kernel
theorem dX7_put_5 : decode cX7_put 5 = .ok (.dup2, 1) := by decide +kernel
theorem dX7_put_6 : decode cX7_put 6 = .ok (.iaload, 1) := by decide +kernel
theorem dX7_put_7 : decode cX7_put 7 = .ok (.iload_n 2, 1) := by decide +kernel
theorem dX7_put_8 : decode cX7_put 8 = .ok (.iadd, 1) := by decide +kernel
theorem dX7_put_9 : decode cX7_put 9 = .ok (.iastore, 1) := by decide +kernel
theorem dX7_put_10 : decode cX7_put 10 = .ok (.aload_n 0, 1) := by decide +kernel
theorem dX7_put_11 : decode cX7_put 11 = .ok (.dup, 1) := by decide +kernel
theorem dX7_put_12 : decode cX7_put 12 = .ok (.getfield 21, 3) := by decide +kernel
theorem dX7_put_15 : decode cX7_put 15 = .ok (.iload_n 2, 1) := by decide +kernel
theorem dX7_put_16 : decode cX7_put 16 = .ok (.iadd, 1) := by decide +kernel
theorem dX7_put_17 : decode cX7_put 17 = .ok (.putfield 21, 3) := by decide +kernel
theorem dX7_put_20 : decode cX7_put 20 = .ok (.aload_n 0, 1) := by decide +kernel
theorem dX7_put_21 : decode cX7_put 21 = .ok (.dup, 1) := by decide +kernel
theorem dX7_put_22 : decode cX7_put 22 = .ok (.getfield 25, 3) := by decide +kernel
theorem dX7_put_25 : decode cX7_put 25 = .ok (.iload_n 1, 1) := by decide +kernel
theorem dX7_put_26 : decode cX7_put 26 = .ok (.iload_n 2, 1) := by decide +kernel
theorem dX7_put_27 : decode cX7_put 27 = .ok (.imul, 1) := by decide +kernel
theorem dX7_put_28 : decode cX7_put 28 = .ok (.iadd, 1) := by decide +kernel
theorem dX7_put_29 : decode cX7_put 29 = .ok (.putfield 25, 3) := by decide +kernel
theorem dX7_put_32 : decode cX7_put 32 = .ok (.return_, 1) := by decide +kernel
set_option maxRecDepth 20000 in
theorem ggX7_tenths_X7_fromBelow : GoodIn wsX7_tenths wsX7_fromBelow := goodIn_r _ [7, 8, 9, 10, 11] (by decide +kernel) (by decide +kernel)
set_option maxRecDepth 20000 in
theorem gX7_tenths_X7_fromBelow : GoodIn wsX7_tenths (wsV RX7 28 RX7 yX7_fromBelow wsX7_fromBelow) := goodIn_app (goodIn_of _ (by decide +kernel)) ggX7_tenths_X7_fromBelow
theorem dX7_tenths_0 : decode cX7_tenths 0 = .ok (.iload_n 1, 1) := by decide +kernel
theorem dX7_tenths_1 : decode cX7_tenths 1 = .ok (.lookupswitch 84 #[(97, 35), (108, 75), (109, 59)], 35) := by decide +kernel
theorem dX7_tenths_36 : decode cX7_tenths 36 = .ok (.aload_n 0, 1) := by decide +kernel
theorem dX7_tenths_37 : decode cX7_tenths 37 = .ok (.getfield 21, 3) := by decide +kernel
theorem dX7_tenths_40 : decode cX7_tenths 40 = .ok (.ifCond .le 18, 3) := by decide +kernel
theorem dX7_tenths_43 : decode cX7_tenths 43 = .ok (.bipush 10, 2) := by decide +kernel
theorem dX7_tenths_45 : decode cX7_tenths 45 = .ok (.aload_n 0, 1) := by decide +kernel
theorem dX7_tenths_46 : decode cX7_tenths 46 = .ok (.getfield 25, 3) := by decide +kernel
theorem dX7_tenths_49 : decode cX7_tenths 49 = .ok (.imul, 1) := by decide +kernel
theorem dX7_tenths_50 : decode cX7_tenths 50 = .ok (.aload_n 0, 1) := by decide +kernel
theorem dX7_tenths_51 : decode cX7_tenths 51 = .ok (.getfield 21, 3) := by decide +kernel
theorem dX7_tenths_54 : decode cX7_tenths 54 = .ok (.idiv, 1) := by decide +kernel
theorem dX7_tenths_55 : decode cX7_tenths 55 = .ok (.goto 4, 3) := by decide +kernel
theorem dX7_tenths_58 : decode cX7_tenths 58 = .ok (.iconst 0, 1) := by decide +kernel
theorem dX7_tenths_59 : decode cX7_tenths 59 = .ok (.ireturn, 1) := by decide +kernel
theorem dX7_tenths_60 : decode cX7_tenths 60 = .ok (.bipush 10, 2) := by decide +kernel
theorem dX7_tenths_62 : decode cX7_tenths 62 = .ok (.aload_n 0, 1) := by decide +kernel
theorem dX7_tenths_63 : decode cX7_tenths 63 = .ok (.aload_n 0, 1) := by decide +kernel
theorem dX7_tenths_64 : decode cX7_tenths 64 = .ok (.getfield 21, 3) := by decide +kernel
theorem dX7_tenths_67 : decode cX7_tenths 67 = .ok (.iconst 1, 1) := by decide +kernel
theorem dX7_tenths_68 : decode cX7_tenths 68 = .ok (.isub, 1) := by decide +kernel
theorem dX7_tenths_69 : decode cX7_tenths 69 = .ok (.iconst 2, 1) := by decide +kernel
theorem dX7_tenths_70 : decode cX7_tenths 70 = .ok (.idiv, 1) := by decide +kernel
theorem dX7_tenths_71 : decode cX7_tenths 71 = .ok (.invokevirtual 28, 3) := by decide +kernel
theorem dX7_tenths_74 : decode cX7_tenths 74 = .ok (.imul, 1) := by decide +kernel
theorem dX7_tenths_75 : decode cX7_tenths 75 = .ok (.ireturn, 1) := by decide +kernel
theorem dX7_tenths_76 : decode cX7_tenths 76 = .ok (.bipush 10, 2) := by decide +kernel
theorem dX7_tenths_78 : decode cX7_tenths 78 = .ok (.aload_n 0, 1) := by decide +kernel
theorem dX7_tenths_79 : decode cX7_tenths 79 = .ok (.iconst 0, 1) := by decide +kernel
theorem dX7_tenths_80 : decode cX7_tenths 80 = .ok (.invokevirtual 28, 3) := by decide +kernel
theorem dX7_tenths_83 : decode cX7_tenths 83 = .ok (.imul, 1) := by decide +kernel
theorem dX7_tenths_84 : decode cX7_tenths 84 = .ok (.ireturn, 1) := by decide +kernel
theorem dX7_tenths_85 : decode cX7_tenths 85 = .ok (.bipush 10, 2) := by decide +kernel
theorem dX7_tenths_87 : decode cX7_tenths 87 = .ok (.aload_n 0, 1) := by decide +kernel
theorem dX7_tenths_88 : decode cX7_tenths 88 = .ok (.aload_n 0, 1) := by decide +kernel
theorem dX7_tenths_89 : decode cX7_tenths 89 = .ok (.getfield 21, 3) := by decide +kernel
theorem dX7_tenths_92 : decode cX7_tenths 92 = .ok (.iconst 1, 1) := by decide +kernel
theorem dX7_tenths_93 : decode cX7_tenths 93 = .ok (.isub, 1) := by decide +kernel
theorem dX7_tenths_94 : decode cX7_tenths 94 = .ok (.invokevirtual 28, 3) := by decide +kernel
theorem dX7_tenths_97 : decode cX7_tenths 97 = .ok (.imul, 1) := by decide +kernel
theorem dX7_tenths_98 : decode cX7_tenths 98 = .ok (.ireturn, 1) := by decide +kernel
theorem dX7_fromBelow_0 : decode cX7_fromBelow 0 = .ok (.iconst 0, 1) := by decide +kernel
theorem dX7_fromBelow_1 : decode cX7_fromBelow 1 = .ok (.istore_n 2, 1) := by decide +kernel
theorem dX7_fromBelow_2 : decode cX7_fromBelow 2 = .ok (.iconst 0, 1) := by decide +kernel
theorem dX7_fromBelow_3 : decode cX7_fromBelow 3 = .ok (.istore_n 3, 1) := by decide +kernel
theorem dX7_fromBelow_4 : decode cX7_fromBelow 4 = .ok (.iload_n 3, 1) := by decide +kernel
theorem dX7_fromBelow_5 : decode cX7_fromBelow 5 = .ok (.iconst 5, 1) := by decide +kernel
theorem dX7_fromBelow_6 : decode cX7_fromBelow 6 = .ok (.if_icmp .ge 25, 3) := by decide +kernel
theorem dX7_fromBelow_9 : decode cX7_fromBelow 9 = .ok (.iload_n 2, 1) := by decide +kernel
theorem dX7_fromBelow_10 : decode cX7_fromBelow 10 = .ok (.aload_n 0, 1) := by decide +kernel
theorem dX7_fromBelow_11 : decode cX7_fromBelow 11 = .ok (.getfield 9, 3) := by decide +kernel
theorem dX7_fromBelow_14 : decode cX7_fromBelow 14 = .ok (.iload_n 3, 1) := by decide +kernel
theorem dX7_fromBelow_15 : decode cX7_fromBelow 15 = .ok (.iaload, 1) := by decide +kernel
theorem dX7_fromBelow_16 : decode cX7_fromBelow 16 = .ok (.iadd, 1) := by decide +kernel
theorem dX7_fromBelow_17 : decode cX7_fromBelow 17 = .ok (.istore_n 2, 1) := by decide +kernel
theorem dX7_fromBelow_18 : decode cX7_fromBelow 18 = .ok (.iload_n 2, 1) := by decide +kernel
theorem dX7_fromBelow_19 : decode cX7_fromBelow 19 = .ok (.iload_n 1, 1) := by decide +kernel
theorem dX7_fromBelow_20 : decode cX7_fromBelow 20 = .ok (.if_icmp .le 5, 3) := by decide +kernel
theorem dX7_fromBelow_23 : decode cX7_fromBelow 23 = .ok (.iload_n 3, 1) := by decide +kernel
theorem dX7_fromBelow_24 : decode cX7_fromBelow 24 = .ok (.ireturn, 1) := by decide +kernel
theorem dX7_fromBelow_25 : decode cX7_fromBelow 25 = .ok (.iinc 3 1, 3) := by decide +kernel
theorem dX7_fromBelow_28 : decode cX7_fromBelow 28 = .ok (.goto (-24), 3) := by decide +kernel
theorem dX7_fromBelow_31 : decode cX7_fromBelow 31 = .ok (.iconst 5, 1) := by decide +kernel
theorem dX7_fromBelow_32 : decode cX7_fromBelow 32 = .ok (.ireturn, 1) := by decide +kernel
set_option maxRecDepth 20000 in
theorem ggX8_init_X0_init : GoodIn wsX8_init wsX0_init := goodIn_r _ [33, 34, 2, 3, 35, 36, 37, 38, 39, 99, 100, 101, 102, 103] (by decide +kernel) (by decide +kernel)
set_option maxRecDepth 20000 in
theorem gX8_init_X0_init_n9 : GoodIn wsX8_init (wsX0_init) := ggX8_init_X0_init
set_option maxRecDepth 20000 in
theorem ggX8_init_X4_init : GoodIn wsX8_init wsX4_init := goodIn_r _ [41, 42, 2, 3, 35, 43, 44, 45, 46, 47, 111, 112, 113, 114, 115, 116] (by decide +kernel) (by decide +kernel)
set_option maxRecDepth 20000 in
theorem gX8_init_X4_init_n18 : GoodIn wsX8_init (wsX4_init) := ggX8_init_X4_init
set_option maxRecDepth 20000 in
theorem ggX8_init_X1_init : GoodIn wsX8_init wsX1_init := goodIn_r _ [50, 51, 2, 3, 35, 52, 53, 54, 55, 56, 57, 58, 59, 60, 61, 62, 63, 64, 117, 118, 139, 140, 141] (by decide +kernel) (by decide +kernel)
set_option maxRecDepth 20000 in
theorem gX8_init_X1_init : GoodIn wsX8_init (wsX1_init) := ggX8_init_X1_init
set_option maxRecDepth 20000 in
theorem ggX8_init_X6_init : GoodIn wsX8_init wsX6_init := goodIn_r _ [66, 67, 2, 3, 35, 68, 119, 120] (by decide +kernel) (by decide +kernel)
set_option maxRecDepth 20000 in
theorem gX8_init_X6_init_n32 : GoodIn wsX8_init (wsX6_init) := ggX8_init_X6_init
set_option maxRecDepth 20000 in
theorem ggX8_init_X5_init : GoodIn wsX8_init wsX5_init := goodIn_r _ [70, 71, 2, 3, 35, 72, 73, 74, 121, 122, 123, 124] (by decide +kernel) (by decide +kernel)
set_option maxRecDepth 20000 in
theorem gX8_init_X5_init_n39 : GoodIn wsX8_init (wsX5_init) := ggX8_init_X5_init
set_option maxRecDepth 20000 in
theorem ggX8_init_X3_init : GoodIn wsX8_init wsX3_init := goodIn_r _ [77, 78, 2, 3, 79, 54, 55, 80, 35, 81, 82, 83, 84, 57, 58, 59, 60, 139, 140, 141, 125, 126, 127, 128, 129] (by decide +kernel) (by decide +kernel)
set_option maxRecDepth 20000 in
theorem gX8_init_X3_init : GoodIn wsX8_init (wsX3_init) := ggX8_init_X3_init
set_option maxRecDepth 20000 in
theorem ggX8_init_X2_init : GoodIn wsX8_init wsX2_init := goodIn_r _ [87, 88, 2, 3, 35, 89, 90, 91, 92, 93, 94, 95, 96, 97, 98, 130, 131, 132, 133, 134, 135, 136, 137, 138] (by decide +kernel) (by decide +kernel)
set_option maxRecDepth 20000 in
theorem gX8_init_X2_init : GoodIn wsX8_init (wsX2_init) := ggX8_init_X2_init
theorem dX8_init_0 : decode cX8_init 0 = .ok (.aload_n 0, 1) := by decide +kernel
theorem dX8_init_1 : decode cX8_init 1 = .ok (.invokespecial 1, 3) := by decide +kernel
theorem dX8_init_4 : decode cX8_init 4 = .ok (.aload_n 0, 1) := by decide +kernel
theorem dX8_init_5 : decode cX8_init 5 = .ok (.new 7, 3) := by decide +kernel
theorem dX8_init_8 : decode cX8_init 8 = .ok (.dup, 1) := by decide +kernel
theorem dX8_init_9 : decode cX8_init 9 = .ok (.invokespecial 9, 3) := by decide +kernel
theorem dX8_init_12 : decode cX8_init 12 = .ok (.putfield 10, 3) := by decide +kernel
theorem dX8_init_15 : decode cX8_init 15 = .ok (.aload_n 0, 1) := by decide +kernel
theorem dX8_init_16 : decode cX8_init 16 = .ok (.new 16, 3) := by decide +kernel
theorem dX8_init_19 : decode cX8_init 19 = .ok (.dup, 1) := by decide +kernel
theorem dX8_init_20 : decode cX8_init 20 = .ok (.invokespecial 18, 3) := by decide +kernel
theorem dX8_init_23 : decode cX8_init 23 = .ok (.putfield 19, 3) := by decide +kernel
theorem dX8_init_26 : decode cX8_init 26 = .ok (.aload_n 0, 1) := by decide +kernel
theorem dX8_init_27 : decode cX8_init 27 = .ok (.new 23, 3) := by decide +kernel
theorem dX8_init_30 : decode cX8_init 30 = .ok (.dup, 1) := by decide +kernel
theorem dX8_init_31 : decode cX8_init 31 = .ok (.invokespecial 25, 3) := by decide +kernel
theorem dX8_init_34 : decode cX8_init 34 = .ok (.putfield 26, 3) := by decide +kernel
theorem dX8_init_37 : decode cX8_init 37 = .ok (.aload_n 0, 1) := by decide +kernel
theorem dX8_init_38 : decode cX8_init 38 = .ok (.new 30, 3) := by decide +kernel
theorem dX8_init_41 : decode cX8_init 41 = .ok (.dup, 1) := by decide +kernel
theorem dX8_init_42 : decode cX8_init 42 = .ok (.invokespecial 32, 3) := by decide +kernel
theorem dX8_init_45 : decode cX8_init 45 = .ok (.putfield 33, 3) := by decide +kernel
theorem dX8_init_48 : decode cX8_init 48 = .ok (.aload_n 0, 1) := by decide +kernel
theorem dX8_init_49 : decode cX8_init 49 = .ok (.new 37, 3) := by decide +kernel
theorem dX8_init_52 : decode cX8_init 52 = .ok (.dup, 1) := by decide +kernel
theorem dX8_init_53 : decode cX8_init 53 = .ok (.invokespecial 39, 3) := by decide +kernel
theorem dX8_init_56 : decode cX8_init 56 = .ok (.putfield 40, 3) := by decide +kernel
theorem dX8_init_59 : decode cX8_init 59 = .ok (.aload_n 0, 1) := by decide +kernel
theorem dX8_init_60 : decode cX8_init 60 = .ok (.new 44, 3) := by decide +kernel
theorem dX8_init_63 : decode cX8_init 63 = .ok (.dup, 1) := by decide +kernel
theorem dX8_init_64 : decode cX8_init 64 = .ok (.aload_n 0, 1) := by decide +kernel
theorem dX8_init_65 : decode cX8_init 65 = .ok (.getfield 10, 3) := by decide +kernel
theorem dX8_init_68 : decode cX8_init 68 = .ok (.aload_n 0, 1) := by decide +kernel
theorem dX8_init_69 : decode cX8_init 69 = .ok (.getfield 19, 3) := by decide +kernel
theorem dX8_init_72 : decode cX8_init 72 = .ok (.aload_n 0, 1) := by decide +kernel
theorem dX8_init_73 : decode cX8_init 73 = .ok (.getfield 40, 3) := by decide +kernel
theorem dX8_init_76 : decode cX8_init 76 = .ok (.invokespecial 46, 3) := by decide +kernel
theorem dX8_init_79 : decode cX8_init 79 = .ok (.putfield 49, 3) := by decide +kernel
theorem dX8_init_82 : decode cX8_init 82 = .ok (.aload_n 0, 1) := by decide +kernel
theorem dX8_init_83 : decode cX8_init 83 = .ok (.new 53, 3) := by decide +kernel
theorem dX8_init_86 : decode cX8_init 86 = .ok (.dup, 1) := by decide +kernel
theorem dX8_init_87 : decode cX8_init 87 = .ok (.aload_n 0, 1) := by decide +kernel
theorem dX8_init_88 : decode cX8_init 88 = .ok (.getfield 10, 3) := by decide +kernel
theorem dX8_init_91 : decode cX8_init 91 = .ok (.aload_n 0, 1) := by decide +kernel
theorem dX8_init_92 : decode cX8_init 92 = .ok (.getfield 19, 3) := by decide +kernel
theorem dX8_init_95 : decode cX8_init 95 = .ok (.invokespecial 55, 3) := by decide +kernel
theorem dX8_init_98 : decode cX8_init 98 = .ok (.putfield 58, 3) := by decide +kernel
theorem dX8_init_101 : decode cX8_init 101 = .ok (.return_, 1) := by decide +kernel
set_option maxRecDepth 20000 in
theorem ggX8_judge_X8_within : GoodIn wsX8_judge wsX8_within := goodIn_r _ [5] (by decide +kernel) (by decide +kernel)
set_option maxRecDepth 20000 in
theorem gX8_judge_X8_within : GoodIn wsX8_judge (va_wsS RX8 62 yX8_within wsX8_within) := goodIn_app (goodIn_of _ (by decide +kernel)) ggX8_judge_X8_within
set_option maxRecDepth 20000 in
theorem ggX8_judge_X0_add : GoodIn wsX8_judge wsX0_add := goodIn_r _ [10, 11, 12, 13, 21, 22, 23, 24, 25] (by decide +kernel) (by decide +kernel)
set_option maxRecDepth 20000 in
theorem gX8_judge_X0_add : GoodIn wsX8_judge (wsV RX8 66 RX0 yX0_add wsX0_add) := goodIn_app (goodIn_of _ (by decide +kernel)) ggX8_judge_X0_add
theorem dX8_judge_0 : decode cX8_judge 0 = .ok (.iload_n 1, 1) := by decide +kernel
theorem dX8_judge_1 : decode cX8_judge 1 = .ok (.bipush (-2), 2) := by decide +kernel
theorem dX8_judge_3 : decode cX8_judge 3 = .ok (.iconst 2, 1) := by decide +kernel
theorem dX8_judge_4 : decode cX8_judge 4 = .ok (.invokestatic 62, 3) := by decide +kernel
theorem dX8_judge_7 : decode cX8_judge 7 = .ok (.ifCond .eq 12, 3) := by decide +kernel
theorem dX8_judge_10 : decode cX8_judge 10 = .ok (.iload_n 2, 1) := by decide +kernel
theorem dX8_judge_11 : decode cX8_judge 11 = .ok (.iconst 0, 1) := by decide +kernel
theorem dX8_judge_12 : decode cX8_judge 12 = .ok (.iconst 2, 1) := by decide +kernel
theorem dX8_judge_13 : decode cX8_judge 13 = .ok (.invokestatic 62, 3) := by decide +kernel
theorem dX8_judge_16 : decode cX8_judge 16 = .ok (.ifCond .ne 6, 3) := by decide +kernel
theorem dX8_judge_19 : decode cX8_judge 19 = .ok (.bipush (-2), 2) := by decide +kernel
theorem dX8_judge_21 : decode cX8_judge 21 = .ok (.ireturn, 1) := by decide +kernel
theorem dX8_judge_22 : decode cX8_judge 22 = .ok (.aload_n 0, 1) := by decide +kernel
theorem dX8_judge_23 : decode cX8_judge 23 = .ok (.getfield 10, 3) := by decide +kernel
theorem dX8_judge_26 : decode cX8_judge 26 = .ok (.iload_n 1, 1) := by decide +kernel
theorem dX8_judge_27 : decode cX8_judge 27 = .ok (.iload_n 2, 1) := by decide +kernel
theorem dX8_judge_28 : decode cX8_judge 28 = .ok (.invokevirtual 66, 3) := by decide +kernel
theorem dX8_judge_31 : decode cX8_judge 31 = .ok (.ireturn, 1) := by decide +kernel
set_option maxRecDepth 20000 in
theorem ggX8_paper_X0_has : GoodIn wsX8_paper wsX0_has := goodIn_r _ [7, 8, 29, 30, 31, 32, 33] (by decide +kernel) (by decide +kernel)
set_option maxRecDepth 20000 in
theorem gX8_paper_X0_has : GoodIn wsX8_paper (wsV RX8 70 RX0 yX0_has wsX0_has) := goodIn_app (goodIn_of _ (by decide +kernel)) ggX8_paper_X0_has
set_option maxRecDepth 20000 in
theorem ggX8_paper_X8_within : GoodIn wsX8_paper wsX8_within := goodIn_r _ [12] (by decide +kernel) (by decide +kernel)
set_option maxRecDepth 20000 in
theorem gX8_paper_X8_within : GoodIn wsX8_paper (va_wsS RX8 62 yX8_within wsX8_within) := goodIn_app (goodIn_of _ (by decide +kernel)) ggX8_paper_X8_within
set_option maxRecDepth 20000 in
theorem ggX8_paper_X4_add : GoodIn wsX8_paper wsX4_add := goodIn_r _ [17, 18, 19, 20, 21, 34, 35, 36, 37, 38, 39] (by decide +kernel) (by decide +kernel)
set_option maxRecDepth 20000 in
theorem gX8_paper_X4_add : GoodIn wsX8_paper (wsV RX8 74 RX4 yX4_add wsX4_add) := goodIn_app (goodIn_of _ (by decide +kernel)) ggX8_paper_X4_add
theorem dX8_paper_0 : decode cX8_paper 0 = .ok (.iload_n 2, 1) := by decide +kernel
theorem dX8_paper_1 : decode cX8_paper 1 = .ok (.bipush (-6), 2) := by decide +kernel
theorem dX8_paper_3 : decode cX8_paper 3 = .ok (.if_icmp .eq 16, 3) := by decide +kernel
theorem dX8_paper_6 : decode cX8_paper 6 = .ok (.aload_n 0, 1) := by decide +kernel
theorem dX8_paper_7 : decode cX8_paper 7 = .ok (.getfield 10, 3) := by decide +kernel
theorem dX8_paper_10 : decode cX8_paper 10 = .ok (.iload_n 2, 1) := by decide +kernel
theorem dX8_paper_11 : decode cX8_paper 11 = .ok (.invokevirtual 70, 3) := by decide +kernel
theorem dX8_paper_14 : decode cX8_paper 14 = .ok (.ifCond .ne 5, 3) := by decide +kernel
theorem dX8_paper_17 : decode cX8_paper 17 = .ok (.iconst (-1), 1) := by decide +kernel
theorem dX8_paper_18 : decode cX8_paper 18 = .ok (.ireturn, 1) := by decide +kernel
theorem dX8_paper_19 : decode cX8_paper 19 = .ok (.iload_n 1, 1) := by decide +kernel
theorem dX8_paper_20 : decode cX8_paper 20 = .ok (.iconst 0, 1) := by decide +kernel
theorem dX8_paper_21 : decode cX8_paper 21 = .ok (.iconst 5, 1) := by decide +kernel
theorem dX8_paper_22 : decode cX8_paper 22 = .ok (.invokestatic 62, 3) := by decide +kernel
theorem dX8_paper_25 : decode cX8_paper 25 = .ok (.ifCond .ne 6, 3) := by decide +kernel
theorem dX8_paper_28 : decode cX8_paper 28 = .ok (.bipush (-2), 2) := by decide +kernel
theorem dX8_paper_30 : decode cX8_paper 30 = .ok (.ireturn, 1) := by decide +kernel
theorem dX8_paper_31 : decode cX8_paper 31 = .ok (.aload_n 0, 1) := by decide +kernel
theorem dX8_paper_32 : decode cX8_paper 32 = .ok (.getfield 19, 3) := by decide +kernel
theorem dX8_paper_35 : decode cX8_paper 35 = .ok (.iload_n 1, 1) := by decide +kernel
theorem dX8_paper_36 : decode cX8_paper 36 = .ok (.iload_n 2, 1) := by decide +kernel
theorem dX8_paper_37 : decode cX8_paper 37 = .ok (.invokevirtual 74, 3) := by decide +kernel
theorem dX8_paper_40 : decode cX8_paper 40 = .ok (.ireturn, 1) := by decide +kernel
set_option maxRecDepth 20000 in
theorem ggX8_tie_X0_has : GoodIn wsX8_tie wsX0_has := goodIn_r _ [6, 7, 29, 30, 31, 32, 33] (by decide +kernel) (by decide +kernel)
set_option maxRecDepth 20000 in
theorem gX8_tie_X0_has : GoodIn wsX8_tie (wsV RX8 70 RX0 yX0_has wsX0_has) := goodIn_app (goodIn_of _ (by decide +kernel)) ggX8_tie_X0_has
set_option maxRecDepth 20000 in
theorem ggX8_tie_X8_within : GoodIn wsX8_tie wsX8_within := goodIn_r _ [11] (by decide +kernel) (by decide +kernel)
set_option maxRecDepth 20000 in
theorem gX8_tie_X8_within : GoodIn wsX8_tie (va_wsS RX8 62 yX8_within wsX8_within) := goodIn_app (goodIn_of _ (by decide +kernel)) ggX8_tie_X8_within
set_option maxRecDepth 20000 in
theorem ggX8_tie_X0_tieOf : GoodIn wsX8_tie wsX0_tieOf := goodIn_r _ [15, 16, 17, 3, 4, 5, 6, 7, 29, 30, 31, 32, 33] (by decide +kernel) (by decide +kernel)
set_option maxRecDepth 20000 in
theorem gX8_tie_X0_tieOf : GoodIn wsX8_tie (wsV RX8 75 RX0 yX0_tieOf wsX0_tieOf) := goodIn_app (goodIn_of _ (by decide +kernel)) ggX8_tie_X0_tieOf
set_option maxRecDepth 20000 in
theorem ggX8_tie_X0_putTie : GoodIn wsX8_tie wsX0_putTie := goodIn_r _ [21, 16, 29, 30, 31, 32, 33] (by decide +kernel) (by decide +kernel)
set_option maxRecDepth 20000 in
theorem gX8_tie_X0_putTie : GoodIn wsX8_tie (wsV RX8 78 RX0 yX0_putTie wsX0_putTie) := goodIn_app (goodIn_of _ (by decide +kernel)) ggX8_tie_X0_putTie
theorem dX8_tie_0 : decode cX8_tie 0 = .ok (.aload_n 0, 1) := by decide +kernel
theorem dX8_tie_1 : decode cX8_tie 1 = .ok (.getfield 10, 3) := by decide +kernel
theorem dX8_tie_4 : decode cX8_tie 4 = .ok (.iload_n 1, 1) := by decide +kernel
theorem dX8_tie_5 : decode cX8_tie 5 = .ok (.invokevirtual 70, 3) := by decide +kernel
theorem dX8_tie_8 : decode cX8_tie 8 = .ok (.ifCond .eq 19, 3) := by decide +kernel
theorem dX8_tie_11 : decode cX8_tie 11 = .ok (.aload_n 0, 1) := by decide +kernel
theorem dX8_tie_12 : decode cX8_tie 12 = .ok (.getfield 10, 3) := by decide +kernel
theorem dX8_tie_15 : decode cX8_tie 15 = .ok (.iload_n 2, 1) := by decide +kernel
theorem dX8_tie_16 : decode cX8_tie 16 = .ok (.invokevirtual 70, 3) := by decide +kernel
theorem dX8_tie_19 : decode cX8_tie 19 = .ok (.ifCond .eq 8, 3) := by decide +kernel
theorem dX8_tie_22 : decode cX8_tie 22 = .ok (.iload_n 1, 1) := by decide +kernel
theorem dX8_tie_23 : decode cX8_tie 23 = .ok (.iload_n 2, 1) := by decide +kernel
theorem dX8_tie_24 : decode cX8_tie 24 = .ok (.if_icmp .ne 5, 3) := by decide +kernel
theorem dX8_tie_27 : decode cX8_tie 27 = .ok (.iconst (-1), 1) := by decide +kernel
theorem dX8_tie_28 : decode cX8_tie 28 = .ok (.ireturn, 1) := by decide +kernel
theorem dX8_tie_29 : decode cX8_tie 29 = .ok (.iload_n 3, 1) := by decide +kernel
theorem dX8_tie_30 : decode cX8_tie 30 = .ok (.iconst (-1), 1) := by decide +kernel
theorem dX8_tie_31 : decode cX8_tie 31 = .ok (.iconst 1, 1) := by decide +kernel
theorem dX8_tie_32 : decode cX8_tie 32 = .ok (.invokestatic 62, 3) := by decide +kernel
theorem dX8_tie_35 : decode cX8_tie 35 = .ok (.ifCond .ne 6, 3) := by decide +kernel
theorem dX8_tie_38 : decode cX8_tie 38 = .ok (.bipush (-2), 2) := by decide +kernel
theorem dX8_tie_40 : decode cX8_tie 40 = .ok (.ireturn, 1) := by decide +kernel
theorem dX8_tie_41 : decode cX8_tie 41 = .ok (.aload_n 0, 1) := by decide +kernel
theorem dX8_tie_42 : decode cX8_tie 42 = .ok (.getfield 10, 3) := by decide +kernel
theorem dX8_tie_45 : decode cX8_tie 45 = .ok (.iload_n 1, 1) := by decide +kernel
theorem dX8_tie_46 : decode cX8_tie 46 = .ok (.iload_n 2, 1) := by decide +kernel
theorem dX8_tie_47 : decode cX8_tie 47 = .ok (.invokevirtual 75, 3) := by decide +kernel
theorem dX8_tie_50 : decode cX8_tie 50 = .ok (.istore 4, 2) := by decide +kernel
theorem dX8_tie_52 : decode cX8_tie 52 = .ok (.aload_n 0, 1) := by decide +kernel
theorem dX8_tie_53 : decode cX8_tie 53 = .ok (.getfield 10, 3) := by decide +kernel
theorem dX8_tie_56 : decode cX8_tie 56 = .ok (.iload_n 1, 1) := by decide +kernel
theorem dX8_tie_57 : decode cX8_tie 57 = .ok (.iload_n 2, 1) := by decide +kernel
theorem dX8_tie_58 : decode cX8_tie 58 = .ok (.iload_n 3, 1) := by decide +kernel
theorem dX8_tie_59 : decode cX8_tie 59 = .ok (.invokevirtual 78, 3) := by decide +kernel
theorem dX8_tie_62 : decode cX8_tie 62 = .ok (.iload 4, 2) := by decide +kernel
theorem dX8_tie_64 : decode cX8_tie 64 = .ok (.bipush 10, 2) := by decide +kernel
theorem dX8_tie_66 : decode cX8_tie 66 = .ok (.iadd, 1) := by decide +kernel
theorem dX8_tie_67 : decode cX8_tie 67 = .ok (.ireturn, 1) := by decide +kernel
set_option maxRecDepth 20000 in
theorem ggX8_mark_X0_has : GoodIn wsX8_mark wsX0_has := goodIn_r _ [10, 11, 40, 41, 42, 43, 44] (by decide +kernel) (by decide +kernel)
set_option maxRecDepth 20000 in
theorem gX8_mark_X0_has : GoodIn wsX8_mark (wsV RX8 70 RX0 yX0_has wsX0_has) := goodIn_app (goodIn_of _ (by decide +kernel)) ggX8_mark_X0_has
set_option maxRecDepth 20000 in
theorem ggX8_mark_X4_has : GoodIn wsX8_mark wsX4_has := goodIn_r _ [16, 17, 32, 33, 34, 35, 36, 37] (by decide +kernel) (by decide +kernel)
set_option maxRecDepth 20000 in
theorem gX8_mark_X4_has : GoodIn wsX8_mark (wsV RX8 82 RX4 yX4_has wsX4_has) := goodIn_app (goodIn_of _ (by decide +kernel)) ggX8_mark_X4_has
set_option maxRecDepth 20000 in
theorem ggX8_mark_X8_within : GoodIn wsX8_mark wsX8_within := goodIn_r _ [21] (by decide +kernel) (by decide +kernel)
set_option maxRecDepth 20000 in
theorem gX8_mark_X8_within : GoodIn wsX8_mark (va_wsS RX8 62 yX8_within wsX8_within) := goodIn_app (goodIn_of _ (by decide +kernel)) ggX8_mark_X8_within
set_option maxRecDepth 20000 in
theorem ggX8_mark_X8_replace : GoodIn wsX8_mark wsX8_replace := goodIn_r _ [24] (by decide +kernel) (by decide +kernel)
set_option maxRecDepth 20000 in
theorem gX8_mark_X8_replace : GoodIn wsX8_mark (va_wsS RX8 90 yX8_replace wsX8_replace) := goodIn_app (goodIn_of _ (by decide +kernel)) ggX8_mark_X8_replace
theorem dX8_mark_0 : decode cX8_mark 0 = .ok (.aload_n 0, 1) := by decide +kernel
theorem dX8_mark_1 : decode cX8_mark 1 = .ok (.getfield 10, 3) := by decide +kernel
theorem dX8_mark_4 : decode cX8_mark 4 = .ok (.iload_n 1, 1) := by decide +kernel
theorem dX8_mark_5 : decode cX8_mark 5 = .ok (.invokevirtual 70, 3) := by decide +kernel
theorem dX8_mark_8 : decode cX8_mark 8 = .ok (.ifCond .eq 14, 3) := by decide +kernel
theorem dX8_mark_11 : decode cX8_mark 11 = .ok (.aload_n 0, 1) := by decide +kernel
theorem dX8_mark_12 : decode cX8_mark 12 = .ok (.getfield 19, 3) := by decide +kernel
theorem dX8_mark_15 : decode cX8_mark 15 = .ok (.iload_n 2, 1) := by decide +kernel
theorem dX8_mark_16 : decode cX8_mark 16 = .ok (.invokevirtual 82, 3) := by decide +kernel
theorem dX8_mark_19 : decode cX8_mark 19 = .ok (.ifCond .ne 5, 3) := by decide +kernel
theorem dX8_mark_22 : decode cX8_mark 22 = .ok (.iconst (-1), 1) := by decide +kernel
theorem dX8_mark_23 : decode cX8_mark 23 = .ok (.ireturn, 1) := by decide +kernel
theorem dX8_mark_24 : decode cX8_mark 24 = .ok (.iload_n 3, 1) := by decide +kernel
theorem dX8_mark_25 : decode cX8_mark 25 = .ok (.iconst (-1), 1) := by decide +kernel
theorem dX8_mark_26 : decode cX8_mark 26 = .ok (.iconst 5, 1) := by decide +kernel
theorem dX8_mark_27 : decode cX8_mark 27 = .ok (.invokestatic 62, 3) := by decide +kernel
theorem dX8_mark_30 : decode cX8_mark 30 = .ok (.ifCond .ne 6, 3) := by decide +kernel
theorem dX8_mark_33 : decode cX8_mark 33 = .ok (.bipush (-2), 2) := by decide +kernel
theorem dX8_mark_35 : decode cX8_mark 35 = .ok (.ireturn, 1) := by decide +kernel
theorem dX8_mark_36 : decode cX8_mark 36 = .ok (.aload_n 0, 1) := by decide +kernel
theorem dX8_mark_37 : decode cX8_mark 37 = .ok (.getfield 19, 3) := by decide +kernel
theorem dX8_mark_40 : decode cX8_mark 40 = .ok (.getfield 83, 3) := by decide +kernel
theorem dX8_mark_43 : decode cX8_mark 43 = .ok (.iload_n 2, 1) := by decide +kernel
theorem dX8_mark_44 : decode cX8_mark 44 = .ok (.iaload, 1) := by decide +kernel
theorem dX8_mark_45 : decode cX8_mark 45 = .ok (.iload_n 1, 1) := by decide +kernel
theorem dX8_mark_46 : decode cX8_mark 46 = .ok (.if_icmp .ne 6, 3) := by decide +kernel
theorem dX8_mark_49 : decode cX8_mark 49 = .ok (.bipush (-5), 2) := by decide +kernel
theorem dX8_mark_51 : decode cX8_mark 51 = .ok (.ireturn, 1) := by decide +kernel
theorem dX8_mark_52 : decode cX8_mark 52 = .ok (.aload_n 0, 1) := by decide +kernel
theorem dX8_mark_53 : decode cX8_mark 53 = .ok (.getfield 26, 3) := by decide +kernel
theorem dX8_mark_56 : decode cX8_mark 56 = .ok (.getfield 87, 3) := by decide +kernel
theorem dX8_mark_59 : decode cX8_mark 59 = .ok (.iload_n 1, 1) := by decide +kernel
theorem dX8_mark_60 : decode cX8_mark 60 = .ok (.bipush 6, 2) := by decide +kernel
theorem dX8_mark_62 : decode cX8_mark 62 = .ok (.imul, 1) := by decide +kernel
theorem dX8_mark_63 : decode cX8_mark 63 = .ok (.iload_n 2, 1) := by decide +kernel
theorem dX8_mark_64 : decode cX8_mark 64 = .ok (.iadd, 1) := by decide +kernel
theorem dX8_mark_65 : decode cX8_mark 65 = .ok (.iload_n 3, 1) := by decide +kernel
theorem dX8_mark_66 : decode cX8_mark 66 = .ok (.iconst (-1), 1) := by decide +kernel
theorem dX8_mark_67 : decode cX8_mark 67 = .ok (.if_icmp .ne 8, 3) := by decide +kernel
theorem dX8_mark_70 : decode cX8_mark 70 = .ok (.bipush (-6), 2) := by decide +kernel
theorem dX8_mark_72 : decode cX8_mark 72 = .ok (.goto 4, 3) := by decide +kernel
theorem dX8_mark_75 : decode cX8_mark 75 = .ok (.iload_n 3, 1) := by decide +kernel
theorem dX8_mark_76 : decode cX8_mark 76 = .ok (.invokestatic 90, 3) := by decide +kernel
theorem dX8_mark_79 : decode cX8_mark 79 = .ok (.ireturn, 1) := by decide +kernel
set_option maxRecDepth 20000 in
theorem ggX8_set_X0_has : GoodIn wsX8_set wsX0_has := goodIn_r _ [9, 10, 39, 40, 41, 42, 43] (by decide +kernel) (by decide +kernel)
set_option maxRecDepth 20000 in
theorem gX8_set_X0_has : GoodIn wsX8_set (wsV RX8 70 RX0 yX0_has wsX0_has) := goodIn_app (goodIn_of _ (by decide +kernel)) ggX8_set_X0_has
set_option maxRecDepth 20000 in
theorem ggX8_set_X8_setKeys : GoodIn wsX8_set wsX8_setKeys := goodIn_r _ [14, 15, 16, 13, 17, 18, 19, 20] (by decide +kernel) (by decide +kernel)
set_option maxRecDepth 20000 in
theorem gX8_set_X8_setKeys : GoodIn wsX8_set (va_wsS RX8 97 yX8_setKeys wsX8_setKeys) := goodIn_app (goodIn_of _ (by decide +kernel)) ggX8_set_X8_setKeys
set_option maxRecDepth 20000 in
theorem ggX8_set_X4_has : GoodIn wsX8_set wsX4_has := goodIn_r _ [25, 26, 44, 45, 46, 47, 48, 49] (by decide +kernel) (by decide +kernel)
set_option maxRecDepth 20000 in
theorem gX8_set_X4_has : GoodIn wsX8_set (wsV RX8 82 RX4 yX4_has wsX4_has) := goodIn_app (goodIn_of _ (by decide +kernel)) ggX8_set_X4_has
set_option maxRecDepth 20000 in
theorem ggX8_set_X8_setLater : GoodIn wsX8_set wsX8_setLater := goodIn_r _ [30, 3, 31, 21, 22, 23, 24, 25, 26, 15, 16, 13, 17, 18, 19, 20, 32, 33, 34, 35, 36, 37, 38, 44, 45, 46, 47, 48, 49] (by decide +kernel) (by decide +kernel)
set_option maxRecDepth 20000 in
theorem gX8_set_X8_setLater : GoodIn wsX8_set (wsV RX8 102 RX8 yX8_setLater wsX8_setLater) := goodIn_app (goodIn_of _ (by decide +kernel)) ggX8_set_X8_setLater
theorem dX8_set_0 : decode cX8_set 0 = .ok (.iload_n 1, 1) := by decide +kernel
theorem dX8_set_1 : decode cX8_set 1 = .ok (.tableswitch 76 0 2 #[27, 48, 69], 27) := by decide +kernel
theorem dX8_set_28 : decode cX8_set 28 = .ok (.aload_n 0, 1) := by decide +kernel
theorem dX8_set_29 : decode cX8_set 29 = .ok (.getfield 10, 3) := by decide +kernel
theorem dX8_set_32 : decode cX8_set 32 = .ok (.getfield 94, 3) := by decide +kernel
theorem dX8_set_35 : decode cX8_set 35 = .ok (.aload_n 0, 1) := by decide +kernel
theorem dX8_set_36 : decode cX8_set 36 = .ok (.getfield 10, 3) := by decide +kernel
theorem dX8_set_39 : decode cX8_set 39 = .ok (.iload_n 2, 1) := by decide +kernel
theorem dX8_set_40 : decode cX8_set 40 = .ok (.invokevirtual 70, 3) := by decide +kernel
theorem dX8_set_43 : decode cX8_set 43 = .ok (.iload_n 2, 1) := by decide +kernel
theorem dX8_set_44 : decode cX8_set 44 = .ok (.iload_n 3, 1) := by decide +kernel
theorem dX8_set_45 : decode cX8_set 45 = .ok (.invokestatic 97, 3) := by decide +kernel
theorem dX8_set_48 : decode cX8_set 48 = .ok (.ireturn, 1) := by decide +kernel
theorem dX8_set_49 : decode cX8_set 49 = .ok (.aload_n 0, 1) := by decide +kernel
theorem dX8_set_50 : decode cX8_set 50 = .ok (.getfield 19, 3) := by decide +kernel
theorem dX8_set_53 : decode cX8_set 53 = .ok (.getfield 101, 3) := by decide +kernel
theorem dX8_set_56 : decode cX8_set 56 = .ok (.aload_n 0, 1) := by decide +kernel
theorem dX8_set_57 : decode cX8_set 57 = .ok (.getfield 19, 3) := by decide +kernel
theorem dX8_set_60 : decode cX8_set 60 = .ok (.iload_n 2, 1) := by decide +kernel
theorem dX8_set_61 : decode cX8_set 61 = .ok (.invokevirtual 82, 3) := by decide +kernel
theorem dX8_set_64 : decode cX8_set 64 = .ok (.iload_n 2, 1) := by decide +kernel
theorem dX8_set_65 : decode cX8_set 65 = .ok (.iload_n 3, 1) := by decide +kernel
theorem dX8_set_66 : decode cX8_set 66 = .ok (.invokestatic 97, 3) := by decide +kernel
theorem dX8_set_69 : decode cX8_set 69 = .ok (.ireturn, 1) := by decide +kernel
theorem dX8_set_70 : decode cX8_set 70 = .ok (.aload_n 0, 1) := by decide +kernel
theorem dX8_set_71 : decode cX8_set 71 = .ok (.iload_n 2, 1) := by decide +kernel
theorem dX8_set_72 : decode cX8_set 72 = .ok (.iload_n 3, 1) := by decide +kernel
theorem dX8_set_73 : decode cX8_set 73 = .ok (.invokevirtual 102, 3) := by decide +kernel
theorem dX8_set_76 : decode cX8_set 76 = .ok (.ireturn, 1) := by decide +kernel
theorem dX8_set_77 : decode cX8_set 77 = .ok (.bipush (-2), 2) := by decide +kernel
theorem dX8_set_79 : decode cX8_set 79 = .ok (.ireturn, 1) := by decide +kernel
set_option maxRecDepth 20000 in
theorem ggX8_setKeys_X8_within : GoodIn wsX8_setKeys wsX8_within := goodIn_r _ [4] (by decide +kernel) (by decide +kernel)
set_option maxRecDepth 20000 in
theorem gX8_setKeys_X8_within : GoodIn wsX8_setKeys (va_wsS RX8 62 yX8_within wsX8_within) := goodIn_app (goodIn_of _ (by decide +kernel)) ggX8_setKeys_X8_within
set_option maxRecDepth 20000 in
theorem ggX8_setKeys_X8_replace : GoodIn wsX8_setKeys wsX8_replace := goodIn_r _ [7] (by decide +kernel) (by decide +kernel)
set_option maxRecDepth 20000 in
theorem gX8_setKeys_X8_replace : GoodIn wsX8_setKeys (va_wsS RX8 90 yX8_replace wsX8_replace) := goodIn_app (goodIn_of _ (by decide +kernel)) ggX8_setKeys_X8_replace
theorem dX8_setKeys_0 : decode cX8_setKeys 0 = .ok (.iload_n 1, 1) := by decide +kernel
theorem dX8_setKeys_1 : decode cX8_setKeys 1 = .ok (.ifCond .ne 5, 3) := by decide +kernel
theorem dX8_setKeys_4 : decode cX8_setKeys 4 = .ok (.iconst (-1), 1) := by decide +kernel
theorem dX8_setKeys_5 : decode cX8_setKeys 5 = .ok (.ireturn, 1) := by decide +kernel
theorem dX8_setKeys_6 : decode cX8_setKeys 6 = .ok (.iload_n 3, 1) := by decide +kernel
theorem dX8_setKeys_7 : decode cX8_setKeys 7 = .ok (.iconst 0, 1) := by decide +kernel
theorem dX8_setKeys_8 : decode cX8_setKeys 8 = .ok (.bipush 63, 2) := by decide +kernel
theorem dX8_setKeys_10 : decode cX8_setKeys 10 = .ok (.invokestatic 62, 3) := by decide +kernel
theorem dX8_setKeys_13 : decode cX8_setKeys 13 = .ok (.ifCond .eq 12, 3) := by decide +kernel
theorem dX8_setKeys_16 : decode cX8_setKeys 16 = .ok (.aload_n 0, 1) := by decide +kernel
theorem dX8_setKeys_17 : decode cX8_setKeys 17 = .ok (.iload_n 2, 1) := by decide +kernel
theorem dX8_setKeys_18 : decode cX8_setKeys 18 = .ok (.iload_n 3, 1) := by decide +kernel
theorem dX8_setKeys_19 : decode cX8_setKeys 19 = .ok (.invokestatic 90, 3) := by decide +kernel
theorem dX8_setKeys_22 : decode cX8_setKeys 22 = .ok (.goto 5, 3) := by decide +kernel
theorem dX8_setKeys_25 : decode cX8_setKeys 25 = .ok (.bipush (-2), 2) := by decide +kernel
theorem dX8_setKeys_27 : decode cX8_setKeys 27 = .ok (.ireturn, 1) := by decide +kernel
set_option maxRecDepth 20000 in
theorem ggX8_setLater_X4_has : GoodIn wsX8_setLater wsX4_has := goodIn_r _ [7, 8, 23, 24, 25, 26, 27, 28] (by decide +kernel) (by decide +kernel)
set_option maxRecDepth 20000 in
theorem gX8_setLater_X4_has : GoodIn wsX8_setLater (wsV RX8 82 RX4 yX4_has wsX4_has) := goodIn_app (goodIn_of _ (by decide +kernel)) ggX8_setLater_X4_has
set_option maxRecDepth 20000 in
theorem ggX8_setLater_X8_within : GoodIn wsX8_setLater wsX8_within := goodIn_r _ [12] (by decide +kernel) (by decide +kernel)
set_option maxRecDepth 20000 in
theorem gX8_setLater_X8_within : GoodIn wsX8_setLater (va_wsS RX8 62 yX8_within wsX8_within) := goodIn_app (goodIn_of _ (by decide +kernel)) ggX8_setLater_X8_within
set_option maxRecDepth 20000 in
theorem ggX8_setLater_X8_replace : GoodIn wsX8_setLater wsX8_replace := goodIn_r _ [15] (by decide +kernel) (by decide +kernel)
set_option maxRecDepth 20000 in
theorem gX8_setLater_X8_replace : GoodIn wsX8_setLater (va_wsS RX8 90 yX8_replace wsX8_replace) := goodIn_app (goodIn_of _ (by decide +kernel)) ggX8_setLater_X8_replace
theorem dX8_setLater_0 : decode cX8_setLater 0 = .ok (.aload_n 0, 1) := by decide +kernel
theorem dX8_setLater_1 : decode cX8_setLater 1 = .ok (.getfield 19, 3) := by decide +kernel
theorem dX8_setLater_4 : decode cX8_setLater 4 = .ok (.iload_n 1, 1) := by decide +kernel
theorem dX8_setLater_5 : decode cX8_setLater 5 = .ok (.invokevirtual 82, 3) := by decide +kernel
theorem dX8_setLater_8 : decode cX8_setLater 8 = .ok (.ifCond .ne 5, 3) := by decide +kernel
theorem dX8_setLater_11 : decode cX8_setLater 11 = .ok (.iconst (-1), 1) := by decide +kernel
theorem dX8_setLater_12 : decode cX8_setLater 12 = .ok (.ireturn, 1) := by decide +kernel
theorem dX8_setLater_13 : decode cX8_setLater 13 = .ok (.iload_n 2, 1) := by decide +kernel
theorem dX8_setLater_14 : decode cX8_setLater 14 = .ok (.iconst (-1), 1) := by decide +kernel
theorem dX8_setLater_15 : decode cX8_setLater 15 = .ok (.bipush 9, 2) := by decide +kernel
theorem dX8_setLater_17 : decode cX8_setLater 17 = .ok (.invokestatic 62, 3) := by decide +kernel
theorem dX8_setLater_20 : decode cX8_setLater 20 = .ok (.ifCond .ne 6, 3) := by decide +kernel
theorem dX8_setLater_23 : decode cX8_setLater 23 = .ok (.bipush (-2), 2) := by decide +kernel
theorem dX8_setLater_25 : decode cX8_setLater 25 = .ok (.ireturn, 1) := by decide +kernel
theorem dX8_setLater_26 : decode cX8_setLater 26 = .ok (.aload_n 0, 1) := by decide +kernel
theorem dX8_setLater_27 : decode cX8_setLater 27 = .ok (.getfield 19, 3) := by decide +kernel
theorem dX8_setLater_30 : decode cX8_setLater 30 = .ok (.getfield 105, 3) := by decide +kernel
theorem dX8_setLater_33 : decode cX8_setLater 33 = .ok (.iload_n 1, 1) := by decide +kernel
theorem dX8_setLater_34 : decode cX8_setLater 34 = .ok (.iload_n 2, 1) := by decide +kernel
theorem dX8_setLater_35 : decode cX8_setLater 35 = .ok (.iconst (-1), 1) := by decide +kernel
theorem dX8_setLater_36 : decode cX8_setLater 36 = .ok (.if_icmp .ne 8, 3) := by decide +kernel
theorem dX8_setLater_39 : decode cX8_setLater 39 = .ok (.bipush (-6), 2) := by decide +kernel
theorem dX8_setLater_41 : decode cX8_setLater 41 = .ok (.goto 4, 3) := by decide +kernel
theorem dX8_setLater_44 : decode cX8_setLater 44 = .ok (.iload_n 2, 1) := by decide +kernel
theorem dX8_setLater_45 : decode cX8_setLater 45 = .ok (.invokestatic 90, 3) := by decide +kernel
theorem dX8_setLater_48 : decode cX8_setLater 48 = .ok (.ireturn, 1) := by decide +kernel
set_option maxRecDepth 20000 in
theorem ggX8_say_X8_within : GoodIn wsX8_say wsX8_within := goodIn_r _ [5] (by decide +kernel) (by decide +kernel)
set_option maxRecDepth 20000 in
theorem gX8_say_X8_within : GoodIn wsX8_say (va_wsS RX8 62 yX8_within wsX8_within) := goodIn_app (goodIn_of _ (by decide +kernel)) ggX8_say_X8_within
set_option maxRecDepth 20000 in
theorem ggX8_say_X6_add : GoodIn wsX8_say wsX6_add := goodIn_r _ [10, 11, 12, 20, 21] (by decide +kernel) (by decide +kernel)
set_option maxRecDepth 20000 in
theorem gX8_say_X6_add : GoodIn wsX8_say (wsV RX8 108 RX6 yX6_add wsX6_add) := goodIn_app (goodIn_of _ (by decide +kernel)) ggX8_say_X6_add
theorem dX8_say_0 : decode cX8_say 0 = .ok (.iload_n 1, 1) := by decide +kernel
theorem dX8_say_1 : decode cX8_say 1 = .ok (.bipush 33, 2) := by decide +kernel
theorem dX8_say_3 : decode cX8_say 3 = .ok (.bipush 126, 2) := by decide +kernel
theorem dX8_say_5 : decode cX8_say 5 = .ok (.invokestatic 62, 3) := by decide +kernel
theorem dX8_say_8 : decode cX8_say 8 = .ok (.ifCond .eq 14, 3) := by decide +kernel
theorem dX8_say_11 : decode cX8_say 11 = .ok (.aload_n 0, 1) := by decide +kernel
theorem dX8_say_12 : decode cX8_say 12 = .ok (.getfield 33, 3) := by decide +kernel
theorem dX8_say_15 : decode cX8_say 15 = .ok (.iload_n 1, 1) := by decide +kernel
theorem dX8_say_16 : decode cX8_say 16 = .ok (.invokevirtual 108, 3) := by decide +kernel
theorem dX8_say_19 : decode cX8_say 19 = .ok (.goto 5, 3) := by decide +kernel
theorem dX8_say_22 : decode cX8_say 22 = .ok (.bipush (-2), 2) := by decide +kernel
theorem dX8_say_24 : decode cX8_say 24 = .ok (.ireturn, 1) := by decide +kernel
set_option maxRecDepth 20000 in
theorem ggX8_wipe_X6_clear : GoodIn wsX8_wipe wsX6_clear := goodIn_r _ [6, 7, 15, 16] (by decide +kernel) (by decide +kernel)
set_option maxRecDepth 20000 in
theorem gX8_wipe_X6_clear : GoodIn wsX8_wipe (wsV RX8 111 RX6 yX6_clear wsX6_clear) := goodIn_app (goodIn_of _ (by decide +kernel)) ggX8_wipe_X6_clear
theorem dX8_wipe_0 : decode cX8_wipe 0 = .ok (.aload_n 0, 1) := by decide +kernel
theorem dX8_wipe_1 : decode cX8_wipe 1 = .ok (.getfield 33, 3) := by decide +kernel
theorem dX8_wipe_4 : decode cX8_wipe 4 = .ok (.invokevirtual 111, 3) := by decide +kernel
theorem dX8_wipe_7 : decode cX8_wipe 7 = .ok (.ireturn, 1) := by decide +kernel
set_option maxRecDepth 20000 in
theorem ggX8_fault_X6_firstFault : GoodIn wsX8_fault wsX6_firstFault := goodIn_r _ [6, 7, 8, 9, 10, 5, 11, 12, 13, 14, 15, 16, 17, 18, 19, 20, 28, 29] (by decide +kernel) (by decide +kernel)
set_option maxRecDepth 20000 in
theorem gX8_fault_X6_firstFault : GoodIn wsX8_fault (wsV RX8 115 RX6 yX6_firstFault wsX6_firstFault) := goodIn_app (goodIn_of _ (by decide +kernel)) ggX8_fault_X6_firstFault
theorem dX8_fault_0 : decode cX8_fault 0 = .ok (.aload_n 0, 1) := by decide +kernel
theorem dX8_fault_1 : decode cX8_fault 1 = .ok (.getfield 33, 3) := by decide +kernel
theorem dX8_fault_4 : decode cX8_fault 4 = .ok (.invokevirtual 115, 3) := by decide +kernel
theorem dX8_fault_7 : decode cX8_fault 7 = .ok (.ireturn, 1) := by decide +kernel
set_option maxRecDepth 20000 in
theorem ggX8_rule_X6_firstFault : GoodIn wsX8_rule wsX6_firstFault := goodIn_r _ [8, 9, 10, 11, 12, 7, 13, 14, 15, 16, 17, 18, 19, 20, 21, 22, 58, 59] (by decide +kernel) (by decide +kernel)
set_option maxRecDepth 20000 in
theorem gX8_rule_X6_firstFault : GoodIn wsX8_rule (wsV RX8 115 RX6 yX6_firstFault wsX6_firstFault) := goodIn_app (goodIn_of _ (by decide +kernel)) ggX8_rule_X6_firstFault
set_option maxRecDepth 20000 in
theorem ggX8_rule_X5_read : GoodIn wsX8_rule wsX5_read := goodIn_r _ [27, 28, 29, 30, 31, 12, 7, 13, 14, 15, 16, 17, 18, 19, 32, 33, 34, 26, 35, 36, 37, 38, 39, 40, 41, 42, 54, 55, 56, 57, 58, 59] (by decide +kernel) (by decide +kernel)
set_option maxRecDepth 20000 in
theorem gX8_rule_X5_read : GoodIn wsX8_rule (wsV RX8 118 RX5 yX5_read wsX5_read) := goodIn_app (goodIn_of _ (by decide +kernel)) ggX8_rule_X5_read
set_option maxRecDepth 20000 in
theorem ggX8_rule_X6_clear : GoodIn wsX8_rule wsX6_clear := goodIn_r _ [46, 9, 58, 59] (by decide +kernel) (by decide +kernel)
set_option maxRecDepth 20000 in
theorem gX8_rule_X6_clear : GoodIn wsX8_rule (wsV RX8 111 RX6 yX6_clear wsX6_clear) := goodIn_app (goodIn_of _ (by decide +kernel)) ggX8_rule_X6_clear
theorem dX8_rule_0 : decode cX8_rule 0 = .ok (.aload_n 0, 1) := by decide +kernel
theorem dX8_rule_1 : decode cX8_rule 1 = .ok (.getfield 33, 3) := by decide +kernel
theorem dX8_rule_4 : decode cX8_rule 4 = .ok (.invokevirtual 115, 3) := by decide +kernel
theorem dX8_rule_7 : decode cX8_rule 7 = .ok (.bipush (-6), 2) := by decide +kernel
theorem dX8_rule_9 : decode cX8_rule 9 = .ok (.if_icmp .eq 6, 3) := by decide +kernel
theorem dX8_rule_12 : decode cX8_rule 12 = .ok (.bipush (-5), 2) := by decide +kernel
theorem dX8_rule_14 : decode cX8_rule 14 = .ok (.ireturn, 1) := by decide +kernel
theorem dX8_rule_15 : decode cX8_rule 15 = .ok (.aload_n 0, 1) := by decide +kernel
theorem dX8_rule_16 : decode cX8_rule 16 = .ok (.getfield 40, 3) := by decide +kernel
theorem dX8_rule_19 : decode cX8_rule 19 = .ok (.aload_n 0, 1) := by decide +kernel
theorem dX8_rule_20 : decode cX8_rule 20 = .ok (.getfield 33, 3) := by decide +kernel
theorem dX8_rule_23 : decode cX8_rule 23 = .ok (.invokevirtual 118, 3) := by decide +kernel
theorem dX8_rule_26 : decode cX8_rule 26 = .ok (.aload_n 0, 1) := by decide +kernel
theorem dX8_rule_27 : decode cX8_rule 27 = .ok (.getfield 33, 3) := by decide +kernel
theorem dX8_rule_30 : decode cX8_rule 30 = .ok (.invokevirtual 111, 3) := by decide +kernel
theorem dX8_rule_33 : decode cX8_rule 33 = .ok (.pop, 1) := by decide +kernel
theorem dX8_rule_34 : decode cX8_rule 34 = .ok (.aload_n 0, 1) := by decide +kernel
theorem dX8_rule_35 : decode cX8_rule 35 = .ok (.getfield 40, 3) := by decide +kernel
theorem dX8_rule_38 : decode cX8_rule 38 = .ok (.getfield 122, 3) := by decide +kernel
theorem dX8_rule_41 : decode cX8_rule 41 = .ok (.ireturn, 1) := by decide +kernel
set_option maxRecDepth 20000 in
theorem ggX8_yes_X4_has : GoodIn wsX8_yes wsX4_has := goodIn_r _ [9, 10, 71, 72, 73, 74, 75, 76] (by decide +kernel) (by decide +kernel)
set_option maxRecDepth 20000 in
theorem gX8_yes_X4_has : GoodIn wsX8_yes (wsV RX8 82 RX4 yX4_has wsX4_has) := goodIn_app (goodIn_of _ (by decide +kernel)) ggX8_yes_X4_has
set_option maxRecDepth 20000 in
theorem ggX8_yes_X1_tallyOf : GoodIn wsX8_yes wsX1_tallyOf := goodIn_r _ [15, 16, 17, 18, 19, 20, 21, 22, 23, 24, 25, 26, 27, 28, 29, 30, 31, 14, 32, 33, 34, 35, 36, 37, 38, 39, 40, 41, 77, 78, 79, 80, 81] (by decide +kernel) (by decide +kernel)
set_option maxRecDepth 20000 in
theorem gX8_yes_X1_tallyOf : GoodIn wsX8_yes (wsV RX8 126 RX1 yX1_tallyOf wsX1_tallyOf) := goodIn_app (goodIn_of _ (by decide +kernel)) ggX8_yes_X1_tallyOf
set_option maxRecDepth 20000 in
theorem ggX8_yes_X5_quarters : GoodIn wsX8_yes wsX5_quarters := goodIn_r _ [46, 47, 48, 49, 50, 51, 52, 53, 54, 20, 55, 23, 24, 56, 57, 58, 59, 22, 79, 80, 81, 67, 68, 69, 70] (by decide +kernel) (by decide +kernel)
set_option maxRecDepth 20000 in
theorem gX8_yes_X5_quarters : GoodIn wsX8_yes (wsV RX8 130 RX5 yX5_quarters wsX5_quarters) := goodIn_app (goodIn_of _ (by decide +kernel)) ggX8_yes_X5_quarters
theorem dX8_yes_0 : decode cX8_yes 0 = .ok (.aload_n 0, 1) := by decide +kernel
theorem dX8_yes_1 : decode cX8_yes 1 = .ok (.getfield 19, 3) := by decide +kernel
theorem dX8_yes_4 : decode cX8_yes 4 = .ok (.iload_n 1, 1) := by decide +kernel
theorem dX8_yes_5 : decode cX8_yes 5 = .ok (.invokevirtual 82, 3) := by decide +kernel
theorem dX8_yes_8 : decode cX8_yes 8 = .ok (.ifCond .ne 5, 3) := by decide +kernel
theorem dX8_yes_11 : decode cX8_yes 11 = .ok (.iconst (-1), 1) := by decide +kernel
theorem dX8_yes_12 : decode cX8_yes 12 = .ok (.ireturn, 1) := by decide +kernel
theorem dX8_yes_13 : decode cX8_yes 13 = .ok (.aload_n 0, 1) := by decide +kernel
theorem dX8_yes_14 : decode cX8_yes 14 = .ok (.getfield 40, 3) := by decide +kernel
theorem dX8_yes_17 : decode cX8_yes 17 = .ok (.getfield 122, 3) := by decide +kernel
theorem dX8_yes_20 : decode cX8_yes 20 = .ok (.ifCond .ne 6, 3) := by decide +kernel
theorem dX8_yes_23 : decode cX8_yes 23 = .ok (.bipush (-3), 2) := by decide +kernel
theorem dX8_yes_25 : decode cX8_yes 25 = .ok (.ireturn, 1) := by decide +kernel
theorem dX8_yes_26 : decode cX8_yes 26 = .ok (.aload_n 0, 1) := by decide +kernel
theorem dX8_yes_27 : decode cX8_yes 27 = .ok (.getfield 40, 3) := by decide +kernel
theorem dX8_yes_30 : decode cX8_yes 30 = .ok (.aload_n 0, 1) := by decide +kernel
theorem dX8_yes_31 : decode cX8_yes 31 = .ok (.getfield 26, 3) := by decide +kernel
theorem dX8_yes_34 : decode cX8_yes 34 = .ok (.iload_n 1, 1) := by decide +kernel
theorem dX8_yes_35 : decode cX8_yes 35 = .ok (.invokevirtual 126, 3) := by decide +kernel
theorem dX8_yes_38 : decode cX8_yes 38 = .ok (.invokevirtual 130, 3) := by decide +kernel
theorem dX8_yes_41 : decode cX8_yes 41 = .ok (.ireturn, 1) := by decide +kernel
set_option maxRecDepth 20000 in
theorem ggX8_taken_X4_has : GoodIn wsX8_taken wsX4_has := goodIn_r _ [9, 10, 136, 137, 138, 139, 140, 141] (by decide +kernel) (by decide +kernel)
set_option maxRecDepth 20000 in
theorem gX8_taken_X4_has : GoodIn wsX8_taken (wsV RX8 82 RX4 yX4_has wsX4_has) := goodIn_app (goodIn_of _ (by decide +kernel)) ggX8_taken_X4_has
set_option maxRecDepth 20000 in
theorem ggX8_taken_X8_areJudges : GoodIn wsX8_taken wsX8_areJudges := goodIn_r _ [15, 16, 17, 18, 19, 14, 20, 129, 130, 131, 132, 133, 134, 135, 142, 143, 144, 145, 146] (by decide +kernel) (by decide +kernel)
set_option maxRecDepth 20000 in
theorem gX8_taken_X8_areJudges : GoodIn wsX8_taken (wsV RX8 134 RX8 yX8_areJudges wsX8_areJudges) := goodIn_app (goodIn_of _ (by decide +kernel)) ggX8_taken_X8_areJudges
set_option maxRecDepth 20000 in
theorem ggX8_taken_X8_isPart : GoodIn wsX8_taken wsX8_isPart := goodIn_r _ [23, 18, 19, 14, 20] (by decide +kernel) (by decide +kernel)
set_option maxRecDepth 20000 in
theorem gX8_taken_X8_isPart : GoodIn wsX8_taken (va_wsS RX8 137 yX8_isPart wsX8_isPart) := goodIn_app (goodIn_of _ (by decide +kernel)) ggX8_taken_X8_isPart
set_option maxRecDepth 20000 in
theorem ggX8_taken_X8_refusalOfOdds : GoodIn wsX8_taken wsX8_refusalOfOdds := goodIn_r _ [27, 28, 29, 129, 130, 131, 132, 133, 134, 135, 147, 148, 149, 150] (by decide +kernel) (by decide +kernel)
set_option maxRecDepth 20000 in
theorem gX8_taken_X8_refusalOfOdds : GoodIn wsX8_taken (wsV RX8 140 RX8 yX8_refusalOfOdds wsX8_refusalOfOdds) := goodIn_app (goodIn_of _ (by decide +kernel)) ggX8_taken_X8_refusalOfOdds
set_option maxRecDepth 20000 in
theorem ggX8_taken_X3_waysTaken : GoodIn wsX8_taken wsX3_waysTaken := goodIn_r _ [34, 35, 36, 37, 38, 39, 40, 41, 42, 43, 44, 45, 46, 47, 48, 49, 50, 51, 33, 52, 53, 54, 55, 56, 57, 58, 59, 60, 61, 62, 63, 64, 65, 66, 67, 68, 69, 70, 71, 72, 73, 74, 75, 76, 77, 78, 79, 80, 81, 82, 83, 84, 85, 86, 87, 8, 88, 89, 90, 91, 92, 93, 94, 95, 96, 97, 98, 99, 100, 101, 102, 103, 104, 105, 106, 107, 108, 109, 110, 111, 112, 113, 114, 14, 115, 116, 117, 118, 119, 151, 152, 153, 154, 155, 156, 157, 158, 142, 143, 144, 145, 146, 136, 137, 138, 139, 140, 141, 147, 148, 149, 150] (by decide +kernel) (by decide +kernel)
set_option maxRecDepth 20000 in
theorem gX8_taken_X3_waysTaken : GoodIn wsX8_taken (wsV RX8 146 RX3 yX3_waysTaken wsX3_waysTaken) := goodIn_app (goodIn_of _ (by decide +kernel)) ggX8_taken_X3_waysTaken
set_option maxRecDepth 20000 in
theorem ggX8_taken_X8_tell : GoodIn wsX8_taken wsX8_tell := goodIn_r _ [122, 123, 124, 80, 125, 126, 127, 14, 128] (by decide +kernel) (by decide +kernel)
set_option maxRecDepth 20000 in
theorem gX8_taken_X8_tell : GoodIn wsX8_taken (va_wsS RX8 152 yX8_tell wsX8_tell) := goodIn_app (goodIn_of _ (by decide +kernel)) ggX8_taken_X8_tell
theorem dX8_taken_0 : decode cX8_taken 0 = .ok (.aload_n 0, 1) := by decide +kernel
theorem dX8_taken_1 : decode cX8_taken 1 = .ok (.aload_n 0, 1) := by decide +kernel
theorem dX8_taken_2 : decode cX8_taken 2 = .ok (.getfield 19, 3) := by decide +kernel
theorem dX8_taken_5 : decode cX8_taken 5 = .ok (.iload_n 1, 1) := by decide +kernel
theorem dX8_taken_6 : decode cX8_taken 6 = .ok (.invokevirtual 82, 3) := by decide +kernel
theorem dX8_taken_9 : decode cX8_taken 9 = .ok (.aload_n 0, 1) := by decide +kernel
theorem dX8_taken_10 : decode cX8_taken 10 = .ok (.iload_n 2, 1) := by decide +kernel
theorem dX8_taken_11 : decode cX8_taken 11 = .ok (.invokevirtual 134, 3) := by decide +kernel
theorem dX8_taken_14 : decode cX8_taken 14 = .ok (.ifCond .eq 14, 3) := by decide +kernel
theorem dX8_taken_17 : decode cX8_taken 17 = .ok (.iload_n 3, 1) := by decide +kernel
theorem dX8_taken_18 : decode cX8_taken 18 = .ok (.invokestatic 137, 3) := by decide +kernel
theorem dX8_taken_21 : decode cX8_taken 21 = .ok (.ifCond .eq 7, 3) := by decide +kernel
theorem dX8_taken_24 : decode cX8_taken 24 = .ok (.iconst 1, 1) := by decide +kernel
theorem dX8_taken_25 : decode cX8_taken 25 = .ok (.goto 4, 3) := by decide +kernel
theorem dX8_taken_28 : decode cX8_taken 28 = .ok (.iconst 0, 1) := by decide +kernel
theorem dX8_taken_29 : decode cX8_taken 29 = .ok (.invokevirtual 140, 3) := by decide +kernel
theorem dX8_taken_32 : decode cX8_taken 32 = .ok (.istore 4, 2) := by decide +kernel
theorem dX8_taken_34 : decode cX8_taken 34 = .ok (.iload 4, 2) := by decide +kernel
theorem dX8_taken_36 : decode cX8_taken 36 = .ok (.ifCond .eq 11, 3) := by decide +kernel
theorem dX8_taken_39 : decode cX8_taken 39 = .ok (.ldc2_w 144, 3) := by decide +kernel
theorem dX8_taken_42 : decode cX8_taken 42 = .ok (.iload 4, 2) := by decide +kernel
theorem dX8_taken_44 : decode cX8_taken 44 = .ok (.i2l, 1) := by decide +kernel
theorem dX8_taken_45 : decode cX8_taken 45 = .ok (.ladd, 1) := by decide +kernel
theorem dX8_taken_46 : decode cX8_taken 46 = .ok (.lreturn, 1) := by decide +kernel
theorem dX8_taken_47 : decode cX8_taken 47 = .ok (.aload_n 0, 1) := by decide +kernel
theorem dX8_taken_48 : decode cX8_taken 48 = .ok (.getfield 49, 3) := by decide +kernel
theorem dX8_taken_51 : decode cX8_taken 51 = .ok (.iload_n 1, 1) := by decide +kernel
theorem dX8_taken_52 : decode cX8_taken 52 = .ok (.iload_n 2, 1) := by decide +kernel
theorem dX8_taken_53 : decode cX8_taken 53 = .ok (.invokevirtual 146, 3) := by decide +kernel
theorem dX8_taken_56 : decode cX8_taken 56 = .ok (.ldc2_w 150, 3) := by decide +kernel
theorem dX8_taken_59 : decode cX8_taken 59 = .ok (.iload_n 3, 1) := by decide +kernel
theorem dX8_taken_60 : decode cX8_taken 60 = .ok (.invokestatic 152, 3) := by decide +kernel
theorem dX8_taken_63 : decode cX8_taken 63 = .ok (.lreturn, 1) := by decide +kernel
set_option maxRecDepth 20000 in
theorem ggX8_lot_X4_has : GoodIn wsX8_lot wsX4_has := goodIn_r _ [10, 11, 137, 138, 139, 140, 141, 142] (by decide +kernel) (by decide +kernel)
set_option maxRecDepth 20000 in
theorem gX8_lot_X4_has : GoodIn wsX8_lot (wsV RX8 82 RX4 yX4_has wsX4_has) := goodIn_app (goodIn_of _ (by decide +kernel)) ggX8_lot_X4_has
set_option maxRecDepth 20000 in
theorem ggX8_lot_X8_areJudges : GoodIn wsX8_lot wsX8_areJudges := goodIn_r _ [16, 17, 18, 19, 20, 15, 21, 130, 131, 132, 133, 134, 135, 136, 143, 144, 145, 146, 147] (by decide +kernel) (by decide +kernel)
set_option maxRecDepth 20000 in
theorem gX8_lot_X8_areJudges : GoodIn wsX8_lot (wsV RX8 134 RX8 yX8_areJudges wsX8_areJudges) := goodIn_app (goodIn_of _ (by decide +kernel)) ggX8_lot_X8_areJudges
set_option maxRecDepth 20000 in
theorem ggX8_lot_X8_isPart : GoodIn wsX8_lot wsX8_isPart := goodIn_r _ [24, 19, 20, 15, 21] (by decide +kernel) (by decide +kernel)
set_option maxRecDepth 20000 in
theorem gX8_lot_X8_isPart : GoodIn wsX8_lot (va_wsS RX8 137 yX8_isPart wsX8_isPart) := goodIn_app (goodIn_of _ (by decide +kernel)) ggX8_lot_X8_isPart
set_option maxRecDepth 20000 in
theorem ggX8_lot_X8_refusalOfOdds : GoodIn wsX8_lot wsX8_refusalOfOdds := goodIn_r _ [28, 29, 30, 130, 131, 132, 133, 134, 135, 136, 148, 149, 150, 151] (by decide +kernel) (by decide +kernel)
set_option maxRecDepth 20000 in
theorem gX8_lot_X8_refusalOfOdds : GoodIn wsX8_lot (wsV RX8 140 RX8 yX8_refusalOfOdds wsX8_refusalOfOdds) := goodIn_app (goodIn_of _ (by decide +kernel)) ggX8_lot_X8_refusalOfOdds
set_option maxRecDepth 20000 in
theorem ggX8_lot_X3_waysTaken : GoodIn wsX8_lot wsX3_waysTaken := goodIn_r _ [35, 36, 37, 38, 39, 40, 41, 42, 43, 44, 45, 46, 47, 48, 49, 50, 51, 52, 34, 53, 54, 55, 56, 57, 58, 59, 60, 61, 62, 63, 64, 65, 66, 67, 68, 69, 70, 71, 72, 73, 74, 75, 76, 77, 78, 79, 80, 81, 82, 83, 84, 85, 86, 87, 88, 9, 89, 90, 91, 92, 93, 94, 95, 96, 97, 98, 99, 100, 101, 102, 103, 104, 105, 106, 107, 108, 109, 110, 111, 112, 113, 114, 115, 15, 116, 117, 118, 119, 120, 152, 153, 154, 155, 156, 157, 158, 159, 143, 144, 145, 146, 147, 137, 138, 139, 140, 141, 142, 148, 149, 150, 151] (by decide +kernel) (by decide +kernel)
set_option maxRecDepth 20000 in
theorem gX8_lot_X3_waysTaken : GoodIn wsX8_lot (wsV RX8 146 RX3 yX3_waysTaken wsX3_waysTaken) := goodIn_app (goodIn_of _ (by decide +kernel)) ggX8_lot_X3_waysTaken
set_option maxRecDepth 20000 in
theorem ggX8_lot_X8_tell : GoodIn wsX8_lot wsX8_tell := goodIn_r _ [123, 124, 125, 81, 126, 127, 128, 15, 129] (by decide +kernel) (by decide +kernel)
set_option maxRecDepth 20000 in
theorem gX8_lot_X8_tell : GoodIn wsX8_lot (va_wsS RX8 152 yX8_tell wsX8_tell) := goodIn_app (goodIn_of _ (by decide +kernel)) ggX8_lot_X8_tell
theorem dX8_lot_0 : decode cX8_lot 0 = .ok (.aload_n 0, 1) := by decide +kernel
theorem dX8_lot_1 : decode cX8_lot 1 = .ok (.aload_n 0, 1) := by decide +kernel
theorem dX8_lot_2 : decode cX8_lot 2 = .ok (.getfield 19, 3) := by decide +kernel
theorem dX8_lot_5 : decode cX8_lot 5 = .ok (.iload_n 1, 1) := by decide +kernel
theorem dX8_lot_6 : decode cX8_lot 6 = .ok (.invokevirtual 82, 3) := by decide +kernel
theorem dX8_lot_9 : decode cX8_lot 9 = .ok (.aload_n 0, 1) := by decide +kernel
theorem dX8_lot_10 : decode cX8_lot 10 = .ok (.iload_n 2, 1) := by decide +kernel
theorem dX8_lot_11 : decode cX8_lot 11 = .ok (.invokevirtual 134, 3) := by decide +kernel
theorem dX8_lot_14 : decode cX8_lot 14 = .ok (.ifCond .eq 23, 3) := by decide +kernel
theorem dX8_lot_17 : decode cX8_lot 17 = .ok (.aload_n 0, 1) := by decide +kernel
theorem dX8_lot_18 : decode cX8_lot 18 = .ok (.iload_n 3, 1) := by decide +kernel
theorem dX8_lot_19 : decode cX8_lot 19 = .ok (.invokevirtual 134, 3) := by decide +kernel
theorem dX8_lot_22 : decode cX8_lot 22 = .ok (.ifCond .eq 15, 3) := by decide +kernel
theorem dX8_lot_25 : decode cX8_lot 25 = .ok (.iload 4, 2) := by decide +kernel
theorem dX8_lot_27 : decode cX8_lot 27 = .ok (.invokestatic 137, 3) := by decide +kernel
theorem dX8_lot_30 : decode cX8_lot 30 = .ok (.ifCond .eq 7, 3) := by decide +kernel
theorem dX8_lot_33 : decode cX8_lot 33 = .ok (.iconst 1, 1) := by decide +kernel
theorem dX8_lot_34 : decode cX8_lot 34 = .ok (.goto 4, 3) := by decide +kernel
theorem dX8_lot_37 : decode cX8_lot 37 = .ok (.iconst 0, 1) := by decide +kernel
theorem dX8_lot_38 : decode cX8_lot 38 = .ok (.invokevirtual 140, 3) := by decide +kernel
theorem dX8_lot_41 : decode cX8_lot 41 = .ok (.istore 5, 2) := by decide +kernel
theorem dX8_lot_43 : decode cX8_lot 43 = .ok (.iload 5, 2) := by decide +kernel
theorem dX8_lot_45 : decode cX8_lot 45 = .ok (.ifCond .eq 11, 3) := by decide +kernel
theorem dX8_lot_48 : decode cX8_lot 48 = .ok (.ldc2_w 144, 3) := by decide +kernel
theorem dX8_lot_51 : decode cX8_lot 51 = .ok (.iload 5, 2) := by decide +kernel
theorem dX8_lot_53 : decode cX8_lot 53 = .ok (.i2l, 1) := by decide +kernel
theorem dX8_lot_54 : decode cX8_lot 54 = .ok (.ladd, 1) := by decide +kernel
theorem dX8_lot_55 : decode cX8_lot 55 = .ok (.lreturn, 1) := by decide +kernel
theorem dX8_lot_56 : decode cX8_lot 56 = .ok (.aload_n 0, 1) := by decide +kernel
theorem dX8_lot_57 : decode cX8_lot 57 = .ok (.getfield 49, 3) := by decide +kernel
theorem dX8_lot_60 : decode cX8_lot 60 = .ok (.iload_n 1, 1) := by decide +kernel
theorem dX8_lot_61 : decode cX8_lot 61 = .ok (.iload_n 2, 1) := by decide +kernel
theorem dX8_lot_62 : decode cX8_lot 62 = .ok (.invokevirtual 146, 3) := by decide +kernel
theorem dX8_lot_65 : decode cX8_lot 65 = .ok (.lstore 6, 2) := by decide +kernel
theorem dX8_lot_67 : decode cX8_lot 67 = .ok (.aload_n 0, 1) := by decide +kernel
theorem dX8_lot_68 : decode cX8_lot 68 = .ok (.getfield 49, 3) := by decide +kernel
theorem dX8_lot_71 : decode cX8_lot 71 = .ok (.iload_n 1, 1) := by decide +kernel
theorem dX8_lot_72 : decode cX8_lot 72 = .ok (.iload_n 3, 1) := by decide +kernel
theorem dX8_lot_73 : decode cX8_lot 73 = .ok (.invokevirtual 146, 3) := by decide +kernel
theorem dX8_lot_76 : decode cX8_lot 76 = .ok (.lstore 8, 2) := by decide +kernel
theorem dX8_lot_78 : decode cX8_lot 78 = .ok (.lload 6, 2) := by decide +kernel
theorem dX8_lot_80 : decode cX8_lot 80 = .ok (.ldc2_w 150, 3) := by decide +kernel
theorem dX8_lot_83 : decode cX8_lot 83 = .ok (.lload 8, 2) := by decide +kernel
theorem dX8_lot_85 : decode cX8_lot 85 = .ok (.lsub, 1) := by decide +kernel
theorem dX8_lot_86 : decode cX8_lot 86 = .ok (.lmul, 1) := by decide +kernel
theorem dX8_lot_87 : decode cX8_lot 87 = .ok (.lload 8, 2) := by decide +kernel
theorem dX8_lot_89 : decode cX8_lot 89 = .ok (.ldc2_w 150, 3) := by decide +kernel
theorem dX8_lot_92 : decode cX8_lot 92 = .ok (.lload 6, 2) := by decide +kernel
theorem dX8_lot_94 : decode cX8_lot 94 = .ok (.lsub, 1) := by decide +kernel
theorem dX8_lot_95 : decode cX8_lot 95 = .ok (.lmul, 1) := by decide +kernel
theorem dX8_lot_96 : decode cX8_lot 96 = .ok (.ladd, 1) := by decide +kernel
theorem dX8_lot_97 : decode cX8_lot 97 = .ok (.lstore 10, 2) := by decide +kernel
theorem dX8_lot_99 : decode cX8_lot 99 = .ok (.lload 10, 2) := by decide +kernel
theorem dX8_lot_101 : decode cX8_lot 101 = .ok (.ldc2_w 156, 3) := by decide +kernel
theorem dX8_lot_104 : decode cX8_lot 104 = .ok (.iload 4, 2) := by decide +kernel
theorem dX8_lot_106 : decode cX8_lot 106 = .ok (.invokestatic 152, 3) := by decide +kernel
theorem dX8_lot_109 : decode cX8_lot 109 = .ok (.lreturn, 1) := by decide +kernel
set_option maxRecDepth 20000 in
theorem ggX8_right_X8_isBar : GoodIn wsX8_right wsX8_isBar := goodIn_r _ [7, 8, 9, 6, 10] (by decide +kernel) (by decide +kernel)
set_option maxRecDepth 20000 in
theorem gX8_right_X8_isBar : GoodIn wsX8_right (va_wsS RX8 158 yX8_isBar wsX8_isBar) := goodIn_app (goodIn_of _ (by decide +kernel)) ggX8_right_X8_isBar
set_option maxRecDepth 20000 in
theorem ggX8_right_X8_areJudges : GoodIn wsX8_right wsX8_areJudges := goodIn_r _ [14, 15, 16, 8, 9, 6, 10, 132, 133, 134, 135, 136, 137, 138, 139, 140, 141, 142, 143] (by decide +kernel) (by decide +kernel)
set_option maxRecDepth 20000 in
theorem gX8_right_X8_areJudges : GoodIn wsX8_right (wsV RX8 134 RX8 yX8_areJudges wsX8_areJudges) := goodIn_app (goodIn_of _ (by decide +kernel)) ggX8_right_X8_areJudges
set_option maxRecDepth 20000 in
theorem ggX8_right_X8_isPart : GoodIn wsX8_right wsX8_isPart := goodIn_r _ [19, 8, 9, 6, 10] (by decide +kernel) (by decide +kernel)
set_option maxRecDepth 20000 in
theorem gX8_right_X8_isPart : GoodIn wsX8_right (va_wsS RX8 137 yX8_isPart wsX8_isPart) := goodIn_app (goodIn_of _ (by decide +kernel)) ggX8_right_X8_isPart
set_option maxRecDepth 20000 in
theorem ggX8_right_X8_refusalOfOdds : GoodIn wsX8_right wsX8_refusalOfOdds := goodIn_r _ [23, 24, 25, 132, 133, 134, 135, 136, 137, 138, 144, 145, 146, 147] (by decide +kernel) (by decide +kernel)
set_option maxRecDepth 20000 in
theorem gX8_right_X8_refusalOfOdds : GoodIn wsX8_right (wsV RX8 140 RX8 yX8_refusalOfOdds wsX8_refusalOfOdds) := goodIn_app (goodIn_of _ (by decide +kernel)) ggX8_right_X8_refusalOfOdds
set_option maxRecDepth 20000 in
theorem ggX8_right_X3_waysRight : GoodIn wsX8_right wsX3_waysRight := goodIn_r _ [30, 31, 32, 33, 34, 35, 36, 37, 29, 38, 39, 40, 41, 42, 43, 44, 45, 46, 47, 48, 49, 50, 51, 52, 53, 54, 55, 56, 57, 58, 59, 60, 61, 62, 63, 64, 65, 66, 67, 68, 69, 70, 71, 72, 73, 74, 75, 76, 77, 78, 79, 80, 81, 82, 83, 84, 85, 86, 87, 88, 89, 90, 91, 92, 93, 94, 95, 96, 97, 98, 99, 100, 101, 102, 103, 104, 105, 106, 107, 108, 109, 110, 111, 112, 113, 114, 115, 116, 117, 6, 118, 119, 120, 121, 122, 148, 149, 150, 151, 152, 153, 154, 155, 156, 157, 158, 159, 160, 161, 139, 140, 141, 142, 143, 144, 145, 146, 147] (by decide +kernel) (by decide +kernel)
set_option maxRecDepth 20000 in
theorem gX8_right_X3_waysRight : GoodIn wsX8_right (wsV RX8 161 RX3 yX3_waysRight wsX3_waysRight) := goodIn_app (goodIn_of _ (by decide +kernel)) ggX8_right_X3_waysRight
set_option maxRecDepth 20000 in
theorem ggX8_right_X8_tell : GoodIn wsX8_right wsX8_tell := goodIn_r _ [125, 126, 127, 82, 128, 129, 130, 6, 131] (by decide +kernel) (by decide +kernel)
set_option maxRecDepth 20000 in
theorem gX8_right_X8_tell : GoodIn wsX8_right (va_wsS RX8 152 yX8_tell wsX8_tell) := goodIn_app (goodIn_of _ (by decide +kernel)) ggX8_right_X8_tell
theorem dX8_right_0 : decode cX8_right 0 = .ok (.aload_n 0, 1) := by decide +kernel
theorem dX8_right_1 : decode cX8_right 1 = .ok (.iconst 1, 1) := by decide +kernel
theorem dX8_right_2 : decode cX8_right 2 = .ok (.iload_n 1, 1) := by decide +kernel
theorem dX8_right_3 : decode cX8_right 3 = .ok (.invokestatic 158, 3) := by decide +kernel
theorem dX8_right_6 : decode cX8_right 6 = .ok (.ifCond .eq 22, 3) := by decide +kernel
theorem dX8_right_9 : decode cX8_right 9 = .ok (.aload_n 0, 1) := by decide +kernel
theorem dX8_right_10 : decode cX8_right 10 = .ok (.iload_n 2, 1) := by decide +kernel
theorem dX8_right_11 : decode cX8_right 11 = .ok (.invokevirtual 134, 3) := by decide +kernel
theorem dX8_right_14 : decode cX8_right 14 = .ok (.ifCond .eq 14, 3) := by decide +kernel
theorem dX8_right_17 : decode cX8_right 17 = .ok (.iload_n 3, 1) := by decide +kernel
theorem dX8_right_18 : decode cX8_right 18 = .ok (.invokestatic 137, 3) := by decide +kernel
theorem dX8_right_21 : decode cX8_right 21 = .ok (.ifCond .eq 7, 3) := by decide +kernel
theorem dX8_right_24 : decode cX8_right 24 = .ok (.iconst 1, 1) := by decide +kernel
theorem dX8_right_25 : decode cX8_right 25 = .ok (.goto 4, 3) := by decide +kernel
theorem dX8_right_28 : decode cX8_right 28 = .ok (.iconst 0, 1) := by decide +kernel
theorem dX8_right_29 : decode cX8_right 29 = .ok (.invokevirtual 140, 3) := by decide +kernel
theorem dX8_right_32 : decode cX8_right 32 = .ok (.istore 4, 2) := by decide +kernel
theorem dX8_right_34 : decode cX8_right 34 = .ok (.iload 4, 2) := by decide +kernel
theorem dX8_right_36 : decode cX8_right 36 = .ok (.ifCond .eq 11, 3) := by decide +kernel
theorem dX8_right_39 : decode cX8_right 39 = .ok (.ldc2_w 144, 3) := by decide +kernel
theorem dX8_right_42 : decode cX8_right 42 = .ok (.iload 4, 2) := by decide +kernel
theorem dX8_right_44 : decode cX8_right 44 = .ok (.i2l, 1) := by decide +kernel
theorem dX8_right_45 : decode cX8_right 45 = .ok (.ladd, 1) := by decide +kernel
theorem dX8_right_46 : decode cX8_right 46 = .ok (.lreturn, 1) := by decide +kernel
theorem dX8_right_47 : decode cX8_right 47 = .ok (.aload_n 0, 1) := by decide +kernel
theorem dX8_right_48 : decode cX8_right 48 = .ok (.getfield 49, 3) := by decide +kernel
theorem dX8_right_51 : decode cX8_right 51 = .ok (.iload_n 1, 1) := by decide +kernel
theorem dX8_right_52 : decode cX8_right 52 = .ok (.iload_n 2, 1) := by decide +kernel
theorem dX8_right_53 : decode cX8_right 53 = .ok (.invokevirtual 161, 3) := by decide +kernel
theorem dX8_right_56 : decode cX8_right 56 = .ok (.ldc2_w 150, 3) := by decide +kernel
theorem dX8_right_59 : decode cX8_right 59 = .ok (.iload_n 3, 1) := by decide +kernel
theorem dX8_right_60 : decode cX8_right 60 = .ok (.invokestatic 152, 3) := by decide +kernel
theorem dX8_right_63 : decode cX8_right 63 = .ok (.lreturn, 1) := by decide +kernel
set_option maxRecDepth 20000 in
theorem ggX8_more_X8_isBar : GoodIn wsX8_more wsX8_isBar := goodIn_r _ [8, 9, 10, 7, 11] (by decide +kernel) (by decide +kernel)
set_option maxRecDepth 20000 in
theorem gX8_more_X8_isBar : GoodIn wsX8_more (va_wsS RX8 158 yX8_isBar wsX8_isBar) := goodIn_app (goodIn_of _ (by decide +kernel)) ggX8_more_X8_isBar
set_option maxRecDepth 20000 in
theorem ggX8_more_X8_areJudges : GoodIn wsX8_more wsX8_areJudges := goodIn_r _ [15, 1, 16, 9, 10, 7, 11, 134, 135, 136, 137, 138, 139, 140, 141, 142, 143, 144, 145] (by decide +kernel) (by decide +kernel)
set_option maxRecDepth 20000 in
theorem gX8_more_X8_areJudges : GoodIn wsX8_more (wsV RX8 134 RX8 yX8_areJudges wsX8_areJudges) := goodIn_app (goodIn_of _ (by decide +kernel)) ggX8_more_X8_areJudges
set_option maxRecDepth 20000 in
theorem ggX8_more_X8_isPart : GoodIn wsX8_more wsX8_isPart := goodIn_r _ [19, 9, 10, 7, 11] (by decide +kernel) (by decide +kernel)
set_option maxRecDepth 20000 in
theorem gX8_more_X8_isPart : GoodIn wsX8_more (va_wsS RX8 137 yX8_isPart wsX8_isPart) := goodIn_app (goodIn_of _ (by decide +kernel)) ggX8_more_X8_isPart
set_option maxRecDepth 20000 in
theorem ggX8_more_X0_has : GoodIn wsX8_more wsX0_has := goodIn_r _ [24, 25, 141, 142, 143, 144, 145] (by decide +kernel) (by decide +kernel)
set_option maxRecDepth 20000 in
theorem gX8_more_X0_has : GoodIn wsX8_more (wsV RX8 70 RX0 yX0_has wsX0_has) := goodIn_app (goodIn_of _ (by decide +kernel)) ggX8_more_X0_has
set_option maxRecDepth 20000 in
theorem ggX8_more_X8_hasBit : GoodIn wsX8_more wsX8_hasBit := goodIn_r _ [28] (by decide +kernel) (by decide +kernel)
set_option maxRecDepth 20000 in
theorem gX8_more_X8_hasBit : GoodIn wsX8_more (va_wsS RX8 164 yX8_hasBit wsX8_hasBit) := goodIn_app (goodIn_of _ (by decide +kernel)) ggX8_more_X8_hasBit
set_option maxRecDepth 20000 in
theorem ggX8_more_X8_refusalOfOdds : GoodIn wsX8_more wsX8_refusalOfOdds := goodIn_r _ [32, 33, 34, 134, 135, 136, 137, 138, 139, 140, 146, 147, 148, 149] (by decide +kernel) (by decide +kernel)
set_option maxRecDepth 20000 in
theorem gX8_more_X8_refusalOfOdds : GoodIn wsX8_more (wsV RX8 140 RX8 yX8_refusalOfOdds wsX8_refusalOfOdds) := goodIn_app (goodIn_of _ (by decide +kernel)) ggX8_more_X8_refusalOfOdds
set_option maxRecDepth 20000 in
theorem ggX8_more_X3_waysRight : GoodIn wsX8_more wsX3_waysRight := goodIn_r _ [39, 40, 41, 42, 43, 44, 45, 46, 38, 47, 48, 49, 50, 51, 52, 53, 54, 55, 56, 57, 58, 59, 60, 61, 62, 63, 64, 65, 66, 67, 68, 69, 70, 71, 72, 73, 74, 75, 76, 77, 23, 78, 79, 80, 21, 22, 24, 25, 81, 82, 83, 84, 85, 86, 87, 88, 89, 90, 91, 92, 93, 94, 95, 96, 97, 98, 99, 100, 101, 102, 103, 104, 105, 106, 107, 108, 109, 110, 111, 112, 113, 114, 115, 116, 117, 118, 119, 120, 27, 7, 28, 121, 122, 123, 124, 150, 151, 152, 153, 154, 155, 156, 157, 158, 159, 160, 161, 162, 163, 141, 142, 143, 144, 145, 146, 147, 148, 149] (by decide +kernel) (by decide +kernel)
set_option maxRecDepth 20000 in
theorem gX8_more_X3_waysRight : GoodIn wsX8_more (wsV RX8 161 RX3 yX3_waysRight wsX3_waysRight) := goodIn_app (goodIn_of _ (by decide +kernel)) ggX8_more_X3_waysRight
set_option maxRecDepth 20000 in
theorem ggX8_more_X8_tell : GoodIn wsX8_more wsX8_tell := goodIn_r _ [127, 128, 129, 86, 130, 131, 132, 7, 133] (by decide +kernel) (by decide +kernel)
set_option maxRecDepth 20000 in
theorem gX8_more_X8_tell : GoodIn wsX8_more (va_wsS RX8 152 yX8_tell wsX8_tell) := goodIn_app (goodIn_of _ (by decide +kernel)) ggX8_more_X8_tell
theorem dX8_more_0 : decode cX8_more 0 = .ok (.iload_n 2, 1) := by decide +kernel
theorem dX8_more_1 : decode cX8_more 1 = .ok (.invokestatic 158, 3) := by decide +kernel
theorem dX8_more_4 : decode cX8_more 4 = .ok (.ifCond .eq 23, 3) := by decide +kernel
theorem dX8_more_7 : decode cX8_more 7 = .ok (.aload_n 0, 1) := by decide +kernel
theorem dX8_more_8 : decode cX8_more 8 = .ok (.iload_n 3, 1) := by decide +kernel
theorem dX8_more_9 : decode cX8_more 9 = .ok (.invokevirtual 134, 3) := by decide +kernel
theorem dX8_more_12 : decode cX8_more 12 = .ok (.ifCond .eq 15, 3) := by decide +kernel
theorem dX8_more_15 : decode cX8_more 15 = .ok (.iload 4, 2) := by decide +kernel
theorem dX8_more_17 : decode cX8_more 17 = .ok (.invokestatic 137, 3) := by decide +kernel
theorem dX8_more_20 : decode cX8_more 20 = .ok (.ifCond .eq 7, 3) := by decide +kernel
theorem dX8_more_23 : decode cX8_more 23 = .ok (.iconst 1, 1) := by decide +kernel
theorem dX8_more_24 : decode cX8_more 24 = .ok (.goto 4, 3) := by decide +kernel
theorem dX8_more_27 : decode cX8_more 27 = .ok (.iconst 0, 1) := by decide +kernel
theorem dX8_more_28 : decode cX8_more 28 = .ok (.istore 5, 2) := by decide +kernel
theorem dX8_more_30 : decode cX8_more 30 = .ok (.aload_n 0, 1) := by decide +kernel
theorem dX8_more_31 : decode cX8_more 31 = .ok (.getfield 10, 3) := by decide +kernel
theorem dX8_more_34 : decode cX8_more 34 = .ok (.iload_n 1, 1) := by decide +kernel
theorem dX8_more_35 : decode cX8_more 35 = .ok (.invokevirtual 70, 3) := by decide +kernel
theorem dX8_more_38 : decode cX8_more 38 = .ok (.istore 6, 2) := by decide +kernel
theorem dX8_more_40 : decode cX8_more 40 = .ok (.aload_n 0, 1) := by decide +kernel
theorem dX8_more_41 : decode cX8_more 41 = .ok (.iload 6, 2) := by decide +kernel
theorem dX8_more_43 : decode cX8_more 43 = .ok (.iload 5, 2) := by decide +kernel
theorem dX8_more_45 : decode cX8_more 45 = .ok (.ifCond .eq 15, 3) := by decide +kernel
theorem dX8_more_48 : decode cX8_more 48 = .ok (.iload_n 3, 1) := by decide +kernel
theorem dX8_more_49 : decode cX8_more 49 = .ok (.iload_n 1, 1) := by decide +kernel
theorem dX8_more_50 : decode cX8_more 50 = .ok (.invokestatic 164, 3) := by decide +kernel
theorem dX8_more_53 : decode cX8_more 53 = .ok (.ifCond .ne 7, 3) := by decide +kernel
theorem dX8_more_56 : decode cX8_more 56 = .ok (.iconst 1, 1) := by decide +kernel
theorem dX8_more_57 : decode cX8_more 57 = .ok (.goto 4, 3) := by decide +kernel
theorem dX8_more_60 : decode cX8_more 60 = .ok (.iconst 0, 1) := by decide +kernel
theorem dX8_more_61 : decode cX8_more 61 = .ok (.invokevirtual 140, 3) := by decide +kernel
theorem dX8_more_64 : decode cX8_more 64 = .ok (.istore 7, 2) := by decide +kernel
theorem dX8_more_66 : decode cX8_more 66 = .ok (.iload 7, 2) := by decide +kernel
theorem dX8_more_68 : decode cX8_more 68 = .ok (.ifCond .eq 11, 3) := by decide +kernel
theorem dX8_more_71 : decode cX8_more 71 = .ok (.ldc2_w 144, 3) := by decide +kernel
theorem dX8_more_74 : decode cX8_more 74 = .ok (.iload 7, 2) := by decide +kernel
theorem dX8_more_76 : decode cX8_more 76 = .ok (.i2l, 1) := by decide +kernel
theorem dX8_more_77 : decode cX8_more 77 = .ok (.ladd, 1) := by decide +kernel
theorem dX8_more_78 : decode cX8_more 78 = .ok (.lreturn, 1) := by decide +kernel
theorem dX8_more_79 : decode cX8_more 79 = .ok (.aload_n 0, 1) := by decide +kernel
theorem dX8_more_80 : decode cX8_more 80 = .ok (.getfield 49, 3) := by decide +kernel
theorem dX8_more_83 : decode cX8_more 83 = .ok (.iload_n 2, 1) := by decide +kernel
theorem dX8_more_84 : decode cX8_more 84 = .ok (.iload_n 3, 1) := by decide +kernel
theorem dX8_more_85 : decode cX8_more 85 = .ok (.iconst 1, 1) := by decide +kernel
theorem dX8_more_86 : decode cX8_more 86 = .ok (.iload_n 1, 1) := by decide +kernel
theorem dX8_more_87 : decode cX8_more 87 = .ok (.ishl, 1) := by decide +kernel
theorem dX8_more_88 : decode cX8_more 88 = .ok (.ior, 1) := by decide +kernel
theorem dX8_more_89 : decode cX8_more 89 = .ok (.invokevirtual 161, 3) := by decide +kernel
theorem dX8_more_92 : decode cX8_more 92 = .ok (.lstore 8, 2) := by decide +kernel
theorem dX8_more_94 : decode cX8_more 94 = .ok (.lload 8, 2) := by decide +kernel
theorem dX8_more_96 : decode cX8_more 96 = .ok (.aload_n 0, 1) := by decide +kernel
theorem dX8_more_97 : decode cX8_more 97 = .ok (.getfield 49, 3) := by decide +kernel
theorem dX8_more_100 : decode cX8_more 100 = .ok (.iload_n 2, 1) := by decide +kernel
theorem dX8_more_101 : decode cX8_more 101 = .ok (.iload_n 3, 1) := by decide +kernel
theorem dX8_more_102 : decode cX8_more 102 = .ok (.invokevirtual 161, 3) := by decide +kernel
theorem dX8_more_105 : decode cX8_more 105 = .ok (.lsub, 1) := by decide +kernel
theorem dX8_more_106 : decode cX8_more 106 = .ok (.ldc2_w 150, 3) := by decide +kernel
theorem dX8_more_109 : decode cX8_more 109 = .ok (.iload 4, 2) := by decide +kernel
theorem dX8_more_111 : decode cX8_more 111 = .ok (.invokestatic 152, 3) := by decide +kernel
theorem dX8_more_114 : decode cX8_more 114 = .ok (.lreturn, 1) := by decide +kernel
set_option maxRecDepth 20000 in
theorem ggX8_rounds_X8_areJudges : GoodIn wsX8_rounds wsX8_areJudges := goodIn_r _ [9, 10, 11, 12, 13, 8, 14, 140, 141, 142, 143, 144, 145, 146, 147, 148, 149, 150, 151] (by decide +kernel) (by decide +kernel)
set_option maxRecDepth 20000 in
theorem gX8_rounds_X8_areJudges : GoodIn wsX8_rounds (wsV RX8 134 RX8 yX8_areJudges wsX8_areJudges) := goodIn_app (goodIn_of _ (by decide +kernel)) ggX8_rounds_X8_areJudges
set_option maxRecDepth 20000 in
theorem ggX8_rounds_X8_within : GoodIn wsX8_rounds wsX8_within := goodIn_r _ [14] (by decide +kernel) (by decide +kernel)
set_option maxRecDepth 20000 in
theorem gX8_rounds_X8_within : GoodIn wsX8_rounds (va_wsS RX8 62 yX8_within wsX8_within) := goodIn_app (goodIn_of _ (by decide +kernel)) ggX8_rounds_X8_within
set_option maxRecDepth 20000 in
theorem ggX8_rounds_X8_isPart : GoodIn wsX8_rounds wsX8_isPart := goodIn_r _ [17, 12, 13, 8, 14] (by decide +kernel) (by decide +kernel)
set_option maxRecDepth 20000 in
theorem gX8_rounds_X8_isPart : GoodIn wsX8_rounds (va_wsS RX8 137 yX8_isPart wsX8_isPart) := goodIn_app (goodIn_of _ (by decide +kernel)) ggX8_rounds_X8_isPart
set_option maxRecDepth 20000 in
theorem ggX8_rounds_X4_has : GoodIn wsX8_rounds wsX4_has := goodIn_r _ [22, 23, 152, 153, 154, 155, 156, 157] (by decide +kernel) (by decide +kernel)
set_option maxRecDepth 20000 in
theorem gX8_rounds_X4_has : GoodIn wsX8_rounds (wsV RX8 82 RX4 yX4_has wsX4_has) := goodIn_app (goodIn_of _ (by decide +kernel)) ggX8_rounds_X4_has
set_option maxRecDepth 20000 in
theorem ggX8_rounds_X8_refusalOfOdds : GoodIn wsX8_rounds wsX8_refusalOfOdds := goodIn_r _ [27, 28, 29, 140, 141, 142, 143, 144, 145, 146, 158, 159, 160, 161] (by decide +kernel) (by decide +kernel)
set_option maxRecDepth 20000 in
theorem gX8_rounds_X8_refusalOfOdds : GoodIn wsX8_rounds (wsV RX8 140 RX8 yX8_refusalOfOdds wsX8_refusalOfOdds) := goodIn_app (goodIn_of _ (by decide +kernel)) ggX8_rounds_X8_refusalOfOdds
set_option maxRecDepth 20000 in
theorem ggX8_rounds_X3_waysTaken : GoodIn wsX8_rounds wsX3_waysTaken := goodIn_r _ [34, 35, 36, 37, 38, 39, 40, 41, 42, 43, 44, 45, 46, 47, 48, 49, 50, 51, 33, 52, 53, 54, 55, 56, 57, 58, 59, 60, 61, 62, 63, 64, 65, 66, 67, 68, 69, 70, 71, 72, 73, 74, 75, 76, 77, 78, 79, 80, 81, 82, 83, 84, 85, 86, 87, 21, 88, 89, 90, 91, 92, 93, 94, 95, 96, 97, 98, 99, 100, 101, 102, 103, 104, 105, 106, 107, 108, 109, 110, 111, 112, 113, 114, 8, 115, 116, 117, 118, 119, 162, 163, 164, 165, 166, 167, 168, 169, 147, 148, 149, 150, 151, 152, 153, 154, 155, 156, 157, 158, 159, 160, 161] (by decide +kernel) (by decide +kernel)
set_option maxRecDepth 20000 in
theorem gX8_rounds_X3_waysTaken : GoodIn wsX8_rounds (wsV RX8 146 RX3 yX3_waysTaken wsX3_waysTaken) := goodIn_app (goodIn_of _ (by decide +kernel)) ggX8_rounds_X3_waysTaken
set_option maxRecDepth 20000 in
theorem ggX8_rounds_X8_power : GoodIn wsX8_rounds wsX8_power := goodIn_r _ [122] (by decide +kernel) (by decide +kernel)
set_option maxRecDepth 20000 in
theorem gX8_rounds_X8_power : GoodIn wsX8_rounds (va_wsS RX8 168 yX8_power wsX8_power) := goodIn_app (goodIn_of _ (by decide +kernel)) ggX8_rounds_X8_power
set_option maxRecDepth 20000 in
theorem ggX8_rounds_X8_tell : GoodIn wsX8_rounds wsX8_tell := goodIn_r _ [125, 126, 127, 80, 128, 129, 130, 8, 131] (by decide +kernel) (by decide +kernel)
set_option maxRecDepth 20000 in
theorem gX8_rounds_X8_tell : GoodIn wsX8_rounds (va_wsS RX8 152 yX8_tell wsX8_tell) := goodIn_app (goodIn_of _ (by decide +kernel)) ggX8_rounds_X8_tell
set_option maxRecDepth 20000 in
theorem ggX8_rounds_X4_withoutWriter : GoodIn wsX8_rounds wsX4_withoutWriter := goodIn_r _ [88, 89, 152, 153, 154, 155, 156, 157] (by decide +kernel) (by decide +kernel)
set_option maxRecDepth 20000 in
theorem gX8_rounds_X4_withoutWriter : GoodIn wsX8_rounds (wsV RX8 172 RX4 yX4_withoutWriter wsX4_withoutWriter) := goodIn_app (goodIn_of _ (by decide +kernel)) ggX8_rounds_X4_withoutWriter
set_option maxRecDepth 20000 in
theorem ggX8_rounds_J6_bitCount_0f7a4 : GoodIn wsX8_rounds wsJ6_bitCount_0f7a4 := goodIn_r _ [136, 137, 138, 139] (by decide +kernel) (by decide +kernel)
set_option maxRecDepth 20000 in
theorem gX8_rounds_J6_bitCount_0f7a4 : GoodIn wsX8_rounds (va_wsS RX8 175 yJ6_bitCount_0f7a4 wsJ6_bitCount_0f7a4) := goodIn_app (goodIn_of _ (by decide +kernel)) ggX8_rounds_J6_bitCount_0f7a4
theorem dX8_rounds_0 : decode cX8_rounds 0 = .ok (.aload_n 0, 1) := by decide +kernel
theorem dX8_rounds_1 : decode cX8_rounds 1 = .ok (.iload_n 2, 1) := by decide +kernel
theorem dX8_rounds_2 : decode cX8_rounds 2 = .ok (.invokevirtual 134, 3) := by decide +kernel
theorem dX8_rounds_5 : decode cX8_rounds 5 = .ok (.ifCond .eq 34, 3) := by decide +kernel
theorem dX8_rounds_8 : decode cX8_rounds 8 = .ok (.iload_n 3, 1) := by decide +kernel
theorem dX8_rounds_9 : decode cX8_rounds 9 = .ok (.iconst 1, 1) := by decide +kernel
theorem dX8_rounds_10 : decode cX8_rounds 10 = .ok (.iconst 4, 1) := by decide +kernel
theorem dX8_rounds_11 : decode cX8_rounds 11 = .ok (.invokestatic 62, 3) := by decide +kernel
theorem dX8_rounds_14 : decode cX8_rounds 14 = .ok (.ifCond .eq 25, 3) := by decide +kernel
theorem dX8_rounds_17 : decode cX8_rounds 17 = .ok (.iload 4, 2) := by decide +kernel
theorem dX8_rounds_19 : decode cX8_rounds 19 = .ok (.iconst 0, 1) := by decide +kernel
theorem dX8_rounds_20 : decode cX8_rounds 20 = .ok (.iconst 1, 1) := by decide +kernel
theorem dX8_rounds_21 : decode cX8_rounds 21 = .ok (.invokestatic 62, 3) := by decide +kernel
theorem dX8_rounds_24 : decode cX8_rounds 24 = .ok (.ifCond .eq 15, 3) := by decide +kernel
theorem dX8_rounds_27 : decode cX8_rounds 27 = .ok (.iload 5, 2) := by decide +kernel
theorem dX8_rounds_29 : decode cX8_rounds 29 = .ok (.invokestatic 137, 3) := by decide +kernel
theorem dX8_rounds_32 : decode cX8_rounds 32 = .ok (.ifCond .eq 7, 3) := by decide +kernel
theorem dX8_rounds_35 : decode cX8_rounds 35 = .ok (.iconst 1, 1) := by decide +kernel
theorem dX8_rounds_36 : decode cX8_rounds 36 = .ok (.goto 4, 3) := by decide +kernel
theorem dX8_rounds_39 : decode cX8_rounds 39 = .ok (.iconst 0, 1) := by decide +kernel
theorem dX8_rounds_40 : decode cX8_rounds 40 = .ok (.istore 6, 2) := by decide +kernel
theorem dX8_rounds_42 : decode cX8_rounds 42 = .ok (.aload_n 0, 1) := by decide +kernel
theorem dX8_rounds_43 : decode cX8_rounds 43 = .ok (.aload_n 0, 1) := by decide +kernel
