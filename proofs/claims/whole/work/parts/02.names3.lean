theorem dX9_mark_69 : decode cX9_mark 69 = .ok (.iload_n 3, 1) := by decide +kernel
theorem dX9_mark_70 : decode cX9_mark 70 = .ok (.ifCond .ge 8, 3) := by decide +kernel
theorem dX9_mark_73 : decode cX9_mark 73 = .ok (.bipush (-6), 2) := by decide +kernel
theorem dX9_mark_75 : decode cX9_mark 75 = .ok (.goto 4, 3) := by decide +kernel
theorem dX9_mark_78 : decode cX9_mark 78 = .ok (.iload_n 3, 1) := by decide +kernel
theorem dX9_mark_79 : decode cX9_mark 79 = .ok (.iastore, 1) := by decide +kernel
theorem dX9_mark_80 : decode cX9_mark 80 = .ok (.iload 4, 2) := by decide +kernel
theorem dX9_mark_82 : decode cX9_mark 82 = .ok (.ireturn, 1) := by decide +kernel
set_option maxRecDepth 20000 in
theorem ggX9_set_X9_in : GoodIn wsX9_set wsX9_in := goodIn_r _ [11] (by decide +kernel) (by decide +kernel)
set_option maxRecDepth 20000 in
theorem gX9_set_X9_in : GoodIn wsX9_set (va_wsS RX9 59 yX9_in wsX9_in) := goodIn_app (goodIn_of _ (by decide +kernel)) ggX9_set_X9_in
set_option maxRecDepth 20000 in
theorem ggX9_set_X9_isJudge : GoodIn wsX9_set wsX9_isJudge := goodIn_r _ [15, 16, 8, 9, 10, 11, 22, 23, 24, 25, 26, 27, 28, 29, 30, 31, 32, 33, 34, 35, 36, 37, 38, 39, 40, 41] (by decide +kernel) (by decide +kernel)
set_option maxRecDepth 20000 in
theorem gX9_set_X9_isJudge : GoodIn wsX9_set (wsV RX9 78 RX9 yX9_isJudge wsX9_isJudge) := goodIn_app (goodIn_of _ (by decide +kernel)) ggX9_set_X9_isJudge
set_option maxRecDepth 20000 in
theorem ggX9_set_X9_isPaper : GoodIn wsX9_set wsX9_isPaper := goodIn_r _ [20, 21, 8, 9, 10, 11, 22, 23, 24, 25, 26, 27, 28, 29, 30, 31, 32, 33, 34, 35, 36, 37, 38, 39, 40, 41] (by decide +kernel) (by decide +kernel)
set_option maxRecDepth 20000 in
theorem gX9_set_X9_isPaper : GoodIn wsX9_set (wsV RX9 86 RX9 yX9_isPaper wsX9_isPaper) := goodIn_app (goodIn_of _ (by decide +kernel)) ggX9_set_X9_isPaper
theorem dX9_set_0 : decode cX9_set 0 = .ok (.iload_n 1, 1) := by decide +kernel
theorem dX9_set_1 : decode cX9_set 1 = .ok (.i2l, 1) := by decide +kernel
theorem dX9_set_2 : decode cX9_set 2 = .ok (.lconst 0, 1) := by decide +kernel
theorem dX9_set_3 : decode cX9_set 3 = .ok (.ldc2_w 72, 3) := by decide +kernel
theorem dX9_set_6 : decode cX9_set 6 = .ok (.invokestatic 59, 3) := by decide +kernel
theorem dX9_set_9 : decode cX9_set 9 = .ok (.ifCond .ne 6, 3) := by decide +kernel
theorem dX9_set_12 : decode cX9_set 12 = .ok (.bipush (-2), 2) := by decide +kernel
theorem dX9_set_14 : decode cX9_set 14 = .ok (.ireturn, 1) := by decide +kernel
theorem dX9_set_15 : decode cX9_set 15 = .ok (.iload_n 1, 1) := by decide +kernel
theorem dX9_set_16 : decode cX9_set 16 = .ok (.ifCond .ne 14, 3) := by decide +kernel
theorem dX9_set_19 : decode cX9_set 19 = .ok (.aload_n 0, 1) := by decide +kernel
theorem dX9_set_20 : decode cX9_set 20 = .ok (.iload_n 2, 1) := by decide +kernel
theorem dX9_set_21 : decode cX9_set 21 = .ok (.invokevirtual 78, 3) := by decide +kernel
theorem dX9_set_24 : decode cX9_set 24 = .ok (.ifCond .ne 16, 3) := by decide +kernel
theorem dX9_set_27 : decode cX9_set 27 = .ok (.goto 11, 3) := by decide +kernel
theorem dX9_set_30 : decode cX9_set 30 = .ok (.aload_n 0, 1) := by decide +kernel
theorem dX9_set_31 : decode cX9_set 31 = .ok (.iload_n 2, 1) := by decide +kernel
theorem dX9_set_32 : decode cX9_set 32 = .ok (.invokevirtual 86, 3) := by decide +kernel
theorem dX9_set_35 : decode cX9_set 35 = .ok (.ifCond .ne 5, 3) := by decide +kernel
theorem dX9_set_38 : decode cX9_set 38 = .ok (.iconst (-1), 1) := by decide +kernel
theorem dX9_set_39 : decode cX9_set 39 = .ok (.ireturn, 1) := by decide +kernel
theorem dX9_set_40 : decode cX9_set 40 = .ok (.iload_n 3, 1) := by decide +kernel
theorem dX9_set_41 : decode cX9_set 41 = .ok (.i2l, 1) := by decide +kernel
theorem dX9_set_42 : decode cX9_set 42 = .ok (.iload_n 1, 1) := by decide +kernel
theorem dX9_set_43 : decode cX9_set 43 = .ok (.iconst 2, 1) := by decide +kernel
theorem dX9_set_44 : decode cX9_set 44 = .ok (.if_icmp .ne 9, 3) := by decide +kernel
theorem dX9_set_47 : decode cX9_set 47 = .ok (.ldc2_w 84, 3) := by decide +kernel
theorem dX9_set_50 : decode cX9_set 50 = .ok (.goto 4, 3) := by decide +kernel
theorem dX9_set_53 : decode cX9_set 53 = .ok (.lconst 0, 1) := by decide +kernel
theorem dX9_set_54 : decode cX9_set 54 = .ok (.iload_n 1, 1) := by decide +kernel
theorem dX9_set_55 : decode cX9_set 55 = .ok (.iconst 2, 1) := by decide +kernel
theorem dX9_set_56 : decode cX9_set 56 = .ok (.if_icmp .ne 9, 3) := by decide +kernel
theorem dX9_set_59 : decode cX9_set 59 = .ok (.ldc2_w 89, 3) := by decide +kernel
theorem dX9_set_62 : decode cX9_set 62 = .ok (.goto 6, 3) := by decide +kernel
theorem dX9_set_65 : decode cX9_set 65 = .ok (.ldc2_w 91, 3) := by decide +kernel
theorem dX9_set_68 : decode cX9_set 68 = .ok (.invokestatic 59, 3) := by decide +kernel
theorem dX9_set_71 : decode cX9_set 71 = .ok (.ifCond .ne 6, 3) := by decide +kernel
theorem dX9_set_74 : decode cX9_set 74 = .ok (.bipush (-2), 2) := by decide +kernel
theorem dX9_set_76 : decode cX9_set 76 = .ok (.ireturn, 1) := by decide +kernel
theorem dX9_set_77 : decode cX9_set 77 = .ok (.iload_n 1, 1) := by decide +kernel
theorem dX9_set_78 : decode cX9_set 78 = .ok (.ifCond .ne 12, 3) := by decide +kernel
theorem dX9_set_81 : decode cX9_set 81 = .ok (.aload_n 0, 1) := by decide +kernel
theorem dX9_set_82 : decode cX9_set 82 = .ok (.getfield 16, 3) := by decide +kernel
theorem dX9_set_85 : decode cX9_set 85 = .ok (.iload_n 2, 1) := by decide +kernel
theorem dX9_set_86 : decode cX9_set 86 = .ok (.iaload, 1) := by decide +kernel
theorem dX9_set_87 : decode cX9_set 87 = .ok (.goto 23, 3) := by decide +kernel
theorem dX9_set_90 : decode cX9_set 90 = .ok (.iload_n 1, 1) := by decide +kernel
theorem dX9_set_91 : decode cX9_set 91 = .ok (.iconst 1, 1) := by decide +kernel
theorem dX9_set_92 : decode cX9_set 92 = .ok (.if_icmp .ne 12, 3) := by decide +kernel
theorem dX9_set_95 : decode cX9_set 95 = .ok (.aload_n 0, 1) := by decide +kernel
theorem dX9_set_96 : decode cX9_set 96 = .ok (.getfield 28, 3) := by decide +kernel
theorem dX9_set_99 : decode cX9_set 99 = .ok (.iload_n 2, 1) := by decide +kernel
theorem dX9_set_100 : decode cX9_set 100 = .ok (.iaload, 1) := by decide +kernel
theorem dX9_set_101 : decode cX9_set 101 = .ok (.goto 9, 3) := by decide +kernel
theorem dX9_set_104 : decode cX9_set 104 = .ok (.aload_n 0, 1) := by decide +kernel
theorem dX9_set_105 : decode cX9_set 105 = .ok (.getfield 31, 3) := by decide +kernel
theorem dX9_set_108 : decode cX9_set 108 = .ok (.iload_n 2, 1) := by decide +kernel
theorem dX9_set_109 : decode cX9_set 109 = .ok (.iaload, 1) := by decide +kernel
theorem dX9_set_110 : decode cX9_set 110 = .ok (.istore 4, 2) := by decide +kernel
theorem dX9_set_112 : decode cX9_set 112 = .ok (.iload_n 1, 1) := by decide +kernel
theorem dX9_set_113 : decode cX9_set 113 = .ok (.ifCond .ne 13, 3) := by decide +kernel
theorem dX9_set_116 : decode cX9_set 116 = .ok (.aload_n 0, 1) := by decide +kernel
theorem dX9_set_117 : decode cX9_set 117 = .ok (.getfield 16, 3) := by decide +kernel
theorem dX9_set_120 : decode cX9_set 120 = .ok (.iload_n 2, 1) := by decide +kernel
theorem dX9_set_121 : decode cX9_set 121 = .ok (.iload_n 3, 1) := by decide +kernel
theorem dX9_set_122 : decode cX9_set 122 = .ok (.iastore, 1) := by decide +kernel
theorem dX9_set_123 : decode cX9_set 123 = .ok (.goto 34, 3) := by decide +kernel
theorem dX9_set_126 : decode cX9_set 126 = .ok (.iload_n 1, 1) := by decide +kernel
theorem dX9_set_127 : decode cX9_set 127 = .ok (.iconst 1, 1) := by decide +kernel
theorem dX9_set_128 : decode cX9_set 128 = .ok (.if_icmp .ne 13, 3) := by decide +kernel
theorem dX9_set_131 : decode cX9_set 131 = .ok (.aload_n 0, 1) := by decide +kernel
theorem dX9_set_132 : decode cX9_set 132 = .ok (.getfield 28, 3) := by decide +kernel
theorem dX9_set_135 : decode cX9_set 135 = .ok (.iload_n 2, 1) := by decide +kernel
theorem dX9_set_136 : decode cX9_set 136 = .ok (.iload_n 3, 1) := by decide +kernel
theorem dX9_set_137 : decode cX9_set 137 = .ok (.iastore, 1) := by decide +kernel
theorem dX9_set_138 : decode cX9_set 138 = .ok (.goto 19, 3) := by decide +kernel
theorem dX9_set_141 : decode cX9_set 141 = .ok (.aload_n 0, 1) := by decide +kernel
theorem dX9_set_142 : decode cX9_set 142 = .ok (.getfield 31, 3) := by decide +kernel
theorem dX9_set_145 : decode cX9_set 145 = .ok (.iload_n 2, 1) := by decide +kernel
theorem dX9_set_146 : decode cX9_set 146 = .ok (.iload_n 3, 1) := by decide +kernel
theorem dX9_set_147 : decode cX9_set 147 = .ok (.ifCond .ge 8, 3) := by decide +kernel
theorem dX9_set_150 : decode cX9_set 150 = .ok (.bipush (-6), 2) := by decide +kernel
theorem dX9_set_152 : decode cX9_set 152 = .ok (.goto 4, 3) := by decide +kernel
theorem dX9_set_155 : decode cX9_set 155 = .ok (.iload_n 3, 1) := by decide +kernel
theorem dX9_set_156 : decode cX9_set 156 = .ok (.iastore, 1) := by decide +kernel
theorem dX9_set_157 : decode cX9_set 157 = .ok (.iload 4, 2) := by decide +kernel
theorem dX9_set_159 : decode cX9_set 159 = .ok (.ireturn, 1) := by decide +kernel
set_option maxRecDepth 20000 in
theorem ggX9_say_X9_in : GoodIn wsX9_say wsX9_in := goodIn_r _ [8] (by decide +kernel) (by decide +kernel)
set_option maxRecDepth 20000 in
theorem gX9_say_X9_in : GoodIn wsX9_say (va_wsS RX9 59 yX9_in wsX9_in) := goodIn_app (goodIn_of _ (by decide +kernel)) ggX9_say_X9_in
theorem dX9_say_0 : decode cX9_say 0 = .ok (.iload_n 1, 1) := by decide +kernel
theorem dX9_say_1 : decode cX9_say 1 = .ok (.i2l, 1) := by decide +kernel
theorem dX9_say_2 : decode cX9_say 2 = .ok (.ldc2_w 93, 3) := by decide +kernel
theorem dX9_say_5 : decode cX9_say 5 = .ok (.ldc2_w 95, 3) := by decide +kernel
theorem dX9_say_8 : decode cX9_say 8 = .ok (.invokestatic 59, 3) := by decide +kernel
theorem dX9_say_11 : decode cX9_say 11 = .ok (.ifCond .ne 6, 3) := by decide +kernel
theorem dX9_say_14 : decode cX9_say 14 = .ok (.bipush (-2), 2) := by decide +kernel
theorem dX9_say_16 : decode cX9_say 16 = .ok (.ireturn, 1) := by decide +kernel
theorem dX9_say_17 : decode cX9_say 17 = .ok (.aload_n 0, 1) := by decide +kernel
theorem dX9_say_18 : decode cX9_say 18 = .ok (.getfield 97, 3) := by decide +kernel
theorem dX9_say_21 : decode cX9_say 21 = .ok (.bipush 40, 2) := by decide +kernel
theorem dX9_say_23 : decode cX9_say 23 = .ok (.if_icmp .ne 6, 3) := by decide +kernel
theorem dX9_say_26 : decode cX9_say 26 = .ok (.bipush (-4), 2) := by decide +kernel
theorem dX9_say_28 : decode cX9_say 28 = .ok (.ireturn, 1) := by decide +kernel
theorem dX9_say_29 : decode cX9_say 29 = .ok (.aload_n 0, 1) := by decide +kernel
theorem dX9_say_30 : decode cX9_say 30 = .ok (.getfield 40, 3) := by decide +kernel
theorem dX9_say_33 : decode cX9_say 33 = .ok (.aload_n 0, 1) := by decide +kernel
theorem dX9_say_34 : decode cX9_say 34 = .ok (.getfield 97, 3) := by decide +kernel
theorem dX9_say_37 : decode cX9_say 37 = .ok (.iload_n 1, 1) := by decide +kernel
theorem dX9_say_38 : decode cX9_say 38 = .ok (.iastore, 1) := by decide +kernel
theorem dX9_say_39 : decode cX9_say 39 = .ok (.aload_n 0, 1) := by decide +kernel
theorem dX9_say_40 : decode cX9_say 40 = .ok (.dup, 1) := by decide +kernel
theorem dX9_say_41 : decode cX9_say 41 = .ok (.getfield 97, 3) := by decide +kernel
theorem dX9_say_44 : decode cX9_say 44 = .ok (.iconst 1, 1) := by decide +kernel
theorem dX9_say_45 : decode cX9_say 45 = .ok (.iadd, 1) := by decide +kernel
theorem dX9_say_46 : decode cX9_say 46 = .ok (.putfield 97, 3) := by decide +kernel
theorem dX9_say_49 : decode cX9_say 49 = .ok (.aload_n 0, 1) := by decide +kernel
theorem dX9_say_50 : decode cX9_say 50 = .ok (.getfield 97, 3) := by decide +kernel
theorem dX9_say_53 : decode cX9_say 53 = .ok (.ireturn, 1) := by decide +kernel
theorem dX9_wipe_0 : decode cX9_wipe 0 = .ok (.aload_n 0, 1) := by decide +kernel
theorem dX9_wipe_1 : decode cX9_wipe 1 = .ok (.getfield 97, 3) := by decide +kernel
theorem dX9_wipe_4 : decode cX9_wipe 4 = .ok (.istore_n 1, 1) := by decide +kernel
theorem dX9_wipe_5 : decode cX9_wipe 5 = .ok (.aload_n 0, 1) := by decide +kernel
theorem dX9_wipe_6 : decode cX9_wipe 6 = .ok (.iconst 0, 1) := by decide +kernel
theorem dX9_wipe_7 : decode cX9_wipe 7 = .ok (.putfield 97, 3) := by decide +kernel
theorem dX9_wipe_10 : decode cX9_wipe 10 = .ok (.iload_n 1, 1) := by decide +kernel
theorem dX9_wipe_11 : decode cX9_wipe 11 = .ok (.ireturn, 1) := by decide +kernel
theorem dX9_isJoin_0 : decode cX9_isJoin 0 = .ok (.iload_n 0, 1) := by decide +kernel
theorem dX9_isJoin_1 : decode cX9_isJoin 1 = .ok (.bipush 97, 2) := by decide +kernel
theorem dX9_isJoin_3 : decode cX9_isJoin 3 = .ok (.if_icmp .eq 21, 3) := by decide +kernel
theorem dX9_isJoin_6 : decode cX9_isJoin 6 = .ok (.iload_n 0, 1) := by decide +kernel
theorem dX9_isJoin_7 : decode cX9_isJoin 7 = .ok (.bipush 109, 2) := by decide +kernel
theorem dX9_isJoin_9 : decode cX9_isJoin 9 = .ok (.if_icmp .eq 15, 3) := by decide +kernel
theorem dX9_isJoin_12 : decode cX9_isJoin 12 = .ok (.iload_n 0, 1) := by decide +kernel
theorem dX9_isJoin_13 : decode cX9_isJoin 13 = .ok (.bipush 108, 2) := by decide +kernel
theorem dX9_isJoin_15 : decode cX9_isJoin 15 = .ok (.if_icmp .eq 9, 3) := by decide +kernel
theorem dX9_isJoin_18 : decode cX9_isJoin 18 = .ok (.iload_n 0, 1) := by decide +kernel
theorem dX9_isJoin_19 : decode cX9_isJoin 19 = .ok (.bipush 103, 2) := by decide +kernel
theorem dX9_isJoin_21 : decode cX9_isJoin 21 = .ok (.if_icmp .ne 7, 3) := by decide +kernel
theorem dX9_isJoin_24 : decode cX9_isJoin 24 = .ok (.iconst 1, 1) := by decide +kernel
theorem dX9_isJoin_25 : decode cX9_isJoin 25 = .ok (.goto 4, 3) := by decide +kernel
theorem dX9_isJoin_28 : decode cX9_isJoin 28 = .ok (.iconst 0, 1) := by decide +kernel
theorem dX9_isJoin_29 : decode cX9_isJoin 29 = .ok (.ireturn, 1) := by decide +kernel
set_option maxRecDepth 20000 in
theorem ggX9_stepOf_X9_in : GoodIn wsX9_stepOf wsX9_in := goodIn_r _ [8] (by decide +kernel) (by decide +kernel)
set_option maxRecDepth 20000 in
theorem gX9_stepOf_X9_in : GoodIn wsX9_stepOf (va_wsS RX9 59 yX9_in wsX9_in) := goodIn_app (goodIn_of _ (by decide +kernel)) ggX9_stepOf_X9_in
set_option maxRecDepth 20000 in
theorem ggX9_stepOf_X9_isJoin : GoodIn wsX9_stepOf wsX9_isJoin := goodIn_r _ [11] (by decide +kernel) (by decide +kernel)
set_option maxRecDepth 20000 in
theorem gX9_stepOf_X9_isJoin : GoodIn wsX9_stepOf (va_wsS RX9 104 yX9_isJoin wsX9_isJoin) := goodIn_app (goodIn_of _ (by decide +kernel)) ggX9_stepOf_X9_isJoin
theorem dX9_stepOf_0 : decode cX9_stepOf 0 = .ok (.iload_n 1, 1) := by decide +kernel
theorem dX9_stepOf_1 : decode cX9_stepOf 1 = .ok (.i2l, 1) := by decide +kernel
theorem dX9_stepOf_2 : decode cX9_stepOf 2 = .ok (.ldc2_w 100, 3) := by decide +kernel
theorem dX9_stepOf_5 : decode cX9_stepOf 5 = .ok (.ldc2_w 102, 3) := by decide +kernel
theorem dX9_stepOf_8 : decode cX9_stepOf 8 = .ok (.invokestatic 59, 3) := by decide +kernel
theorem dX9_stepOf_11 : decode cX9_stepOf 11 = .ok (.istore_n 2, 1) := by decide +kernel
theorem dX9_stepOf_12 : decode cX9_stepOf 12 = .ok (.iload_n 0, 1) := by decide +kernel
theorem dX9_stepOf_13 : decode cX9_stepOf 13 = .ok (.tableswitch 111 0 6 #[43, 56, 68, 111, 111, 78, 99], 43) := by decide +kernel
theorem dX9_stepOf_56 : decode cX9_stepOf 56 = .ok (.iload_n 1, 1) := by decide +kernel
theorem dX9_stepOf_57 : decode cX9_stepOf 57 = .ok (.invokestatic 104, 3) := by decide +kernel
theorem dX9_stepOf_60 : decode cX9_stepOf 60 = .ok (.ifCond .eq 7, 3) := by decide +kernel
theorem dX9_stepOf_63 : decode cX9_stepOf 63 = .ok (.iconst 1, 1) := by decide +kernel
theorem dX9_stepOf_64 : decode cX9_stepOf 64 = .ok (.goto 4, 3) := by decide +kernel
theorem dX9_stepOf_67 : decode cX9_stepOf 67 = .ok (.iconst (-1), 1) := by decide +kernel
theorem dX9_stepOf_68 : decode cX9_stepOf 68 = .ok (.ireturn, 1) := by decide +kernel
theorem dX9_stepOf_69 : decode cX9_stepOf 69 = .ok (.iload_n 1, 1) := by decide +kernel
theorem dX9_stepOf_70 : decode cX9_stepOf 70 = .ok (.bipush 62, 2) := by decide +kernel
theorem dX9_stepOf_72 : decode cX9_stepOf 72 = .ok (.if_icmp .ne 7, 3) := by decide +kernel
theorem dX9_stepOf_75 : decode cX9_stepOf 75 = .ok (.iconst 2, 1) := by decide +kernel
theorem dX9_stepOf_76 : decode cX9_stepOf 76 = .ok (.goto 4, 3) := by decide +kernel
theorem dX9_stepOf_79 : decode cX9_stepOf 79 = .ok (.iconst (-1), 1) := by decide +kernel
theorem dX9_stepOf_80 : decode cX9_stepOf 80 = .ok (.ireturn, 1) := by decide +kernel
theorem dX9_stepOf_81 : decode cX9_stepOf 81 = .ok (.iload_n 2, 1) := by decide +kernel
theorem dX9_stepOf_82 : decode cX9_stepOf 82 = .ok (.ifCond .eq 7, 3) := by decide +kernel
theorem dX9_stepOf_85 : decode cX9_stepOf 85 = .ok (.iconst 3, 1) := by decide +kernel
theorem dX9_stepOf_86 : decode cX9_stepOf 86 = .ok (.goto 4, 3) := by decide +kernel
theorem dX9_stepOf_89 : decode cX9_stepOf 89 = .ok (.iconst (-1), 1) := by decide +kernel
theorem dX9_stepOf_90 : decode cX9_stepOf 90 = .ok (.ireturn, 1) := by decide +kernel
theorem dX9_stepOf_91 : decode cX9_stepOf 91 = .ok (.iload_n 1, 1) := by decide +kernel
theorem dX9_stepOf_92 : decode cX9_stepOf 92 = .ok (.i2l, 1) := by decide +kernel
theorem dX9_stepOf_93 : decode cX9_stepOf 93 = .ok (.ldc2_w 107, 3) := by decide +kernel
theorem dX9_stepOf_96 : decode cX9_stepOf 96 = .ok (.ldc2_w 109, 3) := by decide +kernel
theorem dX9_stepOf_99 : decode cX9_stepOf 99 = .ok (.invokestatic 59, 3) := by decide +kernel
theorem dX9_stepOf_102 : decode cX9_stepOf 102 = .ok (.ifCond .eq 8, 3) := by decide +kernel
theorem dX9_stepOf_105 : decode cX9_stepOf 105 = .ok (.bipush 6, 2) := by decide +kernel
theorem dX9_stepOf_107 : decode cX9_stepOf 107 = .ok (.goto 4, 3) := by decide +kernel
theorem dX9_stepOf_110 : decode cX9_stepOf 110 = .ok (.iconst (-1), 1) := by decide +kernel
theorem dX9_stepOf_111 : decode cX9_stepOf 111 = .ok (.ireturn, 1) := by decide +kernel
theorem dX9_stepOf_112 : decode cX9_stepOf 112 = .ok (.iload_n 1, 1) := by decide +kernel
theorem dX9_stepOf_113 : decode cX9_stepOf 113 = .ok (.bipush 59, 2) := by decide +kernel
theorem dX9_stepOf_115 : decode cX9_stepOf 115 = .ok (.if_icmp .ne 7, 3) := by decide +kernel
theorem dX9_stepOf_118 : decode cX9_stepOf 118 = .ok (.iconst 0, 1) := by decide +kernel
theorem dX9_stepOf_119 : decode cX9_stepOf 119 = .ok (.goto 4, 3) := by decide +kernel
theorem dX9_stepOf_122 : decode cX9_stepOf 122 = .ok (.iconst (-1), 1) := by decide +kernel
theorem dX9_stepOf_123 : decode cX9_stepOf 123 = .ok (.ireturn, 1) := by decide +kernel
theorem dX9_stepOf_124 : decode cX9_stepOf 124 = .ok (.iload_n 1, 1) := by decide +kernel
theorem dX9_stepOf_125 : decode cX9_stepOf 125 = .ok (.bipush 59, 2) := by decide +kernel
theorem dX9_stepOf_127 : decode cX9_stepOf 127 = .ok (.if_icmp .ne 7, 3) := by decide +kernel
theorem dX9_stepOf_130 : decode cX9_stepOf 130 = .ok (.iconst 0, 1) := by decide +kernel
theorem dX9_stepOf_131 : decode cX9_stepOf 131 = .ok (.goto 27, 3) := by decide +kernel
theorem dX9_stepOf_134 : decode cX9_stepOf 134 = .ok (.iload_n 1, 1) := by decide +kernel
theorem dX9_stepOf_135 : decode cX9_stepOf 135 = .ok (.bipush 63, 2) := by decide +kernel
theorem dX9_stepOf_137 : decode cX9_stepOf 137 = .ok (.if_icmp .ne 7, 3) := by decide +kernel
theorem dX9_stepOf_140 : decode cX9_stepOf 140 = .ok (.iconst 5, 1) := by decide +kernel
theorem dX9_stepOf_141 : decode cX9_stepOf 141 = .ok (.goto 17, 3) := by decide +kernel
theorem dX9_stepOf_144 : decode cX9_stepOf 144 = .ok (.iload_n 2, 1) := by decide +kernel
theorem dX9_stepOf_145 : decode cX9_stepOf 145 = .ok (.ifCond .eq 12, 3) := by decide +kernel
theorem dX9_stepOf_148 : decode cX9_stepOf 148 = .ok (.iload_n 0, 1) := by decide +kernel
theorem dX9_stepOf_149 : decode cX9_stepOf 149 = .ok (.iconst 3, 1) := by decide +kernel
theorem dX9_stepOf_150 : decode cX9_stepOf 150 = .ok (.if_icmp .ne 7, 3) := by decide +kernel
theorem dX9_stepOf_153 : decode cX9_stepOf 153 = .ok (.iconst 4, 1) := by decide +kernel
theorem dX9_stepOf_154 : decode cX9_stepOf 154 = .ok (.goto 4, 3) := by decide +kernel
theorem dX9_stepOf_157 : decode cX9_stepOf 157 = .ok (.iconst (-1), 1) := by decide +kernel
theorem dX9_stepOf_158 : decode cX9_stepOf 158 = .ok (.ireturn, 1) := by decide +kernel
set_option maxRecDepth 20000 in
theorem ggX9_fault_X9_stepOf : GoodIn wsX9_fault wsX9_stepOf := goodIn_r _ [6, 7, 8, 9, 10, 11, 12, 5, 13, 14, 15, 16] (by decide +kernel) (by decide +kernel)
set_option maxRecDepth 20000 in
theorem gX9_fault_X9_stepOf : GoodIn wsX9_fault (va_wsS RX9 111 yX9_stepOf wsX9_stepOf) := goodIn_app (goodIn_of _ (by decide +kernel)) ggX9_fault_X9_stepOf
theorem dX9_fault_0 : decode cX9_fault 0 = .ok (.iconst 0, 1) := by decide +kernel
theorem dX9_fault_1 : decode cX9_fault 1 = .ok (.istore_n 1, 1) := by decide +kernel
theorem dX9_fault_2 : decode cX9_fault 2 = .ok (.iconst 0, 1) := by decide +kernel
theorem dX9_fault_3 : decode cX9_fault 3 = .ok (.istore_n 2, 1) := by decide +kernel
theorem dX9_fault_4 : decode cX9_fault 4 = .ok (.iload_n 2, 1) := by decide +kernel
theorem dX9_fault_5 : decode cX9_fault 5 = .ok (.aload_n 0, 1) := by decide +kernel
theorem dX9_fault_6 : decode cX9_fault 6 = .ok (.getfield 97, 3) := by decide +kernel
theorem dX9_fault_9 : decode cX9_fault 9 = .ok (.if_icmp .ge 26, 3) := by decide +kernel
theorem dX9_fault_12 : decode cX9_fault 12 = .ok (.iload_n 1, 1) := by decide +kernel
theorem dX9_fault_13 : decode cX9_fault 13 = .ok (.aload_n 0, 1) := by decide +kernel
theorem dX9_fault_14 : decode cX9_fault 14 = .ok (.getfield 40, 3) := by decide +kernel
theorem dX9_fault_17 : decode cX9_fault 17 = .ok (.iload_n 2, 1) := by decide +kernel
theorem dX9_fault_18 : decode cX9_fault 18 = .ok (.iaload, 1) := by decide +kernel
theorem dX9_fault_19 : decode cX9_fault 19 = .ok (.invokestatic 111, 3) := by decide +kernel
theorem dX9_fault_22 : decode cX9_fault 22 = .ok (.istore_n 1, 1) := by decide +kernel
theorem dX9_fault_23 : decode cX9_fault 23 = .ok (.iload_n 1, 1) := by decide +kernel
theorem dX9_fault_24 : decode cX9_fault 24 = .ok (.ifCond .ge 5, 3) := by decide +kernel
theorem dX9_fault_27 : decode cX9_fault 27 = .ok (.iload_n 2, 1) := by decide +kernel
theorem dX9_fault_28 : decode cX9_fault 28 = .ok (.ireturn, 1) := by decide +kernel
theorem dX9_fault_29 : decode cX9_fault 29 = .ok (.iinc 2 1, 3) := by decide +kernel
theorem dX9_fault_32 : decode cX9_fault 32 = .ok (.goto (-28), 3) := by decide +kernel
theorem dX9_fault_35 : decode cX9_fault 35 = .ok (.iload_n 1, 1) := by decide +kernel
theorem dX9_fault_36 : decode cX9_fault 36 = .ok (.iconst 3, 1) := by decide +kernel
theorem dX9_fault_37 : decode cX9_fault 37 = .ok (.if_icmp .eq 14, 3) := by decide +kernel
theorem dX9_fault_40 : decode cX9_fault 40 = .ok (.iload_n 1, 1) := by decide +kernel
theorem dX9_fault_41 : decode cX9_fault 41 = .ok (.iconst 4, 1) := by decide +kernel
theorem dX9_fault_42 : decode cX9_fault 42 = .ok (.if_icmp .eq 9, 3) := by decide +kernel
theorem dX9_fault_45 : decode cX9_fault 45 = .ok (.iload_n 1, 1) := by decide +kernel
theorem dX9_fault_46 : decode cX9_fault 46 = .ok (.bipush 6, 2) := by decide +kernel
theorem dX9_fault_48 : decode cX9_fault 48 = .ok (.if_icmp .ne 8, 3) := by decide +kernel
theorem dX9_fault_51 : decode cX9_fault 51 = .ok (.bipush (-6), 2) := by decide +kernel
theorem dX9_fault_53 : decode cX9_fault 53 = .ok (.goto 7, 3) := by decide +kernel
theorem dX9_fault_56 : decode cX9_fault 56 = .ok (.aload_n 0, 1) := by decide +kernel
theorem dX9_fault_57 : decode cX9_fault 57 = .ok (.getfield 97, 3) := by decide +kernel
theorem dX9_fault_60 : decode cX9_fault 60 = .ok (.ireturn, 1) := by decide +kernel
set_option maxRecDepth 20000 in
theorem ggX9_rule_X9_fault : GoodIn wsX9_rule wsX9_fault := goodIn_r _ [11, 2, 3, 12, 13, 10, 14, 15, 16, 17, 18, 19, 20, 21, 22, 23, 24, 25, 26, 27, 28, 29, 30, 31, 32, 33, 34, 35, 36, 37, 38, 39, 40, 41, 42, 43, 44] (by decide +kernel) (by decide +kernel)
set_option maxRecDepth 20000 in
theorem gX9_rule_X9_fault : GoodIn wsX9_rule (wsV RX9 114 RX9 yX9_fault wsX9_fault) := goodIn_app (goodIn_of _ (by decide +kernel)) ggX9_rule_X9_fault
set_option maxRecDepth 20000 in
theorem ggX9_rule_X9_stepOf : GoodIn wsX9_rule wsX9_stepOf := goodIn_r _ [14, 15, 16, 17, 18, 19, 20, 10, 21, 22, 23, 24] (by decide +kernel) (by decide +kernel)
set_option maxRecDepth 20000 in
theorem gX9_rule_X9_stepOf : GoodIn wsX9_rule (va_wsS RX9 111 yX9_stepOf wsX9_stepOf) := goodIn_app (goodIn_of _ (by decide +kernel)) ggX9_rule_X9_stepOf
theorem dX9_rule_0 : decode cX9_rule 0 = .ok (.aload_n 0, 1) := by decide +kernel
theorem dX9_rule_1 : decode cX9_rule 1 = .ok (.invokevirtual 114, 3) := by decide +kernel
theorem dX9_rule_4 : decode cX9_rule 4 = .ok (.ifCond .lt 6, 3) := by decide +kernel
theorem dX9_rule_7 : decode cX9_rule 7 = .ok (.bipush (-5), 2) := by decide +kernel
theorem dX9_rule_9 : decode cX9_rule 9 = .ok (.ireturn, 1) := by decide +kernel
theorem dX9_rule_10 : decode cX9_rule 10 = .ok (.aload_n 0, 1) := by decide +kernel
theorem dX9_rule_11 : decode cX9_rule 11 = .ok (.iconst 0, 1) := by decide +kernel
theorem dX9_rule_12 : decode cX9_rule 12 = .ok (.putfield 118, 3) := by decide +kernel
theorem dX9_rule_15 : decode cX9_rule 15 = .ok (.iconst 0, 1) := by decide +kernel
theorem dX9_rule_16 : decode cX9_rule 16 = .ok (.istore_n 1, 1) := by decide +kernel
theorem dX9_rule_17 : decode cX9_rule 17 = .ok (.iconst 0, 1) := by decide +kernel
theorem dX9_rule_18 : decode cX9_rule 18 = .ok (.istore_n 2, 1) := by decide +kernel
theorem dX9_rule_19 : decode cX9_rule 19 = .ok (.iload_n 2, 1) := by decide +kernel
theorem dX9_rule_20 : decode cX9_rule 20 = .ok (.aload_n 0, 1) := by decide +kernel
theorem dX9_rule_21 : decode cX9_rule 21 = .ok (.getfield 97, 3) := by decide +kernel
theorem dX9_rule_24 : decode cX9_rule 24 = .ok (.if_icmp .ge 135, 3) := by decide +kernel
theorem dX9_rule_27 : decode cX9_rule 27 = .ok (.aload_n 0, 1) := by decide +kernel
theorem dX9_rule_28 : decode cX9_rule 28 = .ok (.getfield 40, 3) := by decide +kernel
theorem dX9_rule_31 : decode cX9_rule 31 = .ok (.iload_n 2, 1) := by decide +kernel
theorem dX9_rule_32 : decode cX9_rule 32 = .ok (.iaload, 1) := by decide +kernel
theorem dX9_rule_33 : decode cX9_rule 33 = .ok (.istore_n 3, 1) := by decide +kernel
theorem dX9_rule_34 : decode cX9_rule 34 = .ok (.iload_n 1, 1) := by decide +kernel
theorem dX9_rule_35 : decode cX9_rule 35 = .ok (.iload_n 3, 1) := by decide +kernel
theorem dX9_rule_36 : decode cX9_rule 36 = .ok (.invokestatic 111, 3) := by decide +kernel
theorem dX9_rule_39 : decode cX9_rule 39 = .ok (.istore_n 1, 1) := by decide +kernel
theorem dX9_rule_40 : decode cX9_rule 40 = .ok (.iload_n 1, 1) := by decide +kernel
theorem dX9_rule_41 : decode cX9_rule 41 = .ok (.iconst 1, 1) := by decide +kernel
theorem dX9_rule_42 : decode cX9_rule 42 = .ok (.if_icmp .ne 36, 3) := by decide +kernel
theorem dX9_rule_45 : decode cX9_rule 45 = .ok (.aload_n 0, 1) := by decide +kernel
theorem dX9_rule_46 : decode cX9_rule 46 = .ok (.getfield 43, 3) := by decide +kernel
theorem dX9_rule_49 : decode cX9_rule 49 = .ok (.aload_n 0, 1) := by decide +kernel
theorem dX9_rule_50 : decode cX9_rule 50 = .ok (.getfield 118, 3) := by decide +kernel
theorem dX9_rule_53 : decode cX9_rule 53 = .ok (.iload_n 3, 1) := by decide +kernel
theorem dX9_rule_54 : decode cX9_rule 54 = .ok (.iastore, 1) := by decide +kernel
theorem dX9_rule_55 : decode cX9_rule 55 = .ok (.aload_n 0, 1) := by decide +kernel
theorem dX9_rule_56 : decode cX9_rule 56 = .ok (.getfield 46, 3) := by decide +kernel
theorem dX9_rule_59 : decode cX9_rule 59 = .ok (.aload_n 0, 1) := by decide +kernel
theorem dX9_rule_60 : decode cX9_rule 60 = .ok (.getfield 118, 3) := by decide +kernel
theorem dX9_rule_63 : decode cX9_rule 63 = .ok (.iconst 0, 1) := by decide +kernel
theorem dX9_rule_64 : decode cX9_rule 64 = .ok (.iastore, 1) := by decide +kernel
theorem dX9_rule_65 : decode cX9_rule 65 = .ok (.aload_n 0, 1) := by decide +kernel
theorem dX9_rule_66 : decode cX9_rule 66 = .ok (.getfield 49, 3) := by decide +kernel
theorem dX9_rule_69 : decode cX9_rule 69 = .ok (.aload_n 0, 1) := by decide +kernel
theorem dX9_rule_70 : decode cX9_rule 70 = .ok (.getfield 118, 3) := by decide +kernel
theorem dX9_rule_73 : decode cX9_rule 73 = .ok (.iconst 4, 1) := by decide +kernel
theorem dX9_rule_74 : decode cX9_rule 74 = .ok (.iastore, 1) := by decide +kernel
theorem dX9_rule_75 : decode cX9_rule 75 = .ok (.goto 78, 3) := by decide +kernel
theorem dX9_rule_78 : decode cX9_rule 78 = .ok (.iload_n 1, 1) := by decide +kernel
theorem dX9_rule_79 : decode cX9_rule 79 = .ok (.iconst 3, 1) := by decide +kernel
theorem dX9_rule_80 : decode cX9_rule 80 = .ok (.if_icmp .eq 8, 3) := by decide +kernel
theorem dX9_rule_83 : decode cX9_rule 83 = .ok (.iload_n 1, 1) := by decide +kernel
theorem dX9_rule_84 : decode cX9_rule 84 = .ok (.iconst 4, 1) := by decide +kernel
theorem dX9_rule_85 : decode cX9_rule 85 = .ok (.if_icmp .ne 32, 3) := by decide +kernel
theorem dX9_rule_88 : decode cX9_rule 88 = .ok (.aload_n 0, 1) := by decide +kernel
theorem dX9_rule_89 : decode cX9_rule 89 = .ok (.getfield 46, 3) := by decide +kernel
theorem dX9_rule_92 : decode cX9_rule 92 = .ok (.aload_n 0, 1) := by decide +kernel
theorem dX9_rule_93 : decode cX9_rule 93 = .ok (.getfield 118, 3) := by decide +kernel
theorem dX9_rule_96 : decode cX9_rule 96 = .ok (.bipush 10, 2) := by decide +kernel
theorem dX9_rule_98 : decode cX9_rule 98 = .ok (.aload_n 0, 1) := by decide +kernel
theorem dX9_rule_99 : decode cX9_rule 99 = .ok (.getfield 46, 3) := by decide +kernel
theorem dX9_rule_102 : decode cX9_rule 102 = .ok (.aload_n 0, 1) := by decide +kernel
theorem dX9_rule_103 : decode cX9_rule 103 = .ok (.getfield 118, 3) := by decide +kernel
theorem dX9_rule_106 : decode cX9_rule 106 = .ok (.iaload, 1) := by decide +kernel
theorem dX9_rule_107 : decode cX9_rule 107 = .ok (.imul, 1) := by decide +kernel
theorem dX9_rule_108 : decode cX9_rule 108 = .ok (.iload_n 3, 1) := by decide +kernel
theorem dX9_rule_109 : decode cX9_rule 109 = .ok (.iadd, 1) := by decide +kernel
theorem dX9_rule_110 : decode cX9_rule 110 = .ok (.bipush 48, 2) := by decide +kernel
theorem dX9_rule_112 : decode cX9_rule 112 = .ok (.isub, 1) := by decide +kernel
theorem dX9_rule_113 : decode cX9_rule 113 = .ok (.iastore, 1) := by decide +kernel
theorem dX9_rule_114 : decode cX9_rule 114 = .ok (.goto 39, 3) := by decide +kernel
theorem dX9_rule_117 : decode cX9_rule 117 = .ok (.iload_n 1, 1) := by decide +kernel
theorem dX9_rule_118 : decode cX9_rule 118 = .ok (.bipush 6, 2) := by decide +kernel
theorem dX9_rule_120 : decode cX9_rule 120 = .ok (.if_icmp .ne 19, 3) := by decide +kernel
theorem dX9_rule_123 : decode cX9_rule 123 = .ok (.aload_n 0, 1) := by decide +kernel
theorem dX9_rule_124 : decode cX9_rule 124 = .ok (.getfield 49, 3) := by decide +kernel
theorem dX9_rule_127 : decode cX9_rule 127 = .ok (.aload_n 0, 1) := by decide +kernel
theorem dX9_rule_128 : decode cX9_rule 128 = .ok (.getfield 118, 3) := by decide +kernel
theorem dX9_rule_131 : decode cX9_rule 131 = .ok (.iload_n 3, 1) := by decide +kernel
theorem dX9_rule_132 : decode cX9_rule 132 = .ok (.bipush 48, 2) := by decide +kernel
theorem dX9_rule_134 : decode cX9_rule 134 = .ok (.isub, 1) := by decide +kernel
theorem dX9_rule_135 : decode cX9_rule 135 = .ok (.iastore, 1) := by decide +kernel
theorem dX9_rule_136 : decode cX9_rule 136 = .ok (.goto 17, 3) := by decide +kernel
theorem dX9_rule_139 : decode cX9_rule 139 = .ok (.iload_n 1, 1) := by decide +kernel
theorem dX9_rule_140 : decode cX9_rule 140 = .ok (.ifCond .ne 13, 3) := by decide +kernel
theorem dX9_rule_143 : decode cX9_rule 143 = .ok (.aload_n 0, 1) := by decide +kernel
theorem dX9_rule_144 : decode cX9_rule 144 = .ok (.dup, 1) := by decide +kernel
theorem dX9_rule_145 : decode cX9_rule 145 = .ok (.getfield 118, 3) := by decide +kernel
theorem dX9_rule_148 : decode cX9_rule 148 = .ok (.iconst 1, 1) := by decide +kernel
theorem dX9_rule_149 : decode cX9_rule 149 = .ok (.iadd, 1) := by decide +kernel
theorem dX9_rule_150 : decode cX9_rule 150 = .ok (.putfield 118, 3) := by decide +kernel
theorem dX9_rule_153 : decode cX9_rule 153 = .ok (.iinc 2 1, 3) := by decide +kernel
theorem dX9_rule_156 : decode cX9_rule 156 = .ok (.goto (-137), 3) := by decide +kernel
theorem dX9_rule_159 : decode cX9_rule 159 = .ok (.aload_n 0, 1) := by decide +kernel
theorem dX9_rule_160 : decode cX9_rule 160 = .ok (.dup, 1) := by decide +kernel
theorem dX9_rule_161 : decode cX9_rule 161 = .ok (.getfield 118, 3) := by decide +kernel
theorem dX9_rule_164 : decode cX9_rule 164 = .ok (.iconst 1, 1) := by decide +kernel
theorem dX9_rule_165 : decode cX9_rule 165 = .ok (.iadd, 1) := by decide +kernel
theorem dX9_rule_166 : decode cX9_rule 166 = .ok (.putfield 118, 3) := by decide +kernel
theorem dX9_rule_169 : decode cX9_rule 169 = .ok (.aload_n 0, 1) := by decide +kernel
theorem dX9_rule_170 : decode cX9_rule 170 = .ok (.iconst 0, 1) := by decide +kernel
theorem dX9_rule_171 : decode cX9_rule 171 = .ok (.putfield 97, 3) := by decide +kernel
theorem dX9_rule_174 : decode cX9_rule 174 = .ok (.aload_n 0, 1) := by decide +kernel
theorem dX9_rule_175 : decode cX9_rule 175 = .ok (.getfield 118, 3) := by decide +kernel
theorem dX9_rule_178 : decode cX9_rule 178 = .ok (.ireturn, 1) := by decide +kernel
theorem dX9_clearGiven_0 : decode cX9_clearGiven 0 = .ok (.iconst 0, 1) := by decide +kernel
theorem dX9_clearGiven_1 : decode cX9_clearGiven 1 = .ok (.istore_n 1, 1) := by decide +kernel
theorem dX9_clearGiven_2 : decode cX9_clearGiven 2 = .ok (.iload_n 1, 1) := by decide +kernel
theorem dX9_clearGiven_3 : decode cX9_clearGiven 3 = .ok (.bipush 6, 2) := by decide +kernel
theorem dX9_clearGiven_5 : decode cX9_clearGiven 5 = .ok (.if_icmp .ge 16, 3) := by decide +kernel
theorem dX9_clearGiven_8 : decode cX9_clearGiven 8 = .ok (.aload_n 0, 1) := by decide +kernel
theorem dX9_clearGiven_9 : decode cX9_clearGiven 9 = .ok (.getfield 52, 3) := by decide +kernel
theorem dX9_clearGiven_12 : decode cX9_clearGiven 12 = .ok (.iload_n 1, 1) := by decide +kernel
theorem dX9_clearGiven_13 : decode cX9_clearGiven 13 = .ok (.iconst 0, 1) := by decide +kernel
theorem dX9_clearGiven_14 : decode cX9_clearGiven 14 = .ok (.iastore, 1) := by decide +kernel
theorem dX9_clearGiven_15 : decode cX9_clearGiven 15 = .ok (.iinc 1 1, 3) := by decide +kernel
theorem dX9_clearGiven_18 : decode cX9_clearGiven 18 = .ok (.goto (-16), 3) := by decide +kernel
theorem dX9_clearGiven_21 : decode cX9_clearGiven 21 = .ok (.return_, 1) := by decide +kernel
theorem dX9_joinOf_0 : decode cX9_joinOf 0 = .ok (.iconst 0, 1) := by decide +kernel
theorem dX9_joinOf_1 : decode cX9_joinOf 1 = .ok (.istore_n 3, 1) := by decide +kernel
theorem dX9_joinOf_2 : decode cX9_joinOf 2 = .ok (.bipush 9, 2) := by decide +kernel
theorem dX9_joinOf_4 : decode cX9_joinOf 4 = .ok (.istore 4, 2) := by decide +kernel
theorem dX9_joinOf_6 : decode cX9_joinOf 6 = .ok (.iconst 0, 1) := by decide +kernel
theorem dX9_joinOf_7 : decode cX9_joinOf 7 = .ok (.istore 5, 2) := by decide +kernel
theorem dX9_joinOf_9 : decode cX9_joinOf 9 = .ok (.iconst 0, 1) := by decide +kernel
theorem dX9_joinOf_10 : decode cX9_joinOf 10 = .ok (.istore 6, 2) := by decide +kernel
theorem dX9_joinOf_12 : decode cX9_joinOf 12 = .ok (.iconst 0, 1) := by decide +kernel
theorem dX9_joinOf_13 : decode cX9_joinOf 13 = .ok (.istore 7, 2) := by decide +kernel
theorem dX9_joinOf_15 : decode cX9_joinOf 15 = .ok (.iconst 0, 1) := by decide +kernel
theorem dX9_joinOf_16 : decode cX9_joinOf 16 = .ok (.istore 8, 2) := by decide +kernel
theorem dX9_joinOf_18 : decode cX9_joinOf 18 = .ok (.iload 8, 2) := by decide +kernel
theorem dX9_joinOf_20 : decode cX9_joinOf 20 = .ok (.bipush 6, 2) := by decide +kernel
theorem dX9_joinOf_22 : decode cX9_joinOf 22 = .ok (.if_icmp .ge 98, 3) := by decide +kernel
theorem dX9_joinOf_25 : decode cX9_joinOf 25 = .ok (.iload_n 3, 1) := by decide +kernel
theorem dX9_joinOf_26 : decode cX9_joinOf 26 = .ok (.iload 8, 2) := by decide +kernel
theorem dX9_joinOf_28 : decode cX9_joinOf 28 = .ok (.aload_n 0, 1) := by decide +kernel
theorem dX9_joinOf_29 : decode cX9_joinOf 29 = .ok (.getfield 52, 3) := by decide +kernel
theorem dX9_joinOf_32 : decode cX9_joinOf 32 = .ok (.iload 8, 2) := by decide +kernel
theorem dX9_joinOf_34 : decode cX9_joinOf 34 = .ok (.iaload, 1) := by decide +kernel
theorem dX9_joinOf_35 : decode cX9_joinOf 35 = .ok (.imul, 1) := by decide +kernel
theorem dX9_joinOf_36 : decode cX9_joinOf 36 = .ok (.iadd, 1) := by decide +kernel
theorem dX9_joinOf_37 : decode cX9_joinOf 37 = .ok (.istore_n 3, 1) := by decide +kernel
theorem dX9_joinOf_38 : decode cX9_joinOf 38 = .ok (.aload_n 0, 1) := by decide +kernel
theorem dX9_joinOf_39 : decode cX9_joinOf 39 = .ok (.getfield 52, 3) := by decide +kernel
theorem dX9_joinOf_42 : decode cX9_joinOf 42 = .ok (.iload 8, 2) := by decide +kernel
theorem dX9_joinOf_44 : decode cX9_joinOf 44 = .ok (.iaload, 1) := by decide +kernel
theorem dX9_joinOf_45 : decode cX9_joinOf 45 = .ok (.ifCond .le 15, 3) := by decide +kernel
theorem dX9_joinOf_48 : decode cX9_joinOf 48 = .ok (.iload 8, 2) := by decide +kernel
theorem dX9_joinOf_50 : decode cX9_joinOf 50 = .ok (.iload 4, 2) := by decide +kernel
theorem dX9_joinOf_52 : decode cX9_joinOf 52 = .ok (.if_icmp .ge 8, 3) := by decide +kernel
theorem dX9_joinOf_55 : decode cX9_joinOf 55 = .ok (.iload 8, 2) := by decide +kernel
theorem dX9_joinOf_57 : decode cX9_joinOf 57 = .ok (.goto 5, 3) := by decide +kernel
theorem dX9_joinOf_60 : decode cX9_joinOf 60 = .ok (.iload 4, 2) := by decide +kernel
theorem dX9_joinOf_62 : decode cX9_joinOf 62 = .ok (.istore 4, 2) := by decide +kernel
theorem dX9_joinOf_64 : decode cX9_joinOf 64 = .ok (.aload_n 0, 1) := by decide +kernel
theorem dX9_joinOf_65 : decode cX9_joinOf 65 = .ok (.getfield 52, 3) := by decide +kernel
theorem dX9_joinOf_68 : decode cX9_joinOf 68 = .ok (.iload 8, 2) := by decide +kernel
theorem dX9_joinOf_70 : decode cX9_joinOf 70 = .ok (.iaload, 1) := by decide +kernel
theorem dX9_joinOf_71 : decode cX9_joinOf 71 = .ok (.ifCond .le 8, 3) := by decide +kernel
theorem dX9_joinOf_74 : decode cX9_joinOf 74 = .ok (.iload 8, 2) := by decide +kernel
theorem dX9_joinOf_76 : decode cX9_joinOf 76 = .ok (.goto 5, 3) := by decide +kernel
theorem dX9_joinOf_79 : decode cX9_joinOf 79 = .ok (.iload 5, 2) := by decide +kernel
theorem dX9_joinOf_81 : decode cX9_joinOf 81 = .ok (.istore 5, 2) := by decide +kernel
theorem dX9_joinOf_83 : decode cX9_joinOf 83 = .ok (.iload 7, 2) := by decide +kernel
theorem dX9_joinOf_85 : decode cX9_joinOf 85 = .ok (.iload_n 2, 1) := by decide +kernel
theorem dX9_joinOf_86 : decode cX9_joinOf 86 = .ok (.iconst 1, 1) := by decide +kernel
theorem dX9_joinOf_87 : decode cX9_joinOf 87 = .ok (.isub, 1) := by decide +kernel
theorem dX9_joinOf_88 : decode cX9_joinOf 88 = .ok (.iconst 2, 1) := by decide +kernel
theorem dX9_joinOf_89 : decode cX9_joinOf 89 = .ok (.idiv, 1) := by decide +kernel
theorem dX9_joinOf_90 : decode cX9_joinOf 90 = .ok (.if_icmp .gt 8, 3) := by decide +kernel
theorem dX9_joinOf_93 : decode cX9_joinOf 93 = .ok (.iload 8, 2) := by decide +kernel
theorem dX9_joinOf_95 : decode cX9_joinOf 95 = .ok (.goto 5, 3) := by decide +kernel
theorem dX9_joinOf_98 : decode cX9_joinOf 98 = .ok (.iload 6, 2) := by decide +kernel
theorem dX9_joinOf_100 : decode cX9_joinOf 100 = .ok (.istore 6, 2) := by decide +kernel
theorem dX9_joinOf_102 : decode cX9_joinOf 102 = .ok (.iload 7, 2) := by decide +kernel
theorem dX9_joinOf_104 : decode cX9_joinOf 104 = .ok (.aload_n 0, 1) := by decide +kernel
theorem dX9_joinOf_105 : decode cX9_joinOf 105 = .ok (.getfield 52, 3) := by decide +kernel
theorem dX9_joinOf_108 : decode cX9_joinOf 108 = .ok (.iload 8, 2) := by decide +kernel
theorem dX9_joinOf_110 : decode cX9_joinOf 110 = .ok (.iaload, 1) := by decide +kernel
theorem dX9_joinOf_111 : decode cX9_joinOf 111 = .ok (.iadd, 1) := by decide +kernel
theorem dX9_joinOf_112 : decode cX9_joinOf 112 = .ok (.istore 7, 2) := by decide +kernel
theorem dX9_joinOf_114 : decode cX9_joinOf 114 = .ok (.iinc 8 1, 3) := by decide +kernel
theorem dX9_joinOf_117 : decode cX9_joinOf 117 = .ok (.goto (-99), 3) := by decide +kernel
theorem dX9_joinOf_120 : decode cX9_joinOf 120 = .ok (.iload_n 1, 1) := by decide +kernel
theorem dX9_joinOf_121 : decode cX9_joinOf 121 = .ok (.bipush 97, 2) := by decide +kernel
theorem dX9_joinOf_123 : decode cX9_joinOf 123 = .ok (.if_icmp .ne 12, 3) := by decide +kernel
theorem dX9_joinOf_126 : decode cX9_joinOf 126 = .ok (.bipush 10, 2) := by decide +kernel
theorem dX9_joinOf_128 : decode cX9_joinOf 128 = .ok (.iload_n 3, 1) := by decide +kernel
theorem dX9_joinOf_129 : decode cX9_joinOf 129 = .ok (.imul, 1) := by decide +kernel
theorem dX9_joinOf_130 : decode cX9_joinOf 130 = .ok (.iload_n 2, 1) := by decide +kernel
theorem dX9_joinOf_131 : decode cX9_joinOf 131 = .ok (.idiv, 1) := by decide +kernel
theorem dX9_joinOf_132 : decode cX9_joinOf 132 = .ok (.goto 30, 3) := by decide +kernel
theorem dX9_joinOf_135 : decode cX9_joinOf 135 = .ok (.bipush 10, 2) := by decide +kernel
theorem dX9_joinOf_137 : decode cX9_joinOf 137 = .ok (.iload_n 1, 1) := by decide +kernel
theorem dX9_joinOf_138 : decode cX9_joinOf 138 = .ok (.bipush 109, 2) := by decide +kernel
theorem dX9_joinOf_140 : decode cX9_joinOf 140 = .ok (.if_icmp .ne 8, 3) := by decide +kernel
theorem dX9_joinOf_143 : decode cX9_joinOf 143 = .ok (.iload 6, 2) := by decide +kernel
theorem dX9_joinOf_145 : decode cX9_joinOf 145 = .ok (.goto 16, 3) := by decide +kernel
theorem dX9_joinOf_148 : decode cX9_joinOf 148 = .ok (.iload_n 1, 1) := by decide +kernel
theorem dX9_joinOf_149 : decode cX9_joinOf 149 = .ok (.bipush 108, 2) := by decide +kernel
theorem dX9_joinOf_151 : decode cX9_joinOf 151 = .ok (.if_icmp .ne 8, 3) := by decide +kernel
theorem dX9_joinOf_154 : decode cX9_joinOf 154 = .ok (.iload 4, 2) := by decide +kernel
theorem dX9_joinOf_156 : decode cX9_joinOf 156 = .ok (.goto 5, 3) := by decide +kernel
theorem dX9_joinOf_159 : decode cX9_joinOf 159 = .ok (.iload 5, 2) := by decide +kernel
theorem dX9_joinOf_161 : decode cX9_joinOf 161 = .ok (.imul, 1) := by decide +kernel
theorem dX9_joinOf_162 : decode cX9_joinOf 162 = .ok (.ireturn, 1) := by decide +kernel
set_option maxRecDepth 20000 in
theorem ggX9_yesOf_X9_joinOf : GoodIn wsX9_yesOf wsX9_joinOf := goodIn_r _ [10, 1, 11, 12, 13, 14, 15, 16, 17, 18, 19, 20, 21, 22, 23, 24, 25, 26, 27, 28, 29, 30] (by decide +kernel) (by decide +kernel)
set_option maxRecDepth 20000 in
theorem gX9_yesOf_X9_joinOf : GoodIn wsX9_yesOf (wsV RX9 121 RX9 yX9_joinOf wsX9_joinOf) := goodIn_app (goodIn_of _ (by decide +kernel)) ggX9_yesOf_X9_joinOf
theorem dX9_yesOf_0 : decode cX9_yesOf 0 = .ok (.iconst 0, 1) := by decide +kernel
theorem dX9_yesOf_1 : decode cX9_yesOf 1 = .ok (.istore_n 1, 1) := by decide +kernel
theorem dX9_yesOf_2 : decode cX9_yesOf 2 = .ok (.iconst 0, 1) := by decide +kernel
theorem dX9_yesOf_3 : decode cX9_yesOf 3 = .ok (.istore_n 2, 1) := by decide +kernel
theorem dX9_yesOf_4 : decode cX9_yesOf 4 = .ok (.iload_n 2, 1) := by decide +kernel
theorem dX9_yesOf_5 : decode cX9_yesOf 5 = .ok (.bipush 6, 2) := by decide +kernel
theorem dX9_yesOf_7 : decode cX9_yesOf 7 = .ok (.if_icmp .ge 18, 3) := by decide +kernel
theorem dX9_yesOf_10 : decode cX9_yesOf 10 = .ok (.iload_n 1, 1) := by decide +kernel
theorem dX9_yesOf_11 : decode cX9_yesOf 11 = .ok (.aload_n 0, 1) := by decide +kernel
theorem dX9_yesOf_12 : decode cX9_yesOf 12 = .ok (.getfield 52, 3) := by decide +kernel
theorem dX9_yesOf_15 : decode cX9_yesOf 15 = .ok (.iload_n 2, 1) := by decide +kernel
theorem dX9_yesOf_16 : decode cX9_yesOf 16 = .ok (.iaload, 1) := by decide +kernel
theorem dX9_yesOf_17 : decode cX9_yesOf 17 = .ok (.iadd, 1) := by decide +kernel
theorem dX9_yesOf_18 : decode cX9_yesOf 18 = .ok (.istore_n 1, 1) := by decide +kernel
theorem dX9_yesOf_19 : decode cX9_yesOf 19 = .ok (.iinc 2 1, 3) := by decide +kernel
theorem dX9_yesOf_22 : decode cX9_yesOf 22 = .ok (.goto (-18), 3) := by decide +kernel
theorem dX9_yesOf_25 : decode cX9_yesOf 25 = .ok (.iconst 0, 1) := by decide +kernel
theorem dX9_yesOf_26 : decode cX9_yesOf 26 = .ok (.istore_n 2, 1) := by decide +kernel
theorem dX9_yesOf_27 : decode cX9_yesOf 27 = .ok (.iload_n 2, 1) := by decide +kernel
theorem dX9_yesOf_28 : decode cX9_yesOf 28 = .ok (.aload_n 0, 1) := by decide +kernel
theorem dX9_yesOf_29 : decode cX9_yesOf 29 = .ok (.getfield 118, 3) := by decide +kernel
theorem dX9_yesOf_32 : decode cX9_yesOf 32 = .ok (.if_icmp .ge 40, 3) := by decide +kernel
theorem dX9_yesOf_35 : decode cX9_yesOf 35 = .ok (.iload_n 1, 1) := by decide +kernel
theorem dX9_yesOf_36 : decode cX9_yesOf 36 = .ok (.ifCond .le 36, 3) := by decide +kernel
theorem dX9_yesOf_39 : decode cX9_yesOf 39 = .ok (.aload_n 0, 1) := by decide +kernel
theorem dX9_yesOf_40 : decode cX9_yesOf 40 = .ok (.aload_n 0, 1) := by decide +kernel
theorem dX9_yesOf_41 : decode cX9_yesOf 41 = .ok (.getfield 43, 3) := by decide +kernel
theorem dX9_yesOf_44 : decode cX9_yesOf 44 = .ok (.iload_n 2, 1) := by decide +kernel
theorem dX9_yesOf_45 : decode cX9_yesOf 45 = .ok (.iaload, 1) := by decide +kernel
theorem dX9_yesOf_46 : decode cX9_yesOf 46 = .ok (.iload_n 1, 1) := by decide +kernel
theorem dX9_yesOf_47 : decode cX9_yesOf 47 = .ok (.invokevirtual 121, 3) := by decide +kernel
theorem dX9_yesOf_50 : decode cX9_yesOf 50 = .ok (.aload_n 0, 1) := by decide +kernel
theorem dX9_yesOf_51 : decode cX9_yesOf 51 = .ok (.getfield 46, 3) := by decide +kernel
theorem dX9_yesOf_54 : decode cX9_yesOf 54 = .ok (.iload_n 2, 1) := by decide +kernel
theorem dX9_yesOf_55 : decode cX9_yesOf 55 = .ok (.iaload, 1) := by decide +kernel
theorem dX9_yesOf_56 : decode cX9_yesOf 56 = .ok (.if_icmp .le 10, 3) := by decide +kernel
theorem dX9_yesOf_59 : decode cX9_yesOf 59 = .ok (.aload_n 0, 1) := by decide +kernel
theorem dX9_yesOf_60 : decode cX9_yesOf 60 = .ok (.getfield 49, 3) := by decide +kernel
theorem dX9_yesOf_63 : decode cX9_yesOf 63 = .ok (.iload_n 2, 1) := by decide +kernel
theorem dX9_yesOf_64 : decode cX9_yesOf 64 = .ok (.iaload, 1) := by decide +kernel
theorem dX9_yesOf_65 : decode cX9_yesOf 65 = .ok (.ireturn, 1) := by decide +kernel
theorem dX9_yesOf_66 : decode cX9_yesOf 66 = .ok (.iinc 2 1, 3) := by decide +kernel
theorem dX9_yesOf_69 : decode cX9_yesOf 69 = .ok (.goto (-42), 3) := by decide +kernel
theorem dX9_yesOf_72 : decode cX9_yesOf 72 = .ok (.iconst 0, 1) := by decide +kernel
theorem dX9_yesOf_73 : decode cX9_yesOf 73 = .ok (.ireturn, 1) := by decide +kernel
set_option maxRecDepth 20000 in
theorem ggX9_yes_X9_isPaper : GoodIn wsX9_yes wsX9_isPaper := goodIn_r _ [9, 10, 11, 12, 8, 13, 32, 33, 34, 35, 36, 37, 38, 39, 40, 41, 42, 43, 44, 45, 46, 47, 48, 49, 50, 51] (by decide +kernel) (by decide +kernel)
set_option maxRecDepth 20000 in
theorem gX9_yes_X9_isPaper : GoodIn wsX9_yes (wsV RX9 86 RX9 yX9_isPaper wsX9_isPaper) := goodIn_app (goodIn_of _ (by decide +kernel)) ggX9_yes_X9_isPaper
set_option maxRecDepth 20000 in
theorem ggX9_yes_X9_clearGiven : GoodIn wsX9_yes wsX9_clearGiven := goodIn_r _ [17, 4, 32, 33, 34, 35, 36, 37, 38, 39, 40, 41, 42, 43, 44, 45, 46, 47, 48, 49, 50, 51] (by decide +kernel) (by decide +kernel)
set_option maxRecDepth 20000 in
theorem gX9_yes_X9_clearGiven : GoodIn wsX9_yes (wsV RX9 124 RX9 yX9_clearGiven wsX9_clearGiven) := goodIn_app (goodIn_of _ (by decide +kernel)) ggX9_yes_X9_clearGiven
set_option maxRecDepth 20000 in
theorem ggX9_yes_X9_at : GoodIn wsX9_yes wsX9_at := goodIn_r _ [20] (by decide +kernel) (by decide +kernel)
set_option maxRecDepth 20000 in
theorem gX9_yes_X9_at : GoodIn wsX9_yes (va_wsS RX9 74 yX9_at wsX9_at) := goodIn_app (goodIn_of _ (by decide +kernel)) ggX9_yes_X9_at
set_option maxRecDepth 20000 in
theorem ggX9_yes_X9_yesOf : GoodIn wsX9_yes wsX9_yesOf := goodIn_r _ [24, 4, 1, 25, 26, 27, 28, 29, 30, 8, 31, 32, 33, 34, 35, 36, 37, 38, 39, 40, 41, 42, 43, 44, 45, 46, 47, 48, 49, 50, 51] (by decide +kernel) (by decide +kernel)
set_option maxRecDepth 20000 in
theorem gX9_yes_X9_yesOf : GoodIn wsX9_yes (wsV RX9 127 RX9 yX9_yesOf wsX9_yesOf) := goodIn_app (goodIn_of _ (by decide +kernel)) ggX9_yes_X9_yesOf
theorem dX9_yes_0 : decode cX9_yes 0 = .ok (.aload_n 0, 1) := by decide +kernel
theorem dX9_yes_1 : decode cX9_yes 1 = .ok (.iload_n 1, 1) := by decide +kernel
theorem dX9_yes_2 : decode cX9_yes 2 = .ok (.invokevirtual 86, 3) := by decide +kernel
theorem dX9_yes_5 : decode cX9_yes 5 = .ok (.ifCond .ne 5, 3) := by decide +kernel
theorem dX9_yes_8 : decode cX9_yes 8 = .ok (.iconst (-1), 1) := by decide +kernel
theorem dX9_yes_9 : decode cX9_yes 9 = .ok (.ireturn, 1) := by decide +kernel
theorem dX9_yes_10 : decode cX9_yes 10 = .ok (.aload_n 0, 1) := by decide +kernel
theorem dX9_yes_11 : decode cX9_yes 11 = .ok (.getfield 118, 3) := by decide +kernel
theorem dX9_yes_14 : decode cX9_yes 14 = .ok (.ifCond .ne 6, 3) := by decide +kernel
theorem dX9_yes_17 : decode cX9_yes 17 = .ok (.bipush (-3), 2) := by decide +kernel
theorem dX9_yes_19 : decode cX9_yes 19 = .ok (.ireturn, 1) := by decide +kernel
theorem dX9_yes_20 : decode cX9_yes 20 = .ok (.aload_n 0, 1) := by decide +kernel
theorem dX9_yes_21 : decode cX9_yes 21 = .ok (.invokevirtual 124, 3) := by decide +kernel
theorem dX9_yes_24 : decode cX9_yes 24 = .ok (.iconst 0, 1) := by decide +kernel
theorem dX9_yes_25 : decode cX9_yes 25 = .ok (.istore_n 2, 1) := by decide +kernel
theorem dX9_yes_26 : decode cX9_yes 26 = .ok (.iload_n 2, 1) := by decide +kernel
theorem dX9_yes_27 : decode cX9_yes 27 = .ok (.aload_n 0, 1) := by decide +kernel
theorem dX9_yes_28 : decode cX9_yes 28 = .ok (.getfield 63, 3) := by decide +kernel
theorem dX9_yes_31 : decode cX9_yes 31 = .ok (.if_icmp .ge 34, 3) := by decide +kernel
theorem dX9_yes_34 : decode cX9_yes 34 = .ok (.aload_n 0, 1) := by decide +kernel
theorem dX9_yes_35 : decode cX9_yes 35 = .ok (.getfield 34, 3) := by decide +kernel
theorem dX9_yes_38 : decode cX9_yes 38 = .ok (.iload_n 2, 1) := by decide +kernel
theorem dX9_yes_39 : decode cX9_yes 39 = .ok (.iload_n 1, 1) := by decide +kernel
theorem dX9_yes_40 : decode cX9_yes 40 = .ok (.invokestatic 74, 3) := by decide +kernel
theorem dX9_yes_43 : decode cX9_yes 43 = .ok (.iaload, 1) := by decide +kernel
theorem dX9_yes_44 : decode cX9_yes 44 = .ok (.istore_n 3, 1) := by decide +kernel
theorem dX9_yes_45 : decode cX9_yes 45 = .ok (.iload_n 3, 1) := by decide +kernel
theorem dX9_yes_46 : decode cX9_yes 46 = .ok (.ifCond .lt 13, 3) := by decide +kernel
theorem dX9_yes_49 : decode cX9_yes 49 = .ok (.aload_n 0, 1) := by decide +kernel
theorem dX9_yes_50 : decode cX9_yes 50 = .ok (.getfield 52, 3) := by decide +kernel
theorem dX9_yes_53 : decode cX9_yes 53 = .ok (.iload_n 3, 1) := by decide +kernel
theorem dX9_yes_54 : decode cX9_yes 54 = .ok (.dup2, 1) := by decide +kernel
theorem dX9_yes_55 : decode cX9_yes 55 = .ok (.iaload, 1) := by decide +kernel
theorem dX9_yes_56 : decode cX9_yes 56 = .ok (.iconst 1, 1) := by decide +kernel
theorem dX9_yes_57 : decode cX9_yes 57 = .ok (.iadd, 1) := by decide +kernel
theorem dX9_yes_58 : decode cX9_yes 58 = .ok (.iastore, 1) := by decide +kernel
theorem dX9_yes_59 : decode cX9_yes 59 = .ok (.iinc 2 1, 3) := by decide +kernel
theorem dX9_yes_62 : decode cX9_yes 62 = .ok (.goto (-36), 3) := by decide +kernel
theorem dX9_yes_65 : decode cX9_yes 65 = .ok (.aload_n 0, 1) := by decide +kernel
theorem dX9_yes_66 : decode cX9_yes 66 = .ok (.invokevirtual 127, 3) := by decide +kernel
theorem dX9_yes_69 : decode cX9_yes 69 = .ok (.ireturn, 1) := by decide +kernel
theorem dX9_tieWith_0 : decode cX9_tieWith 0 = .ok (.aload_n 0, 1) := by decide +kernel
theorem dX9_tieWith_1 : decode cX9_tieWith 1 = .ok (.getfield 25, 3) := by decide +kernel
theorem dX9_tieWith_4 : decode cX9_tieWith 4 = .ok (.iload_n 2, 1) := by decide +kernel
theorem dX9_tieWith_5 : decode cX9_tieWith 5 = .ok (.iaload, 1) := by decide +kernel
theorem dX9_tieWith_6 : decode cX9_tieWith 6 = .ok (.bipush (-6), 2) := by decide +kernel
theorem dX9_tieWith_8 : decode cX9_tieWith 8 = .ok (.if_icmp .ne 7, 3) := by decide +kernel
theorem dX9_tieWith_11 : decode cX9_tieWith 11 = .ok (.iconst 0, 1) := by decide +kernel
theorem dX9_tieWith_12 : decode cX9_tieWith 12 = .ok (.goto 19, 3) := by decide +kernel
theorem dX9_tieWith_15 : decode cX9_tieWith 15 = .ok (.aload_n 0, 1) := by decide +kernel
theorem dX9_tieWith_16 : decode cX9_tieWith 16 = .ok (.getfield 19, 3) := by decide +kernel
theorem dX9_tieWith_19 : decode cX9_tieWith 19 = .ok (.bipush 6, 2) := by decide +kernel
theorem dX9_tieWith_21 : decode cX9_tieWith 21 = .ok (.iload_n 1, 1) := by decide +kernel
theorem dX9_tieWith_22 : decode cX9_tieWith 22 = .ok (.imul, 1) := by decide +kernel
theorem dX9_tieWith_23 : decode cX9_tieWith 23 = .ok (.aload_n 0, 1) := by decide +kernel
theorem dX9_tieWith_24 : decode cX9_tieWith 24 = .ok (.getfield 25, 3) := by decide +kernel
theorem dX9_tieWith_27 : decode cX9_tieWith 27 = .ok (.iload_n 2, 1) := by decide +kernel
theorem dX9_tieWith_28 : decode cX9_tieWith 28 = .ok (.iaload, 1) := by decide +kernel
theorem dX9_tieWith_29 : decode cX9_tieWith 29 = .ok (.iadd, 1) := by decide +kernel
theorem dX9_tieWith_30 : decode cX9_tieWith 30 = .ok (.iaload, 1) := by decide +kernel
theorem dX9_tieWith_31 : decode cX9_tieWith 31 = .ok (.ireturn, 1) := by decide +kernel
theorem dX9_within_0 : decode cX9_within 0 = .ok (.iload_n 0, 1) := by decide +kernel
theorem dX9_within_1 : decode cX9_within 1 = .ok (.ifCond .ge 7, 3) := by decide +kernel
theorem dX9_within_4 : decode cX9_within 4 = .ok (.iconst 0, 1) := by decide +kernel
theorem dX9_within_5 : decode cX9_within 5 = .ok (.goto 13, 3) := by decide +kernel
theorem dX9_within_8 : decode cX9_within 8 = .ok (.iload_n 0, 1) := by decide +kernel
theorem dX9_within_9 : decode cX9_within 9 = .ok (.iconst 5, 1) := by decide +kernel
theorem dX9_within_10 : decode cX9_within 10 = .ok (.if_icmp .le 7, 3) := by decide +kernel
theorem dX9_within_13 : decode cX9_within 13 = .ok (.iconst 5, 1) := by decide +kernel
theorem dX9_within_14 : decode cX9_within 14 = .ok (.goto 4, 3) := by decide +kernel
theorem dX9_within_17 : decode cX9_within 17 = .ok (.iload_n 0, 1) := by decide +kernel
theorem dX9_within_18 : decode cX9_within 18 = .ok (.ireturn, 1) := by decide +kernel
set_option maxRecDepth 20000 in
theorem ggX9_markOf_X9_tieWith : GoodIn wsX9_markOf wsX9_tieWith := goodIn_r _ [6, 7, 8, 12, 13, 14, 15, 16, 17, 18, 19, 20, 21, 22, 23, 24, 25, 26, 27, 28, 29, 30, 31] (by decide +kernel) (by decide +kernel)
set_option maxRecDepth 20000 in
theorem gX9_markOf_X9_tieWith : GoodIn wsX9_markOf (wsV RX9 130 RX9 yX9_tieWith wsX9_tieWith) := goodIn_app (goodIn_of _ (by decide +kernel)) ggX9_markOf_X9_tieWith
set_option maxRecDepth 20000 in
theorem ggX9_markOf_X9_within : GoodIn wsX9_markOf wsX9_within := goodIn_r _ [11] (by decide +kernel) (by decide +kernel)
set_option maxRecDepth 20000 in
theorem gX9_markOf_X9_within : GoodIn wsX9_markOf (va_wsS RX9 133 yX9_within wsX9_within) := goodIn_app (goodIn_of _ (by decide +kernel)) ggX9_markOf_X9_within
theorem dX9_markOf_0 : decode cX9_markOf 0 = .ok (.iload_n 3, 1) := by decide +kernel
theorem dX9_markOf_1 : decode cX9_markOf 1 = .ok (.aload_n 0, 1) := by decide +kernel
theorem dX9_markOf_2 : decode cX9_markOf 2 = .ok (.getfield 7, 3) := by decide +kernel
theorem dX9_markOf_5 : decode cX9_markOf 5 = .ok (.iload_n 1, 1) := by decide +kernel
theorem dX9_markOf_6 : decode cX9_markOf 6 = .ok (.iaload, 1) := by decide +kernel
theorem dX9_markOf_7 : decode cX9_markOf 7 = .ok (.iadd, 1) := by decide +kernel
theorem dX9_markOf_8 : decode cX9_markOf 8 = .ok (.aload_n 0, 1) := by decide +kernel
theorem dX9_markOf_9 : decode cX9_markOf 9 = .ok (.iload_n 1, 1) := by decide +kernel
theorem dX9_markOf_10 : decode cX9_markOf 10 = .ok (.iload_n 2, 1) := by decide +kernel
theorem dX9_markOf_11 : decode cX9_markOf 11 = .ok (.invokevirtual 130, 3) := by decide +kernel
theorem dX9_markOf_14 : decode cX9_markOf 14 = .ok (.iadd, 1) := by decide +kernel
theorem dX9_markOf_15 : decode cX9_markOf 15 = .ok (.iload 4, 2) := by decide +kernel
theorem dX9_markOf_17 : decode cX9_markOf 17 = .ok (.iadd, 1) := by decide +kernel
theorem dX9_markOf_18 : decode cX9_markOf 18 = .ok (.iconst 1, 1) := by decide +kernel
theorem dX9_markOf_19 : decode cX9_markOf 19 = .ok (.isub, 1) := by decide +kernel
theorem dX9_markOf_20 : decode cX9_markOf 20 = .ok (.invokestatic 133, 3) := by decide +kernel
theorem dX9_markOf_23 : decode cX9_markOf 23 = .ok (.ireturn, 1) := by decide +kernel
theorem dX9_quarters_0 : decode cX9_quarters 0 = .ok (.iload_n 2, 1) := by decide +kernel
theorem dX9_quarters_1 : decode cX9_quarters 1 = .ok (.iconst 1, 1) := by decide +kernel
theorem dX9_quarters_2 : decode cX9_quarters 2 = .ok (.if_icmp .ne 16, 3) := by decide +kernel
theorem dX9_quarters_5 : decode cX9_quarters 5 = .ok (.iconst 4, 1) := by decide +kernel
theorem dX9_quarters_6 : decode cX9_quarters 6 = .ok (.iconst 2, 1) := by decide +kernel
theorem dX9_quarters_7 : decode cX9_quarters 7 = .ok (.aload_n 0, 1) := by decide +kernel
theorem dX9_quarters_8 : decode cX9_quarters 8 = .ok (.getfield 13, 3) := by decide +kernel
theorem dX9_quarters_11 : decode cX9_quarters 11 = .ok (.iload_n 1, 1) := by decide +kernel
theorem dX9_quarters_12 : decode cX9_quarters 12 = .ok (.iaload, 1) := by decide +kernel
theorem dX9_quarters_13 : decode cX9_quarters 13 = .ok (.imul, 1) := by decide +kernel
theorem dX9_quarters_14 : decode cX9_quarters 14 = .ok (.isub, 1) := by decide +kernel
theorem dX9_quarters_15 : decode cX9_quarters 15 = .ok (.goto 9, 3) := by decide +kernel
theorem dX9_quarters_18 : decode cX9_quarters 18 = .ok (.aload_n 0, 1) := by decide +kernel
theorem dX9_quarters_19 : decode cX9_quarters 19 = .ok (.getfield 13, 3) := by decide +kernel
theorem dX9_quarters_22 : decode cX9_quarters 22 = .ok (.iload_n 1, 1) := by decide +kernel
theorem dX9_quarters_23 : decode cX9_quarters 23 = .ok (.iaload, 1) := by decide +kernel
theorem dX9_quarters_24 : decode cX9_quarters 24 = .ok (.ireturn, 1) := by decide +kernel
theorem dX9_without_0 : decode cX9_without 0 = .ok (.aload_n 0, 1) := by decide +kernel
theorem dX9_without_1 : decode cX9_without 1 = .ok (.getfield 25, 3) := by decide +kernel
theorem dX9_without_4 : decode cX9_without 4 = .ok (.iload_n 1, 1) := by decide +kernel
theorem dX9_without_5 : decode cX9_without 5 = .ok (.iaload, 1) := by decide +kernel
theorem dX9_without_6 : decode cX9_without 6 = .ok (.bipush (-6), 2) := by decide +kernel
theorem dX9_without_8 : decode cX9_without 8 = .ok (.if_icmp .ne 7, 3) := by decide +kernel
theorem dX9_without_11 : decode cX9_without 11 = .ok (.iload_n 2, 1) := by decide +kernel
theorem dX9_without_12 : decode cX9_without 12 = .ok (.goto 15, 3) := by decide +kernel
theorem dX9_without_15 : decode cX9_without 15 = .ok (.iload_n 2, 1) := by decide +kernel
theorem dX9_without_16 : decode cX9_without 16 = .ok (.iconst 1, 1) := by decide +kernel
theorem dX9_without_17 : decode cX9_without 17 = .ok (.aload_n 0, 1) := by decide +kernel
theorem dX9_without_18 : decode cX9_without 18 = .ok (.getfield 25, 3) := by decide +kernel
theorem dX9_without_21 : decode cX9_without 21 = .ok (.iload_n 1, 1) := by decide +kernel
theorem dX9_without_22 : decode cX9_without 22 = .ok (.iaload, 1) := by decide +kernel
theorem dX9_without_23 : decode cX9_without 23 = .ok (.ishl, 1) := by decide +kernel
theorem dX9_without_24 : decode cX9_without 24 = .ok (.iconst (-1), 1) := by decide +kernel
theorem dX9_without_25 : decode cX9_without 25 = .ok (.ixor, 1) := by decide +kernel
theorem dX9_without_26 : decode cX9_without 26 = .ok (.iand, 1) := by decide +kernel
theorem dX9_without_27 : decode cX9_without 27 = .ok (.ireturn, 1) := by decide +kernel
theorem dX9_power_0 : decode cX9_power 0 = .ok (.lconst 1, 1) := by decide +kernel
theorem dX9_power_1 : decode cX9_power 1 = .ok (.lstore_n 3, 1) := by decide +kernel
theorem dX9_power_2 : decode cX9_power 2 = .ok (.iconst 0, 1) := by decide +kernel
theorem dX9_power_3 : decode cX9_power 3 = .ok (.istore 5, 2) := by decide +kernel
theorem dX9_power_5 : decode cX9_power 5 = .ok (.iload 5, 2) := by decide +kernel
theorem dX9_power_7 : decode cX9_power 7 = .ok (.iload_n 2, 1) := by decide +kernel
theorem dX9_power_8 : decode cX9_power 8 = .ok (.if_icmp .ge 13, 3) := by decide +kernel
theorem dX9_power_11 : decode cX9_power 11 = .ok (.lload_n 3, 1) := by decide +kernel
theorem dX9_power_12 : decode cX9_power 12 = .ok (.lload_n 0, 1) := by decide +kernel
theorem dX9_power_13 : decode cX9_power 13 = .ok (.lmul, 1) := by decide +kernel
theorem dX9_power_14 : decode cX9_power 14 = .ok (.lstore_n 3, 1) := by decide +kernel
theorem dX9_power_15 : decode cX9_power 15 = .ok (.iinc 5 1, 3) := by decide +kernel
theorem dX9_power_18 : decode cX9_power 18 = .ok (.goto (-13), 3) := by decide +kernel
theorem dX9_power_21 : decode cX9_power 21 = .ok (.lload_n 3, 1) := by decide +kernel
theorem dX9_power_22 : decode cX9_power 22 = .ok (.lreturn, 1) := by decide +kernel
set_option maxRecDepth 20000 in
theorem ggX9_takenOf_X9_without : GoodIn wsX9_takenOf wsX9_without := goodIn_r _ [8, 9, 44, 45, 46, 47, 48, 49, 50, 51, 52, 53, 54, 55, 56, 57, 58, 59, 60, 61, 62, 63] (by decide +kernel) (by decide +kernel)
set_option maxRecDepth 20000 in
theorem gX9_takenOf_X9_without : GoodIn wsX9_takenOf (wsV RX9 137 RX9 yX9_without wsX9_without) := goodIn_app (goodIn_of _ (by decide +kernel)) ggX9_takenOf_X9_without
set_option maxRecDepth 20000 in
theorem ggX9_takenOf_X9_clearGiven : GoodIn wsX9_takenOf wsX9_clearGiven := goodIn_r _ [13, 2, 44, 45, 46, 47, 48, 49, 50, 51, 52, 53, 54, 55, 56, 57, 58, 59, 60, 61, 62, 63] (by decide +kernel) (by decide +kernel)
set_option maxRecDepth 20000 in
theorem gX9_takenOf_X9_clearGiven : GoodIn wsX9_takenOf (wsV RX9 124 RX9 yX9_clearGiven wsX9_clearGiven) := goodIn_app (goodIn_of _ (by decide +kernel)) ggX9_takenOf_X9_clearGiven
set_option maxRecDepth 20000 in
theorem ggX9_takenOf_X9_quarters : GoodIn wsX9_takenOf wsX9_quarters := goodIn_r _ [17, 18, 44, 45, 46, 47, 48, 49, 50, 51, 52, 53, 54, 55, 56, 57, 58, 59, 60, 61, 62, 63] (by decide +kernel) (by decide +kernel)
set_option maxRecDepth 20000 in
theorem gX9_takenOf_X9_quarters : GoodIn wsX9_takenOf (wsV RX9 140 RX9 yX9_quarters wsX9_quarters) := goodIn_app (goodIn_of _ (by decide +kernel)) ggX9_takenOf_X9_quarters
set_option maxRecDepth 20000 in
theorem ggX9_takenOf_X9_markOf : GoodIn wsX9_takenOf wsX9_markOf := goodIn_r _ [22, 23, 24, 25, 26, 7, 27, 9, 28, 29, 30, 31, 44, 45, 46, 47, 48, 49, 50, 51, 52, 53, 54, 55, 56, 57, 58, 59, 60, 61, 62, 63] (by decide +kernel) (by decide +kernel)
set_option maxRecDepth 20000 in
theorem gX9_takenOf_X9_markOf : GoodIn wsX9_takenOf (wsV RX9 143 RX9 yX9_markOf wsX9_markOf) := goodIn_app (goodIn_of _ (by decide +kernel)) ggX9_takenOf_X9_markOf
set_option maxRecDepth 20000 in
theorem ggX9_takenOf_X9_yesOf : GoodIn wsX9_takenOf wsX9_yesOf := goodIn_r _ [35, 2, 36, 37, 38, 39, 40, 41, 42, 7, 43, 44, 45, 46, 47, 48, 49, 50, 51, 52, 53, 54, 55, 56, 57, 58, 59, 60, 61, 62, 63] (by decide +kernel) (by decide +kernel)
set_option maxRecDepth 20000 in
theorem gX9_takenOf_X9_yesOf : GoodIn wsX9_takenOf (wsV RX9 127 RX9 yX9_yesOf wsX9_yesOf) := goodIn_app (goodIn_of _ (by decide +kernel)) ggX9_takenOf_X9_yesOf
theorem dX9_takenOf_0 : decode cX9_takenOf 0 = .ok (.aload_n 0, 1) := by decide +kernel
theorem dX9_takenOf_1 : decode cX9_takenOf 1 = .ok (.iload_n 1, 1) := by decide +kernel
theorem dX9_takenOf_2 : decode cX9_takenOf 2 = .ok (.iload_n 2, 1) := by decide +kernel
theorem dX9_takenOf_3 : decode cX9_takenOf 3 = .ok (.invokevirtual 137, 3) := by decide +kernel
theorem dX9_takenOf_6 : decode cX9_takenOf 6 = .ok (.istore_n 3, 1) := by decide +kernel
theorem dX9_takenOf_7 : decode cX9_takenOf 7 = .ok (.iconst 1, 1) := by decide +kernel
theorem dX9_takenOf_8 : decode cX9_takenOf 8 = .ok (.istore 4, 2) := by decide +kernel
theorem dX9_takenOf_10 : decode cX9_takenOf 10 = .ok (.iconst 0, 1) := by decide +kernel
theorem dX9_takenOf_11 : decode cX9_takenOf 11 = .ok (.istore 5, 2) := by decide +kernel
theorem dX9_takenOf_13 : decode cX9_takenOf 13 = .ok (.iload 5, 2) := by decide +kernel
theorem dX9_takenOf_15 : decode cX9_takenOf 15 = .ok (.aload_n 0, 1) := by decide +kernel
theorem dX9_takenOf_16 : decode cX9_takenOf 16 = .ok (.getfield 63, 3) := by decide +kernel
theorem dX9_takenOf_19 : decode cX9_takenOf 19 = .ok (.if_icmp .ge 29, 3) := by decide +kernel
theorem dX9_takenOf_22 : decode cX9_takenOf 22 = .ok (.iload 4, 2) := by decide +kernel
theorem dX9_takenOf_24 : decode cX9_takenOf 24 = .ok (.iload_n 3, 1) := by decide +kernel
theorem dX9_takenOf_25 : decode cX9_takenOf 25 = .ok (.iload 5, 2) := by decide +kernel
theorem dX9_takenOf_27 : decode cX9_takenOf 27 = .ok (.ishr, 1) := by decide +kernel
theorem dX9_takenOf_28 : decode cX9_takenOf 28 = .ok (.iconst 1, 1) := by decide +kernel
theorem dX9_takenOf_29 : decode cX9_takenOf 29 = .ok (.iand, 1) := by decide +kernel
theorem dX9_takenOf_30 : decode cX9_takenOf 30 = .ok (.iconst 1, 1) := by decide +kernel
theorem dX9_takenOf_31 : decode cX9_takenOf 31 = .ok (.if_icmp .ne 7, 3) := by decide +kernel
theorem dX9_takenOf_34 : decode cX9_takenOf 34 = .ok (.iconst 3, 1) := by decide +kernel
theorem dX9_takenOf_35 : decode cX9_takenOf 35 = .ok (.goto 4, 3) := by decide +kernel
theorem dX9_takenOf_38 : decode cX9_takenOf 38 = .ok (.iconst 1, 1) := by decide +kernel
theorem dX9_takenOf_39 : decode cX9_takenOf 39 = .ok (.imul, 1) := by decide +kernel
theorem dX9_takenOf_40 : decode cX9_takenOf 40 = .ok (.istore 4, 2) := by decide +kernel
theorem dX9_takenOf_42 : decode cX9_takenOf 42 = .ok (.iinc 5 1, 3) := by decide +kernel
theorem dX9_takenOf_45 : decode cX9_takenOf 45 = .ok (.goto (-32), 3) := by decide +kernel
theorem dX9_takenOf_48 : decode cX9_takenOf 48 = .ok (.lconst 0, 1) := by decide +kernel
theorem dX9_takenOf_49 : decode cX9_takenOf 49 = .ok (.lstore 5, 2) := by decide +kernel
theorem dX9_takenOf_51 : decode cX9_takenOf 51 = .ok (.iconst 0, 1) := by decide +kernel
theorem dX9_takenOf_52 : decode cX9_takenOf 52 = .ok (.istore 7, 2) := by decide +kernel
theorem dX9_takenOf_54 : decode cX9_takenOf 54 = .ok (.iload 7, 2) := by decide +kernel
theorem dX9_takenOf_56 : decode cX9_takenOf 56 = .ok (.iload 4, 2) := by decide +kernel
theorem dX9_takenOf_58 : decode cX9_takenOf 58 = .ok (.if_icmp .ge 111, 3) := by decide +kernel
theorem dX9_takenOf_61 : decode cX9_takenOf 61 = .ok (.lconst 1, 1) := by decide +kernel
theorem dX9_takenOf_62 : decode cX9_takenOf 62 = .ok (.lstore 8, 2) := by decide +kernel
theorem dX9_takenOf_64 : decode cX9_takenOf 64 = .ok (.iload 7, 2) := by decide +kernel
theorem dX9_takenOf_66 : decode cX9_takenOf 66 = .ok (.istore 10, 2) := by decide +kernel
theorem dX9_takenOf_68 : decode cX9_takenOf 68 = .ok (.aload_n 0, 1) := by decide +kernel
theorem dX9_takenOf_69 : decode cX9_takenOf 69 = .ok (.invokevirtual 124, 3) := by decide +kernel
theorem dX9_takenOf_72 : decode cX9_takenOf 72 = .ok (.iconst 0, 1) := by decide +kernel
theorem dX9_takenOf_73 : decode cX9_takenOf 73 = .ok (.istore 11, 2) := by decide +kernel
theorem dX9_takenOf_75 : decode cX9_takenOf 75 = .ok (.iload 11, 2) := by decide +kernel
theorem dX9_takenOf_77 : decode cX9_takenOf 77 = .ok (.aload_n 0, 1) := by decide +kernel
theorem dX9_takenOf_78 : decode cX9_takenOf 78 = .ok (.getfield 63, 3) := by decide +kernel
theorem dX9_takenOf_81 : decode cX9_takenOf 81 = .ok (.if_icmp .ge 69, 3) := by decide +kernel
theorem dX9_takenOf_84 : decode cX9_takenOf 84 = .ok (.iload_n 3, 1) := by decide +kernel
theorem dX9_takenOf_85 : decode cX9_takenOf 85 = .ok (.iload 11, 2) := by decide +kernel
theorem dX9_takenOf_87 : decode cX9_takenOf 87 = .ok (.ishr, 1) := by decide +kernel
theorem dX9_takenOf_88 : decode cX9_takenOf 88 = .ok (.iconst 1, 1) := by decide +kernel
theorem dX9_takenOf_89 : decode cX9_takenOf 89 = .ok (.iand, 1) := by decide +kernel
theorem dX9_takenOf_90 : decode cX9_takenOf 90 = .ok (.iconst 1, 1) := by decide +kernel
theorem dX9_takenOf_91 : decode cX9_takenOf 91 = .ok (.if_icmp .ne 53, 3) := by decide +kernel
theorem dX9_takenOf_94 : decode cX9_takenOf 94 = .ok (.iload 10, 2) := by decide +kernel
theorem dX9_takenOf_96 : decode cX9_takenOf 96 = .ok (.iconst 3, 1) := by decide +kernel
theorem dX9_takenOf_97 : decode cX9_takenOf 97 = .ok (.irem, 1) := by decide +kernel
theorem dX9_takenOf_98 : decode cX9_takenOf 98 = .ok (.istore 12, 2) := by decide +kernel
theorem dX9_takenOf_100 : decode cX9_takenOf 100 = .ok (.iload 10, 2) := by decide +kernel
theorem dX9_takenOf_102 : decode cX9_takenOf 102 = .ok (.iconst 3, 1) := by decide +kernel
theorem dX9_takenOf_103 : decode cX9_takenOf 103 = .ok (.idiv, 1) := by decide +kernel
theorem dX9_takenOf_104 : decode cX9_takenOf 104 = .ok (.istore 10, 2) := by decide +kernel
theorem dX9_takenOf_106 : decode cX9_takenOf 106 = .ok (.lload 8, 2) := by decide +kernel
theorem dX9_takenOf_108 : decode cX9_takenOf 108 = .ok (.aload_n 0, 1) := by decide +kernel
theorem dX9_takenOf_109 : decode cX9_takenOf 109 = .ok (.iload 11, 2) := by decide +kernel
theorem dX9_takenOf_111 : decode cX9_takenOf 111 = .ok (.iload 12, 2) := by decide +kernel
theorem dX9_takenOf_113 : decode cX9_takenOf 113 = .ok (.invokevirtual 140, 3) := by decide +kernel
theorem dX9_takenOf_116 : decode cX9_takenOf 116 = .ok (.i2l, 1) := by decide +kernel
theorem dX9_takenOf_117 : decode cX9_takenOf 117 = .ok (.lmul, 1) := by decide +kernel
theorem dX9_takenOf_118 : decode cX9_takenOf 118 = .ok (.lstore 8, 2) := by decide +kernel
theorem dX9_takenOf_120 : decode cX9_takenOf 120 = .ok (.aload_n 0, 1) := by decide +kernel
theorem dX9_takenOf_121 : decode cX9_takenOf 121 = .ok (.getfield 52, 3) := by decide +kernel
theorem dX9_takenOf_124 : decode cX9_takenOf 124 = .ok (.aload_n 0, 1) := by decide +kernel
theorem dX9_takenOf_125 : decode cX9_takenOf 125 = .ok (.iload 11, 2) := by decide +kernel
theorem dX9_takenOf_127 : decode cX9_takenOf 127 = .ok (.iload_n 1, 1) := by decide +kernel
theorem dX9_takenOf_128 : decode cX9_takenOf 128 = .ok (.aload_n 0, 1) := by decide +kernel
theorem dX9_takenOf_129 : decode cX9_takenOf 129 = .ok (.getfield 22, 3) := by decide +kernel
theorem dX9_takenOf_132 : decode cX9_takenOf 132 = .ok (.iload_n 1, 1) := by decide +kernel
theorem dX9_takenOf_133 : decode cX9_takenOf 133 = .ok (.iaload, 1) := by decide +kernel
theorem dX9_takenOf_134 : decode cX9_takenOf 134 = .ok (.iload 12, 2) := by decide +kernel
theorem dX9_takenOf_136 : decode cX9_takenOf 136 = .ok (.invokevirtual 143, 3) := by decide +kernel
theorem dX9_takenOf_139 : decode cX9_takenOf 139 = .ok (.dup2, 1) := by decide +kernel
theorem dX9_takenOf_140 : decode cX9_takenOf 140 = .ok (.iaload, 1) := by decide +kernel
theorem dX9_takenOf_141 : decode cX9_takenOf 141 = .ok (.iconst 1, 1) := by decide +kernel
theorem dX9_takenOf_142 : decode cX9_takenOf 142 = .ok (.iadd, 1) := by decide +kernel
theorem dX9_takenOf_143 : decode cX9_takenOf 143 = .ok (.iastore, 1) := by decide +kernel
theorem dX9_takenOf_144 : decode cX9_takenOf 144 = .ok (.iinc 11 1, 3) := by decide +kernel
theorem dX9_takenOf_147 : decode cX9_takenOf 147 = .ok (.goto (-72), 3) := by decide +kernel
theorem dX9_takenOf_150 : decode cX9_takenOf 150 = .ok (.lload 5, 2) := by decide +kernel
theorem dX9_takenOf_152 : decode cX9_takenOf 152 = .ok (.lload 8, 2) := by decide +kernel
theorem dX9_takenOf_154 : decode cX9_takenOf 154 = .ok (.aload_n 0, 1) := by decide +kernel
theorem dX9_takenOf_155 : decode cX9_takenOf 155 = .ok (.invokevirtual 127, 3) := by decide +kernel
theorem dX9_takenOf_158 : decode cX9_takenOf 158 = .ok (.i2l, 1) := by decide +kernel
theorem dX9_takenOf_159 : decode cX9_takenOf 159 = .ok (.lmul, 1) := by decide +kernel
theorem dX9_takenOf_160 : decode cX9_takenOf 160 = .ok (.ladd, 1) := by decide +kernel
theorem dX9_takenOf_161 : decode cX9_takenOf 161 = .ok (.lstore 5, 2) := by decide +kernel
theorem dX9_takenOf_163 : decode cX9_takenOf 163 = .ok (.iinc 7 1, 3) := by decide +kernel
theorem dX9_takenOf_166 : decode cX9_takenOf 166 = .ok (.goto (-112), 3) := by decide +kernel
theorem dX9_takenOf_169 : decode cX9_takenOf 169 = .ok (.lload 5, 2) := by decide +kernel
theorem dX9_takenOf_171 : decode cX9_takenOf 171 = .ok (.lreturn, 1) := by decide +kernel
set_option maxRecDepth 20000 in
theorem ggX9_allOf_X9_without : GoodIn wsX9_allOf wsX9_without := goodIn_r _ [6, 7, 14, 15, 16, 17, 18, 19, 20, 21, 22, 23, 24, 25, 26, 27, 28, 29, 30, 31, 32, 33] (by decide +kernel) (by decide +kernel)
set_option maxRecDepth 20000 in
theorem gX9_allOf_X9_without : GoodIn wsX9_allOf (wsV RX9 137 RX9 yX9_without wsX9_without) := goodIn_app (goodIn_of _ (by decide +kernel)) ggX9_allOf_X9_without
set_option maxRecDepth 20000 in
theorem ggX9_allOf_X9_ones : GoodIn wsX9_allOf wsX9_ones := goodIn_r _ [10] (by decide +kernel) (by decide +kernel)
set_option maxRecDepth 20000 in
theorem gX9_allOf_X9_ones : GoodIn wsX9_allOf (va_wsS RX9 149 yX9_ones wsX9_ones) := goodIn_app (goodIn_of _ (by decide +kernel)) ggX9_allOf_X9_ones
set_option maxRecDepth 20000 in
theorem ggX9_allOf_X9_power : GoodIn wsX9_allOf wsX9_power := goodIn_r _ [13] (by decide +kernel) (by decide +kernel)
set_option maxRecDepth 20000 in
theorem gX9_allOf_X9_power : GoodIn wsX9_allOf (va_wsS RX9 152 yX9_power wsX9_power) := goodIn_app (goodIn_of _ (by decide +kernel)) ggX9_allOf_X9_power
theorem dX9_allOf_0 : decode cX9_allOf 0 = .ok (.ldc2_w 147, 3) := by decide +kernel
theorem dX9_allOf_3 : decode cX9_allOf 3 = .ok (.aload_n 0, 1) := by decide +kernel
theorem dX9_allOf_4 : decode cX9_allOf 4 = .ok (.iload_n 1, 1) := by decide +kernel
theorem dX9_allOf_5 : decode cX9_allOf 5 = .ok (.iload_n 2, 1) := by decide +kernel
theorem dX9_allOf_6 : decode cX9_allOf 6 = .ok (.invokevirtual 137, 3) := by decide +kernel
theorem dX9_allOf_9 : decode cX9_allOf 9 = .ok (.invokestatic 149, 3) := by decide +kernel
theorem dX9_allOf_12 : decode cX9_allOf 12 = .ok (.iconst 1, 1) := by decide +kernel
theorem dX9_allOf_13 : decode cX9_allOf 13 = .ok (.iadd, 1) := by decide +kernel
theorem dX9_allOf_14 : decode cX9_allOf 14 = .ok (.invokestatic 152, 3) := by decide +kernel
theorem dX9_allOf_17 : decode cX9_allOf 17 = .ok (.lreturn, 1) := by decide +kernel
set_option maxRecDepth 20000 in
theorem ggX9_isSet_X9_in : GoodIn wsX9_isSet wsX9_in := goodIn_r _ [5] (by decide +kernel) (by decide +kernel)
set_option maxRecDepth 20000 in
theorem gX9_isSet_X9_in : GoodIn wsX9_isSet (va_wsS RX9 59 yX9_in wsX9_in) := goodIn_app (goodIn_of _ (by decide +kernel)) ggX9_isSet_X9_in
theorem dX9_isSet_0 : decode cX9_isSet 0 = .ok (.iload_n 1, 1) := by decide +kernel
theorem dX9_isSet_1 : decode cX9_isSet 1 = .ok (.i2l, 1) := by decide +kernel
theorem dX9_isSet_2 : decode cX9_isSet 2 = .ok (.lconst 0, 1) := by decide +kernel
theorem dX9_isSet_3 : decode cX9_isSet 3 = .ok (.iconst 1, 1) := by decide +kernel
theorem dX9_isSet_4 : decode cX9_isSet 4 = .ok (.aload_n 0, 1) := by decide +kernel
theorem dX9_isSet_5 : decode cX9_isSet 5 = .ok (.getfield 63, 3) := by decide +kernel
theorem dX9_isSet_8 : decode cX9_isSet 8 = .ok (.ishl, 1) := by decide +kernel
theorem dX9_isSet_9 : decode cX9_isSet 9 = .ok (.iconst 1, 1) := by decide +kernel
theorem dX9_isSet_10 : decode cX9_isSet 10 = .ok (.isub, 1) := by decide +kernel
theorem dX9_isSet_11 : decode cX9_isSet 11 = .ok (.i2l, 1) := by decide +kernel
theorem dX9_isSet_12 : decode cX9_isSet 12 = .ok (.invokestatic 59, 3) := by decide +kernel
theorem dX9_isSet_15 : decode cX9_isSet 15 = .ok (.ireturn, 1) := by decide +kernel
set_option maxRecDepth 20000 in
theorem ggX9_taken_X9_isPaper : GoodIn wsX9_taken wsX9_isPaper := goodIn_r _ [9, 10, 11, 12, 8, 13, 80, 81, 82, 83, 84, 85, 86, 87, 88, 89, 90, 91, 92, 93, 94, 95, 96, 97, 98, 99] (by decide +kernel) (by decide +kernel)
set_option maxRecDepth 20000 in
theorem gX9_taken_X9_isPaper : GoodIn wsX9_taken (wsV RX9 86 RX9 yX9_isPaper wsX9_isPaper) := goodIn_app (goodIn_of _ (by decide +kernel)) ggX9_taken_X9_isPaper
set_option maxRecDepth 20000 in
theorem ggX9_taken_X9_isSet : GoodIn wsX9_taken wsX9_isSet := goodIn_r _ [17, 18, 11, 12, 8, 13, 80, 81, 82, 83, 84, 85, 86, 87, 88, 89, 90, 91, 92, 93, 94, 95, 96, 97, 98, 99] (by decide +kernel) (by decide +kernel)
set_option maxRecDepth 20000 in
theorem gX9_taken_X9_isSet : GoodIn wsX9_taken (wsV RX9 158 RX9 yX9_isSet wsX9_isSet) := goodIn_app (goodIn_of _ (by decide +kernel)) ggX9_taken_X9_isSet
set_option maxRecDepth 20000 in
theorem ggX9_taken_X9_isPart : GoodIn wsX9_taken wsX9_isPart := goodIn_r _ [21, 11, 12, 8, 13] (by decide +kernel) (by decide +kernel)
set_option maxRecDepth 20000 in
theorem gX9_taken_X9_isPart : GoodIn wsX9_taken (va_wsS RX9 161 yX9_isPart wsX9_isPart) := goodIn_app (goodIn_of _ (by decide +kernel)) ggX9_taken_X9_isPart
set_option maxRecDepth 20000 in
theorem ggX9_taken_X9_takenOf : GoodIn wsX9_taken wsX9_takenOf := goodIn_r _ [25, 18, 26, 27, 28, 29, 30, 8, 31, 32, 33, 34, 35, 36, 37, 38, 39, 40, 41, 42, 43, 44, 45, 46, 47, 48, 49, 50, 51, 52, 53, 54, 55, 56, 57, 58, 3, 59, 60, 61, 62, 63, 64, 65, 80, 81, 82, 83, 84, 85, 86, 87, 88, 89, 90, 91, 92, 93, 94, 95, 96, 97, 98, 99] (by decide +kernel) (by decide +kernel)
set_option maxRecDepth 20000 in
theorem gX9_taken_X9_takenOf : GoodIn wsX9_taken (wsV RX9 168 RX9 yX9_takenOf wsX9_takenOf) := goodIn_app (goodIn_of _ (by decide +kernel)) ggX9_taken_X9_takenOf
set_option maxRecDepth 20000 in
theorem ggX9_taken_X9_allOf : GoodIn wsX9_taken wsX9_allOf := goodIn_r _ [69, 70, 28, 29, 30, 8, 31, 32, 71, 72, 73, 74, 75, 76, 80, 81, 82, 83, 84, 85, 86, 87, 88, 89, 90, 91, 92, 93, 94, 95, 96, 97, 98, 99] (by decide +kernel) (by decide +kernel)
set_option maxRecDepth 20000 in
theorem gX9_taken_X9_allOf : GoodIn wsX9_taken (wsV RX9 172 RX9 yX9_allOf wsX9_allOf) := goodIn_app (goodIn_of _ (by decide +kernel)) ggX9_taken_X9_allOf
set_option maxRecDepth 20000 in
theorem ggX9_taken_X9_lowest : GoodIn wsX9_taken wsX9_lowest := goodIn_r _ [79] (by decide +kernel) (by decide +kernel)
set_option maxRecDepth 20000 in
theorem gX9_taken_X9_lowest : GoodIn wsX9_taken (va_wsS RX9 175 yX9_lowest wsX9_lowest) := goodIn_app (goodIn_of _ (by decide +kernel)) ggX9_taken_X9_lowest
theorem dX9_taken_0 : decode cX9_taken 0 = .ok (.aload_n 0, 1) := by decide +kernel
theorem dX9_taken_1 : decode cX9_taken 1 = .ok (.iload_n 1, 1) := by decide +kernel
theorem dX9_taken_2 : decode cX9_taken 2 = .ok (.invokevirtual 86, 3) := by decide +kernel
theorem dX9_taken_5 : decode cX9_taken 5 = .ok (.ifCond .ne 7, 3) := by decide +kernel
theorem dX9_taken_8 : decode cX9_taken 8 = .ok (.ldc2_w 156, 3) := by decide +kernel
theorem dX9_taken_11 : decode cX9_taken 11 = .ok (.lreturn, 1) := by decide +kernel
theorem dX9_taken_12 : decode cX9_taken 12 = .ok (.aload_n 0, 1) := by decide +kernel
theorem dX9_taken_13 : decode cX9_taken 13 = .ok (.iload_n 2, 1) := by decide +kernel
theorem dX9_taken_14 : decode cX9_taken 14 = .ok (.invokevirtual 158, 3) := by decide +kernel
theorem dX9_taken_17 : decode cX9_taken 17 = .ok (.ifCond .eq 10, 3) := by decide +kernel
theorem dX9_taken_20 : decode cX9_taken 20 = .ok (.iload_n 3, 1) := by decide +kernel
theorem dX9_taken_21 : decode cX9_taken 21 = .ok (.invokestatic 161, 3) := by decide +kernel
theorem dX9_taken_24 : decode cX9_taken 24 = .ok (.ifCond .ne 7, 3) := by decide +kernel
theorem dX9_taken_27 : decode cX9_taken 27 = .ok (.ldc2_w 164, 3) := by decide +kernel
theorem dX9_taken_30 : decode cX9_taken 30 = .ok (.lreturn, 1) := by decide +kernel
theorem dX9_taken_31 : decode cX9_taken 31 = .ok (.aload_n 0, 1) := by decide +kernel
theorem dX9_taken_32 : decode cX9_taken 32 = .ok (.getfield 118, 3) := by decide +kernel
theorem dX9_taken_35 : decode cX9_taken 35 = .ok (.ifCond .ne 9, 3) := by decide +kernel
theorem dX9_taken_38 : decode cX9_taken 38 = .ok (.ldc2_w 166, 3) := by decide +kernel
theorem dX9_taken_41 : decode cX9_taken 41 = .ok (.goto 19, 3) := by decide +kernel
theorem dX9_taken_44 : decode cX9_taken 44 = .ok (.aload_n 0, 1) := by decide +kernel
theorem dX9_taken_45 : decode cX9_taken 45 = .ok (.iload_n 1, 1) := by decide +kernel
theorem dX9_taken_46 : decode cX9_taken 46 = .ok (.iload_n 2, 1) := by decide +kernel
theorem dX9_taken_47 : decode cX9_taken 47 = .ok (.invokevirtual 168, 3) := by decide +kernel
theorem dX9_taken_50 : decode cX9_taken 50 = .ok (.aload_n 0, 1) := by decide +kernel
theorem dX9_taken_51 : decode cX9_taken 51 = .ok (.iload_n 1, 1) := by decide +kernel
theorem dX9_taken_52 : decode cX9_taken 52 = .ok (.iload_n 2, 1) := by decide +kernel
theorem dX9_taken_53 : decode cX9_taken 53 = .ok (.invokevirtual 172, 3) := by decide +kernel
theorem dX9_taken_56 : decode cX9_taken 56 = .ok (.iload_n 3, 1) := by decide +kernel
theorem dX9_taken_57 : decode cX9_taken 57 = .ok (.invokestatic 175, 3) := by decide +kernel
theorem dX9_taken_60 : decode cX9_taken 60 = .ok (.lreturn, 1) := by decide +kernel
set_option maxRecDepth 20000 in
theorem ggX9_lot_X9_isPaper : GoodIn wsX9_lot wsX9_isPaper := goodIn_r _ [9, 10, 11, 12, 8, 13, 80, 81, 82, 83, 84, 85, 86, 87, 88, 89, 90, 91, 92, 93, 94, 95, 96, 97, 98, 99] (by decide +kernel) (by decide +kernel)
set_option maxRecDepth 20000 in
theorem gX9_lot_X9_isPaper : GoodIn wsX9_lot (wsV RX9 86 RX9 yX9_isPaper wsX9_isPaper) := goodIn_app (goodIn_of _ (by decide +kernel)) ggX9_lot_X9_isPaper
set_option maxRecDepth 20000 in
theorem ggX9_lot_X9_isSet : GoodIn wsX9_lot wsX9_isSet := goodIn_r _ [17, 18, 11, 12, 8, 13, 80, 81, 82, 83, 84, 85, 86, 87, 88, 89, 90, 91, 92, 93, 94, 95, 96, 97, 98, 99] (by decide +kernel) (by decide +kernel)
set_option maxRecDepth 20000 in
theorem gX9_lot_X9_isSet : GoodIn wsX9_lot (wsV RX9 158 RX9 yX9_isSet wsX9_isSet) := goodIn_app (goodIn_of _ (by decide +kernel)) ggX9_lot_X9_isSet
set_option maxRecDepth 20000 in
theorem ggX9_lot_X9_isPart : GoodIn wsX9_lot wsX9_isPart := goodIn_r _ [21, 11, 12, 8, 13] (by decide +kernel) (by decide +kernel)
set_option maxRecDepth 20000 in
theorem gX9_lot_X9_isPart : GoodIn wsX9_lot (va_wsS RX9 161 yX9_isPart wsX9_isPart) := goodIn_app (goodIn_of _ (by decide +kernel)) ggX9_lot_X9_isPart
set_option maxRecDepth 20000 in
theorem ggX9_lot_X9_takenOf : GoodIn wsX9_lot wsX9_takenOf := goodIn_r _ [25, 18, 26, 27, 28, 29, 30, 8, 31, 32, 33, 34, 35, 36, 37, 38, 39, 40, 41, 42, 43, 44, 45, 46, 47, 48, 49, 50, 51, 52, 53, 54, 55, 56, 57, 58, 3, 59, 60, 61, 62, 63, 64, 65, 80, 81, 82, 83, 84, 85, 86, 87, 88, 89, 90, 91, 92, 93, 94, 95, 96, 97, 98, 99] (by decide +kernel) (by decide +kernel)
set_option maxRecDepth 20000 in
theorem gX9_lot_X9_takenOf : GoodIn wsX9_lot (wsV RX9 168 RX9 yX9_takenOf wsX9_takenOf) := goodIn_app (goodIn_of _ (by decide +kernel)) ggX9_lot_X9_takenOf
set_option maxRecDepth 20000 in
theorem ggX9_lot_X9_allOf : GoodIn wsX9_lot wsX9_allOf := goodIn_r _ [69, 70, 28, 29, 30, 8, 31, 32, 71, 72, 73, 74, 75, 76, 80, 81, 82, 83, 84, 85, 86, 87, 88, 89, 90, 91, 92, 93, 94, 95, 96, 97, 98, 99] (by decide +kernel) (by decide +kernel)
set_option maxRecDepth 20000 in
theorem gX9_lot_X9_allOf : GoodIn wsX9_lot (wsV RX9 172 RX9 yX9_allOf wsX9_allOf) := goodIn_app (goodIn_of _ (by decide +kernel)) ggX9_lot_X9_allOf
set_option maxRecDepth 20000 in
theorem ggX9_lot_X9_lowest : GoodIn wsX9_lot wsX9_lowest := goodIn_r _ [79] (by decide +kernel) (by decide +kernel)
set_option maxRecDepth 20000 in
theorem gX9_lot_X9_lowest : GoodIn wsX9_lot (va_wsS RX9 175 yX9_lowest wsX9_lowest) := goodIn_app (goodIn_of _ (by decide +kernel)) ggX9_lot_X9_lowest
theorem dX9_lot_0 : decode cX9_lot 0 = .ok (.aload_n 0, 1) := by decide +kernel
theorem dX9_lot_1 : decode cX9_lot 1 = .ok (.iload_n 1, 1) := by decide +kernel
theorem dX9_lot_2 : decode cX9_lot 2 = .ok (.invokevirtual 86, 3) := by decide +kernel
theorem dX9_lot_5 : decode cX9_lot 5 = .ok (.ifCond .ne 7, 3) := by decide +kernel
theorem dX9_lot_8 : decode cX9_lot 8 = .ok (.ldc2_w 156, 3) := by decide +kernel
theorem dX9_lot_11 : decode cX9_lot 11 = .ok (.lreturn, 1) := by decide +kernel
theorem dX9_lot_12 : decode cX9_lot 12 = .ok (.aload_n 0, 1) := by decide +kernel
theorem dX9_lot_13 : decode cX9_lot 13 = .ok (.iload_n 2, 1) := by decide +kernel
theorem dX9_lot_14 : decode cX9_lot 14 = .ok (.invokevirtual 158, 3) := by decide +kernel
theorem dX9_lot_17 : decode cX9_lot 17 = .ok (.ifCond .eq 19, 3) := by decide +kernel
theorem dX9_lot_20 : decode cX9_lot 20 = .ok (.aload_n 0, 1) := by decide +kernel
theorem dX9_lot_21 : decode cX9_lot 21 = .ok (.iload_n 3, 1) := by decide +kernel
theorem dX9_lot_22 : decode cX9_lot 22 = .ok (.invokevirtual 158, 3) := by decide +kernel
theorem dX9_lot_25 : decode cX9_lot 25 = .ok (.ifCond .eq 11, 3) := by decide +kernel
theorem dX9_lot_28 : decode cX9_lot 28 = .ok (.iload 4, 2) := by decide +kernel
theorem dX9_lot_30 : decode cX9_lot 30 = .ok (.invokestatic 161, 3) := by decide +kernel
theorem dX9_lot_33 : decode cX9_lot 33 = .ok (.ifCond .ne 7, 3) := by decide +kernel
theorem dX9_lot_36 : decode cX9_lot 36 = .ok (.ldc2_w 164, 3) := by decide +kernel
theorem dX9_lot_39 : decode cX9_lot 39 = .ok (.lreturn, 1) := by decide +kernel
theorem dX9_lot_40 : decode cX9_lot 40 = .ok (.aload_n 0, 1) := by decide +kernel
theorem dX9_lot_41 : decode cX9_lot 41 = .ok (.getfield 118, 3) := by decide +kernel
theorem dX9_lot_44 : decode cX9_lot 44 = .ok (.ifCond .ne 7, 3) := by decide +kernel
theorem dX9_lot_47 : decode cX9_lot 47 = .ok (.ldc2_w 166, 3) := by decide +kernel
theorem dX9_lot_50 : decode cX9_lot 50 = .ok (.lreturn, 1) := by decide +kernel
theorem dX9_lot_51 : decode cX9_lot 51 = .ok (.aload_n 0, 1) := by decide +kernel
theorem dX9_lot_52 : decode cX9_lot 52 = .ok (.iload_n 1, 1) := by decide +kernel
theorem dX9_lot_53 : decode cX9_lot 53 = .ok (.iload_n 2, 1) := by decide +kernel
theorem dX9_lot_54 : decode cX9_lot 54 = .ok (.invokevirtual 168, 3) := by decide +kernel
theorem dX9_lot_57 : decode cX9_lot 57 = .ok (.lstore 5, 2) := by decide +kernel
theorem dX9_lot_59 : decode cX9_lot 59 = .ok (.aload_n 0, 1) := by decide +kernel
theorem dX9_lot_60 : decode cX9_lot 60 = .ok (.iload_n 1, 1) := by decide +kernel
theorem dX9_lot_61 : decode cX9_lot 61 = .ok (.iload_n 3, 1) := by decide +kernel
theorem dX9_lot_62 : decode cX9_lot 62 = .ok (.invokevirtual 168, 3) := by decide +kernel
theorem dX9_lot_65 : decode cX9_lot 65 = .ok (.lstore 7, 2) := by decide +kernel
theorem dX9_lot_67 : decode cX9_lot 67 = .ok (.aload_n 0, 1) := by decide +kernel
theorem dX9_lot_68 : decode cX9_lot 68 = .ok (.iload_n 1, 1) := by decide +kernel
theorem dX9_lot_69 : decode cX9_lot 69 = .ok (.iload_n 2, 1) := by decide +kernel
theorem dX9_lot_70 : decode cX9_lot 70 = .ok (.invokevirtual 172, 3) := by decide +kernel
theorem dX9_lot_73 : decode cX9_lot 73 = .ok (.lstore 9, 2) := by decide +kernel
theorem dX9_lot_75 : decode cX9_lot 75 = .ok (.aload_n 0, 1) := by decide +kernel
theorem dX9_lot_76 : decode cX9_lot 76 = .ok (.iload_n 1, 1) := by decide +kernel
theorem dX9_lot_77 : decode cX9_lot 77 = .ok (.iload_n 3, 1) := by decide +kernel
theorem dX9_lot_78 : decode cX9_lot 78 = .ok (.invokevirtual 172, 3) := by decide +kernel
theorem dX9_lot_81 : decode cX9_lot 81 = .ok (.lstore 11, 2) := by decide +kernel
theorem dX9_lot_83 : decode cX9_lot 83 = .ok (.lload 5, 2) := by decide +kernel
theorem dX9_lot_85 : decode cX9_lot 85 = .ok (.lload 11, 2) := by decide +kernel
theorem dX9_lot_87 : decode cX9_lot 87 = .ok (.lload 7, 2) := by decide +kernel
theorem dX9_lot_89 : decode cX9_lot 89 = .ok (.lsub, 1) := by decide +kernel
theorem dX9_lot_90 : decode cX9_lot 90 = .ok (.lmul, 1) := by decide +kernel
theorem dX9_lot_91 : decode cX9_lot 91 = .ok (.lload 7, 2) := by decide +kernel
theorem dX9_lot_93 : decode cX9_lot 93 = .ok (.lload 9, 2) := by decide +kernel
theorem dX9_lot_95 : decode cX9_lot 95 = .ok (.lload 5, 2) := by decide +kernel
theorem dX9_lot_97 : decode cX9_lot 97 = .ok (.lsub, 1) := by decide +kernel
theorem dX9_lot_98 : decode cX9_lot 98 = .ok (.lmul, 1) := by decide +kernel
theorem dX9_lot_99 : decode cX9_lot 99 = .ok (.ladd, 1) := by decide +kernel
theorem dX9_lot_100 : decode cX9_lot 100 = .ok (.lload 9, 2) := by decide +kernel
theorem dX9_lot_102 : decode cX9_lot 102 = .ok (.lload 11, 2) := by decide +kernel
theorem dX9_lot_104 : decode cX9_lot 104 = .ok (.lmul, 1) := by decide +kernel
theorem dX9_lot_105 : decode cX9_lot 105 = .ok (.iload 4, 2) := by decide +kernel
theorem dX9_lot_107 : decode cX9_lot 107 = .ok (.invokestatic 175, 3) := by decide +kernel
theorem dX9_lot_110 : decode cX9_lot 110 = .ok (.lreturn, 1) := by decide +kernel
set_option maxRecDepth 20000 in
theorem ggX9_rightOf_X9_power : GoodIn wsX9_rightOf wsX9_power := goodIn_r _ [7] (by decide +kernel) (by decide +kernel)
set_option maxRecDepth 20000 in
theorem gX9_rightOf_X9_power : GoodIn wsX9_rightOf (va_wsS RX9 152 yX9_power wsX9_power) := goodIn_app (goodIn_of _ (by decide +kernel)) ggX9_rightOf_X9_power
set_option maxRecDepth 20000 in
theorem ggX9_rightOf_X9_takenOf : GoodIn wsX9_rightOf wsX9_takenOf := goodIn_r _ [11, 12, 13, 3, 14, 15, 16, 6, 17, 18, 19, 20, 21, 22, 23, 24, 25, 26, 27, 28, 29, 30, 31, 32, 33, 34, 35, 36, 37, 38, 39, 40, 41, 42, 43, 44, 45, 46, 47, 48, 49, 50, 51, 52, 60, 61, 62, 63, 64, 65, 66, 67, 68, 69, 70, 71, 72, 73, 74, 75, 76, 77, 78, 79] (by decide +kernel) (by decide +kernel)
set_option maxRecDepth 20000 in
theorem gX9_rightOf_X9_takenOf : GoodIn wsX9_rightOf (wsV RX9 168 RX9 yX9_takenOf wsX9_takenOf) := goodIn_app (goodIn_of _ (by decide +kernel)) ggX9_rightOf_X9_takenOf
set_option maxRecDepth 20000 in
theorem ggX9_rightOf_X9_allOf : GoodIn wsX9_rightOf wsX9_allOf := goodIn_r _ [56, 1, 14, 15, 16, 6, 17, 18, 57, 58, 59, 4, 5, 7, 60, 61, 62, 63, 64, 65, 66, 67, 68, 69, 70, 71, 72, 73, 74, 75, 76, 77, 78, 79] (by decide +kernel) (by decide +kernel)
set_option maxRecDepth 20000 in
theorem gX9_rightOf_X9_allOf : GoodIn wsX9_rightOf (wsV RX9 172 RX9 yX9_allOf wsX9_allOf) := goodIn_app (goodIn_of _ (by decide +kernel)) ggX9_rightOf_X9_allOf
theorem dX9_rightOf_0 : decode cX9_rightOf 0 = .ok (.ldc2_w 147, 3) := by decide +kernel
theorem dX9_rightOf_3 : decode cX9_rightOf 3 = .ok (.bipush 7, 2) := by decide +kernel
theorem dX9_rightOf_5 : decode cX9_rightOf 5 = .ok (.invokestatic 152, 3) := by decide +kernel
theorem dX9_rightOf_8 : decode cX9_rightOf 8 = .ok (.lstore_n 3, 1) := by decide +kernel
theorem dX9_rightOf_9 : decode cX9_rightOf 9 = .ok (.lconst 0, 1) := by decide +kernel
theorem dX9_rightOf_10 : decode cX9_rightOf 10 = .ok (.lstore 5, 2) := by decide +kernel
theorem dX9_rightOf_12 : decode cX9_rightOf 12 = .ok (.iconst 0, 1) := by decide +kernel
theorem dX9_rightOf_13 : decode cX9_rightOf 13 = .ok (.istore 7, 2) := by decide +kernel
theorem dX9_rightOf_15 : decode cX9_rightOf 15 = .ok (.iload 7, 2) := by decide +kernel
theorem dX9_rightOf_17 : decode cX9_rightOf 17 = .ok (.aload_n 0, 1) := by decide +kernel
theorem dX9_rightOf_18 : decode cX9_rightOf 18 = .ok (.getfield 67, 3) := by decide +kernel
theorem dX9_rightOf_21 : decode cX9_rightOf 21 = .ok (.if_icmp .ge 53, 3) := by decide +kernel
theorem dX9_rightOf_24 : decode cX9_rightOf 24 = .ok (.aload_n 0, 1) := by decide +kernel
theorem dX9_rightOf_25 : decode cX9_rightOf 25 = .ok (.iload 7, 2) := by decide +kernel
theorem dX9_rightOf_27 : decode cX9_rightOf 27 = .ok (.iload_n 2, 1) := by decide +kernel
theorem dX9_rightOf_28 : decode cX9_rightOf 28 = .ok (.invokevirtual 168, 3) := by decide +kernel
theorem dX9_rightOf_31 : decode cX9_rightOf 31 = .ok (.lload_n 3, 1) := by decide +kernel
theorem dX9_rightOf_32 : decode cX9_rightOf 32 = .ok (.aload_n 0, 1) := by decide +kernel
theorem dX9_rightOf_33 : decode cX9_rightOf 33 = .ok (.iload 7, 2) := by decide +kernel
theorem dX9_rightOf_35 : decode cX9_rightOf 35 = .ok (.iload_n 2, 1) := by decide +kernel
theorem dX9_rightOf_36 : decode cX9_rightOf 36 = .ok (.invokevirtual 172, 3) := by decide +kernel
theorem dX9_rightOf_39 : decode cX9_rightOf 39 = .ok (.ldiv, 1) := by decide +kernel
theorem dX9_rightOf_40 : decode cX9_rightOf 40 = .ok (.lmul, 1) := by decide +kernel
theorem dX9_rightOf_41 : decode cX9_rightOf 41 = .ok (.lstore 8, 2) := by decide +kernel
theorem dX9_rightOf_43 : decode cX9_rightOf 43 = .ok (.lload 5, 2) := by decide +kernel
theorem dX9_rightOf_45 : decode cX9_rightOf 45 = .ok (.aload_n 0, 1) := by decide +kernel
theorem dX9_rightOf_46 : decode cX9_rightOf 46 = .ok (.getfield 22, 3) := by decide +kernel
theorem dX9_rightOf_49 : decode cX9_rightOf 49 = .ok (.iload 7, 2) := by decide +kernel
theorem dX9_rightOf_51 : decode cX9_rightOf 51 = .ok (.iaload, 1) := by decide +kernel
theorem dX9_rightOf_52 : decode cX9_rightOf 52 = .ok (.iload_n 1, 1) := by decide +kernel
theorem dX9_rightOf_53 : decode cX9_rightOf 53 = .ok (.if_icmp .lt 8, 3) := by decide +kernel
theorem dX9_rightOf_56 : decode cX9_rightOf 56 = .ok (.lload 8, 2) := by decide +kernel
theorem dX9_rightOf_58 : decode cX9_rightOf 58 = .ok (.goto 7, 3) := by decide +kernel
theorem dX9_rightOf_61 : decode cX9_rightOf 61 = .ok (.lload_n 3, 1) := by decide +kernel
theorem dX9_rightOf_62 : decode cX9_rightOf 62 = .ok (.lload 8, 2) := by decide +kernel
theorem dX9_rightOf_64 : decode cX9_rightOf 64 = .ok (.lsub, 1) := by decide +kernel
theorem dX9_rightOf_65 : decode cX9_rightOf 65 = .ok (.ladd, 1) := by decide +kernel
theorem dX9_rightOf_66 : decode cX9_rightOf 66 = .ok (.lstore 5, 2) := by decide +kernel
theorem dX9_rightOf_68 : decode cX9_rightOf 68 = .ok (.iinc 7 1, 3) := by decide +kernel
theorem dX9_rightOf_71 : decode cX9_rightOf 71 = .ok (.goto (-56), 3) := by decide +kernel
theorem dX9_rightOf_74 : decode cX9_rightOf 74 = .ok (.lload 5, 2) := by decide +kernel
theorem dX9_rightOf_76 : decode cX9_rightOf 76 = .ok (.lreturn, 1) := by decide +kernel
set_option maxRecDepth 20000 in
theorem ggX9_right_X9_in : GoodIn wsX9_right wsX9_in := goodIn_r _ [9] (by decide +kernel) (by decide +kernel)
set_option maxRecDepth 20000 in
theorem gX9_right_X9_in : GoodIn wsX9_right (va_wsS RX9 59 yX9_in wsX9_in) := goodIn_app (goodIn_of _ (by decide +kernel)) ggX9_right_X9_in
set_option maxRecDepth 20000 in
theorem ggX9_right_X9_isSet : GoodIn wsX9_right wsX9_isSet := goodIn_r _ [13, 14, 6, 7, 8, 9, 80, 81, 82, 83, 84, 85, 86, 87, 88, 89, 90, 91, 92, 93, 94, 95, 96, 97, 98, 99] (by decide +kernel) (by decide +kernel)
set_option maxRecDepth 20000 in
theorem gX9_right_X9_isSet : GoodIn wsX9_right (wsV RX9 158 RX9 yX9_isSet wsX9_isSet) := goodIn_app (goodIn_of _ (by decide +kernel)) ggX9_right_X9_isSet
set_option maxRecDepth 20000 in
theorem ggX9_right_X9_isPart : GoodIn wsX9_right wsX9_isPart := goodIn_r _ [17, 6, 7, 8, 9] (by decide +kernel) (by decide +kernel)
set_option maxRecDepth 20000 in
theorem gX9_right_X9_isPart : GoodIn wsX9_right (va_wsS RX9 161 yX9_isPart wsX9_isPart) := goodIn_app (goodIn_of _ (by decide +kernel)) ggX9_right_X9_isPart
set_option maxRecDepth 20000 in
theorem ggX9_right_X9_rightOf : GoodIn wsX9_right wsX9_rightOf := goodIn_r _ [21, 5, 22, 23, 24, 25, 8, 26, 27, 28, 29, 30, 14, 31, 32, 33, 34, 35, 36, 37, 38, 39, 40, 41, 42, 43, 44, 45, 46, 47, 48, 49, 50, 51, 52, 53, 54, 55, 56, 57, 58, 59, 60, 61, 62, 3, 63, 64, 65, 66, 67, 68, 69, 70, 71, 72, 73, 74, 75, 76, 80, 81, 82, 83, 84, 85, 86, 87, 88, 89, 90, 91, 92, 93, 94, 95, 96, 97, 98, 99] (by decide +kernel) (by decide +kernel)
set_option maxRecDepth 20000 in
theorem gX9_right_X9_rightOf : GoodIn wsX9_right (wsV RX9 179 RX9 yX9_rightOf wsX9_rightOf) := goodIn_app (goodIn_of _ (by decide +kernel)) ggX9_right_X9_rightOf
set_option maxRecDepth 20000 in
theorem ggX9_right_X9_power : GoodIn wsX9_right wsX9_power := goodIn_r _ [26] (by decide +kernel) (by decide +kernel)
set_option maxRecDepth 20000 in
theorem gX9_right_X9_power : GoodIn wsX9_right (va_wsS RX9 152 yX9_power wsX9_power) := goodIn_app (goodIn_of _ (by decide +kernel)) ggX9_right_X9_power
set_option maxRecDepth 20000 in
theorem ggX9_right_X9_lowest : GoodIn wsX9_right wsX9_lowest := goodIn_r _ [79] (by decide +kernel) (by decide +kernel)
set_option maxRecDepth 20000 in
theorem gX9_right_X9_lowest : GoodIn wsX9_right (va_wsS RX9 175 yX9_lowest wsX9_lowest) := goodIn_app (goodIn_of _ (by decide +kernel)) ggX9_right_X9_lowest
theorem dX9_right_0 : decode cX9_right 0 = .ok (.iload_n 1, 1) := by decide +kernel
theorem dX9_right_1 : decode cX9_right 1 = .ok (.i2l, 1) := by decide +kernel
theorem dX9_right_2 : decode cX9_right 2 = .ok (.lconst 1, 1) := by decide +kernel
theorem dX9_right_3 : decode cX9_right 3 = .ok (.ldc2_w 82, 3) := by decide +kernel
theorem dX9_right_6 : decode cX9_right 6 = .ok (.invokestatic 59, 3) := by decide +kernel
theorem dX9_right_9 : decode cX9_right 9 = .ok (.ifCond .eq 18, 3) := by decide +kernel
theorem dX9_right_12 : decode cX9_right 12 = .ok (.aload_n 0, 1) := by decide +kernel
theorem dX9_right_13 : decode cX9_right 13 = .ok (.iload_n 2, 1) := by decide +kernel
theorem dX9_right_14 : decode cX9_right 14 = .ok (.invokevirtual 158, 3) := by decide +kernel
theorem dX9_right_17 : decode cX9_right 17 = .ok (.ifCond .eq 10, 3) := by decide +kernel
theorem dX9_right_20 : decode cX9_right 20 = .ok (.iload_n 3, 1) := by decide +kernel
theorem dX9_right_21 : decode cX9_right 21 = .ok (.invokestatic 161, 3) := by decide +kernel
theorem dX9_right_24 : decode cX9_right 24 = .ok (.ifCond .ne 7, 3) := by decide +kernel
theorem dX9_right_27 : decode cX9_right 27 = .ok (.ldc2_w 164, 3) := by decide +kernel
theorem dX9_right_30 : decode cX9_right 30 = .ok (.lreturn, 1) := by decide +kernel
theorem dX9_right_31 : decode cX9_right 31 = .ok (.aload_n 0, 1) := by decide +kernel
theorem dX9_right_32 : decode cX9_right 32 = .ok (.getfield 118, 3) := by decide +kernel
theorem dX9_right_35 : decode cX9_right 35 = .ok (.ifCond .ne 9, 3) := by decide +kernel
theorem dX9_right_38 : decode cX9_right 38 = .ok (.ldc2_w 166, 3) := by decide +kernel
theorem dX9_right_41 : decode cX9_right 41 = .ok (.goto 21, 3) := by decide +kernel
theorem dX9_right_44 : decode cX9_right 44 = .ok (.aload_n 0, 1) := by decide +kernel
theorem dX9_right_45 : decode cX9_right 45 = .ok (.iload_n 1, 1) := by decide +kernel
theorem dX9_right_46 : decode cX9_right 46 = .ok (.iload_n 2, 1) := by decide +kernel
theorem dX9_right_47 : decode cX9_right 47 = .ok (.invokevirtual 179, 3) := by decide +kernel
theorem dX9_right_50 : decode cX9_right 50 = .ok (.ldc2_w 147, 3) := by decide +kernel
theorem dX9_right_53 : decode cX9_right 53 = .ok (.bipush 7, 2) := by decide +kernel
theorem dX9_right_55 : decode cX9_right 55 = .ok (.invokestatic 152, 3) := by decide +kernel
theorem dX9_right_58 : decode cX9_right 58 = .ok (.iload_n 3, 1) := by decide +kernel
theorem dX9_right_59 : decode cX9_right 59 = .ok (.invokestatic 175, 3) := by decide +kernel
theorem dX9_right_62 : decode cX9_right 62 = .ok (.lreturn, 1) := by decide +kernel
set_option maxRecDepth 20000 in
theorem ggX9_more_X9_isJudge : GoodIn wsX9_more wsX9_isJudge := goodIn_r _ [11, 12, 13, 14, 10, 15, 85, 86, 87, 88, 89, 90, 91, 92, 93, 94, 95, 96, 97, 98, 99, 100, 101, 102, 103, 104] (by decide +kernel) (by decide +kernel)
set_option maxRecDepth 20000 in
theorem gX9_more_X9_isJudge : GoodIn wsX9_more (wsV RX9 78 RX9 yX9_isJudge wsX9_isJudge) := goodIn_app (goodIn_of _ (by decide +kernel)) ggX9_more_X9_isJudge
set_option maxRecDepth 20000 in
theorem ggX9_more_X9_in : GoodIn wsX9_more wsX9_in := goodIn_r _ [15] (by decide +kernel) (by decide +kernel)
set_option maxRecDepth 20000 in
theorem gX9_more_X9_in : GoodIn wsX9_more (va_wsS RX9 59 yX9_in wsX9_in) := goodIn_app (goodIn_of _ (by decide +kernel)) ggX9_more_X9_in
set_option maxRecDepth 20000 in
theorem ggX9_more_X9_isSet : GoodIn wsX9_more wsX9_isSet := goodIn_r _ [19, 12, 13, 14, 10, 15, 85, 86, 87, 88, 89, 90, 91, 92, 93, 94, 95, 96, 97, 98, 99, 100, 101, 102, 103, 104] (by decide +kernel) (by decide +kernel)
set_option maxRecDepth 20000 in
theorem gX9_more_X9_isSet : GoodIn wsX9_more (wsV RX9 158 RX9 yX9_isSet wsX9_isSet) := goodIn_app (goodIn_of _ (by decide +kernel)) ggX9_more_X9_isSet
set_option maxRecDepth 20000 in
theorem ggX9_more_X9_isPart : GoodIn wsX9_more wsX9_isPart := goodIn_r _ [22, 13, 14, 10, 15] (by decide +kernel) (by decide +kernel)
set_option maxRecDepth 20000 in
theorem gX9_more_X9_isPart : GoodIn wsX9_more (va_wsS RX9 161 yX9_isPart wsX9_isPart) := goodIn_app (goodIn_of _ (by decide +kernel)) ggX9_more_X9_isPart
set_option maxRecDepth 20000 in
theorem ggX9_more_X9_rightOf : GoodIn wsX9_more wsX9_rightOf := goodIn_r _ [26, 6, 27, 28, 29, 30, 10, 31, 32, 33, 34, 35, 12, 36, 37, 38, 39, 40, 41, 42, 43, 44, 45, 46, 47, 48, 49, 50, 51, 52, 53, 54, 55, 56, 57, 58, 59, 60, 61, 62, 63, 64, 65, 66, 67, 4, 68, 69, 70, 71, 72, 73, 74, 75, 76, 77, 78, 79, 80, 81, 85, 86, 87, 88, 89, 90, 91, 92, 93, 94, 95, 96, 97, 98, 99, 100, 101, 102, 103, 104] (by decide +kernel) (by decide +kernel)
set_option maxRecDepth 20000 in
theorem gX9_more_X9_rightOf : GoodIn wsX9_more (wsV RX9 179 RX9 yX9_rightOf wsX9_rightOf) := goodIn_app (goodIn_of _ (by decide +kernel)) ggX9_more_X9_rightOf
set_option maxRecDepth 20000 in
theorem ggX9_more_X9_power : GoodIn wsX9_more wsX9_power := goodIn_r _ [31] (by decide +kernel) (by decide +kernel)
set_option maxRecDepth 20000 in
theorem gX9_more_X9_power : GoodIn wsX9_more (va_wsS RX9 152 yX9_power wsX9_power) := goodIn_app (goodIn_of _ (by decide +kernel)) ggX9_more_X9_power
set_option maxRecDepth 20000 in
theorem ggX9_more_X9_lowest : GoodIn wsX9_more wsX9_lowest := goodIn_r _ [84] (by decide +kernel) (by decide +kernel)
set_option maxRecDepth 20000 in
theorem gX9_more_X9_lowest : GoodIn wsX9_more (va_wsS RX9 175 yX9_lowest wsX9_lowest) := goodIn_app (goodIn_of _ (by decide +kernel)) ggX9_more_X9_lowest
theorem dX9_more_0 : decode cX9_more 0 = .ok (.aload_n 0, 1) := by decide +kernel
theorem dX9_more_1 : decode cX9_more 1 = .ok (.iload_n 1, 1) := by decide +kernel
theorem dX9_more_2 : decode cX9_more 2 = .ok (.invokevirtual 78, 3) := by decide +kernel
theorem dX9_more_5 : decode cX9_more 5 = .ok (.ifCond .ne 7, 3) := by decide +kernel
theorem dX9_more_8 : decode cX9_more 8 = .ok (.ldc2_w 156, 3) := by decide +kernel
theorem dX9_more_11 : decode cX9_more 11 = .ok (.lreturn, 1) := by decide +kernel
theorem dX9_more_12 : decode cX9_more 12 = .ok (.iload_n 2, 1) := by decide +kernel
theorem dX9_more_13 : decode cX9_more 13 = .ok (.i2l, 1) := by decide +kernel
theorem dX9_more_14 : decode cX9_more 14 = .ok (.lconst 1, 1) := by decide +kernel
theorem dX9_more_15 : decode cX9_more 15 = .ok (.ldc2_w 82, 3) := by decide +kernel
theorem dX9_more_18 : decode cX9_more 18 = .ok (.invokestatic 59, 3) := by decide +kernel
theorem dX9_more_21 : decode cX9_more 21 = .ok (.ifCond .eq 28, 3) := by decide +kernel
theorem dX9_more_24 : decode cX9_more 24 = .ok (.aload_n 0, 1) := by decide +kernel
theorem dX9_more_25 : decode cX9_more 25 = .ok (.iload_n 3, 1) := by decide +kernel
theorem dX9_more_26 : decode cX9_more 26 = .ok (.invokevirtual 158, 3) := by decide +kernel
theorem dX9_more_29 : decode cX9_more 29 = .ok (.ifCond .eq 20, 3) := by decide +kernel
theorem dX9_more_32 : decode cX9_more 32 = .ok (.iload_n 3, 1) := by decide +kernel
theorem dX9_more_33 : decode cX9_more 33 = .ok (.iload_n 1, 1) := by decide +kernel
theorem dX9_more_34 : decode cX9_more 34 = .ok (.ishr, 1) := by decide +kernel
theorem dX9_more_35 : decode cX9_more 35 = .ok (.iconst 1, 1) := by decide +kernel
theorem dX9_more_36 : decode cX9_more 36 = .ok (.iand, 1) := by decide +kernel
theorem dX9_more_37 : decode cX9_more 37 = .ok (.iconst 1, 1) := by decide +kernel
theorem dX9_more_38 : decode cX9_more 38 = .ok (.if_icmp .eq 11, 3) := by decide +kernel
theorem dX9_more_41 : decode cX9_more 41 = .ok (.iload 4, 2) := by decide +kernel
theorem dX9_more_43 : decode cX9_more 43 = .ok (.invokestatic 161, 3) := by decide +kernel
theorem dX9_more_46 : decode cX9_more 46 = .ok (.ifCond .ne 7, 3) := by decide +kernel
theorem dX9_more_49 : decode cX9_more 49 = .ok (.ldc2_w 164, 3) := by decide +kernel
theorem dX9_more_52 : decode cX9_more 52 = .ok (.lreturn, 1) := by decide +kernel
theorem dX9_more_53 : decode cX9_more 53 = .ok (.aload_n 0, 1) := by decide +kernel
theorem dX9_more_54 : decode cX9_more 54 = .ok (.getfield 118, 3) := by decide +kernel
theorem dX9_more_57 : decode cX9_more 57 = .ok (.ifCond .ne 9, 3) := by decide +kernel
theorem dX9_more_60 : decode cX9_more 60 = .ok (.ldc2_w 166, 3) := by decide +kernel
theorem dX9_more_63 : decode cX9_more 63 = .ok (.goto 33, 3) := by decide +kernel
theorem dX9_more_66 : decode cX9_more 66 = .ok (.aload_n 0, 1) := by decide +kernel
theorem dX9_more_67 : decode cX9_more 67 = .ok (.iload_n 2, 1) := by decide +kernel
theorem dX9_more_68 : decode cX9_more 68 = .ok (.iload_n 3, 1) := by decide +kernel
theorem dX9_more_69 : decode cX9_more 69 = .ok (.iconst 1, 1) := by decide +kernel
theorem dX9_more_70 : decode cX9_more 70 = .ok (.iload_n 1, 1) := by decide +kernel
theorem dX9_more_71 : decode cX9_more 71 = .ok (.ishl, 1) := by decide +kernel
theorem dX9_more_72 : decode cX9_more 72 = .ok (.ior, 1) := by decide +kernel
theorem dX9_more_73 : decode cX9_more 73 = .ok (.invokevirtual 179, 3) := by decide +kernel
theorem dX9_more_76 : decode cX9_more 76 = .ok (.aload_n 0, 1) := by decide +kernel
theorem dX9_more_77 : decode cX9_more 77 = .ok (.iload_n 2, 1) := by decide +kernel
theorem dX9_more_78 : decode cX9_more 78 = .ok (.iload_n 3, 1) := by decide +kernel
theorem dX9_more_79 : decode cX9_more 79 = .ok (.invokevirtual 179, 3) := by decide +kernel
theorem dX9_more_82 : decode cX9_more 82 = .ok (.lsub, 1) := by decide +kernel
theorem dX9_more_83 : decode cX9_more 83 = .ok (.ldc2_w 147, 3) := by decide +kernel
theorem dX9_more_86 : decode cX9_more 86 = .ok (.bipush 7, 2) := by decide +kernel
theorem dX9_more_88 : decode cX9_more 88 = .ok (.invokestatic 152, 3) := by decide +kernel
theorem dX9_more_91 : decode cX9_more 91 = .ok (.iload 4, 2) := by decide +kernel
theorem dX9_more_93 : decode cX9_more 93 = .ok (.invokestatic 175, 3) := by decide +kernel
theorem dX9_more_96 : decode cX9_more 96 = .ok (.lreturn, 1) := by decide +kernel
set_option maxRecDepth 20000 in
theorem ggX9_rounds_X9_isPaper : GoodIn wsX9_rounds wsX9_isPaper := goodIn_r _ [10, 11, 12, 13, 9, 14, 80, 81, 82, 83, 84, 85, 86, 87, 88, 89, 90, 91, 92, 93, 94, 95, 96, 97, 98, 99] (by decide +kernel) (by decide +kernel)
set_option maxRecDepth 20000 in
theorem gX9_rounds_X9_isPaper : GoodIn wsX9_rounds (wsV RX9 86 RX9 yX9_isPaper wsX9_isPaper) := goodIn_app (goodIn_of _ (by decide +kernel)) ggX9_rounds_X9_isPaper
set_option maxRecDepth 20000 in
theorem ggX9_rounds_X9_isSet : GoodIn wsX9_rounds wsX9_isSet := goodIn_r _ [18, 19, 12, 13, 9, 14, 80, 81, 82, 83, 84, 85, 86, 87, 88, 89, 90, 91, 92, 93, 94, 95, 96, 97, 98, 99] (by decide +kernel) (by decide +kernel)
set_option maxRecDepth 20000 in
theorem gX9_rounds_X9_isSet : GoodIn wsX9_rounds (wsV RX9 158 RX9 yX9_isSet wsX9_isSet) := goodIn_app (goodIn_of _ (by decide +kernel)) ggX9_rounds_X9_isSet
set_option maxRecDepth 20000 in
theorem ggX9_rounds_X9_in : GoodIn wsX9_rounds wsX9_in := goodIn_r _ [14] (by decide +kernel) (by decide +kernel)
set_option maxRecDepth 20000 in
theorem gX9_rounds_X9_in : GoodIn wsX9_rounds (va_wsS RX9 59 yX9_in wsX9_in) := goodIn_app (goodIn_of _ (by decide +kernel)) ggX9_rounds_X9_in
set_option maxRecDepth 20000 in
theorem ggX9_rounds_X9_isPart : GoodIn wsX9_rounds wsX9_isPart := goodIn_r _ [22, 12, 13, 9, 14] (by decide +kernel) (by decide +kernel)
set_option maxRecDepth 20000 in
theorem gX9_rounds_X9_isPart : GoodIn wsX9_rounds (va_wsS RX9 161 yX9_isPart wsX9_isPart) := goodIn_app (goodIn_of _ (by decide +kernel)) ggX9_rounds_X9_isPart
set_option maxRecDepth 20000 in
theorem ggX9_rounds_X9_allOf : GoodIn wsX9_rounds wsX9_allOf := goodIn_r _ [26, 2, 27, 28, 29, 9, 30, 31, 32, 33, 34, 35, 36, 37, 80, 81, 82, 83, 84, 85, 86, 87, 88, 89, 90, 91, 92, 93, 94, 95, 96, 97, 98, 99] (by decide +kernel) (by decide +kernel)
set_option maxRecDepth 20000 in
theorem gX9_rounds_X9_allOf : GoodIn wsX9_rounds (wsV RX9 172 RX9 yX9_allOf wsX9_allOf) := goodIn_app (goodIn_of _ (by decide +kernel)) ggX9_rounds_X9_allOf
set_option maxRecDepth 20000 in
theorem ggX9_rounds_X9_takenOf : GoodIn wsX9_rounds wsX9_takenOf := goodIn_r _ [41, 19, 42, 43, 27, 28, 29, 9, 30, 31, 44, 45, 46, 47, 48, 49, 50, 51, 52, 53, 54, 55, 56, 57, 58, 59, 60, 61, 62, 63, 64, 65, 66, 67, 68, 69, 4, 70, 71, 72, 73, 74, 75, 76, 80, 81, 82, 83, 84, 85, 86, 87, 88, 89, 90, 91, 92, 93, 94, 95, 96, 97, 98, 99] (by decide +kernel) (by decide +kernel)
set_option maxRecDepth 20000 in
theorem gX9_rounds_X9_takenOf : GoodIn wsX9_rounds (wsV RX9 168 RX9 yX9_takenOf wsX9_takenOf) := goodIn_app (goodIn_of _ (by decide +kernel)) ggX9_rounds_X9_takenOf
set_option maxRecDepth 20000 in
theorem ggX9_rounds_X9_power : GoodIn wsX9_rounds wsX9_power := goodIn_r _ [37] (by decide +kernel) (by decide +kernel)
set_option maxRecDepth 20000 in
theorem gX9_rounds_X9_power : GoodIn wsX9_rounds (va_wsS RX9 152 yX9_power wsX9_power) := goodIn_app (goodIn_of _ (by decide +kernel)) ggX9_rounds_X9_power
set_option maxRecDepth 20000 in
theorem ggX9_rounds_X9_lowest : GoodIn wsX9_rounds wsX9_lowest := goodIn_r _ [79] (by decide +kernel) (by decide +kernel)
set_option maxRecDepth 20000 in
theorem gX9_rounds_X9_lowest : GoodIn wsX9_rounds (va_wsS RX9 175 yX9_lowest wsX9_lowest) := goodIn_app (goodIn_of _ (by decide +kernel)) ggX9_rounds_X9_lowest
set_option maxRecDepth 20000 in
theorem ggX9_rounds_X9_without : GoodIn wsX9_rounds wsX9_without := goodIn_r _ [30, 31, 80, 81, 82, 83, 84, 85, 86, 87, 88, 89, 90, 91, 92, 93, 94, 95, 96, 97, 98, 99] (by decide +kernel) (by decide +kernel)
set_option maxRecDepth 20000 in
theorem gX9_rounds_X9_without : GoodIn wsX9_rounds (wsV RX9 137 RX9 yX9_without wsX9_without) := goodIn_app (goodIn_of _ (by decide +kernel)) ggX9_rounds_X9_without
set_option maxRecDepth 20000 in
theorem ggX9_rounds_X9_ones : GoodIn wsX9_rounds wsX9_ones := goodIn_r _ [34] (by decide +kernel) (by decide +kernel)
set_option maxRecDepth 20000 in
theorem gX9_rounds_X9_ones : GoodIn wsX9_rounds (va_wsS RX9 149 yX9_ones wsX9_ones) := goodIn_app (goodIn_of _ (by decide +kernel)) ggX9_rounds_X9_ones
theorem dX9_rounds_0 : decode cX9_rounds 0 = .ok (.aload_n 0, 1) := by decide +kernel
theorem dX9_rounds_1 : decode cX9_rounds 1 = .ok (.iload_n 1, 1) := by decide +kernel
theorem dX9_rounds_2 : decode cX9_rounds 2 = .ok (.invokevirtual 86, 3) := by decide +kernel
theorem dX9_rounds_5 : decode cX9_rounds 5 = .ok (.ifCond .ne 7, 3) := by decide +kernel
theorem dX9_rounds_8 : decode cX9_rounds 8 = .ok (.ldc2_w 156, 3) := by decide +kernel
theorem dX9_rounds_11 : decode cX9_rounds 11 = .ok (.lreturn, 1) := by decide +kernel
theorem dX9_rounds_12 : decode cX9_rounds 12 = .ok (.aload_n 0, 1) := by decide +kernel
theorem dX9_rounds_13 : decode cX9_rounds 13 = .ok (.iload_n 2, 1) := by decide +kernel
theorem dX9_rounds_14 : decode cX9_rounds 14 = .ok (.invokevirtual 158, 3) := by decide +kernel
theorem dX9_rounds_17 : decode cX9_rounds 17 = .ok (.ifCond .eq 34, 3) := by decide +kernel
theorem dX9_rounds_20 : decode cX9_rounds 20 = .ok (.iload_n 3, 1) := by decide +kernel
theorem dX9_rounds_21 : decode cX9_rounds 21 = .ok (.i2l, 1) := by decide +kernel
theorem dX9_rounds_22 : decode cX9_rounds 22 = .ok (.lconst 1, 1) := by decide +kernel
theorem dX9_rounds_23 : decode cX9_rounds 23 = .ok (.ldc2_w 147, 3) := by decide +kernel
theorem dX9_rounds_26 : decode cX9_rounds 26 = .ok (.invokestatic 59, 3) := by decide +kernel
theorem dX9_rounds_29 : decode cX9_rounds 29 = .ok (.ifCond .eq 22, 3) := by decide +kernel
theorem dX9_rounds_32 : decode cX9_rounds 32 = .ok (.iload 4, 2) := by decide +kernel
theorem dX9_rounds_34 : decode cX9_rounds 34 = .ok (.i2l, 1) := by decide +kernel
theorem dX9_rounds_35 : decode cX9_rounds 35 = .ok (.lconst 0, 1) := by decide +kernel
theorem dX9_rounds_36 : decode cX9_rounds 36 = .ok (.lconst 1, 1) := by decide +kernel
theorem dX9_rounds_37 : decode cX9_rounds 37 = .ok (.invokestatic 59, 3) := by decide +kernel
theorem dX9_rounds_40 : decode cX9_rounds 40 = .ok (.ifCond .eq 11, 3) := by decide +kernel
theorem dX9_rounds_43 : decode cX9_rounds 43 = .ok (.iload 5, 2) := by decide +kernel
theorem dX9_rounds_45 : decode cX9_rounds 45 = .ok (.invokestatic 161, 3) := by decide +kernel
theorem dX9_rounds_48 : decode cX9_rounds 48 = .ok (.ifCond .ne 7, 3) := by decide +kernel
theorem dX9_rounds_51 : decode cX9_rounds 51 = .ok (.ldc2_w 164, 3) := by decide +kernel
theorem dX9_rounds_54 : decode cX9_rounds 54 = .ok (.lreturn, 1) := by decide +kernel
theorem dX9_rounds_55 : decode cX9_rounds 55 = .ok (.aload_n 0, 1) := by decide +kernel
theorem dX9_rounds_56 : decode cX9_rounds 56 = .ok (.getfield 118, 3) := by decide +kernel
theorem dX9_rounds_59 : decode cX9_rounds 59 = .ok (.ifCond .ne 7, 3) := by decide +kernel
theorem dX9_rounds_62 : decode cX9_rounds 62 = .ok (.ldc2_w 166, 3) := by decide +kernel
theorem dX9_rounds_65 : decode cX9_rounds 65 = .ok (.lreturn, 1) := by decide +kernel
theorem dX9_rounds_66 : decode cX9_rounds 66 = .ok (.aload_n 0, 1) := by decide +kernel
theorem dX9_rounds_67 : decode cX9_rounds 67 = .ok (.iload_n 1, 1) := by decide +kernel
theorem dX9_rounds_68 : decode cX9_rounds 68 = .ok (.iload_n 2, 1) := by decide +kernel
theorem dX9_rounds_69 : decode cX9_rounds 69 = .ok (.invokevirtual 172, 3) := by decide +kernel
theorem dX9_rounds_72 : decode cX9_rounds 72 = .ok (.lstore 6, 2) := by decide +kernel
theorem dX9_rounds_74 : decode cX9_rounds 74 = .ok (.lload 6, 2) := by decide +kernel
theorem dX9_rounds_76 : decode cX9_rounds 76 = .ok (.aload_n 0, 1) := by decide +kernel
theorem dX9_rounds_77 : decode cX9_rounds 77 = .ok (.iload_n 1, 1) := by decide +kernel
theorem dX9_rounds_78 : decode cX9_rounds 78 = .ok (.iload_n 2, 1) := by decide +kernel
theorem dX9_rounds_79 : decode cX9_rounds 79 = .ok (.invokevirtual 168, 3) := by decide +kernel
theorem dX9_rounds_82 : decode cX9_rounds 82 = .ok (.lsub, 1) := by decide +kernel
theorem dX9_rounds_83 : decode cX9_rounds 83 = .ok (.lstore 8, 2) := by decide +kernel
theorem dX9_rounds_85 : decode cX9_rounds 85 = .ok (.iload 4, 2) := by decide +kernel
theorem dX9_rounds_87 : decode cX9_rounds 87 = .ok (.ifCond .ne 28, 3) := by decide +kernel
theorem dX9_rounds_90 : decode cX9_rounds 90 = .ok (.lload 6, 2) := by decide +kernel
theorem dX9_rounds_92 : decode cX9_rounds 92 = .ok (.iload_n 3, 1) := by decide +kernel
theorem dX9_rounds_93 : decode cX9_rounds 93 = .ok (.invokestatic 152, 3) := by decide +kernel
theorem dX9_rounds_96 : decode cX9_rounds 96 = .ok (.lload 8, 2) := by decide +kernel
theorem dX9_rounds_98 : decode cX9_rounds 98 = .ok (.iload_n 3, 1) := by decide +kernel
theorem dX9_rounds_99 : decode cX9_rounds 99 = .ok (.invokestatic 152, 3) := by decide +kernel
theorem dX9_rounds_102 : decode cX9_rounds 102 = .ok (.lsub, 1) := by decide +kernel
theorem dX9_rounds_103 : decode cX9_rounds 103 = .ok (.lload 6, 2) := by decide +kernel
theorem dX9_rounds_105 : decode cX9_rounds 105 = .ok (.iload_n 3, 1) := by decide +kernel
theorem dX9_rounds_106 : decode cX9_rounds 106 = .ok (.invokestatic 152, 3) := by decide +kernel
theorem dX9_rounds_109 : decode cX9_rounds 109 = .ok (.iload 5, 2) := by decide +kernel
theorem dX9_rounds_111 : decode cX9_rounds 111 = .ok (.invokestatic 175, 3) := by decide +kernel
theorem dX9_rounds_114 : decode cX9_rounds 114 = .ok (.lreturn, 1) := by decide +kernel
theorem dX9_rounds_115 : decode cX9_rounds 115 = .ok (.lconst 0, 1) := by decide +kernel
theorem dX9_rounds_116 : decode cX9_rounds 116 = .ok (.lstore 10, 2) := by decide +kernel
theorem dX9_rounds_118 : decode cX9_rounds 118 = .ok (.iconst 0, 1) := by decide +kernel
theorem dX9_rounds_119 : decode cX9_rounds 119 = .ok (.istore 12, 2) := by decide +kernel
theorem dX9_rounds_121 : decode cX9_rounds 121 = .ok (.iload 12, 2) := by decide +kernel
theorem dX9_rounds_123 : decode cX9_rounds 123 = .ok (.iload_n 3, 1) := by decide +kernel
theorem dX9_rounds_124 : decode cX9_rounds 124 = .ok (.if_icmp .ge 33, 3) := by decide +kernel
theorem dX9_rounds_127 : decode cX9_rounds 127 = .ok (.lload 10, 2) := by decide +kernel
theorem dX9_rounds_129 : decode cX9_rounds 129 = .ok (.lload 8, 2) := by decide +kernel
theorem dX9_rounds_131 : decode cX9_rounds 131 = .ok (.iload 12, 2) := by decide +kernel
theorem dX9_rounds_133 : decode cX9_rounds 133 = .ok (.invokestatic 152, 3) := by decide +kernel
theorem dX9_rounds_136 : decode cX9_rounds 136 = .ok (.lload 6, 2) := by decide +kernel
theorem dX9_rounds_138 : decode cX9_rounds 138 = .ok (.iload_n 3, 1) := by decide +kernel
theorem dX9_rounds_139 : decode cX9_rounds 139 = .ok (.iconst 1, 1) := by decide +kernel
