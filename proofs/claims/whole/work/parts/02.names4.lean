theorem dX9_rounds_140 : decode cX9_rounds 140 = .ok (.isub, 1) := by decide +kernel
theorem dX9_rounds_141 : decode cX9_rounds 141 = .ok (.iload 12, 2) := by decide +kernel
theorem dX9_rounds_143 : decode cX9_rounds 143 = .ok (.isub, 1) := by decide +kernel
theorem dX9_rounds_144 : decode cX9_rounds 144 = .ok (.invokestatic 152, 3) := by decide +kernel
theorem dX9_rounds_147 : decode cX9_rounds 147 = .ok (.lmul, 1) := by decide +kernel
theorem dX9_rounds_148 : decode cX9_rounds 148 = .ok (.ladd, 1) := by decide +kernel
theorem dX9_rounds_149 : decode cX9_rounds 149 = .ok (.lstore 10, 2) := by decide +kernel
theorem dX9_rounds_151 : decode cX9_rounds 151 = .ok (.iinc 12 1, 3) := by decide +kernel
theorem dX9_rounds_154 : decode cX9_rounds 154 = .ok (.goto (-33), 3) := by decide +kernel
theorem dX9_rounds_157 : decode cX9_rounds 157 = .ok (.lload 10, 2) := by decide +kernel
theorem dX9_rounds_159 : decode cX9_rounds 159 = .ok (.aload_n 0, 1) := by decide +kernel
theorem dX9_rounds_160 : decode cX9_rounds 160 = .ok (.iload_n 1, 1) := by decide +kernel
theorem dX9_rounds_161 : decode cX9_rounds 161 = .ok (.iload_n 2, 1) := by decide +kernel
theorem dX9_rounds_162 : decode cX9_rounds 162 = .ok (.invokevirtual 137, 3) := by decide +kernel
theorem dX9_rounds_165 : decode cX9_rounds 165 = .ok (.invokestatic 149, 3) := by decide +kernel
theorem dX9_rounds_168 : decode cX9_rounds 168 = .ok (.i2l, 1) := by decide +kernel
theorem dX9_rounds_169 : decode cX9_rounds 169 = .ok (.lmul, 1) := by decide +kernel
theorem dX9_rounds_170 : decode cX9_rounds 170 = .ok (.lload 6, 2) := by decide +kernel
theorem dX9_rounds_172 : decode cX9_rounds 172 = .ok (.iload_n 3, 1) := by decide +kernel
theorem dX9_rounds_173 : decode cX9_rounds 173 = .ok (.iconst 1, 1) := by decide +kernel
theorem dX9_rounds_174 : decode cX9_rounds 174 = .ok (.isub, 1) := by decide +kernel
theorem dX9_rounds_175 : decode cX9_rounds 175 = .ok (.invokestatic 152, 3) := by decide +kernel
theorem dX9_rounds_178 : decode cX9_rounds 178 = .ok (.iload 5, 2) := by decide +kernel
theorem dX9_rounds_180 : decode cX9_rounds 180 = .ok (.invokestatic 175, 3) := by decide +kernel
theorem dX9_rounds_183 : decode cX9_rounds 183 = .ok (.lreturn, 1) := by decide +kernel
set_option maxRecDepth 20000 in
theorem ggX9_likeOf_X9_at : GoodIn wsX9_likeOf wsX9_at := goodIn_r _ [6] (by decide +kernel) (by decide +kernel)
set_option maxRecDepth 20000 in
theorem gX9_likeOf_X9_at : GoodIn wsX9_likeOf (va_wsS RX9 74 yX9_at wsX9_at) := goodIn_app (goodIn_of _ (by decide +kernel)) ggX9_likeOf_X9_at
set_option maxRecDepth 20000 in
theorem ggX9_likeOf_X9_markOf : GoodIn wsX9_likeOf wsX9_markOf := goodIn_r _ [10, 11, 12, 13, 14, 5, 15, 16, 17, 18, 19, 20, 26, 27, 28, 29, 30, 31, 32, 33, 34, 35, 36, 37, 38, 39, 40, 41, 42, 43, 44, 45] (by decide +kernel) (by decide +kernel)
set_option maxRecDepth 20000 in
theorem gX9_likeOf_X9_markOf : GoodIn wsX9_likeOf (wsV RX9 143 RX9 yX9_markOf wsX9_markOf) := goodIn_app (goodIn_of _ (by decide +kernel)) ggX9_likeOf_X9_markOf
set_option maxRecDepth 20000 in
theorem ggX9_likeOf_X9_quarters : GoodIn wsX9_likeOf wsX9_quarters := goodIn_r _ [24, 25, 26, 27, 28, 29, 30, 31, 32, 33, 34, 35, 36, 37, 38, 39, 40, 41, 42, 43, 44, 45] (by decide +kernel) (by decide +kernel)
set_option maxRecDepth 20000 in
theorem gX9_likeOf_X9_quarters : GoodIn wsX9_likeOf (wsV RX9 140 RX9 yX9_quarters wsX9_quarters) := goodIn_app (goodIn_of _ (by decide +kernel)) ggX9_likeOf_X9_quarters
theorem dX9_likeOf_0 : decode cX9_likeOf 0 = .ok (.lconst 1, 1) := by decide +kernel
theorem dX9_likeOf_1 : decode cX9_likeOf 1 = .ok (.lstore_n 3, 1) := by decide +kernel
theorem dX9_likeOf_2 : decode cX9_likeOf 2 = .ok (.iconst 0, 1) := by decide +kernel
theorem dX9_likeOf_3 : decode cX9_likeOf 3 = .ok (.istore 5, 2) := by decide +kernel
theorem dX9_likeOf_5 : decode cX9_likeOf 5 = .ok (.iload 5, 2) := by decide +kernel
theorem dX9_likeOf_7 : decode cX9_likeOf 7 = .ok (.aload_n 0, 1) := by decide +kernel
theorem dX9_likeOf_8 : decode cX9_likeOf 8 = .ok (.getfield 63, 3) := by decide +kernel
theorem dX9_likeOf_11 : decode cX9_likeOf 11 = .ok (.if_icmp .ge 87, 3) := by decide +kernel
theorem dX9_likeOf_14 : decode cX9_likeOf 14 = .ok (.aload_n 0, 1) := by decide +kernel
theorem dX9_likeOf_15 : decode cX9_likeOf 15 = .ok (.getfield 34, 3) := by decide +kernel
theorem dX9_likeOf_18 : decode cX9_likeOf 18 = .ok (.iload 5, 2) := by decide +kernel
theorem dX9_likeOf_20 : decode cX9_likeOf 20 = .ok (.iload_n 1, 1) := by decide +kernel
theorem dX9_likeOf_21 : decode cX9_likeOf 21 = .ok (.invokestatic 74, 3) := by decide +kernel
theorem dX9_likeOf_24 : decode cX9_likeOf 24 = .ok (.iaload, 1) := by decide +kernel
theorem dX9_likeOf_25 : decode cX9_likeOf 25 = .ok (.istore 6, 2) := by decide +kernel
theorem dX9_likeOf_27 : decode cX9_likeOf 27 = .ok (.lconst 0, 1) := by decide +kernel
theorem dX9_likeOf_28 : decode cX9_likeOf 28 = .ok (.lstore 7, 2) := by decide +kernel
theorem dX9_likeOf_30 : decode cX9_likeOf 30 = .ok (.iconst 0, 1) := by decide +kernel
theorem dX9_likeOf_31 : decode cX9_likeOf 31 = .ok (.istore 9, 2) := by decide +kernel
theorem dX9_likeOf_33 : decode cX9_likeOf 33 = .ok (.iload 9, 2) := by decide +kernel
theorem dX9_likeOf_35 : decode cX9_likeOf 35 = .ok (.iconst 3, 1) := by decide +kernel
theorem dX9_likeOf_36 : decode cX9_likeOf 36 = .ok (.if_icmp .ge 42, 3) := by decide +kernel
theorem dX9_likeOf_39 : decode cX9_likeOf 39 = .ok (.lload 7, 2) := by decide +kernel
theorem dX9_likeOf_41 : decode cX9_likeOf 41 = .ok (.aload_n 0, 1) := by decide +kernel
theorem dX9_likeOf_42 : decode cX9_likeOf 42 = .ok (.iload 5, 2) := by decide +kernel
theorem dX9_likeOf_44 : decode cX9_likeOf 44 = .ok (.iload_n 1, 1) := by decide +kernel
theorem dX9_likeOf_45 : decode cX9_likeOf 45 = .ok (.iload_n 2, 1) := by decide +kernel
theorem dX9_likeOf_46 : decode cX9_likeOf 46 = .ok (.iload 9, 2) := by decide +kernel
theorem dX9_likeOf_48 : decode cX9_likeOf 48 = .ok (.invokevirtual 143, 3) := by decide +kernel
theorem dX9_likeOf_51 : decode cX9_likeOf 51 = .ok (.iload 6, 2) := by decide +kernel
theorem dX9_likeOf_53 : decode cX9_likeOf 53 = .ok (.if_icmp .ne 15, 3) := by decide +kernel
theorem dX9_likeOf_56 : decode cX9_likeOf 56 = .ok (.aload_n 0, 1) := by decide +kernel
theorem dX9_likeOf_57 : decode cX9_likeOf 57 = .ok (.iload 5, 2) := by decide +kernel
theorem dX9_likeOf_59 : decode cX9_likeOf 59 = .ok (.iload 9, 2) := by decide +kernel
theorem dX9_likeOf_61 : decode cX9_likeOf 61 = .ok (.invokevirtual 140, 3) := by decide +kernel
theorem dX9_likeOf_64 : decode cX9_likeOf 64 = .ok (.i2l, 1) := by decide +kernel
theorem dX9_likeOf_65 : decode cX9_likeOf 65 = .ok (.goto 4, 3) := by decide +kernel
theorem dX9_likeOf_68 : decode cX9_likeOf 68 = .ok (.lconst 0, 1) := by decide +kernel
theorem dX9_likeOf_69 : decode cX9_likeOf 69 = .ok (.ladd, 1) := by decide +kernel
theorem dX9_likeOf_70 : decode cX9_likeOf 70 = .ok (.lstore 7, 2) := by decide +kernel
theorem dX9_likeOf_72 : decode cX9_likeOf 72 = .ok (.iinc 9 1, 3) := by decide +kernel
theorem dX9_likeOf_75 : decode cX9_likeOf 75 = .ok (.goto (-42), 3) := by decide +kernel
theorem dX9_likeOf_78 : decode cX9_likeOf 78 = .ok (.lload_n 3, 1) := by decide +kernel
theorem dX9_likeOf_79 : decode cX9_likeOf 79 = .ok (.iload 6, 2) := by decide +kernel
theorem dX9_likeOf_81 : decode cX9_likeOf 81 = .ok (.ifCond .ge 7, 3) := by decide +kernel
theorem dX9_likeOf_84 : decode cX9_likeOf 84 = .ok (.lconst 1, 1) := by decide +kernel
theorem dX9_likeOf_85 : decode cX9_likeOf 85 = .ok (.goto 5, 3) := by decide +kernel
theorem dX9_likeOf_88 : decode cX9_likeOf 88 = .ok (.lload 7, 2) := by decide +kernel
theorem dX9_likeOf_90 : decode cX9_likeOf 90 = .ok (.lmul, 1) := by decide +kernel
theorem dX9_likeOf_91 : decode cX9_likeOf 91 = .ok (.lstore_n 3, 1) := by decide +kernel
theorem dX9_likeOf_92 : decode cX9_likeOf 92 = .ok (.iinc 5 1, 3) := by decide +kernel
theorem dX9_likeOf_95 : decode cX9_likeOf 95 = .ok (.goto (-90), 3) := by decide +kernel
theorem dX9_likeOf_98 : decode cX9_likeOf 98 = .ok (.lload_n 3, 1) := by decide +kernel
theorem dX9_likeOf_99 : decode cX9_likeOf 99 = .ok (.lreturn, 1) := by decide +kernel
set_option maxRecDepth 20000 in
theorem ggX9_worth_X9_isPaper : GoodIn wsX9_worth wsX9_isPaper := goodIn_r _ [8, 9, 10, 11, 7, 12, 47, 48, 49, 50, 51, 52, 53, 54, 55, 56, 57, 58, 59, 60, 61, 62, 63, 64, 65, 66] (by decide +kernel) (by decide +kernel)
set_option maxRecDepth 20000 in
theorem gX9_worth_X9_isPaper : GoodIn wsX9_worth (wsV RX9 86 RX9 yX9_isPaper wsX9_isPaper) := goodIn_app (goodIn_of _ (by decide +kernel)) ggX9_worth_X9_isPaper
set_option maxRecDepth 20000 in
theorem ggX9_worth_X9_in : GoodIn wsX9_worth wsX9_in := goodIn_r _ [12] (by decide +kernel) (by decide +kernel)
set_option maxRecDepth 20000 in
theorem gX9_worth_X9_in : GoodIn wsX9_worth (va_wsS RX9 59 yX9_in wsX9_in) := goodIn_app (goodIn_of _ (by decide +kernel)) ggX9_worth_X9_in
set_option maxRecDepth 20000 in
theorem ggX9_worth_X9_isPart : GoodIn wsX9_worth wsX9_isPart := goodIn_r _ [15, 10, 11, 7, 12] (by decide +kernel) (by decide +kernel)
set_option maxRecDepth 20000 in
theorem gX9_worth_X9_isPart : GoodIn wsX9_worth (va_wsS RX9 161 yX9_isPart wsX9_isPart) := goodIn_app (goodIn_of _ (by decide +kernel)) ggX9_worth_X9_isPart
set_option maxRecDepth 20000 in
theorem ggX9_worth_X9_likeOf : GoodIn wsX9_worth wsX9_likeOf := goodIn_r _ [19, 20, 21, 22, 23, 7, 24, 25, 26, 27, 28, 29, 30, 31, 32, 33, 34, 35, 36, 37, 38, 39, 40, 41, 42, 43, 47, 48, 49, 50, 51, 52, 53, 54, 55, 56, 57, 58, 59, 60, 61, 62, 63, 64, 65, 66] (by decide +kernel) (by decide +kernel)
set_option maxRecDepth 20000 in
theorem gX9_worth_X9_likeOf : GoodIn wsX9_worth (wsV RX9 182 RX9 yX9_likeOf wsX9_likeOf) := goodIn_app (goodIn_of _ (by decide +kernel)) ggX9_worth_X9_likeOf
set_option maxRecDepth 20000 in
theorem ggX9_worth_X9_lowest : GoodIn wsX9_worth wsX9_lowest := goodIn_r _ [46] (by decide +kernel) (by decide +kernel)
set_option maxRecDepth 20000 in
theorem gX9_worth_X9_lowest : GoodIn wsX9_worth (va_wsS RX9 175 yX9_lowest wsX9_lowest) := goodIn_app (goodIn_of _ (by decide +kernel)) ggX9_worth_X9_lowest
theorem dX9_worth_0 : decode cX9_worth 0 = .ok (.aload_n 0, 1) := by decide +kernel
theorem dX9_worth_1 : decode cX9_worth 1 = .ok (.iload_n 1, 1) := by decide +kernel
theorem dX9_worth_2 : decode cX9_worth 2 = .ok (.invokevirtual 86, 3) := by decide +kernel
theorem dX9_worth_5 : decode cX9_worth 5 = .ok (.ifCond .ne 7, 3) := by decide +kernel
theorem dX9_worth_8 : decode cX9_worth 8 = .ok (.ldc2_w 156, 3) := by decide +kernel
theorem dX9_worth_11 : decode cX9_worth 11 = .ok (.lreturn, 1) := by decide +kernel
theorem dX9_worth_12 : decode cX9_worth 12 = .ok (.iload_n 2, 1) := by decide +kernel
theorem dX9_worth_13 : decode cX9_worth 13 = .ok (.i2l, 1) := by decide +kernel
theorem dX9_worth_14 : decode cX9_worth 14 = .ok (.lconst 0, 1) := by decide +kernel
theorem dX9_worth_15 : decode cX9_worth 15 = .ok (.ldc2_w 82, 3) := by decide +kernel
theorem dX9_worth_18 : decode cX9_worth 18 = .ok (.invokestatic 59, 3) := by decide +kernel
theorem dX9_worth_21 : decode cX9_worth 21 = .ok (.ifCond .eq 10, 3) := by decide +kernel
theorem dX9_worth_24 : decode cX9_worth 24 = .ok (.iload_n 3, 1) := by decide +kernel
theorem dX9_worth_25 : decode cX9_worth 25 = .ok (.invokestatic 161, 3) := by decide +kernel
theorem dX9_worth_28 : decode cX9_worth 28 = .ok (.ifCond .ne 7, 3) := by decide +kernel
theorem dX9_worth_31 : decode cX9_worth 31 = .ok (.ldc2_w 164, 3) := by decide +kernel
theorem dX9_worth_34 : decode cX9_worth 34 = .ok (.lreturn, 1) := by decide +kernel
theorem dX9_worth_35 : decode cX9_worth 35 = .ok (.lconst 0, 1) := by decide +kernel
theorem dX9_worth_36 : decode cX9_worth 36 = .ok (.lstore 4, 2) := by decide +kernel
theorem dX9_worth_38 : decode cX9_worth 38 = .ok (.iconst 0, 1) := by decide +kernel
theorem dX9_worth_39 : decode cX9_worth 39 = .ok (.istore 6, 2) := by decide +kernel
theorem dX9_worth_41 : decode cX9_worth 41 = .ok (.iload 6, 2) := by decide +kernel
theorem dX9_worth_43 : decode cX9_worth 43 = .ok (.bipush 6, 2) := by decide +kernel
theorem dX9_worth_45 : decode cX9_worth 45 = .ok (.if_icmp .ge 21, 3) := by decide +kernel
theorem dX9_worth_48 : decode cX9_worth 48 = .ok (.lload 4, 2) := by decide +kernel
theorem dX9_worth_50 : decode cX9_worth 50 = .ok (.aload_n 0, 1) := by decide +kernel
theorem dX9_worth_51 : decode cX9_worth 51 = .ok (.iload_n 1, 1) := by decide +kernel
theorem dX9_worth_52 : decode cX9_worth 52 = .ok (.iload 6, 2) := by decide +kernel
theorem dX9_worth_54 : decode cX9_worth 54 = .ok (.invokevirtual 182, 3) := by decide +kernel
theorem dX9_worth_57 : decode cX9_worth 57 = .ok (.ladd, 1) := by decide +kernel
theorem dX9_worth_58 : decode cX9_worth 58 = .ok (.lstore 4, 2) := by decide +kernel
theorem dX9_worth_60 : decode cX9_worth 60 = .ok (.iinc 6 1, 3) := by decide +kernel
theorem dX9_worth_63 : decode cX9_worth 63 = .ok (.goto (-22), 3) := by decide +kernel
theorem dX9_worth_66 : decode cX9_worth 66 = .ok (.lload 4, 2) := by decide +kernel
theorem dX9_worth_68 : decode cX9_worth 68 = .ok (.lconst 0, 1) := by decide +kernel
theorem dX9_worth_69 : decode cX9_worth 69 = .ok (.lcmp, 1) := by decide +kernel
theorem dX9_worth_70 : decode cX9_worth 70 = .ok (.ifCond .ne 8, 3) := by decide +kernel
theorem dX9_worth_73 : decode cX9_worth 73 = .ok (.iload_n 3, 1) := by decide +kernel
theorem dX9_worth_74 : decode cX9_worth 74 = .ok (.i2l, 1) := by decide +kernel
theorem dX9_worth_75 : decode cX9_worth 75 = .ok (.goto 15, 3) := by decide +kernel
theorem dX9_worth_78 : decode cX9_worth 78 = .ok (.aload_n 0, 1) := by decide +kernel
theorem dX9_worth_79 : decode cX9_worth 79 = .ok (.iload_n 1, 1) := by decide +kernel
theorem dX9_worth_80 : decode cX9_worth 80 = .ok (.iload_n 2, 1) := by decide +kernel
theorem dX9_worth_81 : decode cX9_worth 81 = .ok (.invokevirtual 182, 3) := by decide +kernel
theorem dX9_worth_84 : decode cX9_worth 84 = .ok (.lload 4, 2) := by decide +kernel
theorem dX9_worth_86 : decode cX9_worth 86 = .ok (.iload_n 3, 1) := by decide +kernel
theorem dX9_worth_87 : decode cX9_worth 87 = .ok (.invokestatic 175, 3) := by decide +kernel
theorem dX9_worth_90 : decode cX9_worth 90 = .ok (.lreturn, 1) := by decide +kernel
set_option maxRecDepth 20000 in
theorem ggX9_joinedOf_X9_at : GoodIn wsX9_joinedOf wsX9_at := goodIn_r _ [7] (by decide +kernel) (by decide +kernel)
set_option maxRecDepth 20000 in
theorem gX9_joinedOf_X9_at : GoodIn wsX9_joinedOf (va_wsS RX9 74 yX9_at wsX9_at) := goodIn_app (goodIn_of _ (by decide +kernel)) ggX9_joinedOf_X9_at
theorem dX9_joinedOf_0 : decode cX9_joinedOf 0 = .ok (.iconst 0, 1) := by decide +kernel
theorem dX9_joinedOf_1 : decode cX9_joinedOf 1 = .ok (.istore_n 2, 1) := by decide +kernel
theorem dX9_joinedOf_2 : decode cX9_joinedOf 2 = .ok (.iconst 0, 1) := by decide +kernel
theorem dX9_joinedOf_3 : decode cX9_joinedOf 3 = .ok (.istore_n 3, 1) := by decide +kernel
theorem dX9_joinedOf_4 : decode cX9_joinedOf 4 = .ok (.iload_n 3, 1) := by decide +kernel
theorem dX9_joinedOf_5 : decode cX9_joinedOf 5 = .ok (.aload_n 0, 1) := by decide +kernel
theorem dX9_joinedOf_6 : decode cX9_joinedOf 6 = .ok (.getfield 67, 3) := by decide +kernel
theorem dX9_joinedOf_9 : decode cX9_joinedOf 9 = .ok (.if_icmp .ge 32, 3) := by decide +kernel
theorem dX9_joinedOf_12 : decode cX9_joinedOf 12 = .ok (.iload_n 2, 1) := by decide +kernel
theorem dX9_joinedOf_13 : decode cX9_joinedOf 13 = .ok (.aload_n 0, 1) := by decide +kernel
theorem dX9_joinedOf_14 : decode cX9_joinedOf 14 = .ok (.getfield 34, 3) := by decide +kernel
theorem dX9_joinedOf_17 : decode cX9_joinedOf 17 = .ok (.iload_n 1, 1) := by decide +kernel
theorem dX9_joinedOf_18 : decode cX9_joinedOf 18 = .ok (.iload_n 3, 1) := by decide +kernel
theorem dX9_joinedOf_19 : decode cX9_joinedOf 19 = .ok (.invokestatic 74, 3) := by decide +kernel
theorem dX9_joinedOf_22 : decode cX9_joinedOf 22 = .ok (.iaload, 1) := by decide +kernel
theorem dX9_joinedOf_23 : decode cX9_joinedOf 23 = .ok (.ifCond .lt 9, 3) := by decide +kernel
theorem dX9_joinedOf_26 : decode cX9_joinedOf 26 = .ok (.iconst 1, 1) := by decide +kernel
theorem dX9_joinedOf_27 : decode cX9_joinedOf 27 = .ok (.iload_n 1, 1) := by decide +kernel
theorem dX9_joinedOf_28 : decode cX9_joinedOf 28 = .ok (.ishl, 1) := by decide +kernel
theorem dX9_joinedOf_29 : decode cX9_joinedOf 29 = .ok (.goto 4, 3) := by decide +kernel
theorem dX9_joinedOf_32 : decode cX9_joinedOf 32 = .ok (.iconst 0, 1) := by decide +kernel
theorem dX9_joinedOf_33 : decode cX9_joinedOf 33 = .ok (.ior, 1) := by decide +kernel
theorem dX9_joinedOf_34 : decode cX9_joinedOf 34 = .ok (.istore_n 2, 1) := by decide +kernel
theorem dX9_joinedOf_35 : decode cX9_joinedOf 35 = .ok (.iinc 3 1, 3) := by decide +kernel
theorem dX9_joinedOf_38 : decode cX9_joinedOf 38 = .ok (.goto (-34), 3) := by decide +kernel
theorem dX9_joinedOf_41 : decode cX9_joinedOf 41 = .ok (.iconst 0, 1) := by decide +kernel
theorem dX9_joinedOf_42 : decode cX9_joinedOf 42 = .ok (.istore_n 3, 1) := by decide +kernel
theorem dX9_joinedOf_43 : decode cX9_joinedOf 43 = .ok (.iload_n 3, 1) := by decide +kernel
theorem dX9_joinedOf_44 : decode cX9_joinedOf 44 = .ok (.iload_n 2, 1) := by decide +kernel
theorem dX9_joinedOf_45 : decode cX9_joinedOf 45 = .ok (.if_icmp .eq 91, 3) := by decide +kernel
theorem dX9_joinedOf_48 : decode cX9_joinedOf 48 = .ok (.iload_n 2, 1) := by decide +kernel
theorem dX9_joinedOf_49 : decode cX9_joinedOf 49 = .ok (.istore_n 3, 1) := by decide +kernel
theorem dX9_joinedOf_50 : decode cX9_joinedOf 50 = .ok (.iconst 0, 1) := by decide +kernel
theorem dX9_joinedOf_51 : decode cX9_joinedOf 51 = .ok (.istore 4, 2) := by decide +kernel
theorem dX9_joinedOf_53 : decode cX9_joinedOf 53 = .ok (.iload 4, 2) := by decide +kernel
theorem dX9_joinedOf_55 : decode cX9_joinedOf 55 = .ok (.aload_n 0, 1) := by decide +kernel
theorem dX9_joinedOf_56 : decode cX9_joinedOf 56 = .ok (.getfield 67, 3) := by decide +kernel
theorem dX9_joinedOf_59 : decode cX9_joinedOf 59 = .ok (.if_icmp .ge 74, 3) := by decide +kernel
theorem dX9_joinedOf_62 : decode cX9_joinedOf 62 = .ok (.iconst 0, 1) := by decide +kernel
theorem dX9_joinedOf_63 : decode cX9_joinedOf 63 = .ok (.istore 5, 2) := by decide +kernel
theorem dX9_joinedOf_65 : decode cX9_joinedOf 65 = .ok (.iconst 0, 1) := by decide +kernel
theorem dX9_joinedOf_66 : decode cX9_joinedOf 66 = .ok (.istore 6, 2) := by decide +kernel
theorem dX9_joinedOf_68 : decode cX9_joinedOf 68 = .ok (.iload 6, 2) := by decide +kernel
theorem dX9_joinedOf_70 : decode cX9_joinedOf 70 = .ok (.aload_n 0, 1) := by decide +kernel
theorem dX9_joinedOf_71 : decode cX9_joinedOf 71 = .ok (.getfield 63, 3) := by decide +kernel
theorem dX9_joinedOf_74 : decode cX9_joinedOf 74 = .ok (.if_icmp .ge 37, 3) := by decide +kernel
theorem dX9_joinedOf_77 : decode cX9_joinedOf 77 = .ok (.iload 5, 2) := by decide +kernel
theorem dX9_joinedOf_79 : decode cX9_joinedOf 79 = .ok (.aload_n 0, 1) := by decide +kernel
theorem dX9_joinedOf_80 : decode cX9_joinedOf 80 = .ok (.getfield 34, 3) := by decide +kernel
theorem dX9_joinedOf_83 : decode cX9_joinedOf 83 = .ok (.iload 6, 2) := by decide +kernel
theorem dX9_joinedOf_85 : decode cX9_joinedOf 85 = .ok (.iload 4, 2) := by decide +kernel
theorem dX9_joinedOf_87 : decode cX9_joinedOf 87 = .ok (.invokestatic 74, 3) := by decide +kernel
theorem dX9_joinedOf_90 : decode cX9_joinedOf 90 = .ok (.iaload, 1) := by decide +kernel
theorem dX9_joinedOf_91 : decode cX9_joinedOf 91 = .ok (.ifCond .lt 10, 3) := by decide +kernel
theorem dX9_joinedOf_94 : decode cX9_joinedOf 94 = .ok (.iconst 1, 1) := by decide +kernel
theorem dX9_joinedOf_95 : decode cX9_joinedOf 95 = .ok (.iload 6, 2) := by decide +kernel
theorem dX9_joinedOf_97 : decode cX9_joinedOf 97 = .ok (.ishl, 1) := by decide +kernel
theorem dX9_joinedOf_98 : decode cX9_joinedOf 98 = .ok (.goto 4, 3) := by decide +kernel
theorem dX9_joinedOf_101 : decode cX9_joinedOf 101 = .ok (.iconst 0, 1) := by decide +kernel
theorem dX9_joinedOf_102 : decode cX9_joinedOf 102 = .ok (.ior, 1) := by decide +kernel
theorem dX9_joinedOf_103 : decode cX9_joinedOf 103 = .ok (.istore 5, 2) := by decide +kernel
theorem dX9_joinedOf_105 : decode cX9_joinedOf 105 = .ok (.iinc 6 1, 3) := by decide +kernel
theorem dX9_joinedOf_108 : decode cX9_joinedOf 108 = .ok (.goto (-40), 3) := by decide +kernel
theorem dX9_joinedOf_111 : decode cX9_joinedOf 111 = .ok (.iload_n 2, 1) := by decide +kernel
theorem dX9_joinedOf_112 : decode cX9_joinedOf 112 = .ok (.iload 5, 2) := by decide +kernel
theorem dX9_joinedOf_114 : decode cX9_joinedOf 114 = .ok (.iload_n 2, 1) := by decide +kernel
theorem dX9_joinedOf_115 : decode cX9_joinedOf 115 = .ok (.iand, 1) := by decide +kernel
theorem dX9_joinedOf_116 : decode cX9_joinedOf 116 = .ok (.ifCond .eq 8, 3) := by decide +kernel
theorem dX9_joinedOf_119 : decode cX9_joinedOf 119 = .ok (.iload 5, 2) := by decide +kernel
theorem dX9_joinedOf_121 : decode cX9_joinedOf 121 = .ok (.goto 4, 3) := by decide +kernel
theorem dX9_joinedOf_124 : decode cX9_joinedOf 124 = .ok (.iconst 0, 1) := by decide +kernel
theorem dX9_joinedOf_125 : decode cX9_joinedOf 125 = .ok (.ior, 1) := by decide +kernel
theorem dX9_joinedOf_126 : decode cX9_joinedOf 126 = .ok (.istore_n 2, 1) := by decide +kernel
theorem dX9_joinedOf_127 : decode cX9_joinedOf 127 = .ok (.iinc 4 1, 3) := by decide +kernel
theorem dX9_joinedOf_130 : decode cX9_joinedOf 130 = .ok (.goto (-77), 3) := by decide +kernel
theorem dX9_joinedOf_133 : decode cX9_joinedOf 133 = .ok (.goto (-90), 3) := by decide +kernel
theorem dX9_joinedOf_136 : decode cX9_joinedOf 136 = .ok (.iload_n 2, 1) := by decide +kernel
theorem dX9_joinedOf_137 : decode cX9_joinedOf 137 = .ok (.ireturn, 1) := by decide +kernel
set_option maxRecDepth 20000 in
theorem ggX9_joined_X9_isJudge : GoodIn wsX9_joined wsX9_isJudge := goodIn_r _ [5, 6, 7, 8, 4, 9, 19, 20, 21, 22, 23, 24, 25, 26, 27, 28, 29, 30, 31, 32, 33, 34, 35, 36, 37, 38] (by decide +kernel) (by decide +kernel)
set_option maxRecDepth 20000 in
theorem gX9_joined_X9_isJudge : GoodIn wsX9_joined (wsV RX9 78 RX9 yX9_isJudge wsX9_isJudge) := goodIn_app (goodIn_of _ (by decide +kernel)) ggX9_joined_X9_isJudge
set_option maxRecDepth 20000 in
theorem ggX9_joined_X9_joinedOf : GoodIn wsX9_joined wsX9_joinedOf := goodIn_r _ [13, 14, 15, 6, 16, 17, 4, 18, 19, 20, 21, 22, 23, 24, 25, 26, 27, 28, 29, 30, 31, 32, 33, 34, 35, 36, 37, 38] (by decide +kernel) (by decide +kernel)
set_option maxRecDepth 20000 in
theorem gX9_joined_X9_joinedOf : GoodIn wsX9_joined (wsV RX9 185 RX9 yX9_joinedOf wsX9_joinedOf) := goodIn_app (goodIn_of _ (by decide +kernel)) ggX9_joined_X9_joinedOf
theorem dX9_joined_0 : decode cX9_joined 0 = .ok (.aload_n 0, 1) := by decide +kernel
theorem dX9_joined_1 : decode cX9_joined 1 = .ok (.iload_n 1, 1) := by decide +kernel
theorem dX9_joined_2 : decode cX9_joined 2 = .ok (.invokevirtual 78, 3) := by decide +kernel
theorem dX9_joined_5 : decode cX9_joined 5 = .ok (.ifCond .eq 11, 3) := by decide +kernel
theorem dX9_joined_8 : decode cX9_joined 8 = .ok (.aload_n 0, 1) := by decide +kernel
theorem dX9_joined_9 : decode cX9_joined 9 = .ok (.iload_n 1, 1) := by decide +kernel
theorem dX9_joined_10 : decode cX9_joined 10 = .ok (.invokevirtual 185, 3) := by decide +kernel
theorem dX9_joined_13 : decode cX9_joined 13 = .ok (.goto 4, 3) := by decide +kernel
theorem dX9_joined_16 : decode cX9_joined 16 = .ok (.iconst (-1), 1) := by decide +kernel
theorem dX9_joined_17 : decode cX9_joined 17 = .ok (.ireturn, 1) := by decide +kernel
set_option maxRecDepth 20000 in
theorem ggX9_parts_X9_joinedOf : GoodIn wsX9_parts wsX9_joinedOf := goodIn_r _ [6, 7, 8, 1, 9, 10, 5, 11, 12, 13, 14, 15, 16, 17, 18, 19, 20, 21, 22, 23, 24, 25, 26, 27, 28, 29, 30, 31] (by decide +kernel) (by decide +kernel)
set_option maxRecDepth 20000 in
theorem gX9_parts_X9_joinedOf : GoodIn wsX9_parts (wsV RX9 185 RX9 yX9_joinedOf wsX9_joinedOf) := goodIn_app (goodIn_of _ (by decide +kernel)) ggX9_parts_X9_joinedOf
theorem dX9_parts_0 : decode cX9_parts 0 = .ok (.iconst 0, 1) := by decide +kernel
theorem dX9_parts_1 : decode cX9_parts 1 = .ok (.istore_n 1, 1) := by decide +kernel
theorem dX9_parts_2 : decode cX9_parts 2 = .ok (.iconst 0, 1) := by decide +kernel
theorem dX9_parts_3 : decode cX9_parts 3 = .ok (.istore_n 2, 1) := by decide +kernel
theorem dX9_parts_4 : decode cX9_parts 4 = .ok (.iload_n 2, 1) := by decide +kernel
theorem dX9_parts_5 : decode cX9_parts 5 = .ok (.aload_n 0, 1) := by decide +kernel
theorem dX9_parts_6 : decode cX9_parts 6 = .ok (.getfield 63, 3) := by decide +kernel
theorem dX9_parts_9 : decode cX9_parts 9 = .ok (.if_icmp .ge 37, 3) := by decide +kernel
theorem dX9_parts_12 : decode cX9_parts 12 = .ok (.aload_n 0, 1) := by decide +kernel
theorem dX9_parts_13 : decode cX9_parts 13 = .ok (.iload_n 2, 1) := by decide +kernel
theorem dX9_parts_14 : decode cX9_parts 14 = .ok (.invokevirtual 185, 3) := by decide +kernel
theorem dX9_parts_17 : decode cX9_parts 17 = .ok (.istore_n 3, 1) := by decide +kernel
theorem dX9_parts_18 : decode cX9_parts 18 = .ok (.iload_n 1, 1) := by decide +kernel
theorem dX9_parts_19 : decode cX9_parts 19 = .ok (.iload_n 3, 1) := by decide +kernel
theorem dX9_parts_20 : decode cX9_parts 20 = .ok (.ifCond .eq 17, 3) := by decide +kernel
theorem dX9_parts_23 : decode cX9_parts 23 = .ok (.iload_n 3, 1) := by decide +kernel
theorem dX9_parts_24 : decode cX9_parts 24 = .ok (.iconst 1, 1) := by decide +kernel
theorem dX9_parts_25 : decode cX9_parts 25 = .ok (.iload_n 2, 1) := by decide +kernel
theorem dX9_parts_26 : decode cX9_parts 26 = .ok (.ishl, 1) := by decide +kernel
theorem dX9_parts_27 : decode cX9_parts 27 = .ok (.iconst 1, 1) := by decide +kernel
theorem dX9_parts_28 : decode cX9_parts 28 = .ok (.isub, 1) := by decide +kernel
theorem dX9_parts_29 : decode cX9_parts 29 = .ok (.iand, 1) := by decide +kernel
theorem dX9_parts_30 : decode cX9_parts 30 = .ok (.ifCond .ne 7, 3) := by decide +kernel
theorem dX9_parts_33 : decode cX9_parts 33 = .ok (.iconst 1, 1) := by decide +kernel
theorem dX9_parts_34 : decode cX9_parts 34 = .ok (.goto 4, 3) := by decide +kernel
theorem dX9_parts_37 : decode cX9_parts 37 = .ok (.iconst 0, 1) := by decide +kernel
theorem dX9_parts_38 : decode cX9_parts 38 = .ok (.iadd, 1) := by decide +kernel
theorem dX9_parts_39 : decode cX9_parts 39 = .ok (.istore_n 1, 1) := by decide +kernel
theorem dX9_parts_40 : decode cX9_parts 40 = .ok (.iinc 2 1, 3) := by decide +kernel
theorem dX9_parts_43 : decode cX9_parts 43 = .ok (.goto (-39), 3) := by decide +kernel
theorem dX9_parts_46 : decode cX9_parts 46 = .ok (.iload_n 1, 1) := by decide +kernel
theorem dX9_parts_47 : decode cX9_parts 47 = .ok (.ireturn, 1) := by decide +kernel
set_option maxRecDepth 20000 in
theorem ggX9_harsh_X9_isJudge : GoodIn wsX9_harsh wsX9_isJudge := goodIn_r _ [11, 4, 12, 13, 10, 14, 24, 25, 26, 27, 28, 29, 30, 31, 32, 33, 34, 35, 36, 37, 38, 39, 40, 41, 42, 43] (by decide +kernel) (by decide +kernel)
set_option maxRecDepth 20000 in
theorem gX9_harsh_X9_isJudge : GoodIn wsX9_harsh (wsV RX9 78 RX9 yX9_isJudge wsX9_isJudge) := goodIn_app (goodIn_of _ (by decide +kernel)) ggX9_harsh_X9_isJudge
set_option maxRecDepth 20000 in
theorem ggX9_harsh_X9_isPart : GoodIn wsX9_harsh wsX9_isPart := goodIn_r _ [17, 12, 13, 10, 14] (by decide +kernel) (by decide +kernel)
set_option maxRecDepth 20000 in
theorem gX9_harsh_X9_isPart : GoodIn wsX9_harsh (va_wsS RX9 161 yX9_isPart wsX9_isPart) := goodIn_app (goodIn_of _ (by decide +kernel)) ggX9_harsh_X9_isPart
set_option maxRecDepth 20000 in
theorem ggX9_harsh_X9_at : GoodIn wsX9_harsh wsX9_at := goodIn_r _ [20] (by decide +kernel) (by decide +kernel)
set_option maxRecDepth 20000 in
theorem gX9_harsh_X9_at : GoodIn wsX9_harsh (va_wsS RX9 74 yX9_at wsX9_at) := goodIn_app (goodIn_of _ (by decide +kernel)) ggX9_harsh_X9_at
set_option maxRecDepth 20000 in
theorem ggX9_harsh_X9_lowest : GoodIn wsX9_harsh wsX9_lowest := goodIn_r _ [23] (by decide +kernel) (by decide +kernel)
set_option maxRecDepth 20000 in
theorem gX9_harsh_X9_lowest : GoodIn wsX9_harsh (va_wsS RX9 175 yX9_lowest wsX9_lowest) := goodIn_app (goodIn_of _ (by decide +kernel)) ggX9_harsh_X9_lowest
theorem dX9_harsh_0 : decode cX9_harsh 0 = .ok (.aload_n 0, 1) := by decide +kernel
theorem dX9_harsh_1 : decode cX9_harsh 1 = .ok (.iload_n 1, 1) := by decide +kernel
theorem dX9_harsh_2 : decode cX9_harsh 2 = .ok (.invokevirtual 78, 3) := by decide +kernel
theorem dX9_harsh_5 : decode cX9_harsh 5 = .ok (.ifCond .ne 7, 3) := by decide +kernel
theorem dX9_harsh_8 : decode cX9_harsh 8 = .ok (.ldc2_w 156, 3) := by decide +kernel
theorem dX9_harsh_11 : decode cX9_harsh 11 = .ok (.lreturn, 1) := by decide +kernel
theorem dX9_harsh_12 : decode cX9_harsh 12 = .ok (.iload_n 2, 1) := by decide +kernel
theorem dX9_harsh_13 : decode cX9_harsh 13 = .ok (.invokestatic 161, 3) := by decide +kernel
theorem dX9_harsh_16 : decode cX9_harsh 16 = .ok (.ifCond .ne 7, 3) := by decide +kernel
theorem dX9_harsh_19 : decode cX9_harsh 19 = .ok (.ldc2_w 164, 3) := by decide +kernel
theorem dX9_harsh_22 : decode cX9_harsh 22 = .ok (.lreturn, 1) := by decide +kernel
theorem dX9_harsh_23 : decode cX9_harsh 23 = .ok (.lconst 0, 1) := by decide +kernel
theorem dX9_harsh_24 : decode cX9_harsh 24 = .ok (.lstore_n 3, 1) := by decide +kernel
theorem dX9_harsh_25 : decode cX9_harsh 25 = .ok (.lconst 0, 1) := by decide +kernel
theorem dX9_harsh_26 : decode cX9_harsh 26 = .ok (.lstore 5, 2) := by decide +kernel
theorem dX9_harsh_28 : decode cX9_harsh 28 = .ok (.iconst 0, 1) := by decide +kernel
theorem dX9_harsh_29 : decode cX9_harsh 29 = .ok (.istore 7, 2) := by decide +kernel
theorem dX9_harsh_31 : decode cX9_harsh 31 = .ok (.iload 7, 2) := by decide +kernel
theorem dX9_harsh_33 : decode cX9_harsh 33 = .ok (.aload_n 0, 1) := by decide +kernel
theorem dX9_harsh_34 : decode cX9_harsh 34 = .ok (.getfield 67, 3) := by decide +kernel
theorem dX9_harsh_37 : decode cX9_harsh 37 = .ok (.if_icmp .ge 141, 3) := by decide +kernel
theorem dX9_harsh_40 : decode cX9_harsh 40 = .ok (.iconst 0, 1) := by decide +kernel
theorem dX9_harsh_41 : decode cX9_harsh 41 = .ok (.istore 8, 2) := by decide +kernel
theorem dX9_harsh_43 : decode cX9_harsh 43 = .ok (.iconst 0, 1) := by decide +kernel
theorem dX9_harsh_44 : decode cX9_harsh 44 = .ok (.istore 9, 2) := by decide +kernel
theorem dX9_harsh_46 : decode cX9_harsh 46 = .ok (.iconst 0, 1) := by decide +kernel
theorem dX9_harsh_47 : decode cX9_harsh 47 = .ok (.istore 10, 2) := by decide +kernel
theorem dX9_harsh_49 : decode cX9_harsh 49 = .ok (.iload 10, 2) := by decide +kernel
theorem dX9_harsh_51 : decode cX9_harsh 51 = .ok (.aload_n 0, 1) := by decide +kernel
theorem dX9_harsh_52 : decode cX9_harsh 52 = .ok (.getfield 63, 3) := by decide +kernel
theorem dX9_harsh_55 : decode cX9_harsh 55 = .ok (.if_icmp .ge 66, 3) := by decide +kernel
theorem dX9_harsh_58 : decode cX9_harsh 58 = .ok (.aload_n 0, 1) := by decide +kernel
theorem dX9_harsh_59 : decode cX9_harsh 59 = .ok (.getfield 34, 3) := by decide +kernel
theorem dX9_harsh_62 : decode cX9_harsh 62 = .ok (.iload 10, 2) := by decide +kernel
theorem dX9_harsh_64 : decode cX9_harsh 64 = .ok (.iload 7, 2) := by decide +kernel
theorem dX9_harsh_66 : decode cX9_harsh 66 = .ok (.invokestatic 74, 3) := by decide +kernel
theorem dX9_harsh_69 : decode cX9_harsh 69 = .ok (.iaload, 1) := by decide +kernel
theorem dX9_harsh_70 : decode cX9_harsh 70 = .ok (.istore 11, 2) := by decide +kernel
theorem dX9_harsh_72 : decode cX9_harsh 72 = .ok (.iload 8, 2) := by decide +kernel
theorem dX9_harsh_74 : decode cX9_harsh 74 = .ok (.iload 10, 2) := by decide +kernel
theorem dX9_harsh_76 : decode cX9_harsh 76 = .ok (.iload_n 1, 1) := by decide +kernel
theorem dX9_harsh_77 : decode cX9_harsh 77 = .ok (.if_icmp .eq 13, 3) := by decide +kernel
theorem dX9_harsh_80 : decode cX9_harsh 80 = .ok (.iload 11, 2) := by decide +kernel
theorem dX9_harsh_82 : decode cX9_harsh 82 = .ok (.ifCond .lt 8, 3) := by decide +kernel
theorem dX9_harsh_85 : decode cX9_harsh 85 = .ok (.iload 11, 2) := by decide +kernel
theorem dX9_harsh_87 : decode cX9_harsh 87 = .ok (.goto 4, 3) := by decide +kernel
theorem dX9_harsh_90 : decode cX9_harsh 90 = .ok (.iconst 0, 1) := by decide +kernel
theorem dX9_harsh_91 : decode cX9_harsh 91 = .ok (.iadd, 1) := by decide +kernel
theorem dX9_harsh_92 : decode cX9_harsh 92 = .ok (.istore 8, 2) := by decide +kernel
theorem dX9_harsh_94 : decode cX9_harsh 94 = .ok (.iload 9, 2) := by decide +kernel
theorem dX9_harsh_96 : decode cX9_harsh 96 = .ok (.iload 10, 2) := by decide +kernel
theorem dX9_harsh_98 : decode cX9_harsh 98 = .ok (.iload_n 1, 1) := by decide +kernel
theorem dX9_harsh_99 : decode cX9_harsh 99 = .ok (.if_icmp .eq 12, 3) := by decide +kernel
theorem dX9_harsh_102 : decode cX9_harsh 102 = .ok (.iload 11, 2) := by decide +kernel
theorem dX9_harsh_104 : decode cX9_harsh 104 = .ok (.ifCond .lt 7, 3) := by decide +kernel
theorem dX9_harsh_107 : decode cX9_harsh 107 = .ok (.iconst 1, 1) := by decide +kernel
theorem dX9_harsh_108 : decode cX9_harsh 108 = .ok (.goto 4, 3) := by decide +kernel
theorem dX9_harsh_111 : decode cX9_harsh 111 = .ok (.iconst 0, 1) := by decide +kernel
theorem dX9_harsh_112 : decode cX9_harsh 112 = .ok (.iadd, 1) := by decide +kernel
theorem dX9_harsh_113 : decode cX9_harsh 113 = .ok (.istore 9, 2) := by decide +kernel
theorem dX9_harsh_115 : decode cX9_harsh 115 = .ok (.iinc 10 1, 3) := by decide +kernel
theorem dX9_harsh_118 : decode cX9_harsh 118 = .ok (.goto (-69), 3) := by decide +kernel
theorem dX9_harsh_121 : decode cX9_harsh 121 = .ok (.aload_n 0, 1) := by decide +kernel
theorem dX9_harsh_122 : decode cX9_harsh 122 = .ok (.getfield 34, 3) := by decide +kernel
theorem dX9_harsh_125 : decode cX9_harsh 125 = .ok (.iload_n 1, 1) := by decide +kernel
theorem dX9_harsh_126 : decode cX9_harsh 126 = .ok (.iload 7, 2) := by decide +kernel
theorem dX9_harsh_128 : decode cX9_harsh 128 = .ok (.invokestatic 74, 3) := by decide +kernel
theorem dX9_harsh_131 : decode cX9_harsh 131 = .ok (.iaload, 1) := by decide +kernel
theorem dX9_harsh_132 : decode cX9_harsh 132 = .ok (.istore 10, 2) := by decide +kernel
theorem dX9_harsh_134 : decode cX9_harsh 134 = .ok (.iload 10, 2) := by decide +kernel
theorem dX9_harsh_136 : decode cX9_harsh 136 = .ok (.ifCond .lt 36, 3) := by decide +kernel
theorem dX9_harsh_139 : decode cX9_harsh 139 = .ok (.iload 9, 2) := by decide +kernel
theorem dX9_harsh_141 : decode cX9_harsh 141 = .ok (.ifCond .le 31, 3) := by decide +kernel
theorem dX9_harsh_144 : decode cX9_harsh 144 = .ok (.lload_n 3, 1) := by decide +kernel
theorem dX9_harsh_145 : decode cX9_harsh 145 = .ok (.ldc2_w 188, 3) := by decide +kernel
theorem dX9_harsh_148 : decode cX9_harsh 148 = .ok (.iload 10, 2) := by decide +kernel
theorem dX9_harsh_150 : decode cX9_harsh 150 = .ok (.i2l, 1) := by decide +kernel
theorem dX9_harsh_151 : decode cX9_harsh 151 = .ok (.lmul, 1) := by decide +kernel
theorem dX9_harsh_152 : decode cX9_harsh 152 = .ok (.ldc2_w 188, 3) := by decide +kernel
theorem dX9_harsh_155 : decode cX9_harsh 155 = .ok (.iload 8, 2) := by decide +kernel
theorem dX9_harsh_157 : decode cX9_harsh 157 = .ok (.i2l, 1) := by decide +kernel
theorem dX9_harsh_158 : decode cX9_harsh 158 = .ok (.lmul, 1) := by decide +kernel
theorem dX9_harsh_159 : decode cX9_harsh 159 = .ok (.iload 9, 2) := by decide +kernel
theorem dX9_harsh_161 : decode cX9_harsh 161 = .ok (.i2l, 1) := by decide +kernel
theorem dX9_harsh_162 : decode cX9_harsh 162 = .ok (.ldiv, 1) := by decide +kernel
theorem dX9_harsh_163 : decode cX9_harsh 163 = .ok (.lsub, 1) := by decide +kernel
theorem dX9_harsh_164 : decode cX9_harsh 164 = .ok (.ladd, 1) := by decide +kernel
theorem dX9_harsh_165 : decode cX9_harsh 165 = .ok (.lstore_n 3, 1) := by decide +kernel
theorem dX9_harsh_166 : decode cX9_harsh 166 = .ok (.lload 5, 2) := by decide +kernel
theorem dX9_harsh_168 : decode cX9_harsh 168 = .ok (.lconst 1, 1) := by decide +kernel
theorem dX9_harsh_169 : decode cX9_harsh 169 = .ok (.ladd, 1) := by decide +kernel
theorem dX9_harsh_170 : decode cX9_harsh 170 = .ok (.lstore 5, 2) := by decide +kernel
theorem dX9_harsh_172 : decode cX9_harsh 172 = .ok (.iinc 7 1, 3) := by decide +kernel
theorem dX9_harsh_175 : decode cX9_harsh 175 = .ok (.goto (-144), 3) := by decide +kernel
theorem dX9_harsh_178 : decode cX9_harsh 178 = .ok (.lload 5, 2) := by decide +kernel
theorem dX9_harsh_180 : decode cX9_harsh 180 = .ok (.lconst 0, 1) := by decide +kernel
theorem dX9_harsh_181 : decode cX9_harsh 181 = .ok (.lcmp, 1) := by decide +kernel
theorem dX9_harsh_182 : decode cX9_harsh 182 = .ok (.ifCond .ne 8, 3) := by decide +kernel
theorem dX9_harsh_185 : decode cX9_harsh 185 = .ok (.iload_n 2, 1) := by decide +kernel
theorem dX9_harsh_186 : decode cX9_harsh 186 = .ok (.i2l, 1) := by decide +kernel
theorem dX9_harsh_187 : decode cX9_harsh 187 = .ok (.goto 14, 3) := by decide +kernel
theorem dX9_harsh_190 : decode cX9_harsh 190 = .ok (.lload_n 3, 1) := by decide +kernel
theorem dX9_harsh_191 : decode cX9_harsh 191 = .ok (.ldc2_w 188, 3) := by decide +kernel
theorem dX9_harsh_194 : decode cX9_harsh 194 = .ok (.lload 5, 2) := by decide +kernel
theorem dX9_harsh_196 : decode cX9_harsh 196 = .ok (.lmul, 1) := by decide +kernel
theorem dX9_harsh_197 : decode cX9_harsh 197 = .ok (.iload_n 2, 1) := by decide +kernel
theorem dX9_harsh_198 : decode cX9_harsh 198 = .ok (.invokestatic 175, 3) := by decide +kernel
theorem dX9_harsh_201 : decode cX9_harsh 201 = .ok (.lreturn, 1) := by decide +kernel
set_option maxRecDepth 20000 in
theorem ggX9_gave_X9_at : GoodIn wsX9_gave wsX9_at := goodIn_r _ [7] (by decide +kernel) (by decide +kernel)
set_option maxRecDepth 20000 in
theorem gX9_gave_X9_at : GoodIn wsX9_gave (va_wsS RX9 74 yX9_at wsX9_at) := goodIn_app (goodIn_of _ (by decide +kernel)) ggX9_gave_X9_at
theorem dX9_gave_0 : decode cX9_gave 0 = .ok (.iconst 0, 1) := by decide +kernel
theorem dX9_gave_1 : decode cX9_gave 1 = .ok (.istore_n 3, 1) := by decide +kernel
theorem dX9_gave_2 : decode cX9_gave 2 = .ok (.iconst 0, 1) := by decide +kernel
theorem dX9_gave_3 : decode cX9_gave 3 = .ok (.istore 4, 2) := by decide +kernel
theorem dX9_gave_5 : decode cX9_gave 5 = .ok (.iload 4, 2) := by decide +kernel
theorem dX9_gave_7 : decode cX9_gave 7 = .ok (.aload_n 0, 1) := by decide +kernel
theorem dX9_gave_8 : decode cX9_gave 8 = .ok (.getfield 67, 3) := by decide +kernel
theorem dX9_gave_11 : decode cX9_gave 11 = .ok (.if_icmp .ge 45, 3) := by decide +kernel
theorem dX9_gave_14 : decode cX9_gave 14 = .ok (.iload_n 3, 1) := by decide +kernel
theorem dX9_gave_15 : decode cX9_gave 15 = .ok (.ifCond .ne 29, 3) := by decide +kernel
theorem dX9_gave_18 : decode cX9_gave 18 = .ok (.aload_n 0, 1) := by decide +kernel
theorem dX9_gave_19 : decode cX9_gave 19 = .ok (.getfield 25, 3) := by decide +kernel
theorem dX9_gave_22 : decode cX9_gave 22 = .ok (.iload 4, 2) := by decide +kernel
theorem dX9_gave_24 : decode cX9_gave 24 = .ok (.iaload, 1) := by decide +kernel
theorem dX9_gave_25 : decode cX9_gave 25 = .ok (.iload_n 2, 1) := by decide +kernel
theorem dX9_gave_26 : decode cX9_gave 26 = .ok (.if_icmp .ne 22, 3) := by decide +kernel
theorem dX9_gave_29 : decode cX9_gave 29 = .ok (.aload_n 0, 1) := by decide +kernel
theorem dX9_gave_30 : decode cX9_gave 30 = .ok (.getfield 34, 3) := by decide +kernel
theorem dX9_gave_33 : decode cX9_gave 33 = .ok (.iload_n 1, 1) := by decide +kernel
theorem dX9_gave_34 : decode cX9_gave 34 = .ok (.iload 4, 2) := by decide +kernel
theorem dX9_gave_36 : decode cX9_gave 36 = .ok (.invokestatic 74, 3) := by decide +kernel
theorem dX9_gave_39 : decode cX9_gave 39 = .ok (.iaload, 1) := by decide +kernel
theorem dX9_gave_40 : decode cX9_gave 40 = .ok (.iconst 4, 1) := by decide +kernel
theorem dX9_gave_41 : decode cX9_gave 41 = .ok (.if_icmp .lt 7, 3) := by decide +kernel
theorem dX9_gave_44 : decode cX9_gave 44 = .ok (.iconst 1, 1) := by decide +kernel
theorem dX9_gave_45 : decode cX9_gave 45 = .ok (.goto 4, 3) := by decide +kernel
theorem dX9_gave_48 : decode cX9_gave 48 = .ok (.iconst 0, 1) := by decide +kernel
theorem dX9_gave_49 : decode cX9_gave 49 = .ok (.istore_n 3, 1) := by decide +kernel
theorem dX9_gave_50 : decode cX9_gave 50 = .ok (.iinc 4 1, 3) := by decide +kernel
theorem dX9_gave_53 : decode cX9_gave 53 = .ok (.goto (-48), 3) := by decide +kernel
theorem dX9_gave_56 : decode cX9_gave 56 = .ok (.iload_n 3, 1) := by decide +kernel
theorem dX9_gave_57 : decode cX9_gave 57 = .ok (.ireturn, 1) := by decide +kernel
set_option maxRecDepth 20000 in
theorem ggX9_swap_X9_gave : GoodIn wsX9_swap wsX9_gave := goodIn_r _ [6, 7, 8, 9, 10, 11, 5, 12, 13, 14, 15, 16, 17, 18, 19, 20, 21, 22, 23, 24, 25, 26, 27, 28, 29, 30, 31, 32] (by decide +kernel) (by decide +kernel)
set_option maxRecDepth 20000 in
theorem gX9_swap_X9_gave : GoodIn wsX9_swap (wsV RX9 190 RX9 yX9_gave wsX9_gave) := goodIn_app (goodIn_of _ (by decide +kernel)) ggX9_swap_X9_gave
theorem dX9_swap_0 : decode cX9_swap 0 = .ok (.iconst 0, 1) := by decide +kernel
theorem dX9_swap_1 : decode cX9_swap 1 = .ok (.istore_n 2, 1) := by decide +kernel
theorem dX9_swap_2 : decode cX9_swap 2 = .ok (.iconst 0, 1) := by decide +kernel
theorem dX9_swap_3 : decode cX9_swap 3 = .ok (.istore_n 3, 1) := by decide +kernel
theorem dX9_swap_4 : decode cX9_swap 4 = .ok (.iload_n 3, 1) := by decide +kernel
theorem dX9_swap_5 : decode cX9_swap 5 = .ok (.aload_n 0, 1) := by decide +kernel
theorem dX9_swap_6 : decode cX9_swap 6 = .ok (.getfield 63, 3) := by decide +kernel
theorem dX9_swap_9 : decode cX9_swap 9 = .ok (.if_icmp .ge 65, 3) := by decide +kernel
theorem dX9_swap_12 : decode cX9_swap 12 = .ok (.iload_n 3, 1) := by decide +kernel
theorem dX9_swap_13 : decode cX9_swap 13 = .ok (.iconst 1, 1) := by decide +kernel
theorem dX9_swap_14 : decode cX9_swap 14 = .ok (.iadd, 1) := by decide +kernel
theorem dX9_swap_15 : decode cX9_swap 15 = .ok (.istore 4, 2) := by decide +kernel
theorem dX9_swap_17 : decode cX9_swap 17 = .ok (.iload 4, 2) := by decide +kernel
theorem dX9_swap_19 : decode cX9_swap 19 = .ok (.aload_n 0, 1) := by decide +kernel
theorem dX9_swap_20 : decode cX9_swap 20 = .ok (.getfield 63, 3) := by decide +kernel
theorem dX9_swap_23 : decode cX9_swap 23 = .ok (.if_icmp .ge 45, 3) := by decide +kernel
theorem dX9_swap_26 : decode cX9_swap 26 = .ok (.aload_n 0, 1) := by decide +kernel
theorem dX9_swap_27 : decode cX9_swap 27 = .ok (.iload_n 3, 1) := by decide +kernel
theorem dX9_swap_28 : decode cX9_swap 28 = .ok (.iload 4, 2) := by decide +kernel
theorem dX9_swap_30 : decode cX9_swap 30 = .ok (.invokevirtual 190, 3) := by decide +kernel
theorem dX9_swap_33 : decode cX9_swap 33 = .ok (.ifCond .eq 29, 3) := by decide +kernel
theorem dX9_swap_36 : decode cX9_swap 36 = .ok (.aload_n 0, 1) := by decide +kernel
theorem dX9_swap_37 : decode cX9_swap 37 = .ok (.iload 4, 2) := by decide +kernel
theorem dX9_swap_39 : decode cX9_swap 39 = .ok (.iload_n 3, 1) := by decide +kernel
theorem dX9_swap_40 : decode cX9_swap 40 = .ok (.invokevirtual 190, 3) := by decide +kernel
theorem dX9_swap_43 : decode cX9_swap 43 = .ok (.ifCond .eq 19, 3) := by decide +kernel
theorem dX9_swap_46 : decode cX9_swap 46 = .ok (.iload_n 2, 1) := by decide +kernel
theorem dX9_swap_47 : decode cX9_swap 47 = .ok (.iload_n 1, 1) := by decide +kernel
theorem dX9_swap_48 : decode cX9_swap 48 = .ok (.if_icmp .ne 11, 3) := by decide +kernel
theorem dX9_swap_51 : decode cX9_swap 51 = .ok (.bipush 10, 2) := by decide +kernel
theorem dX9_swap_53 : decode cX9_swap 53 = .ok (.iload_n 3, 1) := by decide +kernel
theorem dX9_swap_54 : decode cX9_swap 54 = .ok (.imul, 1) := by decide +kernel
theorem dX9_swap_55 : decode cX9_swap 55 = .ok (.iload 4, 2) := by decide +kernel
theorem dX9_swap_57 : decode cX9_swap 57 = .ok (.iadd, 1) := by decide +kernel
theorem dX9_swap_58 : decode cX9_swap 58 = .ok (.ireturn, 1) := by decide +kernel
theorem dX9_swap_59 : decode cX9_swap 59 = .ok (.iinc 2 1, 3) := by decide +kernel
theorem dX9_swap_62 : decode cX9_swap 62 = .ok (.iinc 4 1, 3) := by decide +kernel
theorem dX9_swap_65 : decode cX9_swap 65 = .ok (.goto (-48), 3) := by decide +kernel
theorem dX9_swap_68 : decode cX9_swap 68 = .ok (.iinc 3 1, 3) := by decide +kernel
theorem dX9_swap_71 : decode cX9_swap 71 = .ok (.goto (-67), 3) := by decide +kernel
theorem dX9_swap_74 : decode cX9_swap 74 = .ok (.iload_n 1, 1) := by decide +kernel
theorem dX9_swap_75 : decode cX9_swap 75 = .ok (.iconst (-1), 1) := by decide +kernel
theorem dX9_swap_76 : decode cX9_swap 76 = .ok (.if_icmp .ne 7, 3) := by decide +kernel
theorem dX9_swap_79 : decode cX9_swap 79 = .ok (.iload_n 2, 1) := by decide +kernel
theorem dX9_swap_80 : decode cX9_swap 80 = .ok (.goto 5, 3) := by decide +kernel
theorem dX9_swap_83 : decode cX9_swap 83 = .ok (.bipush (-6), 2) := by decide +kernel
theorem dX9_swap_85 : decode cX9_swap 85 = .ok (.ireturn, 1) := by decide +kernel
set_option maxRecDepth 20000 in
theorem ggX9_ring_X9_gave : GoodIn wsX9_ring wsX9_gave := goodIn_r _ [6, 7, 8, 9, 10, 11, 5, 12, 13, 14, 15, 16, 17, 18, 19, 20, 21, 22, 23, 24, 25, 26, 27, 28, 29, 30, 31, 32] (by decide +kernel) (by decide +kernel)
set_option maxRecDepth 20000 in
theorem gX9_ring_X9_gave : GoodIn wsX9_ring (wsV RX9 190 RX9 yX9_gave wsX9_gave) := goodIn_app (goodIn_of _ (by decide +kernel)) ggX9_ring_X9_gave
theorem dX9_ring_0 : decode cX9_ring 0 = .ok (.iconst 0, 1) := by decide +kernel
theorem dX9_ring_1 : decode cX9_ring 1 = .ok (.istore_n 2, 1) := by decide +kernel
theorem dX9_ring_2 : decode cX9_ring 2 = .ok (.iconst 0, 1) := by decide +kernel
theorem dX9_ring_3 : decode cX9_ring 3 = .ok (.istore_n 3, 1) := by decide +kernel
theorem dX9_ring_4 : decode cX9_ring 4 = .ok (.iload_n 3, 1) := by decide +kernel
theorem dX9_ring_5 : decode cX9_ring 5 = .ok (.aload_n 0, 1) := by decide +kernel
theorem dX9_ring_6 : decode cX9_ring 6 = .ok (.getfield 63, 3) := by decide +kernel
theorem dX9_ring_9 : decode cX9_ring 9 = .ok (.if_icmp .ge 109, 3) := by decide +kernel
theorem dX9_ring_12 : decode cX9_ring 12 = .ok (.iload_n 3, 1) := by decide +kernel
theorem dX9_ring_13 : decode cX9_ring 13 = .ok (.iconst 1, 1) := by decide +kernel
theorem dX9_ring_14 : decode cX9_ring 14 = .ok (.iadd, 1) := by decide +kernel
theorem dX9_ring_15 : decode cX9_ring 15 = .ok (.istore 4, 2) := by decide +kernel
theorem dX9_ring_17 : decode cX9_ring 17 = .ok (.iload 4, 2) := by decide +kernel
theorem dX9_ring_19 : decode cX9_ring 19 = .ok (.aload_n 0, 1) := by decide +kernel
theorem dX9_ring_20 : decode cX9_ring 20 = .ok (.getfield 63, 3) := by decide +kernel
theorem dX9_ring_23 : decode cX9_ring 23 = .ok (.if_icmp .ge 89, 3) := by decide +kernel
theorem dX9_ring_26 : decode cX9_ring 26 = .ok (.iload_n 3, 1) := by decide +kernel
theorem dX9_ring_27 : decode cX9_ring 27 = .ok (.iconst 1, 1) := by decide +kernel
theorem dX9_ring_28 : decode cX9_ring 28 = .ok (.iadd, 1) := by decide +kernel
theorem dX9_ring_29 : decode cX9_ring 29 = .ok (.istore 5, 2) := by decide +kernel
theorem dX9_ring_31 : decode cX9_ring 31 = .ok (.iload 5, 2) := by decide +kernel
theorem dX9_ring_33 : decode cX9_ring 33 = .ok (.aload_n 0, 1) := by decide +kernel
theorem dX9_ring_34 : decode cX9_ring 34 = .ok (.getfield 63, 3) := by decide +kernel
theorem dX9_ring_37 : decode cX9_ring 37 = .ok (.if_icmp .ge 69, 3) := by decide +kernel
theorem dX9_ring_40 : decode cX9_ring 40 = .ok (.iload 4, 2) := by decide +kernel
theorem dX9_ring_42 : decode cX9_ring 42 = .ok (.iload 5, 2) := by decide +kernel
theorem dX9_ring_44 : decode cX9_ring 44 = .ok (.if_icmp .eq 56, 3) := by decide +kernel
theorem dX9_ring_47 : decode cX9_ring 47 = .ok (.aload_n 0, 1) := by decide +kernel
theorem dX9_ring_48 : decode cX9_ring 48 = .ok (.iload_n 3, 1) := by decide +kernel
theorem dX9_ring_49 : decode cX9_ring 49 = .ok (.iload 4, 2) := by decide +kernel
theorem dX9_ring_51 : decode cX9_ring 51 = .ok (.invokevirtual 190, 3) := by decide +kernel
theorem dX9_ring_54 : decode cX9_ring 54 = .ok (.ifCond .eq 46, 3) := by decide +kernel
theorem dX9_ring_57 : decode cX9_ring 57 = .ok (.aload_n 0, 1) := by decide +kernel
theorem dX9_ring_58 : decode cX9_ring 58 = .ok (.iload 4, 2) := by decide +kernel
theorem dX9_ring_60 : decode cX9_ring 60 = .ok (.iload 5, 2) := by decide +kernel
theorem dX9_ring_62 : decode cX9_ring 62 = .ok (.invokevirtual 190, 3) := by decide +kernel
theorem dX9_ring_65 : decode cX9_ring 65 = .ok (.ifCond .eq 35, 3) := by decide +kernel
theorem dX9_ring_68 : decode cX9_ring 68 = .ok (.aload_n 0, 1) := by decide +kernel
theorem dX9_ring_69 : decode cX9_ring 69 = .ok (.iload 5, 2) := by decide +kernel
theorem dX9_ring_71 : decode cX9_ring 71 = .ok (.iload_n 3, 1) := by decide +kernel
theorem dX9_ring_72 : decode cX9_ring 72 = .ok (.invokevirtual 190, 3) := by decide +kernel
theorem dX9_ring_75 : decode cX9_ring 75 = .ok (.ifCond .eq 25, 3) := by decide +kernel
theorem dX9_ring_78 : decode cX9_ring 78 = .ok (.iload_n 2, 1) := by decide +kernel
theorem dX9_ring_79 : decode cX9_ring 79 = .ok (.iload_n 1, 1) := by decide +kernel
theorem dX9_ring_80 : decode cX9_ring 80 = .ok (.if_icmp .ne 17, 3) := by decide +kernel
theorem dX9_ring_83 : decode cX9_ring 83 = .ok (.bipush 100, 2) := by decide +kernel
theorem dX9_ring_85 : decode cX9_ring 85 = .ok (.iload_n 3, 1) := by decide +kernel
theorem dX9_ring_86 : decode cX9_ring 86 = .ok (.imul, 1) := by decide +kernel
theorem dX9_ring_87 : decode cX9_ring 87 = .ok (.bipush 10, 2) := by decide +kernel
theorem dX9_ring_89 : decode cX9_ring 89 = .ok (.iload 4, 2) := by decide +kernel
theorem dX9_ring_91 : decode cX9_ring 91 = .ok (.imul, 1) := by decide +kernel
theorem dX9_ring_92 : decode cX9_ring 92 = .ok (.iadd, 1) := by decide +kernel
theorem dX9_ring_93 : decode cX9_ring 93 = .ok (.iload 5, 2) := by decide +kernel
theorem dX9_ring_95 : decode cX9_ring 95 = .ok (.iadd, 1) := by decide +kernel
theorem dX9_ring_96 : decode cX9_ring 96 = .ok (.ireturn, 1) := by decide +kernel
theorem dX9_ring_97 : decode cX9_ring 97 = .ok (.iinc 2 1, 3) := by decide +kernel
theorem dX9_ring_100 : decode cX9_ring 100 = .ok (.iinc 5 1, 3) := by decide +kernel
theorem dX9_ring_103 : decode cX9_ring 103 = .ok (.goto (-72), 3) := by decide +kernel
theorem dX9_ring_106 : decode cX9_ring 106 = .ok (.iinc 4 1, 3) := by decide +kernel
theorem dX9_ring_109 : decode cX9_ring 109 = .ok (.goto (-92), 3) := by decide +kernel
theorem dX9_ring_112 : decode cX9_ring 112 = .ok (.iinc 3 1, 3) := by decide +kernel
theorem dX9_ring_115 : decode cX9_ring 115 = .ok (.goto (-111), 3) := by decide +kernel
theorem dX9_ring_118 : decode cX9_ring 118 = .ok (.iload_n 1, 1) := by decide +kernel
theorem dX9_ring_119 : decode cX9_ring 119 = .ok (.iconst (-1), 1) := by decide +kernel
theorem dX9_ring_120 : decode cX9_ring 120 = .ok (.if_icmp .ne 7, 3) := by decide +kernel
theorem dX9_ring_123 : decode cX9_ring 123 = .ok (.iload_n 2, 1) := by decide +kernel
theorem dX9_ring_124 : decode cX9_ring 124 = .ok (.goto 5, 3) := by decide +kernel
theorem dX9_ring_127 : decode cX9_ring 127 = .ok (.bipush (-6), 2) := by decide +kernel
theorem dX9_ring_129 : decode cX9_ring 129 = .ok (.ireturn, 1) := by decide +kernel
set_option maxRecDepth 20000 in
theorem ggX9_seen_X9_isPaper : GoodIn wsX9_seen wsX9_isPaper := goodIn_r _ [9, 10, 11, 12, 8, 13, 14, 15, 16, 17, 18, 19, 20, 21, 22, 23, 24, 25, 26, 27, 28, 29, 30, 31, 32, 33] (by decide +kernel) (by decide +kernel)
set_option maxRecDepth 20000 in
theorem gX9_seen_X9_isPaper : GoodIn wsX9_seen (wsV RX9 86 RX9 yX9_isPaper wsX9_isPaper) := goodIn_app (goodIn_of _ (by decide +kernel)) ggX9_seen_X9_isPaper
set_option maxRecDepth 20000 in
theorem ggX9_seen_X9_in : GoodIn wsX9_seen wsX9_in := goodIn_r _ [13] (by decide +kernel) (by decide +kernel)
set_option maxRecDepth 20000 in
theorem gX9_seen_X9_in : GoodIn wsX9_seen (va_wsS RX9 59 yX9_in wsX9_in) := goodIn_app (goodIn_of _ (by decide +kernel)) ggX9_seen_X9_in
theorem dX9_seen_0 : decode cX9_seen 0 = .ok (.aload_n 0, 1) := by decide +kernel
theorem dX9_seen_1 : decode cX9_seen 1 = .ok (.iload_n 1, 1) := by decide +kernel
theorem dX9_seen_2 : decode cX9_seen 2 = .ok (.invokevirtual 86, 3) := by decide +kernel
theorem dX9_seen_5 : decode cX9_seen 5 = .ok (.ifCond .ne 5, 3) := by decide +kernel
theorem dX9_seen_8 : decode cX9_seen 8 = .ok (.iconst (-1), 1) := by decide +kernel
theorem dX9_seen_9 : decode cX9_seen 9 = .ok (.ireturn, 1) := by decide +kernel
theorem dX9_seen_10 : decode cX9_seen 10 = .ok (.iload_n 2, 1) := by decide +kernel
theorem dX9_seen_11 : decode cX9_seen 11 = .ok (.i2l, 1) := by decide +kernel
theorem dX9_seen_12 : decode cX9_seen 12 = .ok (.lconst 0, 1) := by decide +kernel
theorem dX9_seen_13 : decode cX9_seen 13 = .ok (.lconst 1, 1) := by decide +kernel
theorem dX9_seen_14 : decode cX9_seen 14 = .ok (.invokestatic 59, 3) := by decide +kernel
theorem dX9_seen_17 : decode cX9_seen 17 = .ok (.ifCond .ne 6, 3) := by decide +kernel
theorem dX9_seen_20 : decode cX9_seen 20 = .ok (.bipush (-2), 2) := by decide +kernel
theorem dX9_seen_22 : decode cX9_seen 22 = .ok (.ireturn, 1) := by decide +kernel
theorem dX9_seen_23 : decode cX9_seen 23 = .ok (.iconst 0, 1) := by decide +kernel
theorem dX9_seen_24 : decode cX9_seen 24 = .ok (.istore_n 3, 1) := by decide +kernel
theorem dX9_seen_25 : decode cX9_seen 25 = .ok (.iconst 0, 1) := by decide +kernel
theorem dX9_seen_26 : decode cX9_seen 26 = .ok (.istore 4, 2) := by decide +kernel
theorem dX9_seen_28 : decode cX9_seen 28 = .ok (.iload 4, 2) := by decide +kernel
theorem dX9_seen_30 : decode cX9_seen 30 = .ok (.aload_n 0, 1) := by decide +kernel
theorem dX9_seen_31 : decode cX9_seen 31 = .ok (.getfield 63, 3) := by decide +kernel
theorem dX9_seen_34 : decode cX9_seen 34 = .ok (.if_icmp .ge 39, 3) := by decide +kernel
theorem dX9_seen_37 : decode cX9_seen 37 = .ok (.iload_n 3, 1) := by decide +kernel
theorem dX9_seen_38 : decode cX9_seen 38 = .ok (.aload_n 0, 1) := by decide +kernel
theorem dX9_seen_39 : decode cX9_seen 39 = .ok (.getfield 28, 3) := by decide +kernel
theorem dX9_seen_42 : decode cX9_seen 42 = .ok (.iload_n 1, 1) := by decide +kernel
theorem dX9_seen_43 : decode cX9_seen 43 = .ok (.iaload, 1) := by decide +kernel
theorem dX9_seen_44 : decode cX9_seen 44 = .ok (.aload_n 0, 1) := by decide +kernel
theorem dX9_seen_45 : decode cX9_seen 45 = .ok (.getfield 16, 3) := by decide +kernel
theorem dX9_seen_48 : decode cX9_seen 48 = .ok (.iload 4, 2) := by decide +kernel
theorem dX9_seen_50 : decode cX9_seen 50 = .ok (.iaload, 1) := by decide +kernel
theorem dX9_seen_51 : decode cX9_seen 51 = .ok (.iconst (-1), 1) := by decide +kernel
theorem dX9_seen_52 : decode cX9_seen 52 = .ok (.ixor, 1) := by decide +kernel
theorem dX9_seen_53 : decode cX9_seen 53 = .ok (.iand, 1) := by decide +kernel
theorem dX9_seen_54 : decode cX9_seen 54 = .ok (.ifCond .ne 10, 3) := by decide +kernel
theorem dX9_seen_57 : decode cX9_seen 57 = .ok (.iconst 1, 1) := by decide +kernel
theorem dX9_seen_58 : decode cX9_seen 58 = .ok (.iload 4, 2) := by decide +kernel
theorem dX9_seen_60 : decode cX9_seen 60 = .ok (.ishl, 1) := by decide +kernel
theorem dX9_seen_61 : decode cX9_seen 61 = .ok (.goto 4, 3) := by decide +kernel
theorem dX9_seen_64 : decode cX9_seen 64 = .ok (.iconst 0, 1) := by decide +kernel
theorem dX9_seen_65 : decode cX9_seen 65 = .ok (.ior, 1) := by decide +kernel
theorem dX9_seen_66 : decode cX9_seen 66 = .ok (.istore_n 3, 1) := by decide +kernel
theorem dX9_seen_67 : decode cX9_seen 67 = .ok (.iinc 4 1, 3) := by decide +kernel
theorem dX9_seen_70 : decode cX9_seen 70 = .ok (.goto (-42), 3) := by decide +kernel
theorem dX9_seen_73 : decode cX9_seen 73 = .ok (.aload_n 0, 1) := by decide +kernel
theorem dX9_seen_74 : decode cX9_seen 74 = .ok (.getfield 25, 3) := by decide +kernel
theorem dX9_seen_77 : decode cX9_seen 77 = .ok (.iload_n 1, 1) := by decide +kernel
theorem dX9_seen_78 : decode cX9_seen 78 = .ok (.iaload, 1) := by decide +kernel
theorem dX9_seen_79 : decode cX9_seen 79 = .ok (.bipush (-6), 2) := by decide +kernel
theorem dX9_seen_81 : decode cX9_seen 81 = .ok (.if_icmp .eq 19, 3) := by decide +kernel
theorem dX9_seen_84 : decode cX9_seen 84 = .ok (.iload_n 3, 1) := by decide +kernel
theorem dX9_seen_85 : decode cX9_seen 85 = .ok (.iconst 1, 1) := by decide +kernel
theorem dX9_seen_86 : decode cX9_seen 86 = .ok (.aload_n 0, 1) := by decide +kernel
theorem dX9_seen_87 : decode cX9_seen 87 = .ok (.getfield 25, 3) := by decide +kernel
theorem dX9_seen_90 : decode cX9_seen 90 = .ok (.iload_n 1, 1) := by decide +kernel
theorem dX9_seen_91 : decode cX9_seen 91 = .ok (.iaload, 1) := by decide +kernel
theorem dX9_seen_92 : decode cX9_seen 92 = .ok (.ishl, 1) := by decide +kernel
theorem dX9_seen_93 : decode cX9_seen 93 = .ok (.if_icmp .ne 7, 3) := by decide +kernel
theorem dX9_seen_96 : decode cX9_seen 96 = .ok (.iconst 1, 1) := by decide +kernel
theorem dX9_seen_97 : decode cX9_seen 97 = .ok (.goto 4, 3) := by decide +kernel
theorem dX9_seen_100 : decode cX9_seen 100 = .ok (.iconst 0, 1) := by decide +kernel
theorem dX9_seen_101 : decode cX9_seen 101 = .ok (.istore 4, 2) := by decide +kernel
theorem dX9_seen_103 : decode cX9_seen 103 = .ok (.iload_n 2, 1) := by decide +kernel
theorem dX9_seen_104 : decode cX9_seen 104 = .ok (.ifCond .ne 7, 3) := by decide +kernel
theorem dX9_seen_107 : decode cX9_seen 107 = .ok (.iload_n 3, 1) := by decide +kernel
theorem dX9_seen_108 : decode cX9_seen 108 = .ok (.goto 13, 3) := by decide +kernel
theorem dX9_seen_111 : decode cX9_seen 111 = .ok (.iload 4, 2) := by decide +kernel
theorem dX9_seen_113 : decode cX9_seen 113 = .ok (.ifCond .eq 7, 3) := by decide +kernel
theorem dX9_seen_116 : decode cX9_seen 116 = .ok (.iconst 1, 1) := by decide +kernel
theorem dX9_seen_117 : decode cX9_seen 117 = .ok (.goto 4, 3) := by decide +kernel
theorem dX9_seen_120 : decode cX9_seen 120 = .ok (.iconst 0, 1) := by decide +kernel
theorem dX9_seen_121 : decode cX9_seen 121 = .ok (.ireturn, 1) := by decide +kernel
set_option maxRecDepth 20000 in
theorem ggX9_bid_X9_isJudge : GoodIn wsX9_bid wsX9_isJudge := goodIn_r _ [7, 8, 9, 10, 6, 11, 20, 21, 22, 23, 24, 25, 26, 27, 28, 29, 30, 31, 32, 33, 34, 35, 36, 37, 38, 39] (by decide +kernel) (by decide +kernel)
set_option maxRecDepth 20000 in
theorem gX9_bid_X9_isJudge : GoodIn wsX9_bid (wsV RX9 78 RX9 yX9_isJudge wsX9_isJudge) := goodIn_app (goodIn_of _ (by decide +kernel)) ggX9_bid_X9_isJudge
set_option maxRecDepth 20000 in
theorem ggX9_bid_X9_isPaper : GoodIn wsX9_bid wsX9_isPaper := goodIn_r _ [15, 16, 9, 10, 6, 11, 20, 21, 22, 23, 24, 25, 26, 27, 28, 29, 30, 31, 32, 33, 34, 35, 36, 37, 38, 39] (by decide +kernel) (by decide +kernel)
set_option maxRecDepth 20000 in
theorem gX9_bid_X9_isPaper : GoodIn wsX9_bid (wsV RX9 86 RX9 yX9_isPaper wsX9_isPaper) := goodIn_app (goodIn_of _ (by decide +kernel)) ggX9_bid_X9_isPaper
set_option maxRecDepth 20000 in
theorem ggX9_bid_X9_in : GoodIn wsX9_bid wsX9_in := goodIn_r _ [11] (by decide +kernel) (by decide +kernel)
set_option maxRecDepth 20000 in
theorem gX9_bid_X9_in : GoodIn wsX9_bid (va_wsS RX9 59 yX9_in wsX9_in) := goodIn_app (goodIn_of _ (by decide +kernel)) ggX9_bid_X9_in
set_option maxRecDepth 20000 in
theorem ggX9_bid_X9_at : GoodIn wsX9_bid wsX9_at := goodIn_r _ [19] (by decide +kernel) (by decide +kernel)
set_option maxRecDepth 20000 in
theorem gX9_bid_X9_at : GoodIn wsX9_bid (va_wsS RX9 74 yX9_at wsX9_at) := goodIn_app (goodIn_of _ (by decide +kernel)) ggX9_bid_X9_at
theorem dX9_bid_0 : decode cX9_bid 0 = .ok (.aload_n 0, 1) := by decide +kernel
theorem dX9_bid_1 : decode cX9_bid 1 = .ok (.iload_n 1, 1) := by decide +kernel
theorem dX9_bid_2 : decode cX9_bid 2 = .ok (.invokevirtual 78, 3) := by decide +kernel
theorem dX9_bid_5 : decode cX9_bid 5 = .ok (.ifCond .eq 11, 3) := by decide +kernel
theorem dX9_bid_8 : decode cX9_bid 8 = .ok (.aload_n 0, 1) := by decide +kernel
theorem dX9_bid_9 : decode cX9_bid 9 = .ok (.iload_n 2, 1) := by decide +kernel
theorem dX9_bid_10 : decode cX9_bid 10 = .ok (.invokevirtual 86, 3) := by decide +kernel
theorem dX9_bid_13 : decode cX9_bid 13 = .ok (.ifCond .ne 5, 3) := by decide +kernel
theorem dX9_bid_16 : decode cX9_bid 16 = .ok (.iconst (-1), 1) := by decide +kernel
theorem dX9_bid_17 : decode cX9_bid 17 = .ok (.ireturn, 1) := by decide +kernel
theorem dX9_bid_18 : decode cX9_bid 18 = .ok (.iload_n 3, 1) := by decide +kernel
theorem dX9_bid_19 : decode cX9_bid 19 = .ok (.i2l, 1) := by decide +kernel
theorem dX9_bid_20 : decode cX9_bid 20 = .ok (.lconst 0, 1) := by decide +kernel
theorem dX9_bid_21 : decode cX9_bid 21 = .ok (.ldc2_w 194, 3) := by decide +kernel
theorem dX9_bid_24 : decode cX9_bid 24 = .ok (.invokestatic 59, 3) := by decide +kernel
theorem dX9_bid_27 : decode cX9_bid 27 = .ok (.ifCond .ne 6, 3) := by decide +kernel
theorem dX9_bid_30 : decode cX9_bid 30 = .ok (.bipush (-2), 2) := by decide +kernel
theorem dX9_bid_32 : decode cX9_bid 32 = .ok (.ireturn, 1) := by decide +kernel
theorem dX9_bid_33 : decode cX9_bid 33 = .ok (.aload_n 0, 1) := by decide +kernel
theorem dX9_bid_34 : decode cX9_bid 34 = .ok (.getfield 37, 3) := by decide +kernel
theorem dX9_bid_37 : decode cX9_bid 37 = .ok (.iload_n 1, 1) := by decide +kernel
theorem dX9_bid_38 : decode cX9_bid 38 = .ok (.iload_n 2, 1) := by decide +kernel
theorem dX9_bid_39 : decode cX9_bid 39 = .ok (.invokestatic 74, 3) := by decide +kernel
theorem dX9_bid_42 : decode cX9_bid 42 = .ok (.iaload, 1) := by decide +kernel
theorem dX9_bid_43 : decode cX9_bid 43 = .ok (.istore 4, 2) := by decide +kernel
theorem dX9_bid_45 : decode cX9_bid 45 = .ok (.aload_n 0, 1) := by decide +kernel
theorem dX9_bid_46 : decode cX9_bid 46 = .ok (.getfield 37, 3) := by decide +kernel
theorem dX9_bid_49 : decode cX9_bid 49 = .ok (.iload_n 1, 1) := by decide +kernel
theorem dX9_bid_50 : decode cX9_bid 50 = .ok (.iload_n 2, 1) := by decide +kernel
theorem dX9_bid_51 : decode cX9_bid 51 = .ok (.invokestatic 74, 3) := by decide +kernel
theorem dX9_bid_54 : decode cX9_bid 54 = .ok (.iload_n 3, 1) := by decide +kernel
theorem dX9_bid_55 : decode cX9_bid 55 = .ok (.iastore, 1) := by decide +kernel
theorem dX9_bid_56 : decode cX9_bid 56 = .ok (.iload 4, 2) := by decide +kernel
theorem dX9_bid_58 : decode cX9_bid 58 = .ok (.ireturn, 1) := by decide +kernel
set_option maxRecDepth 20000 in
theorem ggX9_isFit_X9_ones : GoodIn wsX9_isFit wsX9_ones := goodIn_r _ [5] (by decide +kernel) (by decide +kernel)
set_option maxRecDepth 20000 in
theorem gX9_isFit_X9_ones : GoodIn wsX9_isFit (va_wsS RX9 149 yX9_ones wsX9_ones) := goodIn_app (goodIn_of _ (by decide +kernel)) ggX9_isFit_X9_ones
set_option maxRecDepth 20000 in
theorem ggX9_isFit_X9_without : GoodIn wsX9_isFit wsX9_without := goodIn_r _ [9, 10, 16, 17, 18, 19, 20, 21, 22, 23, 24, 25, 26, 27, 28, 29, 30, 31, 32, 33, 34, 35] (by decide +kernel) (by decide +kernel)
set_option maxRecDepth 20000 in
theorem gX9_isFit_X9_without : GoodIn wsX9_isFit (wsV RX9 137 RX9 yX9_without wsX9_without) := goodIn_app (goodIn_of _ (by decide +kernel)) ggX9_isFit_X9_without
set_option maxRecDepth 20000 in
theorem ggX9_isFit_X9_tieWith : GoodIn wsX9_isFit wsX9_tieWith := goodIn_r _ [14, 10, 15, 16, 17, 18, 19, 20, 21, 22, 23, 24, 25, 26, 27, 28, 29, 30, 31, 32, 33, 34, 35] (by decide +kernel) (by decide +kernel)
set_option maxRecDepth 20000 in
theorem gX9_isFit_X9_tieWith : GoodIn wsX9_isFit (wsV RX9 130 RX9 yX9_tieWith wsX9_tieWith) := goodIn_app (goodIn_of _ (by decide +kernel)) ggX9_isFit_X9_tieWith
theorem dX9_isFit_0 : decode cX9_isFit 0 = .ok (.iload_n 2, 1) := by decide +kernel
theorem dX9_isFit_1 : decode cX9_isFit 1 = .ok (.invokestatic 149, 3) := by decide +kernel
theorem dX9_isFit_4 : decode cX9_isFit 4 = .ok (.iload_n 3, 1) := by decide +kernel
theorem dX9_isFit_5 : decode cX9_isFit 5 = .ok (.if_icmp .ne 17, 3) := by decide +kernel
theorem dX9_isFit_8 : decode cX9_isFit 8 = .ok (.aload_n 0, 1) := by decide +kernel
theorem dX9_isFit_9 : decode cX9_isFit 9 = .ok (.iload_n 1, 1) := by decide +kernel
theorem dX9_isFit_10 : decode cX9_isFit 10 = .ok (.iload_n 2, 1) := by decide +kernel
theorem dX9_isFit_11 : decode cX9_isFit 11 = .ok (.invokevirtual 137, 3) := by decide +kernel
theorem dX9_isFit_14 : decode cX9_isFit 14 = .ok (.iload_n 2, 1) := by decide +kernel
theorem dX9_isFit_15 : decode cX9_isFit 15 = .ok (.if_icmp .ne 7, 3) := by decide +kernel
theorem dX9_isFit_18 : decode cX9_isFit 18 = .ok (.iconst 1, 1) := by decide +kernel
theorem dX9_isFit_19 : decode cX9_isFit 19 = .ok (.goto 4, 3) := by decide +kernel
theorem dX9_isFit_22 : decode cX9_isFit 22 = .ok (.iconst 0, 1) := by decide +kernel
theorem dX9_isFit_23 : decode cX9_isFit 23 = .ok (.istore 4, 2) := by decide +kernel
theorem dX9_isFit_25 : decode cX9_isFit 25 = .ok (.iconst 0, 1) := by decide +kernel
theorem dX9_isFit_26 : decode cX9_isFit 26 = .ok (.istore 5, 2) := by decide +kernel
theorem dX9_isFit_28 : decode cX9_isFit 28 = .ok (.iload 5, 2) := by decide +kernel
theorem dX9_isFit_30 : decode cX9_isFit 30 = .ok (.aload_n 0, 1) := by decide +kernel
theorem dX9_isFit_31 : decode cX9_isFit 31 = .ok (.getfield 63, 3) := by decide +kernel
theorem dX9_isFit_34 : decode cX9_isFit 34 = .ok (.if_icmp .ge 40, 3) := by decide +kernel
theorem dX9_isFit_37 : decode cX9_isFit 37 = .ok (.iload 4, 2) := by decide +kernel
theorem dX9_isFit_39 : decode cX9_isFit 39 = .ok (.ifCond .eq 26, 3) := by decide +kernel
theorem dX9_isFit_42 : decode cX9_isFit 42 = .ok (.iload_n 2, 1) := by decide +kernel
theorem dX9_isFit_43 : decode cX9_isFit 43 = .ok (.iload 5, 2) := by decide +kernel
theorem dX9_isFit_45 : decode cX9_isFit 45 = .ok (.ishr, 1) := by decide +kernel
theorem dX9_isFit_46 : decode cX9_isFit 46 = .ok (.iconst 1, 1) := by decide +kernel
theorem dX9_isFit_47 : decode cX9_isFit 47 = .ok (.iand, 1) := by decide +kernel
theorem dX9_isFit_48 : decode cX9_isFit 48 = .ok (.ifCond .eq 13, 3) := by decide +kernel
theorem dX9_isFit_51 : decode cX9_isFit 51 = .ok (.aload_n 0, 1) := by decide +kernel
theorem dX9_isFit_52 : decode cX9_isFit 52 = .ok (.iload 5, 2) := by decide +kernel
theorem dX9_isFit_54 : decode cX9_isFit 54 = .ok (.iload_n 1, 1) := by decide +kernel
theorem dX9_isFit_55 : decode cX9_isFit 55 = .ok (.invokevirtual 130, 3) := by decide +kernel
theorem dX9_isFit_58 : decode cX9_isFit 58 = .ok (.ifCond .lt 7, 3) := by decide +kernel
theorem dX9_isFit_61 : decode cX9_isFit 61 = .ok (.iconst 1, 1) := by decide +kernel
theorem dX9_isFit_62 : decode cX9_isFit 62 = .ok (.goto 4, 3) := by decide +kernel
theorem dX9_isFit_65 : decode cX9_isFit 65 = .ok (.iconst 0, 1) := by decide +kernel
theorem dX9_isFit_66 : decode cX9_isFit 66 = .ok (.istore 4, 2) := by decide +kernel
theorem dX9_isFit_68 : decode cX9_isFit 68 = .ok (.iinc 5 1, 3) := by decide +kernel
theorem dX9_isFit_71 : decode cX9_isFit 71 = .ok (.goto (-43), 3) := by decide +kernel
theorem dX9_isFit_74 : decode cX9_isFit 74 = .ok (.iload 4, 2) := by decide +kernel
theorem dX9_isFit_76 : decode cX9_isFit 76 = .ok (.ireturn, 1) := by decide +kernel
theorem dX9_loadsBy_0 : decode cX9_loadsBy 0 = .ok (.iload_n 1, 1) := by decide +kernel
theorem dX9_loadsBy_1 : decode cX9_loadsBy 1 = .ok (.istore 4, 2) := by decide +kernel
theorem dX9_loadsBy_3 : decode cX9_loadsBy 3 = .ok (.iconst 1, 1) := by decide +kernel
theorem dX9_loadsBy_4 : decode cX9_loadsBy 4 = .ok (.istore 5, 2) := by decide +kernel
theorem dX9_loadsBy_6 : decode cX9_loadsBy 6 = .ok (.iconst 0, 1) := by decide +kernel
theorem dX9_loadsBy_7 : decode cX9_loadsBy 7 = .ok (.istore 6, 2) := by decide +kernel
theorem dX9_loadsBy_9 : decode cX9_loadsBy 9 = .ok (.iconst 0, 1) := by decide +kernel
theorem dX9_loadsBy_10 : decode cX9_loadsBy 10 = .ok (.istore 7, 2) := by decide +kernel
theorem dX9_loadsBy_12 : decode cX9_loadsBy 12 = .ok (.iload 7, 2) := by decide +kernel
theorem dX9_loadsBy_14 : decode cX9_loadsBy 14 = .ok (.bipush 6, 2) := by decide +kernel
theorem dX9_loadsBy_16 : decode cX9_loadsBy 16 = .ok (.if_icmp .ge 53, 3) := by decide +kernel
theorem dX9_loadsBy_19 : decode cX9_loadsBy 19 = .ok (.iload 4, 2) := by decide +kernel
theorem dX9_loadsBy_21 : decode cX9_loadsBy 21 = .ok (.iconst 5, 1) := by decide +kernel
theorem dX9_loadsBy_22 : decode cX9_loadsBy 22 = .ok (.irem, 1) := by decide +kernel
theorem dX9_loadsBy_23 : decode cX9_loadsBy 23 = .ok (.iload_n 2, 1) := by decide +kernel
theorem dX9_loadsBy_24 : decode cX9_loadsBy 24 = .ok (.iload 7, 2) := by decide +kernel
theorem dX9_loadsBy_26 : decode cX9_loadsBy 26 = .ok (.ishr, 1) := by decide +kernel
theorem dX9_loadsBy_27 : decode cX9_loadsBy 27 = .ok (.iconst 1, 1) := by decide +kernel
theorem dX9_loadsBy_28 : decode cX9_loadsBy 28 = .ok (.iand, 1) := by decide +kernel
theorem dX9_loadsBy_29 : decode cX9_loadsBy 29 = .ok (.iadd, 1) := by decide +kernel
theorem dX9_loadsBy_30 : decode cX9_loadsBy 30 = .ok (.istore 8, 2) := by decide +kernel
theorem dX9_loadsBy_32 : decode cX9_loadsBy 32 = .ok (.iload 8, 2) := by decide +kernel
theorem dX9_loadsBy_34 : decode cX9_loadsBy 34 = .ok (.iload_n 3, 1) := by decide +kernel
theorem dX9_loadsBy_35 : decode cX9_loadsBy 35 = .ok (.if_icmp .le 6, 3) := by decide +kernel
theorem dX9_loadsBy_38 : decode cX9_loadsBy 38 = .ok (.bipush (-6), 2) := by decide +kernel
theorem dX9_loadsBy_40 : decode cX9_loadsBy 40 = .ok (.ireturn, 1) := by decide +kernel
theorem dX9_loadsBy_41 : decode cX9_loadsBy 41 = .ok (.iload 6, 2) := by decide +kernel
theorem dX9_loadsBy_43 : decode cX9_loadsBy 43 = .ok (.iload 5, 2) := by decide +kernel
theorem dX9_loadsBy_45 : decode cX9_loadsBy 45 = .ok (.iload 8, 2) := by decide +kernel
theorem dX9_loadsBy_47 : decode cX9_loadsBy 47 = .ok (.imul, 1) := by decide +kernel
theorem dX9_loadsBy_48 : decode cX9_loadsBy 48 = .ok (.iadd, 1) := by decide +kernel
theorem dX9_loadsBy_49 : decode cX9_loadsBy 49 = .ok (.istore 6, 2) := by decide +kernel
theorem dX9_loadsBy_51 : decode cX9_loadsBy 51 = .ok (.iload 5, 2) := by decide +kernel
theorem dX9_loadsBy_53 : decode cX9_loadsBy 53 = .ok (.iconst 5, 1) := by decide +kernel
theorem dX9_loadsBy_54 : decode cX9_loadsBy 54 = .ok (.imul, 1) := by decide +kernel
theorem dX9_loadsBy_55 : decode cX9_loadsBy 55 = .ok (.istore 5, 2) := by decide +kernel
theorem dX9_loadsBy_57 : decode cX9_loadsBy 57 = .ok (.iload 4, 2) := by decide +kernel
theorem dX9_loadsBy_59 : decode cX9_loadsBy 59 = .ok (.iconst 5, 1) := by decide +kernel
theorem dX9_loadsBy_60 : decode cX9_loadsBy 60 = .ok (.idiv, 1) := by decide +kernel
theorem dX9_loadsBy_61 : decode cX9_loadsBy 61 = .ok (.istore 4, 2) := by decide +kernel
theorem dX9_loadsBy_63 : decode cX9_loadsBy 63 = .ok (.iinc 7 1, 3) := by decide +kernel
theorem dX9_loadsBy_66 : decode cX9_loadsBy 66 = .ok (.goto (-54), 3) := by decide +kernel
theorem dX9_loadsBy_69 : decode cX9_loadsBy 69 = .ok (.iload 6, 2) := by decide +kernel
theorem dX9_loadsBy_71 : decode cX9_loadsBy 71 = .ok (.ireturn, 1) := by decide +kernel
theorem dX9_totalOf_0 : decode cX9_totalOf 0 = .ok (.iconst 0, 1) := by decide +kernel
theorem dX9_totalOf_1 : decode cX9_totalOf 1 = .ok (.istore_n 1, 1) := by decide +kernel
theorem dX9_totalOf_2 : decode cX9_totalOf 2 = .ok (.iload_n 0, 1) := by decide +kernel
theorem dX9_totalOf_3 : decode cX9_totalOf 3 = .ok (.istore_n 2, 1) := by decide +kernel
theorem dX9_totalOf_4 : decode cX9_totalOf 4 = .ok (.iload_n 2, 1) := by decide +kernel
theorem dX9_totalOf_5 : decode cX9_totalOf 5 = .ok (.ifCond .le 16, 3) := by decide +kernel
theorem dX9_totalOf_8 : decode cX9_totalOf 8 = .ok (.iload_n 1, 1) := by decide +kernel
theorem dX9_totalOf_9 : decode cX9_totalOf 9 = .ok (.iload_n 2, 1) := by decide +kernel
theorem dX9_totalOf_10 : decode cX9_totalOf 10 = .ok (.iconst 5, 1) := by decide +kernel
theorem dX9_totalOf_11 : decode cX9_totalOf 11 = .ok (.irem, 1) := by decide +kernel
theorem dX9_totalOf_12 : decode cX9_totalOf 12 = .ok (.iadd, 1) := by decide +kernel
theorem dX9_totalOf_13 : decode cX9_totalOf 13 = .ok (.istore_n 1, 1) := by decide +kernel
theorem dX9_totalOf_14 : decode cX9_totalOf 14 = .ok (.iload_n 2, 1) := by decide +kernel
theorem dX9_totalOf_15 : decode cX9_totalOf 15 = .ok (.iconst 5, 1) := by decide +kernel
theorem dX9_totalOf_16 : decode cX9_totalOf 16 = .ok (.idiv, 1) := by decide +kernel
theorem dX9_totalOf_17 : decode cX9_totalOf 17 = .ok (.istore_n 2, 1) := by decide +kernel
theorem dX9_totalOf_18 : decode cX9_totalOf 18 = .ok (.goto (-14), 3) := by decide +kernel
theorem dX9_totalOf_21 : decode cX9_totalOf 21 = .ok (.iload_n 1, 1) := by decide +kernel
theorem dX9_totalOf_22 : decode cX9_totalOf 22 = .ok (.ireturn, 1) := by decide +kernel
set_option maxRecDepth 20000 in
theorem ggX9_bidsOf_X9_at : GoodIn wsX9_bidsOf wsX9_at := goodIn_r _ [6] (by decide +kernel) (by decide +kernel)
set_option maxRecDepth 20000 in
theorem gX9_bidsOf_X9_at : GoodIn wsX9_bidsOf (va_wsS RX9 74 yX9_at wsX9_at) := goodIn_app (goodIn_of _ (by decide +kernel)) ggX9_bidsOf_X9_at
theorem dX9_bidsOf_0 : decode cX9_bidsOf 0 = .ok (.iconst 0, 1) := by decide +kernel
theorem dX9_bidsOf_1 : decode cX9_bidsOf 1 = .ok (.istore_n 3, 1) := by decide +kernel
theorem dX9_bidsOf_2 : decode cX9_bidsOf 2 = .ok (.iconst 0, 1) := by decide +kernel
theorem dX9_bidsOf_3 : decode cX9_bidsOf 3 = .ok (.istore 4, 2) := by decide +kernel
theorem dX9_bidsOf_5 : decode cX9_bidsOf 5 = .ok (.iload 4, 2) := by decide +kernel
theorem dX9_bidsOf_7 : decode cX9_bidsOf 7 = .ok (.aload_n 0, 1) := by decide +kernel
theorem dX9_bidsOf_8 : decode cX9_bidsOf 8 = .ok (.getfield 63, 3) := by decide +kernel
theorem dX9_bidsOf_11 : decode cX9_bidsOf 11 = .ok (.if_icmp .ge 37, 3) := by decide +kernel
theorem dX9_bidsOf_14 : decode cX9_bidsOf 14 = .ok (.iload_n 3, 1) := by decide +kernel
theorem dX9_bidsOf_15 : decode cX9_bidsOf 15 = .ok (.iload_n 2, 1) := by decide +kernel
theorem dX9_bidsOf_16 : decode cX9_bidsOf 16 = .ok (.iload 4, 2) := by decide +kernel
theorem dX9_bidsOf_18 : decode cX9_bidsOf 18 = .ok (.ishr, 1) := by decide +kernel
theorem dX9_bidsOf_19 : decode cX9_bidsOf 19 = .ok (.iconst 1, 1) := by decide +kernel
theorem dX9_bidsOf_20 : decode cX9_bidsOf 20 = .ok (.iand, 1) := by decide +kernel
theorem dX9_bidsOf_21 : decode cX9_bidsOf 21 = .ok (.iconst 1, 1) := by decide +kernel
theorem dX9_bidsOf_22 : decode cX9_bidsOf 22 = .ok (.if_icmp .ne 17, 3) := by decide +kernel
theorem dX9_bidsOf_25 : decode cX9_bidsOf 25 = .ok (.aload_n 0, 1) := by decide +kernel
theorem dX9_bidsOf_26 : decode cX9_bidsOf 26 = .ok (.getfield 37, 3) := by decide +kernel
theorem dX9_bidsOf_29 : decode cX9_bidsOf 29 = .ok (.iload 4, 2) := by decide +kernel
theorem dX9_bidsOf_31 : decode cX9_bidsOf 31 = .ok (.iload_n 1, 1) := by decide +kernel
theorem dX9_bidsOf_32 : decode cX9_bidsOf 32 = .ok (.invokestatic 74, 3) := by decide +kernel
theorem dX9_bidsOf_35 : decode cX9_bidsOf 35 = .ok (.iaload, 1) := by decide +kernel
theorem dX9_bidsOf_36 : decode cX9_bidsOf 36 = .ok (.goto 4, 3) := by decide +kernel
theorem dX9_bidsOf_39 : decode cX9_bidsOf 39 = .ok (.iconst 0, 1) := by decide +kernel
theorem dX9_bidsOf_40 : decode cX9_bidsOf 40 = .ok (.iadd, 1) := by decide +kernel
theorem dX9_bidsOf_41 : decode cX9_bidsOf 41 = .ok (.istore_n 3, 1) := by decide +kernel
theorem dX9_bidsOf_42 : decode cX9_bidsOf 42 = .ok (.iinc 4 1, 3) := by decide +kernel
theorem dX9_bidsOf_45 : decode cX9_bidsOf 45 = .ok (.goto (-40), 3) := by decide +kernel
theorem dX9_bidsOf_48 : decode cX9_bidsOf 48 = .ok (.iload_n 3, 1) := by decide +kernel
theorem dX9_bidsOf_49 : decode cX9_bidsOf 49 = .ok (.ireturn, 1) := by decide +kernel
set_option maxRecDepth 20000 in
theorem ggX9_bringsOf_X9_isFit : GoodIn wsX9_bringsOf wsX9_isFit := goodIn_r _ [6, 7, 8, 9, 5, 10, 11, 12, 13, 14, 15, 16, 17, 18, 19, 20, 33, 34, 35, 36, 37, 38, 39, 40, 41, 42, 43, 44, 45, 46, 47, 48, 49, 50, 51, 52] (by decide +kernel) (by decide +kernel)
set_option maxRecDepth 20000 in
theorem gX9_bringsOf_X9_isFit : GoodIn wsX9_bringsOf (wsV RX9 196 RX9 yX9_isFit wsX9_isFit) := goodIn_app (goodIn_of _ (by decide +kernel)) ggX9_bringsOf_X9_isFit
set_option maxRecDepth 20000 in
theorem ggX9_bringsOf_X9_loadsBy : GoodIn wsX9_bringsOf wsX9_loadsBy := goodIn_r _ [24] (by decide +kernel) (by decide +kernel)
set_option maxRecDepth 20000 in
theorem gX9_bringsOf_X9_loadsBy : GoodIn wsX9_bringsOf (wsV RX9 200 RX9 yX9_loadsBy wsX9_loadsBy) := goodIn_app (goodIn_of _ (by decide +kernel)) ggX9_bringsOf_X9_loadsBy
set_option maxRecDepth 20000 in
theorem ggX9_bringsOf_X9_bidsOf : GoodIn wsX9_bringsOf wsX9_bidsOf := goodIn_r _ [28, 7, 29, 30, 31, 5, 32, 33, 34, 35, 36, 37, 38, 39, 40, 41, 42, 43, 44, 45, 46, 47, 48, 49, 50, 51, 52] (by decide +kernel) (by decide +kernel)
set_option maxRecDepth 20000 in
theorem gX9_bringsOf_X9_bidsOf : GoodIn wsX9_bringsOf (wsV RX9 204 RX9 yX9_bidsOf wsX9_bidsOf) := goodIn_app (goodIn_of _ (by decide +kernel)) ggX9_bringsOf_X9_bidsOf
theorem dX9_bringsOf_0 : decode cX9_bringsOf 0 = .ok (.aload_n 0, 1) := by decide +kernel
theorem dX9_bringsOf_1 : decode cX9_bringsOf 1 = .ok (.iload_n 1, 1) := by decide +kernel
theorem dX9_bringsOf_2 : decode cX9_bringsOf 2 = .ok (.iload_n 3, 1) := by decide +kernel
theorem dX9_bringsOf_3 : decode cX9_bringsOf 3 = .ok (.iload 4, 2) := by decide +kernel
theorem dX9_bringsOf_5 : decode cX9_bringsOf 5 = .ok (.invokevirtual 196, 3) := by decide +kernel
theorem dX9_bringsOf_8 : decode cX9_bringsOf 8 = .ok (.ifCond .eq 14, 3) := by decide +kernel
theorem dX9_bringsOf_11 : decode cX9_bringsOf 11 = .ok (.aload_n 0, 1) := by decide +kernel
theorem dX9_bringsOf_12 : decode cX9_bringsOf 12 = .ok (.iload_n 2, 1) := by decide +kernel
theorem dX9_bringsOf_13 : decode cX9_bringsOf 13 = .ok (.iload_n 3, 1) := by decide +kernel
theorem dX9_bringsOf_14 : decode cX9_bringsOf 14 = .ok (.iload 5, 2) := by decide +kernel
theorem dX9_bringsOf_16 : decode cX9_bringsOf 16 = .ok (.invokevirtual 200, 3) := by decide +kernel
theorem dX9_bringsOf_19 : decode cX9_bringsOf 19 = .ok (.goto 5, 3) := by decide +kernel
theorem dX9_bringsOf_22 : decode cX9_bringsOf 22 = .ok (.bipush (-6), 2) := by decide +kernel
theorem dX9_bringsOf_24 : decode cX9_bringsOf 24 = .ok (.istore 6, 2) := by decide +kernel
theorem dX9_bringsOf_26 : decode cX9_bringsOf 26 = .ok (.iload 6, 2) := by decide +kernel
theorem dX9_bringsOf_28 : decode cX9_bringsOf 28 = .ok (.ifCond .ge 8, 3) := by decide +kernel
theorem dX9_bringsOf_31 : decode cX9_bringsOf 31 = .ok (.bipush (-6), 2) := by decide +kernel
theorem dX9_bringsOf_33 : decode cX9_bringsOf 33 = .ok (.goto 18, 3) := by decide +kernel
theorem dX9_bringsOf_36 : decode cX9_bringsOf 36 = .ok (.aload_n 0, 1) := by decide +kernel
theorem dX9_bringsOf_37 : decode cX9_bringsOf 37 = .ok (.getfield 56, 3) := by decide +kernel
theorem dX9_bringsOf_40 : decode cX9_bringsOf 40 = .ok (.sipush 15625, 3) := by decide +kernel
theorem dX9_bringsOf_43 : decode cX9_bringsOf 43 = .ok (.iload_n 1, 1) := by decide +kernel
theorem dX9_bringsOf_44 : decode cX9_bringsOf 44 = .ok (.iconst 1, 1) := by decide +kernel
theorem dX9_bringsOf_45 : decode cX9_bringsOf 45 = .ok (.iadd, 1) := by decide +kernel
theorem dX9_bringsOf_46 : decode cX9_bringsOf 46 = .ok (.imul, 1) := by decide +kernel
theorem dX9_bringsOf_47 : decode cX9_bringsOf 47 = .ok (.iload 6, 2) := by decide +kernel
theorem dX9_bringsOf_49 : decode cX9_bringsOf 49 = .ok (.iadd, 1) := by decide +kernel
theorem dX9_bringsOf_50 : decode cX9_bringsOf 50 = .ok (.iaload, 1) := by decide +kernel
theorem dX9_bringsOf_51 : decode cX9_bringsOf 51 = .ok (.istore 7, 2) := by decide +kernel
theorem dX9_bringsOf_53 : decode cX9_bringsOf 53 = .ok (.iload 7, 2) := by decide +kernel
theorem dX9_bringsOf_55 : decode cX9_bringsOf 55 = .ok (.ifCond .ge 8, 3) := by decide +kernel
theorem dX9_bringsOf_58 : decode cX9_bringsOf 58 = .ok (.bipush (-6), 2) := by decide +kernel
theorem dX9_bringsOf_60 : decode cX9_bringsOf 60 = .ok (.goto 12, 3) := by decide +kernel
theorem dX9_bringsOf_63 : decode cX9_bringsOf 63 = .ok (.iload 7, 2) := by decide +kernel
theorem dX9_bringsOf_65 : decode cX9_bringsOf 65 = .ok (.aload_n 0, 1) := by decide +kernel
theorem dX9_bringsOf_66 : decode cX9_bringsOf 66 = .ok (.iload_n 1, 1) := by decide +kernel
theorem dX9_bringsOf_67 : decode cX9_bringsOf 67 = .ok (.iload_n 3, 1) := by decide +kernel
theorem dX9_bringsOf_68 : decode cX9_bringsOf 68 = .ok (.invokevirtual 204, 3) := by decide +kernel
theorem dX9_bringsOf_71 : decode cX9_bringsOf 71 = .ok (.iadd, 1) := by decide +kernel
theorem dX9_bringsOf_72 : decode cX9_bringsOf 72 = .ok (.ireturn, 1) := by decide +kernel
set_option maxRecDepth 20000 in
theorem ggX9_findMost_X9_totalOf : GoodIn wsX9_findMost wsX9_totalOf := goodIn_r _ [7] (by decide +kernel) (by decide +kernel)
set_option maxRecDepth 20000 in
theorem gX9_findMost_X9_totalOf : GoodIn wsX9_findMost (va_wsS RX9 207 yX9_totalOf wsX9_totalOf) := goodIn_app (goodIn_of _ (by decide +kernel)) ggX9_findMost_X9_totalOf
set_option maxRecDepth 20000 in
theorem ggX9_findMost_X9_loadsBy : GoodIn wsX9_findMost wsX9_loadsBy := goodIn_r _ [11] (by decide +kernel) (by decide +kernel)
set_option maxRecDepth 20000 in
theorem gX9_findMost_X9_loadsBy : GoodIn wsX9_findMost (wsV RX9 200 RX9 yX9_loadsBy wsX9_loadsBy) := goodIn_app (goodIn_of _ (by decide +kernel)) ggX9_findMost_X9_loadsBy
set_option maxRecDepth 20000 in
theorem ggX9_findMost_X9_ones : GoodIn wsX9_findMost wsX9_ones := goodIn_r _ [14] (by decide +kernel) (by decide +kernel)
set_option maxRecDepth 20000 in
theorem gX9_findMost_X9_ones : GoodIn wsX9_findMost (va_wsS RX9 149 yX9_ones wsX9_ones) := goodIn_app (goodIn_of _ (by decide +kernel)) ggX9_findMost_X9_ones
set_option maxRecDepth 20000 in
theorem ggX9_findMost_X9_bringsOf : GoodIn wsX9_findMost wsX9_bringsOf := goodIn_r _ [18, 1, 19, 20, 21, 6, 22, 3, 12, 13, 14, 23, 24, 25, 26, 27, 28, 29, 30, 31, 32, 8, 9, 10, 11, 33, 34, 35, 36, 37, 38, 39, 40, 41, 42, 43, 44, 45, 46, 47, 48, 49, 50, 51, 52, 53, 54, 55, 56, 57, 58, 59, 60] (by decide +kernel) (by decide +kernel)
set_option maxRecDepth 20000 in
theorem gX9_findMost_X9_bringsOf : GoodIn wsX9_findMost (wsV RX9 210 RX9 yX9_bringsOf wsX9_bringsOf) := goodIn_app (goodIn_of _ (by decide +kernel)) ggX9_findMost_X9_bringsOf
theorem dX9_findMost_0 : decode cX9_findMost 0 = .ok (.iconst 0, 1) := by decide +kernel
theorem dX9_findMost_1 : decode cX9_findMost 1 = .ok (.istore_n 3, 1) := by decide +kernel
theorem dX9_findMost_2 : decode cX9_findMost 2 = .ok (.iload_n 3, 1) := by decide +kernel
theorem dX9_findMost_3 : decode cX9_findMost 3 = .ok (.sipush 15625, 3) := by decide +kernel
theorem dX9_findMost_6 : decode cX9_findMost 6 = .ok (.if_icmp .ge 25, 3) := by decide +kernel
theorem dX9_findMost_9 : decode cX9_findMost 9 = .ok (.aload_n 0, 1) := by decide +kernel
theorem dX9_findMost_10 : decode cX9_findMost 10 = .ok (.getfield 56, 3) := by decide +kernel
theorem dX9_findMost_13 : decode cX9_findMost 13 = .ok (.sipush 15625, 3) := by decide +kernel
theorem dX9_findMost_16 : decode cX9_findMost 16 = .ok (.aload_n 0, 1) := by decide +kernel
theorem dX9_findMost_17 : decode cX9_findMost 17 = .ok (.getfield 67, 3) := by decide +kernel
theorem dX9_findMost_20 : decode cX9_findMost 20 = .ok (.imul, 1) := by decide +kernel
theorem dX9_findMost_21 : decode cX9_findMost 21 = .ok (.iload_n 3, 1) := by decide +kernel
theorem dX9_findMost_22 : decode cX9_findMost 22 = .ok (.iadd, 1) := by decide +kernel
theorem dX9_findMost_23 : decode cX9_findMost 23 = .ok (.iconst 0, 1) := by decide +kernel
theorem dX9_findMost_24 : decode cX9_findMost 24 = .ok (.iastore, 1) := by decide +kernel
theorem dX9_findMost_25 : decode cX9_findMost 25 = .ok (.iinc 3 1, 3) := by decide +kernel
theorem dX9_findMost_28 : decode cX9_findMost 28 = .ok (.goto (-26), 3) := by decide +kernel
theorem dX9_findMost_31 : decode cX9_findMost 31 = .ok (.aload_n 0, 1) := by decide +kernel
theorem dX9_findMost_32 : decode cX9_findMost 32 = .ok (.getfield 67, 3) := by decide +kernel
theorem dX9_findMost_35 : decode cX9_findMost 35 = .ok (.iconst 1, 1) := by decide +kernel
theorem dX9_findMost_36 : decode cX9_findMost 36 = .ok (.isub, 1) := by decide +kernel
theorem dX9_findMost_37 : decode cX9_findMost 37 = .ok (.istore_n 3, 1) := by decide +kernel
theorem dX9_findMost_38 : decode cX9_findMost 38 = .ok (.iload_n 3, 1) := by decide +kernel
theorem dX9_findMost_39 : decode cX9_findMost 39 = .ok (.ifCond .lt 130, 3) := by decide +kernel
theorem dX9_findMost_42 : decode cX9_findMost 42 = .ok (.iconst 0, 1) := by decide +kernel
theorem dX9_findMost_43 : decode cX9_findMost 43 = .ok (.istore 4, 2) := by decide +kernel
theorem dX9_findMost_45 : decode cX9_findMost 45 = .ok (.iload 4, 2) := by decide +kernel
theorem dX9_findMost_47 : decode cX9_findMost 47 = .ok (.sipush 15625, 3) := by decide +kernel
theorem dX9_findMost_50 : decode cX9_findMost 50 = .ok (.if_icmp .ge 113, 3) := by decide +kernel
theorem dX9_findMost_53 : decode cX9_findMost 53 = .ok (.bipush (-6), 2) := by decide +kernel
theorem dX9_findMost_55 : decode cX9_findMost 55 = .ok (.istore 5, 2) := by decide +kernel
theorem dX9_findMost_57 : decode cX9_findMost 57 = .ok (.iload 4, 2) := by decide +kernel
theorem dX9_findMost_59 : decode cX9_findMost 59 = .ok (.invokestatic 207, 3) := by decide +kernel
theorem dX9_findMost_62 : decode cX9_findMost 62 = .ok (.iload_n 1, 1) := by decide +kernel
theorem dX9_findMost_63 : decode cX9_findMost 63 = .ok (.iload_n 3, 1) := by decide +kernel
theorem dX9_findMost_64 : decode cX9_findMost 64 = .ok (.imul, 1) := by decide +kernel
theorem dX9_findMost_65 : decode cX9_findMost 65 = .ok (.if_icmp .ne 77, 3) := by decide +kernel
theorem dX9_findMost_68 : decode cX9_findMost 68 = .ok (.aload_n 0, 1) := by decide +kernel
theorem dX9_findMost_69 : decode cX9_findMost 69 = .ok (.iload 4, 2) := by decide +kernel
theorem dX9_findMost_71 : decode cX9_findMost 71 = .ok (.iconst 0, 1) := by decide +kernel
theorem dX9_findMost_72 : decode cX9_findMost 72 = .ok (.iload_n 2, 1) := by decide +kernel
theorem dX9_findMost_73 : decode cX9_findMost 73 = .ok (.invokevirtual 200, 3) := by decide +kernel
theorem dX9_findMost_76 : decode cX9_findMost 76 = .ok (.ifCond .lt 66, 3) := by decide +kernel
theorem dX9_findMost_79 : decode cX9_findMost 79 = .ok (.iconst 0, 1) := by decide +kernel
theorem dX9_findMost_80 : decode cX9_findMost 80 = .ok (.istore 6, 2) := by decide +kernel
theorem dX9_findMost_82 : decode cX9_findMost 82 = .ok (.iload 6, 2) := by decide +kernel
theorem dX9_findMost_84 : decode cX9_findMost 84 = .ok (.iconst 1, 1) := by decide +kernel
theorem dX9_findMost_85 : decode cX9_findMost 85 = .ok (.aload_n 0, 1) := by decide +kernel
theorem dX9_findMost_86 : decode cX9_findMost 86 = .ok (.getfield 63, 3) := by decide +kernel
theorem dX9_findMost_89 : decode cX9_findMost 89 = .ok (.ishl, 1) := by decide +kernel
theorem dX9_findMost_90 : decode cX9_findMost 90 = .ok (.if_icmp .ge 52, 3) := by decide +kernel
theorem dX9_findMost_93 : decode cX9_findMost 93 = .ok (.iload 6, 2) := by decide +kernel
theorem dX9_findMost_95 : decode cX9_findMost 95 = .ok (.invokestatic 149, 3) := by decide +kernel
theorem dX9_findMost_98 : decode cX9_findMost 98 = .ok (.iload_n 1, 1) := by decide +kernel
theorem dX9_findMost_99 : decode cX9_findMost 99 = .ok (.if_icmp .ne 17, 3) := by decide +kernel
theorem dX9_findMost_102 : decode cX9_findMost 102 = .ok (.aload_n 0, 1) := by decide +kernel
theorem dX9_findMost_103 : decode cX9_findMost 103 = .ok (.iload_n 3, 1) := by decide +kernel
theorem dX9_findMost_104 : decode cX9_findMost 104 = .ok (.iload 4, 2) := by decide +kernel
theorem dX9_findMost_106 : decode cX9_findMost 106 = .ok (.iload 6, 2) := by decide +kernel
theorem dX9_findMost_108 : decode cX9_findMost 108 = .ok (.iload_n 1, 1) := by decide +kernel
theorem dX9_findMost_109 : decode cX9_findMost 109 = .ok (.iload_n 2, 1) := by decide +kernel
theorem dX9_findMost_110 : decode cX9_findMost 110 = .ok (.invokevirtual 210, 3) := by decide +kernel
theorem dX9_findMost_113 : decode cX9_findMost 113 = .ok (.goto 5, 3) := by decide +kernel
theorem dX9_findMost_116 : decode cX9_findMost 116 = .ok (.bipush (-6), 2) := by decide +kernel
theorem dX9_findMost_118 : decode cX9_findMost 118 = .ok (.istore 7, 2) := by decide +kernel
theorem dX9_findMost_120 : decode cX9_findMost 120 = .ok (.iload 7, 2) := by decide +kernel
theorem dX9_findMost_122 : decode cX9_findMost 122 = .ok (.iload 5, 2) := by decide +kernel
theorem dX9_findMost_124 : decode cX9_findMost 124 = .ok (.if_icmp .le 8, 3) := by decide +kernel
theorem dX9_findMost_127 : decode cX9_findMost 127 = .ok (.iload 7, 2) := by decide +kernel
theorem dX9_findMost_129 : decode cX9_findMost 129 = .ok (.goto 5, 3) := by decide +kernel
theorem dX9_findMost_132 : decode cX9_findMost 132 = .ok (.iload 5, 2) := by decide +kernel
theorem dX9_findMost_134 : decode cX9_findMost 134 = .ok (.istore 5, 2) := by decide +kernel
theorem dX9_findMost_136 : decode cX9_findMost 136 = .ok (.iinc 6 1, 3) := by decide +kernel
theorem dX9_findMost_139 : decode cX9_findMost 139 = .ok (.goto (-57), 3) := by decide +kernel
theorem dX9_findMost_142 : decode cX9_findMost 142 = .ok (.aload_n 0, 1) := by decide +kernel
theorem dX9_findMost_143 : decode cX9_findMost 143 = .ok (.getfield 56, 3) := by decide +kernel
theorem dX9_findMost_146 : decode cX9_findMost 146 = .ok (.sipush 15625, 3) := by decide +kernel
theorem dX9_findMost_149 : decode cX9_findMost 149 = .ok (.iload_n 3, 1) := by decide +kernel
theorem dX9_findMost_150 : decode cX9_findMost 150 = .ok (.imul, 1) := by decide +kernel
theorem dX9_findMost_151 : decode cX9_findMost 151 = .ok (.iload 4, 2) := by decide +kernel
theorem dX9_findMost_153 : decode cX9_findMost 153 = .ok (.iadd, 1) := by decide +kernel
theorem dX9_findMost_154 : decode cX9_findMost 154 = .ok (.iload 5, 2) := by decide +kernel
theorem dX9_findMost_156 : decode cX9_findMost 156 = .ok (.iastore, 1) := by decide +kernel
theorem dX9_findMost_157 : decode cX9_findMost 157 = .ok (.iinc 4 1, 3) := by decide +kernel
theorem dX9_findMost_160 : decode cX9_findMost 160 = .ok (.goto (-115), 3) := by decide +kernel
theorem dX9_findMost_163 : decode cX9_findMost 163 = .ok (.iinc 3 (-1), 3) := by decide +kernel
theorem dX9_findMost_166 : decode cX9_findMost 166 = .ok (.goto (-128), 3) := by decide +kernel
theorem dX9_findMost_169 : decode cX9_findMost 169 = .ok (.return_, 1) := by decide +kernel
set_option maxRecDepth 20000 in
theorem ggX9_match_X9_isPaper : GoodIn wsX9_match wsX9_isPaper := goodIn_r _ [8, 9, 10, 11, 7, 12, 54, 55, 56, 57, 58, 59, 60, 61, 62, 63, 64, 65, 66, 67, 68, 69, 70, 71, 72, 73] (by decide +kernel) (by decide +kernel)
set_option maxRecDepth 20000 in
theorem gX9_match_X9_isPaper : GoodIn wsX9_match (wsV RX9 86 RX9 yX9_isPaper wsX9_isPaper) := goodIn_app (goodIn_of _ (by decide +kernel)) ggX9_match_X9_isPaper
set_option maxRecDepth 20000 in
theorem ggX9_match_X9_in : GoodIn wsX9_match wsX9_in := goodIn_r _ [12] (by decide +kernel) (by decide +kernel)
set_option maxRecDepth 20000 in
theorem gX9_match_X9_in : GoodIn wsX9_match (va_wsS RX9 59 yX9_in wsX9_in) := goodIn_app (goodIn_of _ (by decide +kernel)) ggX9_match_X9_in
set_option maxRecDepth 20000 in
theorem ggX9_match_X9_findMost : GoodIn wsX9_match wsX9_findMost := goodIn_r _ [16, 3, 9, 17, 18, 19, 7, 20, 21, 22, 23, 24, 25, 26, 27, 28, 29, 30, 31, 32, 33, 34, 35, 36, 37, 38, 39, 40, 41, 42, 43, 44, 45, 46, 47, 48, 49, 50, 51, 52, 53, 54, 55, 56, 57, 58, 59, 60, 61, 62, 63, 64, 65, 66, 67, 68, 69, 70, 71, 72, 73] (by decide +kernel) (by decide +kernel)
set_option maxRecDepth 20000 in
theorem gX9_match_X9_findMost : GoodIn wsX9_match (wsV RX9 214 RX9 yX9_findMost wsX9_findMost) := goodIn_app (goodIn_of _ (by decide +kernel)) ggX9_match_X9_findMost
set_option maxRecDepth 20000 in
theorem ggX9_match_X9_bringsOf : GoodIn wsX9_match wsX9_bringsOf := goodIn_r _ [31, 3, 32, 33, 34, 7, 35, 17, 25, 26, 27, 36, 37, 38, 39, 40, 41, 42, 43, 44, 45, 21, 22, 23, 24, 46, 47, 48, 49, 50, 51, 52, 53, 54, 55, 56, 57, 58, 59, 60, 61, 62, 63, 64, 65, 66, 67, 68, 69, 70, 71, 72, 73] (by decide +kernel) (by decide +kernel)
set_option maxRecDepth 20000 in
theorem gX9_match_X9_bringsOf : GoodIn wsX9_match (wsV RX9 210 RX9 yX9_bringsOf wsX9_bringsOf) := goodIn_app (goodIn_of _ (by decide +kernel)) ggX9_match_X9_bringsOf
set_option maxRecDepth 20000 in
theorem ggX9_match_X9_loadsBy : GoodIn wsX9_match wsX9_loadsBy := goodIn_r _ [24] (by decide +kernel) (by decide +kernel)
set_option maxRecDepth 20000 in
theorem gX9_match_X9_loadsBy : GoodIn wsX9_match (wsV RX9 200 RX9 yX9_loadsBy wsX9_loadsBy) := goodIn_app (goodIn_of _ (by decide +kernel)) ggX9_match_X9_loadsBy
theorem dX9_match_0 : decode cX9_match 0 = .ok (.iload_n 3, 1) := by decide +kernel
theorem dX9_match_1 : decode cX9_match 1 = .ok (.iconst (-1), 1) := by decide +kernel
theorem dX9_match_2 : decode cX9_match 2 = .ok (.if_icmp .eq 13, 3) := by decide +kernel
theorem dX9_match_5 : decode cX9_match 5 = .ok (.aload_n 0, 1) := by decide +kernel
theorem dX9_match_6 : decode cX9_match 6 = .ok (.iload_n 3, 1) := by decide +kernel
theorem dX9_match_7 : decode cX9_match 7 = .ok (.invokevirtual 86, 3) := by decide +kernel
theorem dX9_match_10 : decode cX9_match 10 = .ok (.ifCond .ne 5, 3) := by decide +kernel
theorem dX9_match_13 : decode cX9_match 13 = .ok (.iconst (-1), 1) := by decide +kernel
theorem dX9_match_14 : decode cX9_match 14 = .ok (.ireturn, 1) := by decide +kernel
theorem dX9_match_15 : decode cX9_match 15 = .ok (.iload_n 1, 1) := by decide +kernel
theorem dX9_match_16 : decode cX9_match 16 = .ok (.i2l, 1) := by decide +kernel
theorem dX9_match_17 : decode cX9_match 17 = .ok (.lconst 1, 1) := by decide +kernel
theorem dX9_match_18 : decode cX9_match 18 = .ok (.ldc2_w 194, 3) := by decide +kernel
theorem dX9_match_21 : decode cX9_match 21 = .ok (.invokestatic 59, 3) := by decide +kernel
theorem dX9_match_24 : decode cX9_match 24 = .ok (.ifCond .eq 15, 3) := by decide +kernel
theorem dX9_match_27 : decode cX9_match 27 = .ok (.iload_n 2, 1) := by decide +kernel
theorem dX9_match_28 : decode cX9_match 28 = .ok (.i2l, 1) := by decide +kernel
theorem dX9_match_29 : decode cX9_match 29 = .ok (.lconst 1, 1) := by decide +kernel
theorem dX9_match_30 : decode cX9_match 30 = .ok (.ldc2_w 147, 3) := by decide +kernel
theorem dX9_match_33 : decode cX9_match 33 = .ok (.invokestatic 59, 3) := by decide +kernel
theorem dX9_match_36 : decode cX9_match 36 = .ok (.ifCond .ne 6, 3) := by decide +kernel
theorem dX9_match_39 : decode cX9_match 39 = .ok (.bipush (-2), 2) := by decide +kernel
theorem dX9_match_41 : decode cX9_match 41 = .ok (.ireturn, 1) := by decide +kernel
theorem dX9_match_42 : decode cX9_match 42 = .ok (.aload_n 0, 1) := by decide +kernel
theorem dX9_match_43 : decode cX9_match 43 = .ok (.iload_n 1, 1) := by decide +kernel
theorem dX9_match_44 : decode cX9_match 44 = .ok (.iload_n 2, 1) := by decide +kernel
theorem dX9_match_45 : decode cX9_match 45 = .ok (.invokevirtual 214, 3) := by decide +kernel
theorem dX9_match_48 : decode cX9_match 48 = .ok (.aload_n 0, 1) := by decide +kernel
theorem dX9_match_49 : decode cX9_match 49 = .ok (.getfield 56, 3) := by decide +kernel
theorem dX9_match_52 : decode cX9_match 52 = .ok (.iconst 0, 1) := by decide +kernel
theorem dX9_match_53 : decode cX9_match 53 = .ok (.iaload, 1) := by decide +kernel
theorem dX9_match_54 : decode cX9_match 54 = .ok (.ifCond .ge 6, 3) := by decide +kernel
theorem dX9_match_57 : decode cX9_match 57 = .ok (.bipush (-5), 2) := by decide +kernel
theorem dX9_match_59 : decode cX9_match 59 = .ok (.ireturn, 1) := by decide +kernel
theorem dX9_match_60 : decode cX9_match 60 = .ok (.iload_n 3, 1) := by decide +kernel
theorem dX9_match_61 : decode cX9_match 61 = .ok (.iconst (-1), 1) := by decide +kernel
theorem dX9_match_62 : decode cX9_match 62 = .ok (.if_icmp .ne 10, 3) := by decide +kernel
theorem dX9_match_65 : decode cX9_match 65 = .ok (.aload_n 0, 1) := by decide +kernel
theorem dX9_match_66 : decode cX9_match 66 = .ok (.getfield 56, 3) := by decide +kernel
theorem dX9_match_69 : decode cX9_match 69 = .ok (.iconst 0, 1) := by decide +kernel
theorem dX9_match_70 : decode cX9_match 70 = .ok (.iaload, 1) := by decide +kernel
theorem dX9_match_71 : decode cX9_match 71 = .ok (.ireturn, 1) := by decide +kernel
theorem dX9_match_72 : decode cX9_match 72 = .ok (.iconst 0, 1) := by decide +kernel
theorem dX9_match_73 : decode cX9_match 73 = .ok (.istore 4, 2) := by decide +kernel
theorem dX9_match_75 : decode cX9_match 75 = .ok (.iconst 0, 1) := by decide +kernel
theorem dX9_match_76 : decode cX9_match 76 = .ok (.istore 5, 2) := by decide +kernel
theorem dX9_match_78 : decode cX9_match 78 = .ok (.iconst 0, 1) := by decide +kernel
theorem dX9_match_79 : decode cX9_match 79 = .ok (.istore 6, 2) := by decide +kernel
theorem dX9_match_81 : decode cX9_match 81 = .ok (.iload 6, 2) := by decide +kernel
theorem dX9_match_83 : decode cX9_match 83 = .ok (.iload_n 3, 1) := by decide +kernel
theorem dX9_match_84 : decode cX9_match 84 = .ok (.if_icmp .gt 58, 3) := by decide +kernel
theorem dX9_match_87 : decode cX9_match 87 = .ok (.iconst 0, 1) := by decide +kernel
theorem dX9_match_88 : decode cX9_match 88 = .ok (.istore 5, 2) := by decide +kernel
theorem dX9_match_90 : decode cX9_match 90 = .ok (.aload_n 0, 1) := by decide +kernel
theorem dX9_match_91 : decode cX9_match 91 = .ok (.iload 6, 2) := by decide +kernel
theorem dX9_match_93 : decode cX9_match 93 = .ok (.iload 4, 2) := by decide +kernel
theorem dX9_match_95 : decode cX9_match 95 = .ok (.iload 5, 2) := by decide +kernel
theorem dX9_match_97 : decode cX9_match 97 = .ok (.iload_n 1, 1) := by decide +kernel
theorem dX9_match_98 : decode cX9_match 98 = .ok (.iload_n 2, 1) := by decide +kernel
theorem dX9_match_99 : decode cX9_match 99 = .ok (.invokevirtual 210, 3) := by decide +kernel
theorem dX9_match_102 : decode cX9_match 102 = .ok (.aload_n 0, 1) := by decide +kernel
theorem dX9_match_103 : decode cX9_match 103 = .ok (.getfield 56, 3) := by decide +kernel
theorem dX9_match_106 : decode cX9_match 106 = .ok (.sipush 15625, 3) := by decide +kernel
theorem dX9_match_109 : decode cX9_match 109 = .ok (.iload 6, 2) := by decide +kernel
theorem dX9_match_111 : decode cX9_match 111 = .ok (.imul, 1) := by decide +kernel
theorem dX9_match_112 : decode cX9_match 112 = .ok (.iload 4, 2) := by decide +kernel
theorem dX9_match_114 : decode cX9_match 114 = .ok (.iadd, 1) := by decide +kernel
theorem dX9_match_115 : decode cX9_match 115 = .ok (.iaload, 1) := by decide +kernel
theorem dX9_match_116 : decode cX9_match 116 = .ok (.if_icmp .eq 9, 3) := by decide +kernel
theorem dX9_match_119 : decode cX9_match 119 = .ok (.iinc 5 1, 3) := by decide +kernel
theorem dX9_match_122 : decode cX9_match 122 = .ok (.goto (-32), 3) := by decide +kernel
theorem dX9_match_125 : decode cX9_match 125 = .ok (.aload_n 0, 1) := by decide +kernel
theorem dX9_match_126 : decode cX9_match 126 = .ok (.iload 4, 2) := by decide +kernel
theorem dX9_match_128 : decode cX9_match 128 = .ok (.iload 5, 2) := by decide +kernel
theorem dX9_match_130 : decode cX9_match 130 = .ok (.iload_n 2, 1) := by decide +kernel
theorem dX9_match_131 : decode cX9_match 131 = .ok (.invokevirtual 200, 3) := by decide +kernel
theorem dX9_match_134 : decode cX9_match 134 = .ok (.istore 4, 2) := by decide +kernel
theorem dX9_match_136 : decode cX9_match 136 = .ok (.iinc 6 1, 3) := by decide +kernel
theorem dX9_match_139 : decode cX9_match 139 = .ok (.goto (-58), 3) := by decide +kernel
theorem dX9_match_142 : decode cX9_match 142 = .ok (.iload 5, 2) := by decide +kernel
theorem dX9_match_144 : decode cX9_match 144 = .ok (.ireturn, 1) := by decide +kernel
set_option maxRecDepth 20000 in
theorem ggX9_moreMarks_X9_at : GoodIn wsX9_moreMarks wsX9_at := goodIn_r _ [6] (by decide +kernel) (by decide +kernel)
set_option maxRecDepth 20000 in
theorem gX9_moreMarks_X9_at : GoodIn wsX9_moreMarks (va_wsS RX9 74 yX9_at wsX9_at) := goodIn_app (goodIn_of _ (by decide +kernel)) ggX9_moreMarks_X9_at
theorem dX9_moreMarks_0 : decode cX9_moreMarks 0 = .ok (.iconst 0, 1) := by decide +kernel
theorem dX9_moreMarks_1 : decode cX9_moreMarks 1 = .ok (.istore_n 3, 1) := by decide +kernel
theorem dX9_moreMarks_2 : decode cX9_moreMarks 2 = .ok (.iconst 0, 1) := by decide +kernel
theorem dX9_moreMarks_3 : decode cX9_moreMarks 3 = .ok (.istore 4, 2) := by decide +kernel
theorem dX9_moreMarks_5 : decode cX9_moreMarks 5 = .ok (.iconst 0, 1) := by decide +kernel
theorem dX9_moreMarks_6 : decode cX9_moreMarks 6 = .ok (.istore 5, 2) := by decide +kernel
theorem dX9_moreMarks_8 : decode cX9_moreMarks 8 = .ok (.iconst 0, 1) := by decide +kernel
theorem dX9_moreMarks_9 : decode cX9_moreMarks 9 = .ok (.istore 6, 2) := by decide +kernel
theorem dX9_moreMarks_11 : decode cX9_moreMarks 11 = .ok (.iconst 0, 1) := by decide +kernel
theorem dX9_moreMarks_12 : decode cX9_moreMarks 12 = .ok (.istore 7, 2) := by decide +kernel
theorem dX9_moreMarks_14 : decode cX9_moreMarks 14 = .ok (.iload 7, 2) := by decide +kernel
theorem dX9_moreMarks_16 : decode cX9_moreMarks 16 = .ok (.aload_n 0, 1) := by decide +kernel
theorem dX9_moreMarks_17 : decode cX9_moreMarks 17 = .ok (.getfield 63, 3) := by decide +kernel
theorem dX9_moreMarks_20 : decode cX9_moreMarks 20 = .ok (.if_icmp .ge 95, 3) := by decide +kernel
theorem dX9_moreMarks_23 : decode cX9_moreMarks 23 = .ok (.aload_n 0, 1) := by decide +kernel
theorem dX9_moreMarks_24 : decode cX9_moreMarks 24 = .ok (.getfield 34, 3) := by decide +kernel
theorem dX9_moreMarks_27 : decode cX9_moreMarks 27 = .ok (.iload 7, 2) := by decide +kernel
theorem dX9_moreMarks_29 : decode cX9_moreMarks 29 = .ok (.iload_n 1, 1) := by decide +kernel
theorem dX9_moreMarks_30 : decode cX9_moreMarks 30 = .ok (.invokestatic 74, 3) := by decide +kernel
theorem dX9_moreMarks_33 : decode cX9_moreMarks 33 = .ok (.iaload, 1) := by decide +kernel
theorem dX9_moreMarks_34 : decode cX9_moreMarks 34 = .ok (.istore 8, 2) := by decide +kernel
theorem dX9_moreMarks_36 : decode cX9_moreMarks 36 = .ok (.aload_n 0, 1) := by decide +kernel
theorem dX9_moreMarks_37 : decode cX9_moreMarks 37 = .ok (.getfield 34, 3) := by decide +kernel
theorem dX9_moreMarks_40 : decode cX9_moreMarks 40 = .ok (.iload 7, 2) := by decide +kernel
theorem dX9_moreMarks_42 : decode cX9_moreMarks 42 = .ok (.iload_n 2, 1) := by decide +kernel
theorem dX9_moreMarks_43 : decode cX9_moreMarks 43 = .ok (.invokestatic 74, 3) := by decide +kernel
theorem dX9_moreMarks_46 : decode cX9_moreMarks 46 = .ok (.iaload, 1) := by decide +kernel
theorem dX9_moreMarks_47 : decode cX9_moreMarks 47 = .ok (.istore 9, 2) := by decide +kernel
theorem dX9_moreMarks_49 : decode cX9_moreMarks 49 = .ok (.iload_n 3, 1) := by decide +kernel
theorem dX9_moreMarks_50 : decode cX9_moreMarks 50 = .ok (.iload 8, 2) := by decide +kernel
theorem dX9_moreMarks_52 : decode cX9_moreMarks 52 = .ok (.ifCond .ge 7, 3) := by decide +kernel
theorem dX9_moreMarks_55 : decode cX9_moreMarks 55 = .ok (.iconst 0, 1) := by decide +kernel
theorem dX9_moreMarks_56 : decode cX9_moreMarks 56 = .ok (.goto 5, 3) := by decide +kernel
theorem dX9_moreMarks_59 : decode cX9_moreMarks 59 = .ok (.iload 8, 2) := by decide +kernel
theorem dX9_moreMarks_61 : decode cX9_moreMarks 61 = .ok (.iadd, 1) := by decide +kernel
theorem dX9_moreMarks_62 : decode cX9_moreMarks 62 = .ok (.istore_n 3, 1) := by decide +kernel
theorem dX9_moreMarks_63 : decode cX9_moreMarks 63 = .ok (.iload 4, 2) := by decide +kernel
theorem dX9_moreMarks_65 : decode cX9_moreMarks 65 = .ok (.iload 8, 2) := by decide +kernel
theorem dX9_moreMarks_67 : decode cX9_moreMarks 67 = .ok (.ifCond .ge 7, 3) := by decide +kernel
theorem dX9_moreMarks_70 : decode cX9_moreMarks 70 = .ok (.iconst 0, 1) := by decide +kernel
theorem dX9_moreMarks_71 : decode cX9_moreMarks 71 = .ok (.goto 4, 3) := by decide +kernel
theorem dX9_moreMarks_74 : decode cX9_moreMarks 74 = .ok (.iconst 1, 1) := by decide +kernel
theorem dX9_moreMarks_75 : decode cX9_moreMarks 75 = .ok (.iadd, 1) := by decide +kernel
theorem dX9_moreMarks_76 : decode cX9_moreMarks 76 = .ok (.istore 4, 2) := by decide +kernel
theorem dX9_moreMarks_78 : decode cX9_moreMarks 78 = .ok (.iload 5, 2) := by decide +kernel
theorem dX9_moreMarks_80 : decode cX9_moreMarks 80 = .ok (.iload 9, 2) := by decide +kernel
theorem dX9_moreMarks_82 : decode cX9_moreMarks 82 = .ok (.ifCond .ge 7, 3) := by decide +kernel
theorem dX9_moreMarks_85 : decode cX9_moreMarks 85 = .ok (.iconst 0, 1) := by decide +kernel
theorem dX9_moreMarks_86 : decode cX9_moreMarks 86 = .ok (.goto 5, 3) := by decide +kernel
theorem dX9_moreMarks_89 : decode cX9_moreMarks 89 = .ok (.iload 9, 2) := by decide +kernel
theorem dX9_moreMarks_91 : decode cX9_moreMarks 91 = .ok (.iadd, 1) := by decide +kernel
theorem dX9_moreMarks_92 : decode cX9_moreMarks 92 = .ok (.istore 5, 2) := by decide +kernel
theorem dX9_moreMarks_94 : decode cX9_moreMarks 94 = .ok (.iload 6, 2) := by decide +kernel
theorem dX9_moreMarks_96 : decode cX9_moreMarks 96 = .ok (.iload 9, 2) := by decide +kernel
theorem dX9_moreMarks_98 : decode cX9_moreMarks 98 = .ok (.ifCond .ge 7, 3) := by decide +kernel
theorem dX9_moreMarks_101 : decode cX9_moreMarks 101 = .ok (.iconst 0, 1) := by decide +kernel
theorem dX9_moreMarks_102 : decode cX9_moreMarks 102 = .ok (.goto 4, 3) := by decide +kernel
theorem dX9_moreMarks_105 : decode cX9_moreMarks 105 = .ok (.iconst 1, 1) := by decide +kernel
theorem dX9_moreMarks_106 : decode cX9_moreMarks 106 = .ok (.iadd, 1) := by decide +kernel
theorem dX9_moreMarks_107 : decode cX9_moreMarks 107 = .ok (.istore 6, 2) := by decide +kernel
theorem dX9_moreMarks_109 : decode cX9_moreMarks 109 = .ok (.iinc 7 1, 3) := by decide +kernel
theorem dX9_moreMarks_112 : decode cX9_moreMarks 112 = .ok (.goto (-98), 3) := by decide +kernel
theorem dX9_moreMarks_115 : decode cX9_moreMarks 115 = .ok (.iload 4, 2) := by decide +kernel
theorem dX9_moreMarks_117 : decode cX9_moreMarks 117 = .ok (.ifCond .eq 8, 3) := by decide +kernel
theorem dX9_moreMarks_120 : decode cX9_moreMarks 120 = .ok (.iload 6, 2) := by decide +kernel
theorem dX9_moreMarks_122 : decode cX9_moreMarks 122 = .ok (.ifCond .ne 7, 3) := by decide +kernel
theorem dX9_moreMarks_125 : decode cX9_moreMarks 125 = .ok (.iconst 0, 1) := by decide +kernel
theorem dX9_moreMarks_126 : decode cX9_moreMarks 126 = .ok (.goto 13, 3) := by decide +kernel
theorem dX9_moreMarks_129 : decode cX9_moreMarks 129 = .ok (.iload_n 3, 1) := by decide +kernel
theorem dX9_moreMarks_130 : decode cX9_moreMarks 130 = .ok (.iload 6, 2) := by decide +kernel
theorem dX9_moreMarks_132 : decode cX9_moreMarks 132 = .ok (.imul, 1) := by decide +kernel
theorem dX9_moreMarks_133 : decode cX9_moreMarks 133 = .ok (.iload 5, 2) := by decide +kernel
theorem dX9_moreMarks_135 : decode cX9_moreMarks 135 = .ok (.iload 4, 2) := by decide +kernel
theorem dX9_moreMarks_137 : decode cX9_moreMarks 137 = .ok (.imul, 1) := by decide +kernel
theorem dX9_moreMarks_138 : decode cX9_moreMarks 138 = .ok (.isub, 1) := by decide +kernel
theorem dX9_moreMarks_139 : decode cX9_moreMarks 139 = .ok (.ireturn, 1) := by decide +kernel
set_option maxRecDepth 20000 in
theorem ggX9_held_X9_in : GoodIn wsX9_held wsX9_in := goodIn_r _ [6] (by decide +kernel) (by decide +kernel)
set_option maxRecDepth 20000 in
theorem gX9_held_X9_in : GoodIn wsX9_held (va_wsS RX9 59 yX9_in wsX9_in) := goodIn_app (goodIn_of _ (by decide +kernel)) ggX9_held_X9_in
set_option maxRecDepth 20000 in
theorem ggX9_held_X9_moreMarks : GoodIn wsX9_held wsX9_moreMarks := goodIn_r _ [10, 11, 12, 13, 14, 5, 15, 16, 17, 18, 19, 20, 21, 22, 23, 24, 25, 26, 27, 28, 29, 30, 31, 32, 33, 34, 35] (by decide +kernel) (by decide +kernel)
set_option maxRecDepth 20000 in
theorem gX9_held_X9_moreMarks : GoodIn wsX9_held (wsV RX9 218 RX9 yX9_moreMarks wsX9_moreMarks) := goodIn_app (goodIn_of _ (by decide +kernel)) ggX9_held_X9_moreMarks
theorem dX9_held_0 : decode cX9_held 0 = .ok (.iload_n 1, 1) := by decide +kernel
theorem dX9_held_1 : decode cX9_held 1 = .ok (.i2l, 1) := by decide +kernel
theorem dX9_held_2 : decode cX9_held 2 = .ok (.lconst 0, 1) := by decide +kernel
theorem dX9_held_3 : decode cX9_held 3 = .ok (.lconst 1, 1) := by decide +kernel
theorem dX9_held_4 : decode cX9_held 4 = .ok (.invokestatic 59, 3) := by decide +kernel
theorem dX9_held_7 : decode cX9_held 7 = .ok (.ifCond .ne 6, 3) := by decide +kernel
theorem dX9_held_10 : decode cX9_held 10 = .ok (.bipush (-2), 2) := by decide +kernel
theorem dX9_held_12 : decode cX9_held 12 = .ok (.ireturn, 1) := by decide +kernel
theorem dX9_held_13 : decode cX9_held 13 = .ok (.iconst 0, 1) := by decide +kernel
theorem dX9_held_14 : decode cX9_held 14 = .ok (.istore_n 2, 1) := by decide +kernel
theorem dX9_held_15 : decode cX9_held 15 = .ok (.iconst 0, 1) := by decide +kernel
theorem dX9_held_16 : decode cX9_held 16 = .ok (.istore_n 3, 1) := by decide +kernel
theorem dX9_held_17 : decode cX9_held 17 = .ok (.iload_n 3, 1) := by decide +kernel
theorem dX9_held_18 : decode cX9_held 18 = .ok (.aload_n 0, 1) := by decide +kernel
theorem dX9_held_19 : decode cX9_held 19 = .ok (.getfield 67, 3) := by decide +kernel
theorem dX9_held_22 : decode cX9_held 22 = .ok (.if_icmp .ge 151, 3) := by decide +kernel
theorem dX9_held_25 : decode cX9_held 25 = .ok (.iconst 0, 1) := by decide +kernel
theorem dX9_held_26 : decode cX9_held 26 = .ok (.istore 4, 2) := by decide +kernel
theorem dX9_held_28 : decode cX9_held 28 = .ok (.iload 4, 2) := by decide +kernel
theorem dX9_held_30 : decode cX9_held 30 = .ok (.iload_n 3, 1) := by decide +kernel
theorem dX9_held_31 : decode cX9_held 31 = .ok (.if_icmp .ge 136, 3) := by decide +kernel
theorem dX9_held_34 : decode cX9_held 34 = .ok (.aload_n 0, 1) := by decide +kernel
theorem dX9_held_35 : decode cX9_held 35 = .ok (.getfield 31, 3) := by decide +kernel
theorem dX9_held_38 : decode cX9_held 38 = .ok (.iload_n 3, 1) := by decide +kernel
theorem dX9_held_39 : decode cX9_held 39 = .ok (.iaload, 1) := by decide +kernel
theorem dX9_held_40 : decode cX9_held 40 = .ok (.ifCond .lt 13, 3) := by decide +kernel
theorem dX9_held_43 : decode cX9_held 43 = .ok (.aload_n 0, 1) := by decide +kernel
theorem dX9_held_44 : decode cX9_held 44 = .ok (.getfield 31, 3) := by decide +kernel
theorem dX9_held_47 : decode cX9_held 47 = .ok (.iload 4, 2) := by decide +kernel
theorem dX9_held_49 : decode cX9_held 49 = .ok (.iaload, 1) := by decide +kernel
theorem dX9_held_50 : decode cX9_held 50 = .ok (.ifCond .ge 7, 3) := by decide +kernel
theorem dX9_held_53 : decode cX9_held 53 = .ok (.iconst 0, 1) := by decide +kernel
theorem dX9_held_54 : decode cX9_held 54 = .ok (.goto 17, 3) := by decide +kernel
theorem dX9_held_57 : decode cX9_held 57 = .ok (.aload_n 0, 1) := by decide +kernel
theorem dX9_held_58 : decode cX9_held 58 = .ok (.getfield 31, 3) := by decide +kernel
theorem dX9_held_61 : decode cX9_held 61 = .ok (.iload_n 3, 1) := by decide +kernel
theorem dX9_held_62 : decode cX9_held 62 = .ok (.iaload, 1) := by decide +kernel
theorem dX9_held_63 : decode cX9_held 63 = .ok (.aload_n 0, 1) := by decide +kernel
theorem dX9_held_64 : decode cX9_held 64 = .ok (.getfield 31, 3) := by decide +kernel
theorem dX9_held_67 : decode cX9_held 67 = .ok (.iload 4, 2) := by decide +kernel
theorem dX9_held_69 : decode cX9_held 69 = .ok (.iaload, 1) := by decide +kernel
theorem dX9_held_70 : decode cX9_held 70 = .ok (.isub, 1) := by decide +kernel
theorem dX9_held_71 : decode cX9_held 71 = .ok (.istore 5, 2) := by decide +kernel
theorem dX9_held_73 : decode cX9_held 73 = .ok (.aload_n 0, 1) := by decide +kernel
theorem dX9_held_74 : decode cX9_held 74 = .ok (.iload_n 3, 1) := by decide +kernel
theorem dX9_held_75 : decode cX9_held 75 = .ok (.iload 4, 2) := by decide +kernel
theorem dX9_held_77 : decode cX9_held 77 = .ok (.invokevirtual 218, 3) := by decide +kernel
theorem dX9_held_80 : decode cX9_held 80 = .ok (.istore 6, 2) := by decide +kernel
theorem dX9_held_82 : decode cX9_held 82 = .ok (.iload 5, 2) := by decide +kernel
theorem dX9_held_84 : decode cX9_held 84 = .ok (.ifCond .le 8, 3) := by decide +kernel
theorem dX9_held_87 : decode cX9_held 87 = .ok (.iload 6, 2) := by decide +kernel
theorem dX9_held_89 : decode cX9_held 89 = .ok (.ifCond .gt 13, 3) := by decide +kernel
theorem dX9_held_92 : decode cX9_held 92 = .ok (.iload 5, 2) := by decide +kernel
theorem dX9_held_94 : decode cX9_held 94 = .ok (.ifCond .ge 12, 3) := by decide +kernel
theorem dX9_held_97 : decode cX9_held 97 = .ok (.iload 6, 2) := by decide +kernel
theorem dX9_held_99 : decode cX9_held 99 = .ok (.ifCond .ge 7, 3) := by decide +kernel
theorem dX9_held_102 : decode cX9_held 102 = .ok (.iconst 1, 1) := by decide +kernel
theorem dX9_held_103 : decode cX9_held 103 = .ok (.goto 4, 3) := by decide +kernel
theorem dX9_held_106 : decode cX9_held 106 = .ok (.iconst 0, 1) := by decide +kernel
theorem dX9_held_107 : decode cX9_held 107 = .ok (.istore 7, 2) := by decide +kernel
theorem dX9_held_109 : decode cX9_held 109 = .ok (.iload 5, 2) := by decide +kernel
theorem dX9_held_111 : decode cX9_held 111 = .ok (.ifCond .le 8, 3) := by decide +kernel
theorem dX9_held_114 : decode cX9_held 114 = .ok (.iload 6, 2) := by decide +kernel
theorem dX9_held_116 : decode cX9_held 116 = .ok (.ifCond .lt 13, 3) := by decide +kernel
theorem dX9_held_119 : decode cX9_held 119 = .ok (.iload 5, 2) := by decide +kernel
theorem dX9_held_121 : decode cX9_held 121 = .ok (.ifCond .ge 12, 3) := by decide +kernel
theorem dX9_held_124 : decode cX9_held 124 = .ok (.iload 6, 2) := by decide +kernel
theorem dX9_held_126 : decode cX9_held 126 = .ok (.ifCond .le 7, 3) := by decide +kernel
theorem dX9_held_129 : decode cX9_held 129 = .ok (.iconst 1, 1) := by decide +kernel
theorem dX9_held_130 : decode cX9_held 130 = .ok (.goto 4, 3) := by decide +kernel
theorem dX9_held_133 : decode cX9_held 133 = .ok (.iconst 0, 1) := by decide +kernel
theorem dX9_held_134 : decode cX9_held 134 = .ok (.istore 8, 2) := by decide +kernel
theorem dX9_held_136 : decode cX9_held 136 = .ok (.iload_n 2, 1) := by decide +kernel
theorem dX9_held_137 : decode cX9_held 137 = .ok (.iload_n 1, 1) := by decide +kernel
theorem dX9_held_138 : decode cX9_held 138 = .ok (.ifCond .ne 11, 3) := by decide +kernel
theorem dX9_held_141 : decode cX9_held 141 = .ok (.iload 7, 2) := by decide +kernel
theorem dX9_held_143 : decode cX9_held 143 = .ok (.ifCond .eq 15, 3) := by decide +kernel
theorem dX9_held_146 : decode cX9_held 146 = .ok (.goto 8, 3) := by decide +kernel
theorem dX9_held_149 : decode cX9_held 149 = .ok (.iload 8, 2) := by decide +kernel
theorem dX9_held_151 : decode cX9_held 151 = .ok (.ifCond .eq 7, 3) := by decide +kernel
theorem dX9_held_154 : decode cX9_held 154 = .ok (.iconst 1, 1) := by decide +kernel
theorem dX9_held_155 : decode cX9_held 155 = .ok (.goto 4, 3) := by decide +kernel
theorem dX9_held_158 : decode cX9_held 158 = .ok (.iconst 0, 1) := by decide +kernel
theorem dX9_held_159 : decode cX9_held 159 = .ok (.iadd, 1) := by decide +kernel
theorem dX9_held_160 : decode cX9_held 160 = .ok (.istore_n 2, 1) := by decide +kernel
theorem dX9_held_161 : decode cX9_held 161 = .ok (.iinc 4 1, 3) := by decide +kernel
theorem dX9_held_164 : decode cX9_held 164 = .ok (.goto (-136), 3) := by decide +kernel
theorem dX9_held_167 : decode cX9_held 167 = .ok (.iinc 3 1, 3) := by decide +kernel
theorem dX9_held_170 : decode cX9_held 170 = .ok (.goto (-153), 3) := by decide +kernel
theorem dX9_held_173 : decode cX9_held 173 = .ok (.iload_n 2, 1) := by decide +kernel
theorem dX9_held_174 : decode cX9_held 174 = .ok (.ireturn, 1) := by decide +kernel
set_option maxRecDepth 20000 in
theorem ggX9_told_X9_at : GoodIn wsX9_told wsX9_at := goodIn_r _ [9] (by decide +kernel) (by decide +kernel)
set_option maxRecDepth 20000 in
theorem gX9_told_X9_at : GoodIn wsX9_told (va_wsS RX9 74 yX9_at wsX9_at) := goodIn_app (goodIn_of _ (by decide +kernel)) ggX9_told_X9_at
theorem dX9_told_0 : decode cX9_told 0 = .ok (.iconst 0, 1) := by decide +kernel
