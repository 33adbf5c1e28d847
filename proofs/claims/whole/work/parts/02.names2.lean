theorem dX8_rounds_44 : decode cX8_rounds 44 = .ok (.getfield 19, 3) := by decide +kernel
theorem dX8_rounds_47 : decode cX8_rounds 47 = .ok (.iload_n 1, 1) := by decide +kernel
theorem dX8_rounds_48 : decode cX8_rounds 48 = .ok (.invokevirtual 82, 3) := by decide +kernel
theorem dX8_rounds_51 : decode cX8_rounds 51 = .ok (.iload 6, 2) := by decide +kernel
theorem dX8_rounds_53 : decode cX8_rounds 53 = .ok (.invokevirtual 140, 3) := by decide +kernel
theorem dX8_rounds_56 : decode cX8_rounds 56 = .ok (.istore 7, 2) := by decide +kernel
theorem dX8_rounds_58 : decode cX8_rounds 58 = .ok (.iload 7, 2) := by decide +kernel
theorem dX8_rounds_60 : decode cX8_rounds 60 = .ok (.ifCond .eq 11, 3) := by decide +kernel
theorem dX8_rounds_63 : decode cX8_rounds 63 = .ok (.ldc2_w 144, 3) := by decide +kernel
theorem dX8_rounds_66 : decode cX8_rounds 66 = .ok (.iload 7, 2) := by decide +kernel
theorem dX8_rounds_68 : decode cX8_rounds 68 = .ok (.i2l, 1) := by decide +kernel
theorem dX8_rounds_69 : decode cX8_rounds 69 = .ok (.ladd, 1) := by decide +kernel
theorem dX8_rounds_70 : decode cX8_rounds 70 = .ok (.lreturn, 1) := by decide +kernel
theorem dX8_rounds_71 : decode cX8_rounds 71 = .ok (.ldc2_w 150, 3) := by decide +kernel
theorem dX8_rounds_74 : decode cX8_rounds 74 = .ok (.aload_n 0, 1) := by decide +kernel
theorem dX8_rounds_75 : decode cX8_rounds 75 = .ok (.getfield 49, 3) := by decide +kernel
theorem dX8_rounds_78 : decode cX8_rounds 78 = .ok (.iload_n 1, 1) := by decide +kernel
theorem dX8_rounds_79 : decode cX8_rounds 79 = .ok (.iload_n 2, 1) := by decide +kernel
theorem dX8_rounds_80 : decode cX8_rounds 80 = .ok (.invokevirtual 146, 3) := by decide +kernel
theorem dX8_rounds_83 : decode cX8_rounds 83 = .ok (.lsub, 1) := by decide +kernel
theorem dX8_rounds_84 : decode cX8_rounds 84 = .ok (.lstore 8, 2) := by decide +kernel
theorem dX8_rounds_86 : decode cX8_rounds 86 = .ok (.iload 4, 2) := by decide +kernel
theorem dX8_rounds_88 : decode cX8_rounds 88 = .ok (.ifCond .ne 29, 3) := by decide +kernel
theorem dX8_rounds_91 : decode cX8_rounds 91 = .ok (.ldc2_w 150, 3) := by decide +kernel
theorem dX8_rounds_94 : decode cX8_rounds 94 = .ok (.iload_n 3, 1) := by decide +kernel
theorem dX8_rounds_95 : decode cX8_rounds 95 = .ok (.invokestatic 168, 3) := by decide +kernel
theorem dX8_rounds_98 : decode cX8_rounds 98 = .ok (.lstore 10, 2) := by decide +kernel
theorem dX8_rounds_100 : decode cX8_rounds 100 = .ok (.lload 10, 2) := by decide +kernel
theorem dX8_rounds_102 : decode cX8_rounds 102 = .ok (.lload 8, 2) := by decide +kernel
theorem dX8_rounds_104 : decode cX8_rounds 104 = .ok (.iload_n 3, 1) := by decide +kernel
theorem dX8_rounds_105 : decode cX8_rounds 105 = .ok (.invokestatic 168, 3) := by decide +kernel
theorem dX8_rounds_108 : decode cX8_rounds 108 = .ok (.lsub, 1) := by decide +kernel
theorem dX8_rounds_109 : decode cX8_rounds 109 = .ok (.lload 10, 2) := by decide +kernel
theorem dX8_rounds_111 : decode cX8_rounds 111 = .ok (.iload 5, 2) := by decide +kernel
theorem dX8_rounds_113 : decode cX8_rounds 113 = .ok (.invokestatic 152, 3) := by decide +kernel
theorem dX8_rounds_116 : decode cX8_rounds 116 = .ok (.lreturn, 1) := by decide +kernel
theorem dX8_rounds_117 : decode cX8_rounds 117 = .ok (.lconst 0, 1) := by decide +kernel
theorem dX8_rounds_118 : decode cX8_rounds 118 = .ok (.lstore 10, 2) := by decide +kernel
theorem dX8_rounds_120 : decode cX8_rounds 120 = .ok (.iconst 0, 1) := by decide +kernel
theorem dX8_rounds_121 : decode cX8_rounds 121 = .ok (.istore 12, 2) := by decide +kernel
theorem dX8_rounds_123 : decode cX8_rounds 123 = .ok (.iload 12, 2) := by decide +kernel
theorem dX8_rounds_125 : decode cX8_rounds 125 = .ok (.iload_n 3, 1) := by decide +kernel
theorem dX8_rounds_126 : decode cX8_rounds 126 = .ok (.if_icmp .ge 34, 3) := by decide +kernel
theorem dX8_rounds_129 : decode cX8_rounds 129 = .ok (.lload 10, 2) := by decide +kernel
theorem dX8_rounds_131 : decode cX8_rounds 131 = .ok (.lload 8, 2) := by decide +kernel
theorem dX8_rounds_133 : decode cX8_rounds 133 = .ok (.iload 12, 2) := by decide +kernel
theorem dX8_rounds_135 : decode cX8_rounds 135 = .ok (.invokestatic 168, 3) := by decide +kernel
theorem dX8_rounds_138 : decode cX8_rounds 138 = .ok (.ldc2_w 150, 3) := by decide +kernel
theorem dX8_rounds_141 : decode cX8_rounds 141 = .ok (.iload_n 3, 1) := by decide +kernel
theorem dX8_rounds_142 : decode cX8_rounds 142 = .ok (.iconst 1, 1) := by decide +kernel
theorem dX8_rounds_143 : decode cX8_rounds 143 = .ok (.isub, 1) := by decide +kernel
theorem dX8_rounds_144 : decode cX8_rounds 144 = .ok (.iload 12, 2) := by decide +kernel
theorem dX8_rounds_146 : decode cX8_rounds 146 = .ok (.isub, 1) := by decide +kernel
theorem dX8_rounds_147 : decode cX8_rounds 147 = .ok (.invokestatic 168, 3) := by decide +kernel
theorem dX8_rounds_150 : decode cX8_rounds 150 = .ok (.lmul, 1) := by decide +kernel
theorem dX8_rounds_151 : decode cX8_rounds 151 = .ok (.ladd, 1) := by decide +kernel
theorem dX8_rounds_152 : decode cX8_rounds 152 = .ok (.lstore 10, 2) := by decide +kernel
theorem dX8_rounds_154 : decode cX8_rounds 154 = .ok (.iinc 12 1, 3) := by decide +kernel
theorem dX8_rounds_157 : decode cX8_rounds 157 = .ok (.goto (-34), 3) := by decide +kernel
theorem dX8_rounds_160 : decode cX8_rounds 160 = .ok (.aload_n 0, 1) := by decide +kernel
theorem dX8_rounds_161 : decode cX8_rounds 161 = .ok (.getfield 19, 3) := by decide +kernel
theorem dX8_rounds_164 : decode cX8_rounds 164 = .ok (.iload_n 1, 1) := by decide +kernel
theorem dX8_rounds_165 : decode cX8_rounds 165 = .ok (.iload_n 2, 1) := by decide +kernel
theorem dX8_rounds_166 : decode cX8_rounds 166 = .ok (.invokevirtual 172, 3) := by decide +kernel
theorem dX8_rounds_169 : decode cX8_rounds 169 = .ok (.invokestatic 175, 3) := by decide +kernel
theorem dX8_rounds_172 : decode cX8_rounds 172 = .ok (.istore 12, 2) := by decide +kernel
theorem dX8_rounds_174 : decode cX8_rounds 174 = .ok (.iload 12, 2) := by decide +kernel
theorem dX8_rounds_176 : decode cX8_rounds 176 = .ok (.i2l, 1) := by decide +kernel
theorem dX8_rounds_177 : decode cX8_rounds 177 = .ok (.lload 10, 2) := by decide +kernel
theorem dX8_rounds_179 : decode cX8_rounds 179 = .ok (.lmul, 1) := by decide +kernel
theorem dX8_rounds_180 : decode cX8_rounds 180 = .ok (.ldc2_w 150, 3) := by decide +kernel
theorem dX8_rounds_183 : decode cX8_rounds 183 = .ok (.iload_n 3, 1) := by decide +kernel
theorem dX8_rounds_184 : decode cX8_rounds 184 = .ok (.iconst 1, 1) := by decide +kernel
theorem dX8_rounds_185 : decode cX8_rounds 185 = .ok (.isub, 1) := by decide +kernel
theorem dX8_rounds_186 : decode cX8_rounds 186 = .ok (.invokestatic 168, 3) := by decide +kernel
theorem dX8_rounds_189 : decode cX8_rounds 189 = .ok (.iload 5, 2) := by decide +kernel
theorem dX8_rounds_191 : decode cX8_rounds 191 = .ok (.invokestatic 152, 3) := by decide +kernel
theorem dX8_rounds_194 : decode cX8_rounds 194 = .ok (.lreturn, 1) := by decide +kernel
set_option maxRecDepth 20000 in
theorem ggX8_worth_X4_has : GoodIn wsX8_worth wsX4_has := goodIn_r _ [10, 11, 82, 83, 84, 85, 86, 87] (by decide +kernel) (by decide +kernel)
set_option maxRecDepth 20000 in
theorem gX8_worth_X4_has : GoodIn wsX8_worth (wsV RX8 82 RX4 yX4_has wsX4_has) := goodIn_app (goodIn_of _ (by decide +kernel)) ggX8_worth_X4_has
set_option maxRecDepth 20000 in
theorem ggX8_worth_X8_within : GoodIn wsX8_worth wsX8_within := goodIn_r _ [15] (by decide +kernel) (by decide +kernel)
set_option maxRecDepth 20000 in
theorem gX8_worth_X8_within : GoodIn wsX8_worth (va_wsS RX8 62 yX8_within wsX8_within) := goodIn_app (goodIn_of _ (by decide +kernel)) ggX8_worth_X8_within
set_option maxRecDepth 20000 in
theorem ggX8_worth_X8_isPart : GoodIn wsX8_worth wsX8_isPart := goodIn_r _ [18, 12, 13, 14, 15] (by decide +kernel) (by decide +kernel)
set_option maxRecDepth 20000 in
theorem gX8_worth_X8_isPart : GoodIn wsX8_worth (va_wsS RX8 137 yX8_isPart wsX8_isPart) := goodIn_app (goodIn_of _ (by decide +kernel)) ggX8_worth_X8_isPart
set_option maxRecDepth 20000 in
theorem ggX8_worth_X3_waysOfMarks : GoodIn wsX8_worth wsX3_waysOfMarks := goodIn_r _ [23, 24, 25, 26, 27, 28, 29, 30, 31, 32, 33, 34, 35, 36, 37, 38, 39, 22, 40, 41, 42, 43, 44, 45, 46, 47, 48, 49, 50, 51, 52, 53, 54, 55, 56, 57, 58, 59, 60, 61, 62, 63, 64, 65, 88, 89, 90, 91, 92, 93, 94, 95, 96, 97, 98, 99, 82, 83, 84, 85, 86, 87] (by decide +kernel) (by decide +kernel)
set_option maxRecDepth 20000 in
theorem gX8_worth_X3_waysOfMarks : GoodIn wsX8_worth (wsV RX8 184 RX3 yX3_waysOfMarks wsX3_waysOfMarks) := goodIn_app (goodIn_of _ (by decide +kernel)) ggX8_worth_X3_waysOfMarks
set_option maxRecDepth 20000 in
theorem ggX8_worth_X8_tell : GoodIn wsX8_worth wsX8_tell := goodIn_r _ [68, 69, 70, 61, 71, 72, 73, 14, 74] (by decide +kernel) (by decide +kernel)
set_option maxRecDepth 20000 in
theorem gX8_worth_X8_tell : GoodIn wsX8_worth (va_wsS RX8 152 yX8_tell wsX8_tell) := goodIn_app (goodIn_of _ (by decide +kernel)) ggX8_worth_X8_tell
theorem dX8_worth_0 : decode cX8_worth 0 = .ok (.aload_n 0, 1) := by decide +kernel
theorem dX8_worth_1 : decode cX8_worth 1 = .ok (.getfield 19, 3) := by decide +kernel
theorem dX8_worth_4 : decode cX8_worth 4 = .ok (.iload_n 1, 1) := by decide +kernel
theorem dX8_worth_5 : decode cX8_worth 5 = .ok (.invokevirtual 82, 3) := by decide +kernel
theorem dX8_worth_8 : decode cX8_worth 8 = .ok (.ifCond .ne 7, 3) := by decide +kernel
theorem dX8_worth_11 : decode cX8_worth 11 = .ok (.ldc2_w 180, 3) := by decide +kernel
theorem dX8_worth_14 : decode cX8_worth 14 = .ok (.lreturn, 1) := by decide +kernel
theorem dX8_worth_15 : decode cX8_worth 15 = .ok (.iload_n 2, 1) := by decide +kernel
theorem dX8_worth_16 : decode cX8_worth 16 = .ok (.iconst 0, 1) := by decide +kernel
theorem dX8_worth_17 : decode cX8_worth 17 = .ok (.iconst 5, 1) := by decide +kernel
theorem dX8_worth_18 : decode cX8_worth 18 = .ok (.invokestatic 62, 3) := by decide +kernel
theorem dX8_worth_21 : decode cX8_worth 21 = .ok (.ifCond .eq 10, 3) := by decide +kernel
theorem dX8_worth_24 : decode cX8_worth 24 = .ok (.iload_n 3, 1) := by decide +kernel
theorem dX8_worth_25 : decode cX8_worth 25 = .ok (.invokestatic 137, 3) := by decide +kernel
theorem dX8_worth_28 : decode cX8_worth 28 = .ok (.ifCond .ne 7, 3) := by decide +kernel
theorem dX8_worth_31 : decode cX8_worth 31 = .ok (.ldc2_w 182, 3) := by decide +kernel
theorem dX8_worth_34 : decode cX8_worth 34 = .ok (.lreturn, 1) := by decide +kernel
theorem dX8_worth_35 : decode cX8_worth 35 = .ok (.lconst 0, 1) := by decide +kernel
theorem dX8_worth_36 : decode cX8_worth 36 = .ok (.lstore 4, 2) := by decide +kernel
theorem dX8_worth_38 : decode cX8_worth 38 = .ok (.iconst 0, 1) := by decide +kernel
theorem dX8_worth_39 : decode cX8_worth 39 = .ok (.istore 6, 2) := by decide +kernel
theorem dX8_worth_41 : decode cX8_worth 41 = .ok (.iload 6, 2) := by decide +kernel
theorem dX8_worth_43 : decode cX8_worth 43 = .ok (.iconst 5, 1) := by decide +kernel
theorem dX8_worth_44 : decode cX8_worth 44 = .ok (.if_icmp .gt 28, 3) := by decide +kernel
theorem dX8_worth_47 : decode cX8_worth 47 = .ok (.lload 4, 2) := by decide +kernel
theorem dX8_worth_49 : decode cX8_worth 49 = .ok (.aload_n 0, 1) := by decide +kernel
theorem dX8_worth_50 : decode cX8_worth 50 = .ok (.getfield 49, 3) := by decide +kernel
theorem dX8_worth_53 : decode cX8_worth 53 = .ok (.aload_n 0, 1) := by decide +kernel
theorem dX8_worth_54 : decode cX8_worth 54 = .ok (.getfield 26, 3) := by decide +kernel
theorem dX8_worth_57 : decode cX8_worth 57 = .ok (.iload_n 1, 1) := by decide +kernel
theorem dX8_worth_58 : decode cX8_worth 58 = .ok (.iload 6, 2) := by decide +kernel
theorem dX8_worth_60 : decode cX8_worth 60 = .ok (.invokevirtual 184, 3) := by decide +kernel
theorem dX8_worth_63 : decode cX8_worth 63 = .ok (.ladd, 1) := by decide +kernel
theorem dX8_worth_64 : decode cX8_worth 64 = .ok (.lstore 4, 2) := by decide +kernel
theorem dX8_worth_66 : decode cX8_worth 66 = .ok (.iinc 6 1, 3) := by decide +kernel
theorem dX8_worth_69 : decode cX8_worth 69 = .ok (.goto (-28), 3) := by decide +kernel
theorem dX8_worth_72 : decode cX8_worth 72 = .ok (.aload_n 0, 1) := by decide +kernel
theorem dX8_worth_73 : decode cX8_worth 73 = .ok (.getfield 49, 3) := by decide +kernel
theorem dX8_worth_76 : decode cX8_worth 76 = .ok (.aload_n 0, 1) := by decide +kernel
theorem dX8_worth_77 : decode cX8_worth 77 = .ok (.getfield 26, 3) := by decide +kernel
theorem dX8_worth_80 : decode cX8_worth 80 = .ok (.iload_n 1, 1) := by decide +kernel
theorem dX8_worth_81 : decode cX8_worth 81 = .ok (.iload_n 2, 1) := by decide +kernel
theorem dX8_worth_82 : decode cX8_worth 82 = .ok (.invokevirtual 184, 3) := by decide +kernel
theorem dX8_worth_85 : decode cX8_worth 85 = .ok (.lload 4, 2) := by decide +kernel
theorem dX8_worth_87 : decode cX8_worth 87 = .ok (.iload_n 3, 1) := by decide +kernel
theorem dX8_worth_88 : decode cX8_worth 88 = .ok (.invokestatic 152, 3) := by decide +kernel
theorem dX8_worth_91 : decode cX8_worth 91 = .ok (.lreturn, 1) := by decide +kernel
set_option maxRecDepth 20000 in
theorem ggX8_joined_X0_has : GoodIn wsX8_joined wsX0_has := goodIn_r _ [7, 8, 34, 35, 36, 37, 38] (by decide +kernel) (by decide +kernel)
set_option maxRecDepth 20000 in
theorem gX8_joined_X0_has : GoodIn wsX8_joined (wsV RX8 70 RX0 yX0_has wsX0_has) := goodIn_app (goodIn_of _ (by decide +kernel)) ggX8_joined_X0_has
set_option maxRecDepth 20000 in
theorem ggX8_joined_X1_joinedWith : GoodIn wsX8_joined wsX1_joinedWith := goodIn_r _ [13, 14, 15, 16, 12, 17, 18, 19, 20, 21, 22, 23, 24, 25, 26, 39, 40] (by decide +kernel) (by decide +kernel)
set_option maxRecDepth 20000 in
theorem gX8_joined_X1_joinedWith : GoodIn wsX8_joined (wsV RX8 188 RX1 yX1_joinedWith wsX1_joinedWith) := goodIn_app (goodIn_of _ (by decide +kernel)) ggX8_joined_X1_joinedWith
theorem dX8_joined_0 : decode cX8_joined 0 = .ok (.aload_n 0, 1) := by decide +kernel
theorem dX8_joined_1 : decode cX8_joined 1 = .ok (.getfield 10, 3) := by decide +kernel
theorem dX8_joined_4 : decode cX8_joined 4 = .ok (.iload_n 1, 1) := by decide +kernel
theorem dX8_joined_5 : decode cX8_joined 5 = .ok (.invokevirtual 70, 3) := by decide +kernel
theorem dX8_joined_8 : decode cX8_joined 8 = .ok (.ifCond .eq 14, 3) := by decide +kernel
theorem dX8_joined_11 : decode cX8_joined 11 = .ok (.aload_n 0, 1) := by decide +kernel
theorem dX8_joined_12 : decode cX8_joined 12 = .ok (.getfield 26, 3) := by decide +kernel
theorem dX8_joined_15 : decode cX8_joined 15 = .ok (.iload_n 1, 1) := by decide +kernel
theorem dX8_joined_16 : decode cX8_joined 16 = .ok (.invokevirtual 188, 3) := by decide +kernel
theorem dX8_joined_19 : decode cX8_joined 19 = .ok (.goto 4, 3) := by decide +kernel
theorem dX8_joined_22 : decode cX8_joined 22 = .ok (.iconst (-1), 1) := by decide +kernel
theorem dX8_joined_23 : decode cX8_joined 23 = .ok (.ireturn, 1) := by decide +kernel
set_option maxRecDepth 20000 in
theorem ggX8_parts_X1_joinedWith : GoodIn wsX8_parts wsX1_joinedWith := goodIn_r _ [8, 9, 10, 11, 7, 12, 13, 14, 15, 16, 17, 18, 19, 20, 21, 34, 35] (by decide +kernel) (by decide +kernel)
set_option maxRecDepth 20000 in
theorem gX8_parts_X1_joinedWith : GoodIn wsX8_parts (wsV RX8 188 RX1 yX1_joinedWith wsX1_joinedWith) := goodIn_app (goodIn_of _ (by decide +kernel)) ggX8_parts_X1_joinedWith
theorem dX8_parts_0 : decode cX8_parts 0 = .ok (.iconst 0, 1) := by decide +kernel
theorem dX8_parts_1 : decode cX8_parts 1 = .ok (.istore_n 1, 1) := by decide +kernel
theorem dX8_parts_2 : decode cX8_parts 2 = .ok (.iconst 0, 1) := by decide +kernel
theorem dX8_parts_3 : decode cX8_parts 3 = .ok (.istore_n 2, 1) := by decide +kernel
theorem dX8_parts_4 : decode cX8_parts 4 = .ok (.iload_n 2, 1) := by decide +kernel
theorem dX8_parts_5 : decode cX8_parts 5 = .ok (.aload_n 0, 1) := by decide +kernel
theorem dX8_parts_6 : decode cX8_parts 6 = .ok (.getfield 10, 3) := by decide +kernel
theorem dX8_parts_9 : decode cX8_parts 9 = .ok (.getfield 191, 3) := by decide +kernel
theorem dX8_parts_12 : decode cX8_parts 12 = .ok (.if_icmp .ge 31, 3) := by decide +kernel
theorem dX8_parts_15 : decode cX8_parts 15 = .ok (.aload_n 0, 1) := by decide +kernel
theorem dX8_parts_16 : decode cX8_parts 16 = .ok (.getfield 26, 3) := by decide +kernel
theorem dX8_parts_19 : decode cX8_parts 19 = .ok (.iload_n 2, 1) := by decide +kernel
theorem dX8_parts_20 : decode cX8_parts 20 = .ok (.invokevirtual 188, 3) := by decide +kernel
theorem dX8_parts_23 : decode cX8_parts 23 = .ok (.istore_n 3, 1) := by decide +kernel
theorem dX8_parts_24 : decode cX8_parts 24 = .ok (.iload_n 3, 1) := by decide +kernel
theorem dX8_parts_25 : decode cX8_parts 25 = .ok (.iload_n 3, 1) := by decide +kernel
theorem dX8_parts_26 : decode cX8_parts 26 = .ok (.ineg, 1) := by decide +kernel
theorem dX8_parts_27 : decode cX8_parts 27 = .ok (.iand, 1) := by decide +kernel
theorem dX8_parts_28 : decode cX8_parts 28 = .ok (.iconst 1, 1) := by decide +kernel
theorem dX8_parts_29 : decode cX8_parts 29 = .ok (.iload_n 2, 1) := by decide +kernel
theorem dX8_parts_30 : decode cX8_parts 30 = .ok (.ishl, 1) := by decide +kernel
theorem dX8_parts_31 : decode cX8_parts 31 = .ok (.if_icmp .ne 6, 3) := by decide +kernel
theorem dX8_parts_34 : decode cX8_parts 34 = .ok (.iinc 1 1, 3) := by decide +kernel
theorem dX8_parts_37 : decode cX8_parts 37 = .ok (.iinc 2 1, 3) := by decide +kernel
theorem dX8_parts_40 : decode cX8_parts 40 = .ok (.goto (-36), 3) := by decide +kernel
theorem dX8_parts_43 : decode cX8_parts 43 = .ok (.iload_n 1, 1) := by decide +kernel
theorem dX8_parts_44 : decode cX8_parts 44 = .ok (.ireturn, 1) := by decide +kernel
set_option maxRecDepth 20000 in
theorem ggX8_harsh_X0_has : GoodIn wsX8_harsh wsX0_has := goodIn_r _ [12, 13, 81, 82, 83, 84, 85] (by decide +kernel) (by decide +kernel)
set_option maxRecDepth 20000 in
theorem gX8_harsh_X0_has : GoodIn wsX8_harsh (wsV RX8 70 RX0 yX0_has wsX0_has) := goodIn_app (goodIn_of _ (by decide +kernel)) ggX8_harsh_X0_has
set_option maxRecDepth 20000 in
theorem ggX8_harsh_X8_isPart : GoodIn wsX8_harsh wsX8_isPart := goodIn_r _ [17, 18, 19, 16, 20] (by decide +kernel) (by decide +kernel)
set_option maxRecDepth 20000 in
theorem gX8_harsh_X8_isPart : GoodIn wsX8_harsh (va_wsS RX8 137 yX8_isPart wsX8_isPart) := goodIn_app (goodIn_of _ (by decide +kernel)) ggX8_harsh_X8_isPart
set_option maxRecDepth 20000 in
theorem ggX8_harsh_X1_comparable : GoodIn wsX8_harsh wsX1_comparable := goodIn_r _ [25, 26, 27, 28, 24, 29, 30, 31, 32, 33, 34, 35, 36, 37, 38, 39, 40, 41, 42, 43, 44, 45, 46, 47, 48, 49, 86, 87] (by decide +kernel) (by decide +kernel)
set_option maxRecDepth 20000 in
theorem gX8_harsh_X1_comparable : GoodIn wsX8_harsh (wsV RX8 193 RX1 yX1_comparable wsX1_comparable) := goodIn_app (goodIn_of _ (by decide +kernel)) ggX8_harsh_X1_comparable
set_option maxRecDepth 20000 in
theorem ggX8_harsh_X1_aboveOthers : GoodIn wsX8_harsh wsX1_aboveOthers := goodIn_r _ [53, 35, 36, 37, 24, 38, 39, 40, 41, 42, 26, 27, 28, 29, 30, 31, 32, 33, 34, 43, 44, 45, 46, 47, 48, 49, 54, 55, 56, 57, 86, 87] (by decide +kernel) (by decide +kernel)
set_option maxRecDepth 20000 in
theorem gX8_harsh_X1_aboveOthers : GoodIn wsX8_harsh (wsV RX8 196 RX1 yX1_aboveOthers wsX1_aboveOthers) := goodIn_app (goodIn_of _ (by decide +kernel)) ggX8_harsh_X1_aboveOthers
set_option maxRecDepth 20000 in
theorem ggX8_harsh_X8_tell : GoodIn wsX8_harsh wsX8_tell := goodIn_r _ [60, 61, 62, 63, 64, 65, 66, 16, 67] (by decide +kernel) (by decide +kernel)
set_option maxRecDepth 20000 in
theorem gX8_harsh_X8_tell : GoodIn wsX8_harsh (va_wsS RX8 152 yX8_tell wsX8_tell) := goodIn_app (goodIn_of _ (by decide +kernel)) ggX8_harsh_X8_tell
theorem dX8_harsh_0 : decode cX8_harsh 0 = .ok (.aload_n 0, 1) := by decide +kernel
theorem dX8_harsh_1 : decode cX8_harsh 1 = .ok (.getfield 10, 3) := by decide +kernel
theorem dX8_harsh_4 : decode cX8_harsh 4 = .ok (.iload_n 1, 1) := by decide +kernel
theorem dX8_harsh_5 : decode cX8_harsh 5 = .ok (.invokevirtual 70, 3) := by decide +kernel
theorem dX8_harsh_8 : decode cX8_harsh 8 = .ok (.ifCond .ne 7, 3) := by decide +kernel
theorem dX8_harsh_11 : decode cX8_harsh 11 = .ok (.ldc2_w 180, 3) := by decide +kernel
theorem dX8_harsh_14 : decode cX8_harsh 14 = .ok (.lreturn, 1) := by decide +kernel
theorem dX8_harsh_15 : decode cX8_harsh 15 = .ok (.iload_n 2, 1) := by decide +kernel
theorem dX8_harsh_16 : decode cX8_harsh 16 = .ok (.invokestatic 137, 3) := by decide +kernel
theorem dX8_harsh_19 : decode cX8_harsh 19 = .ok (.ifCond .ne 7, 3) := by decide +kernel
theorem dX8_harsh_22 : decode cX8_harsh 22 = .ok (.ldc2_w 182, 3) := by decide +kernel
theorem dX8_harsh_25 : decode cX8_harsh 25 = .ok (.lreturn, 1) := by decide +kernel
theorem dX8_harsh_26 : decode cX8_harsh 26 = .ok (.lconst 0, 1) := by decide +kernel
theorem dX8_harsh_27 : decode cX8_harsh 27 = .ok (.lstore_n 3, 1) := by decide +kernel
theorem dX8_harsh_28 : decode cX8_harsh 28 = .ok (.iconst 0, 1) := by decide +kernel
theorem dX8_harsh_29 : decode cX8_harsh 29 = .ok (.istore 5, 2) := by decide +kernel
theorem dX8_harsh_31 : decode cX8_harsh 31 = .ok (.iconst 0, 1) := by decide +kernel
theorem dX8_harsh_32 : decode cX8_harsh 32 = .ok (.istore 6, 2) := by decide +kernel
theorem dX8_harsh_34 : decode cX8_harsh 34 = .ok (.iload 6, 2) := by decide +kernel
theorem dX8_harsh_36 : decode cX8_harsh 36 = .ok (.aload_n 0, 1) := by decide +kernel
theorem dX8_harsh_37 : decode cX8_harsh 37 = .ok (.getfield 19, 3) := by decide +kernel
theorem dX8_harsh_40 : decode cX8_harsh 40 = .ok (.getfield 192, 3) := by decide +kernel
theorem dX8_harsh_43 : decode cX8_harsh 43 = .ok (.if_icmp .ge 39, 3) := by decide +kernel
theorem dX8_harsh_46 : decode cX8_harsh 46 = .ok (.aload_n 0, 1) := by decide +kernel
theorem dX8_harsh_47 : decode cX8_harsh 47 = .ok (.getfield 26, 3) := by decide +kernel
theorem dX8_harsh_50 : decode cX8_harsh 50 = .ok (.iload_n 1, 1) := by decide +kernel
theorem dX8_harsh_51 : decode cX8_harsh 51 = .ok (.iload 6, 2) := by decide +kernel
theorem dX8_harsh_53 : decode cX8_harsh 53 = .ok (.invokevirtual 193, 3) := by decide +kernel
theorem dX8_harsh_56 : decode cX8_harsh 56 = .ok (.ifCond .eq 20, 3) := by decide +kernel
theorem dX8_harsh_59 : decode cX8_harsh 59 = .ok (.lload_n 3, 1) := by decide +kernel
theorem dX8_harsh_60 : decode cX8_harsh 60 = .ok (.aload_n 0, 1) := by decide +kernel
theorem dX8_harsh_61 : decode cX8_harsh 61 = .ok (.getfield 26, 3) := by decide +kernel
theorem dX8_harsh_64 : decode cX8_harsh 64 = .ok (.iload_n 1, 1) := by decide +kernel
theorem dX8_harsh_65 : decode cX8_harsh 65 = .ok (.iload 6, 2) := by decide +kernel
theorem dX8_harsh_67 : decode cX8_harsh 67 = .ok (.invokevirtual 196, 3) := by decide +kernel
theorem dX8_harsh_70 : decode cX8_harsh 70 = .ok (.i2l, 1) := by decide +kernel
theorem dX8_harsh_71 : decode cX8_harsh 71 = .ok (.ladd, 1) := by decide +kernel
theorem dX8_harsh_72 : decode cX8_harsh 72 = .ok (.lstore_n 3, 1) := by decide +kernel
theorem dX8_harsh_73 : decode cX8_harsh 73 = .ok (.iinc 5 1, 3) := by decide +kernel
theorem dX8_harsh_76 : decode cX8_harsh 76 = .ok (.iinc 6 1, 3) := by decide +kernel
theorem dX8_harsh_79 : decode cX8_harsh 79 = .ok (.goto (-45), 3) := by decide +kernel
theorem dX8_harsh_82 : decode cX8_harsh 82 = .ok (.lload_n 3, 1) := by decide +kernel
theorem dX8_harsh_83 : decode cX8_harsh 83 = .ok (.iload 5, 2) := by decide +kernel
theorem dX8_harsh_85 : decode cX8_harsh 85 = .ok (.i2l, 1) := by decide +kernel
theorem dX8_harsh_86 : decode cX8_harsh 86 = .ok (.ldc2_w 199, 3) := by decide +kernel
theorem dX8_harsh_89 : decode cX8_harsh 89 = .ok (.lmul, 1) := by decide +kernel
theorem dX8_harsh_90 : decode cX8_harsh 90 = .ok (.iload_n 2, 1) := by decide +kernel
theorem dX8_harsh_91 : decode cX8_harsh 91 = .ok (.invokestatic 152, 3) := by decide +kernel
theorem dX8_harsh_94 : decode cX8_harsh 94 = .ok (.lreturn, 1) := by decide +kernel
set_option maxRecDepth 20000 in
theorem ggX8_swap_X8_favours : GoodIn wsX8_swap wsX8_favours := goodIn_r _ [7, 8, 9, 10, 11, 12, 13, 14, 15, 16, 17, 18, 19, 20, 21, 22, 23, 24, 30, 31, 32, 33, 34, 35, 36, 37] (by decide +kernel) (by decide +kernel)
set_option maxRecDepth 20000 in
theorem gX8_swap_X8_favours : GoodIn wsX8_swap (wsV RX8 201 RX8 yX8_favours wsX8_favours) := goodIn_app (goodIn_of _ (by decide +kernel)) ggX8_swap_X8_favours
theorem dX8_swap_0 : decode cX8_swap 0 = .ok (.iconst 0, 1) := by decide +kernel
theorem dX8_swap_1 : decode cX8_swap 1 = .ok (.istore_n 2, 1) := by decide +kernel
theorem dX8_swap_2 : decode cX8_swap 2 = .ok (.iconst 0, 1) := by decide +kernel
theorem dX8_swap_3 : decode cX8_swap 3 = .ok (.istore_n 3, 1) := by decide +kernel
theorem dX8_swap_4 : decode cX8_swap 4 = .ok (.iload_n 3, 1) := by decide +kernel
theorem dX8_swap_5 : decode cX8_swap 5 = .ok (.aload_n 0, 1) := by decide +kernel
theorem dX8_swap_6 : decode cX8_swap 6 = .ok (.getfield 10, 3) := by decide +kernel
theorem dX8_swap_9 : decode cX8_swap 9 = .ok (.getfield 191, 3) := by decide +kernel
theorem dX8_swap_12 : decode cX8_swap 12 = .ok (.if_icmp .ge 68, 3) := by decide +kernel
theorem dX8_swap_15 : decode cX8_swap 15 = .ok (.iload_n 3, 1) := by decide +kernel
theorem dX8_swap_16 : decode cX8_swap 16 = .ok (.iconst 1, 1) := by decide +kernel
theorem dX8_swap_17 : decode cX8_swap 17 = .ok (.iadd, 1) := by decide +kernel
theorem dX8_swap_18 : decode cX8_swap 18 = .ok (.istore 4, 2) := by decide +kernel
theorem dX8_swap_20 : decode cX8_swap 20 = .ok (.iload 4, 2) := by decide +kernel
theorem dX8_swap_22 : decode cX8_swap 22 = .ok (.aload_n 0, 1) := by decide +kernel
theorem dX8_swap_23 : decode cX8_swap 23 = .ok (.getfield 10, 3) := by decide +kernel
theorem dX8_swap_26 : decode cX8_swap 26 = .ok (.getfield 191, 3) := by decide +kernel
theorem dX8_swap_29 : decode cX8_swap 29 = .ok (.if_icmp .ge 45, 3) := by decide +kernel
theorem dX8_swap_32 : decode cX8_swap 32 = .ok (.aload_n 0, 1) := by decide +kernel
theorem dX8_swap_33 : decode cX8_swap 33 = .ok (.iload_n 3, 1) := by decide +kernel
theorem dX8_swap_34 : decode cX8_swap 34 = .ok (.iload 4, 2) := by decide +kernel
theorem dX8_swap_36 : decode cX8_swap 36 = .ok (.invokevirtual 201, 3) := by decide +kernel
theorem dX8_swap_39 : decode cX8_swap 39 = .ok (.ifCond .eq 29, 3) := by decide +kernel
theorem dX8_swap_42 : decode cX8_swap 42 = .ok (.aload_n 0, 1) := by decide +kernel
theorem dX8_swap_43 : decode cX8_swap 43 = .ok (.iload 4, 2) := by decide +kernel
theorem dX8_swap_45 : decode cX8_swap 45 = .ok (.iload_n 3, 1) := by decide +kernel
theorem dX8_swap_46 : decode cX8_swap 46 = .ok (.invokevirtual 201, 3) := by decide +kernel
theorem dX8_swap_49 : decode cX8_swap 49 = .ok (.ifCond .eq 19, 3) := by decide +kernel
theorem dX8_swap_52 : decode cX8_swap 52 = .ok (.iload_n 2, 1) := by decide +kernel
theorem dX8_swap_53 : decode cX8_swap 53 = .ok (.iload_n 1, 1) := by decide +kernel
theorem dX8_swap_54 : decode cX8_swap 54 = .ok (.if_icmp .ne 11, 3) := by decide +kernel
theorem dX8_swap_57 : decode cX8_swap 57 = .ok (.bipush 10, 2) := by decide +kernel
theorem dX8_swap_59 : decode cX8_swap 59 = .ok (.iload_n 3, 1) := by decide +kernel
theorem dX8_swap_60 : decode cX8_swap 60 = .ok (.imul, 1) := by decide +kernel
theorem dX8_swap_61 : decode cX8_swap 61 = .ok (.iload 4, 2) := by decide +kernel
theorem dX8_swap_63 : decode cX8_swap 63 = .ok (.iadd, 1) := by decide +kernel
theorem dX8_swap_64 : decode cX8_swap 64 = .ok (.ireturn, 1) := by decide +kernel
theorem dX8_swap_65 : decode cX8_swap 65 = .ok (.iinc 2 1, 3) := by decide +kernel
theorem dX8_swap_68 : decode cX8_swap 68 = .ok (.iinc 4 1, 3) := by decide +kernel
theorem dX8_swap_71 : decode cX8_swap 71 = .ok (.goto (-51), 3) := by decide +kernel
theorem dX8_swap_74 : decode cX8_swap 74 = .ok (.iinc 3 1, 3) := by decide +kernel
theorem dX8_swap_77 : decode cX8_swap 77 = .ok (.goto (-73), 3) := by decide +kernel
theorem dX8_swap_80 : decode cX8_swap 80 = .ok (.iload_n 1, 1) := by decide +kernel
theorem dX8_swap_81 : decode cX8_swap 81 = .ok (.iconst (-1), 1) := by decide +kernel
theorem dX8_swap_82 : decode cX8_swap 82 = .ok (.if_icmp .ne 7, 3) := by decide +kernel
theorem dX8_swap_85 : decode cX8_swap 85 = .ok (.iload_n 2, 1) := by decide +kernel
theorem dX8_swap_86 : decode cX8_swap 86 = .ok (.goto 5, 3) := by decide +kernel
theorem dX8_swap_89 : decode cX8_swap 89 = .ok (.bipush (-6), 2) := by decide +kernel
theorem dX8_swap_91 : decode cX8_swap 91 = .ok (.ireturn, 1) := by decide +kernel
set_option maxRecDepth 20000 in
theorem ggX8_ring_X8_favours : GoodIn wsX8_ring wsX8_favours := goodIn_r _ [7, 8, 9, 10, 11, 12, 13, 14, 15, 16, 17, 18, 19, 20, 21, 22, 23, 24, 30, 31, 32, 33, 34, 35, 36, 37] (by decide +kernel) (by decide +kernel)
set_option maxRecDepth 20000 in
theorem gX8_ring_X8_favours : GoodIn wsX8_ring (wsV RX8 201 RX8 yX8_favours wsX8_favours) := goodIn_app (goodIn_of _ (by decide +kernel)) ggX8_ring_X8_favours
theorem dX8_ring_0 : decode cX8_ring 0 = .ok (.iconst 0, 1) := by decide +kernel
theorem dX8_ring_1 : decode cX8_ring 1 = .ok (.istore_n 2, 1) := by decide +kernel
theorem dX8_ring_2 : decode cX8_ring 2 = .ok (.iconst 0, 1) := by decide +kernel
theorem dX8_ring_3 : decode cX8_ring 3 = .ok (.istore_n 3, 1) := by decide +kernel
theorem dX8_ring_4 : decode cX8_ring 4 = .ok (.iload_n 3, 1) := by decide +kernel
theorem dX8_ring_5 : decode cX8_ring 5 = .ok (.aload_n 0, 1) := by decide +kernel
theorem dX8_ring_6 : decode cX8_ring 6 = .ok (.getfield 10, 3) := by decide +kernel
theorem dX8_ring_9 : decode cX8_ring 9 = .ok (.getfield 191, 3) := by decide +kernel
theorem dX8_ring_12 : decode cX8_ring 12 = .ok (.if_icmp .ge 115, 3) := by decide +kernel
theorem dX8_ring_15 : decode cX8_ring 15 = .ok (.iload_n 3, 1) := by decide +kernel
theorem dX8_ring_16 : decode cX8_ring 16 = .ok (.iconst 1, 1) := by decide +kernel
theorem dX8_ring_17 : decode cX8_ring 17 = .ok (.iadd, 1) := by decide +kernel
theorem dX8_ring_18 : decode cX8_ring 18 = .ok (.istore 4, 2) := by decide +kernel
theorem dX8_ring_20 : decode cX8_ring 20 = .ok (.iload 4, 2) := by decide +kernel
theorem dX8_ring_22 : decode cX8_ring 22 = .ok (.aload_n 0, 1) := by decide +kernel
theorem dX8_ring_23 : decode cX8_ring 23 = .ok (.getfield 10, 3) := by decide +kernel
theorem dX8_ring_26 : decode cX8_ring 26 = .ok (.getfield 191, 3) := by decide +kernel
theorem dX8_ring_29 : decode cX8_ring 29 = .ok (.if_icmp .ge 92, 3) := by decide +kernel
theorem dX8_ring_32 : decode cX8_ring 32 = .ok (.iload_n 3, 1) := by decide +kernel
theorem dX8_ring_33 : decode cX8_ring 33 = .ok (.iconst 1, 1) := by decide +kernel
theorem dX8_ring_34 : decode cX8_ring 34 = .ok (.iadd, 1) := by decide +kernel
theorem dX8_ring_35 : decode cX8_ring 35 = .ok (.istore 5, 2) := by decide +kernel
theorem dX8_ring_37 : decode cX8_ring 37 = .ok (.iload 5, 2) := by decide +kernel
theorem dX8_ring_39 : decode cX8_ring 39 = .ok (.aload_n 0, 1) := by decide +kernel
theorem dX8_ring_40 : decode cX8_ring 40 = .ok (.getfield 10, 3) := by decide +kernel
theorem dX8_ring_43 : decode cX8_ring 43 = .ok (.getfield 191, 3) := by decide +kernel
theorem dX8_ring_46 : decode cX8_ring 46 = .ok (.if_icmp .ge 69, 3) := by decide +kernel
theorem dX8_ring_49 : decode cX8_ring 49 = .ok (.iload 4, 2) := by decide +kernel
theorem dX8_ring_51 : decode cX8_ring 51 = .ok (.iload 5, 2) := by decide +kernel
theorem dX8_ring_53 : decode cX8_ring 53 = .ok (.if_icmp .eq 56, 3) := by decide +kernel
theorem dX8_ring_56 : decode cX8_ring 56 = .ok (.aload_n 0, 1) := by decide +kernel
theorem dX8_ring_57 : decode cX8_ring 57 = .ok (.iload_n 3, 1) := by decide +kernel
theorem dX8_ring_58 : decode cX8_ring 58 = .ok (.iload 4, 2) := by decide +kernel
theorem dX8_ring_60 : decode cX8_ring 60 = .ok (.invokevirtual 201, 3) := by decide +kernel
theorem dX8_ring_63 : decode cX8_ring 63 = .ok (.ifCond .eq 46, 3) := by decide +kernel
theorem dX8_ring_66 : decode cX8_ring 66 = .ok (.aload_n 0, 1) := by decide +kernel
theorem dX8_ring_67 : decode cX8_ring 67 = .ok (.iload 4, 2) := by decide +kernel
theorem dX8_ring_69 : decode cX8_ring 69 = .ok (.iload 5, 2) := by decide +kernel
theorem dX8_ring_71 : decode cX8_ring 71 = .ok (.invokevirtual 201, 3) := by decide +kernel
theorem dX8_ring_74 : decode cX8_ring 74 = .ok (.ifCond .eq 35, 3) := by decide +kernel
theorem dX8_ring_77 : decode cX8_ring 77 = .ok (.aload_n 0, 1) := by decide +kernel
theorem dX8_ring_78 : decode cX8_ring 78 = .ok (.iload 5, 2) := by decide +kernel
theorem dX8_ring_80 : decode cX8_ring 80 = .ok (.iload_n 3, 1) := by decide +kernel
theorem dX8_ring_81 : decode cX8_ring 81 = .ok (.invokevirtual 201, 3) := by decide +kernel
theorem dX8_ring_84 : decode cX8_ring 84 = .ok (.ifCond .eq 25, 3) := by decide +kernel
theorem dX8_ring_87 : decode cX8_ring 87 = .ok (.iload_n 2, 1) := by decide +kernel
theorem dX8_ring_88 : decode cX8_ring 88 = .ok (.iload_n 1, 1) := by decide +kernel
theorem dX8_ring_89 : decode cX8_ring 89 = .ok (.if_icmp .ne 17, 3) := by decide +kernel
theorem dX8_ring_92 : decode cX8_ring 92 = .ok (.bipush 100, 2) := by decide +kernel
theorem dX8_ring_94 : decode cX8_ring 94 = .ok (.iload_n 3, 1) := by decide +kernel
theorem dX8_ring_95 : decode cX8_ring 95 = .ok (.imul, 1) := by decide +kernel
theorem dX8_ring_96 : decode cX8_ring 96 = .ok (.bipush 10, 2) := by decide +kernel
theorem dX8_ring_98 : decode cX8_ring 98 = .ok (.iload 4, 2) := by decide +kernel
theorem dX8_ring_100 : decode cX8_ring 100 = .ok (.imul, 1) := by decide +kernel
theorem dX8_ring_101 : decode cX8_ring 101 = .ok (.iadd, 1) := by decide +kernel
theorem dX8_ring_102 : decode cX8_ring 102 = .ok (.iload 5, 2) := by decide +kernel
theorem dX8_ring_104 : decode cX8_ring 104 = .ok (.iadd, 1) := by decide +kernel
theorem dX8_ring_105 : decode cX8_ring 105 = .ok (.ireturn, 1) := by decide +kernel
theorem dX8_ring_106 : decode cX8_ring 106 = .ok (.iinc 2 1, 3) := by decide +kernel
theorem dX8_ring_109 : decode cX8_ring 109 = .ok (.iinc 5 1, 3) := by decide +kernel
theorem dX8_ring_112 : decode cX8_ring 112 = .ok (.goto (-75), 3) := by decide +kernel
theorem dX8_ring_115 : decode cX8_ring 115 = .ok (.iinc 4 1, 3) := by decide +kernel
theorem dX8_ring_118 : decode cX8_ring 118 = .ok (.goto (-98), 3) := by decide +kernel
theorem dX8_ring_121 : decode cX8_ring 121 = .ok (.iinc 3 1, 3) := by decide +kernel
theorem dX8_ring_124 : decode cX8_ring 124 = .ok (.goto (-120), 3) := by decide +kernel
theorem dX8_ring_127 : decode cX8_ring 127 = .ok (.iload_n 1, 1) := by decide +kernel
theorem dX8_ring_128 : decode cX8_ring 128 = .ok (.iconst (-1), 1) := by decide +kernel
theorem dX8_ring_129 : decode cX8_ring 129 = .ok (.if_icmp .ne 7, 3) := by decide +kernel
theorem dX8_ring_132 : decode cX8_ring 132 = .ok (.iload_n 2, 1) := by decide +kernel
theorem dX8_ring_133 : decode cX8_ring 133 = .ok (.goto 5, 3) := by decide +kernel
theorem dX8_ring_136 : decode cX8_ring 136 = .ok (.bipush (-6), 2) := by decide +kernel
theorem dX8_ring_138 : decode cX8_ring 138 = .ok (.ireturn, 1) := by decide +kernel
set_option maxRecDepth 20000 in
theorem ggX8_seen_X4_has : GoodIn wsX8_seen wsX4_has := goodIn_r _ [9, 10, 29, 30, 31, 32, 33, 34] (by decide +kernel) (by decide +kernel)
set_option maxRecDepth 20000 in
theorem gX8_seen_X4_has : GoodIn wsX8_seen (wsV RX8 82 RX4 yX4_has wsX4_has) := goodIn_app (goodIn_of _ (by decide +kernel)) ggX8_seen_X4_has
set_option maxRecDepth 20000 in
theorem ggX8_seen_X8_within : GoodIn wsX8_seen wsX8_within := goodIn_r _ [14] (by decide +kernel) (by decide +kernel)
set_option maxRecDepth 20000 in
theorem gX8_seen_X8_within : GoodIn wsX8_seen (va_wsS RX8 62 yX8_within wsX8_within) := goodIn_app (goodIn_of _ (by decide +kernel)) ggX8_seen_X8_within
set_option maxRecDepth 20000 in
theorem ggX8_seen_X0_withKeys : GoodIn wsX8_seen wsX0_withKeys := goodIn_r _ [19, 20, 21, 35, 36, 37, 38, 39] (by decide +kernel) (by decide +kernel)
set_option maxRecDepth 20000 in
theorem gX8_seen_X0_withKeys : GoodIn wsX8_seen (wsV RX8 204 RX0 yX0_withKeys wsX0_withKeys) := goodIn_app (goodIn_of _ (by decide +kernel)) ggX8_seen_X0_withKeys
theorem dX8_seen_0 : decode cX8_seen 0 = .ok (.aload_n 0, 1) := by decide +kernel
theorem dX8_seen_1 : decode cX8_seen 1 = .ok (.getfield 19, 3) := by decide +kernel
theorem dX8_seen_4 : decode cX8_seen 4 = .ok (.iload_n 1, 1) := by decide +kernel
theorem dX8_seen_5 : decode cX8_seen 5 = .ok (.invokevirtual 82, 3) := by decide +kernel
theorem dX8_seen_8 : decode cX8_seen 8 = .ok (.ifCond .ne 5, 3) := by decide +kernel
theorem dX8_seen_11 : decode cX8_seen 11 = .ok (.iconst (-1), 1) := by decide +kernel
theorem dX8_seen_12 : decode cX8_seen 12 = .ok (.ireturn, 1) := by decide +kernel
theorem dX8_seen_13 : decode cX8_seen 13 = .ok (.iload_n 2, 1) := by decide +kernel
theorem dX8_seen_14 : decode cX8_seen 14 = .ok (.iconst 0, 1) := by decide +kernel
theorem dX8_seen_15 : decode cX8_seen 15 = .ok (.iconst 1, 1) := by decide +kernel
theorem dX8_seen_16 : decode cX8_seen 16 = .ok (.invokestatic 62, 3) := by decide +kernel
theorem dX8_seen_19 : decode cX8_seen 19 = .ok (.ifCond .ne 6, 3) := by decide +kernel
theorem dX8_seen_22 : decode cX8_seen 22 = .ok (.bipush (-2), 2) := by decide +kernel
theorem dX8_seen_24 : decode cX8_seen 24 = .ok (.ireturn, 1) := by decide +kernel
theorem dX8_seen_25 : decode cX8_seen 25 = .ok (.aload_n 0, 1) := by decide +kernel
theorem dX8_seen_26 : decode cX8_seen 26 = .ok (.getfield 10, 3) := by decide +kernel
theorem dX8_seen_29 : decode cX8_seen 29 = .ok (.aload_n 0, 1) := by decide +kernel
theorem dX8_seen_30 : decode cX8_seen 30 = .ok (.getfield 19, 3) := by decide +kernel
theorem dX8_seen_33 : decode cX8_seen 33 = .ok (.getfield 101, 3) := by decide +kernel
theorem dX8_seen_36 : decode cX8_seen 36 = .ok (.iload_n 1, 1) := by decide +kernel
theorem dX8_seen_37 : decode cX8_seen 37 = .ok (.iaload, 1) := by decide +kernel
theorem dX8_seen_38 : decode cX8_seen 38 = .ok (.invokevirtual 204, 3) := by decide +kernel
theorem dX8_seen_41 : decode cX8_seen 41 = .ok (.istore_n 3, 1) := by decide +kernel
theorem dX8_seen_42 : decode cX8_seen 42 = .ok (.iload_n 2, 1) := by decide +kernel
theorem dX8_seen_43 : decode cX8_seen 43 = .ok (.ifCond .ne 5, 3) := by decide +kernel
theorem dX8_seen_46 : decode cX8_seen 46 = .ok (.iload_n 3, 1) := by decide +kernel
theorem dX8_seen_47 : decode cX8_seen 47 = .ok (.ireturn, 1) := by decide +kernel
theorem dX8_seen_48 : decode cX8_seen 48 = .ok (.aload_n 0, 1) := by decide +kernel
theorem dX8_seen_49 : decode cX8_seen 49 = .ok (.getfield 19, 3) := by decide +kernel
theorem dX8_seen_52 : decode cX8_seen 52 = .ok (.getfield 83, 3) := by decide +kernel
theorem dX8_seen_55 : decode cX8_seen 55 = .ok (.iload_n 1, 1) := by decide +kernel
theorem dX8_seen_56 : decode cX8_seen 56 = .ok (.iaload, 1) := by decide +kernel
theorem dX8_seen_57 : decode cX8_seen 57 = .ok (.istore 4, 2) := by decide +kernel
theorem dX8_seen_59 : decode cX8_seen 59 = .ok (.iload 4, 2) := by decide +kernel
theorem dX8_seen_61 : decode cX8_seen 61 = .ok (.bipush (-6), 2) := by decide +kernel
theorem dX8_seen_63 : decode cX8_seen 63 = .ok (.if_icmp .eq 15, 3) := by decide +kernel
theorem dX8_seen_66 : decode cX8_seen 66 = .ok (.iload_n 3, 1) := by decide +kernel
theorem dX8_seen_67 : decode cX8_seen 67 = .ok (.iconst 1, 1) := by decide +kernel
theorem dX8_seen_68 : decode cX8_seen 68 = .ok (.iload 4, 2) := by decide +kernel
theorem dX8_seen_70 : decode cX8_seen 70 = .ok (.ishl, 1) := by decide +kernel
theorem dX8_seen_71 : decode cX8_seen 71 = .ok (.if_icmp .ne 7, 3) := by decide +kernel
theorem dX8_seen_74 : decode cX8_seen 74 = .ok (.iconst 1, 1) := by decide +kernel
theorem dX8_seen_75 : decode cX8_seen 75 = .ok (.goto 4, 3) := by decide +kernel
theorem dX8_seen_78 : decode cX8_seen 78 = .ok (.iconst 0, 1) := by decide +kernel
theorem dX8_seen_79 : decode cX8_seen 79 = .ok (.ireturn, 1) := by decide +kernel
set_option maxRecDepth 20000 in
theorem ggX8_bid_X0_has : GoodIn wsX8_bid wsX0_has := goodIn_r _ [8, 9, 36, 37, 38, 39, 40] (by decide +kernel) (by decide +kernel)
set_option maxRecDepth 20000 in
theorem gX8_bid_X0_has : GoodIn wsX8_bid (wsV RX8 70 RX0 yX0_has wsX0_has) := goodIn_app (goodIn_of _ (by decide +kernel)) ggX8_bid_X0_has
set_option maxRecDepth 20000 in
theorem ggX8_bid_X4_has : GoodIn wsX8_bid wsX4_has := goodIn_r _ [14, 15, 30, 31, 32, 33, 34, 35] (by decide +kernel) (by decide +kernel)
set_option maxRecDepth 20000 in
theorem gX8_bid_X4_has : GoodIn wsX8_bid (wsV RX8 82 RX4 yX4_has wsX4_has) := goodIn_app (goodIn_of _ (by decide +kernel)) ggX8_bid_X4_has
set_option maxRecDepth 20000 in
theorem ggX8_bid_X8_within : GoodIn wsX8_bid wsX8_within := goodIn_r _ [19] (by decide +kernel) (by decide +kernel)
set_option maxRecDepth 20000 in
theorem gX8_bid_X8_within : GoodIn wsX8_bid (va_wsS RX8 62 yX8_within wsX8_within) := goodIn_app (goodIn_of _ (by decide +kernel)) ggX8_bid_X8_within
set_option maxRecDepth 20000 in
theorem ggX8_bid_X8_replace : GoodIn wsX8_bid wsX8_replace := goodIn_r _ [22] (by decide +kernel) (by decide +kernel)
set_option maxRecDepth 20000 in
theorem gX8_bid_X8_replace : GoodIn wsX8_bid (va_wsS RX8 90 yX8_replace wsX8_replace) := goodIn_app (goodIn_of _ (by decide +kernel)) ggX8_bid_X8_replace
theorem dX8_bid_0 : decode cX8_bid 0 = .ok (.aload_n 0, 1) := by decide +kernel
theorem dX8_bid_1 : decode cX8_bid 1 = .ok (.getfield 10, 3) := by decide +kernel
theorem dX8_bid_4 : decode cX8_bid 4 = .ok (.iload_n 1, 1) := by decide +kernel
theorem dX8_bid_5 : decode cX8_bid 5 = .ok (.invokevirtual 70, 3) := by decide +kernel
theorem dX8_bid_8 : decode cX8_bid 8 = .ok (.ifCond .eq 14, 3) := by decide +kernel
theorem dX8_bid_11 : decode cX8_bid 11 = .ok (.aload_n 0, 1) := by decide +kernel
theorem dX8_bid_12 : decode cX8_bid 12 = .ok (.getfield 19, 3) := by decide +kernel
theorem dX8_bid_15 : decode cX8_bid 15 = .ok (.iload_n 2, 1) := by decide +kernel
theorem dX8_bid_16 : decode cX8_bid 16 = .ok (.invokevirtual 82, 3) := by decide +kernel
theorem dX8_bid_19 : decode cX8_bid 19 = .ok (.ifCond .ne 5, 3) := by decide +kernel
theorem dX8_bid_22 : decode cX8_bid 22 = .ok (.iconst (-1), 1) := by decide +kernel
theorem dX8_bid_23 : decode cX8_bid 23 = .ok (.ireturn, 1) := by decide +kernel
theorem dX8_bid_24 : decode cX8_bid 24 = .ok (.iload_n 3, 1) := by decide +kernel
theorem dX8_bid_25 : decode cX8_bid 25 = .ok (.iconst 0, 1) := by decide +kernel
theorem dX8_bid_26 : decode cX8_bid 26 = .ok (.iconst 3, 1) := by decide +kernel
theorem dX8_bid_27 : decode cX8_bid 27 = .ok (.invokestatic 62, 3) := by decide +kernel
theorem dX8_bid_30 : decode cX8_bid 30 = .ok (.ifCond .ne 6, 3) := by decide +kernel
theorem dX8_bid_33 : decode cX8_bid 33 = .ok (.bipush (-2), 2) := by decide +kernel
theorem dX8_bid_35 : decode cX8_bid 35 = .ok (.ireturn, 1) := by decide +kernel
theorem dX8_bid_36 : decode cX8_bid 36 = .ok (.aload_n 0, 1) := by decide +kernel
theorem dX8_bid_37 : decode cX8_bid 37 = .ok (.getfield 19, 3) := by decide +kernel
theorem dX8_bid_40 : decode cX8_bid 40 = .ok (.getfield 207, 3) := by decide +kernel
theorem dX8_bid_43 : decode cX8_bid 43 = .ok (.iload_n 1, 1) := by decide +kernel
theorem dX8_bid_44 : decode cX8_bid 44 = .ok (.bipush 6, 2) := by decide +kernel
theorem dX8_bid_46 : decode cX8_bid 46 = .ok (.imul, 1) := by decide +kernel
theorem dX8_bid_47 : decode cX8_bid 47 = .ok (.iload_n 2, 1) := by decide +kernel
theorem dX8_bid_48 : decode cX8_bid 48 = .ok (.iadd, 1) := by decide +kernel
theorem dX8_bid_49 : decode cX8_bid 49 = .ok (.iload_n 3, 1) := by decide +kernel
theorem dX8_bid_50 : decode cX8_bid 50 = .ok (.invokestatic 90, 3) := by decide +kernel
theorem dX8_bid_53 : decode cX8_bid 53 = .ok (.ireturn, 1) := by decide +kernel
set_option maxRecDepth 20000 in
theorem ggX8_match_X4_has : GoodIn wsX8_match wsX4_has := goodIn_r _ [8, 9, 105, 106, 107, 108, 109, 110] (by decide +kernel) (by decide +kernel)
set_option maxRecDepth 20000 in
theorem gX8_match_X4_has : GoodIn wsX8_match (wsV RX8 82 RX4 yX4_has wsX4_has) := goodIn_app (goodIn_of _ (by decide +kernel)) ggX8_match_X4_has
set_option maxRecDepth 20000 in
theorem ggX8_match_X8_within : GoodIn wsX8_match wsX8_within := goodIn_r _ [13] (by decide +kernel) (by decide +kernel)
set_option maxRecDepth 20000 in
theorem gX8_match_X8_within : GoodIn wsX8_match (va_wsS RX8 62 yX8_within wsX8_within) := goodIn_app (goodIn_of _ (by decide +kernel)) ggX8_match_X8_within
set_option maxRecDepth 20000 in
theorem ggX8_match_X2_find : GoodIn wsX8_match wsX2_find := goodIn_r _ [18, 19, 20, 21, 22, 23, 24, 25, 26, 27, 28, 29, 30, 17, 31, 32, 33, 34, 35, 36, 37, 38, 39, 40, 41, 42, 12, 43, 44, 45, 46, 47, 48, 49, 50, 51, 52, 53, 54, 7, 55, 56, 57, 58, 59, 60, 61, 62, 63, 64, 65, 66, 67, 68, 69, 70, 71, 72, 73, 74, 75, 76, 77, 78, 79, 80, 81, 82, 83, 84, 96, 97, 98, 99, 100, 101, 102, 103, 104, 105, 106, 107, 108, 109, 110, 111, 112, 113, 114, 115] (by decide +kernel) (by decide +kernel)
set_option maxRecDepth 20000 in
theorem gX8_match_X2_find : GoodIn wsX8_match (wsV RX8 210 RX2 yX2_find wsX2_find) := goodIn_app (goodIn_of _ (by decide +kernel)) ggX8_match_X2_find
set_option maxRecDepth 20000 in
theorem ggX8_match_X2_bidsTogether : GoodIn wsX8_match wsX2_bidsTogether := goodIn_r _ [88, 22, 23, 37, 38, 19, 42, 12, 43, 52, 53, 54, 7, 55, 56, 96, 97, 98, 99, 100, 101, 102, 103, 104, 105, 106, 107, 108, 109, 110, 111, 112, 113, 114, 115] (by decide +kernel) (by decide +kernel)
set_option maxRecDepth 20000 in
theorem gX8_match_X2_bidsTogether : GoodIn wsX8_match (wsV RX8 213 RX2 yX2_bidsTogether wsX2_bidsTogether) := goodIn_app (goodIn_of _ (by decide +kernel)) ggX8_match_X2_bidsTogether
theorem dX8_match_0 : decode cX8_match 0 = .ok (.iload_n 3, 1) := by decide +kernel
theorem dX8_match_1 : decode cX8_match 1 = .ok (.iconst (-1), 1) := by decide +kernel
theorem dX8_match_2 : decode cX8_match 2 = .ok (.if_icmp .eq 16, 3) := by decide +kernel
theorem dX8_match_5 : decode cX8_match 5 = .ok (.aload_n 0, 1) := by decide +kernel
theorem dX8_match_6 : decode cX8_match 6 = .ok (.getfield 19, 3) := by decide +kernel
theorem dX8_match_9 : decode cX8_match 9 = .ok (.iload_n 3, 1) := by decide +kernel
theorem dX8_match_10 : decode cX8_match 10 = .ok (.invokevirtual 82, 3) := by decide +kernel
theorem dX8_match_13 : decode cX8_match 13 = .ok (.ifCond .ne 5, 3) := by decide +kernel
theorem dX8_match_16 : decode cX8_match 16 = .ok (.iconst (-1), 1) := by decide +kernel
theorem dX8_match_17 : decode cX8_match 17 = .ok (.ireturn, 1) := by decide +kernel
theorem dX8_match_18 : decode cX8_match 18 = .ok (.iload_n 1, 1) := by decide +kernel
theorem dX8_match_19 : decode cX8_match 19 = .ok (.iconst 1, 1) := by decide +kernel
theorem dX8_match_20 : decode cX8_match 20 = .ok (.iconst 3, 1) := by decide +kernel
theorem dX8_match_21 : decode cX8_match 21 = .ok (.invokestatic 62, 3) := by decide +kernel
theorem dX8_match_24 : decode cX8_match 24 = .ok (.ifCond .eq 12, 3) := by decide +kernel
theorem dX8_match_27 : decode cX8_match 27 = .ok (.iload_n 2, 1) := by decide +kernel
theorem dX8_match_28 : decode cX8_match 28 = .ok (.iconst 1, 1) := by decide +kernel
theorem dX8_match_29 : decode cX8_match 29 = .ok (.iconst 4, 1) := by decide +kernel
theorem dX8_match_30 : decode cX8_match 30 = .ok (.invokestatic 62, 3) := by decide +kernel
theorem dX8_match_33 : decode cX8_match 33 = .ok (.ifCond .ne 6, 3) := by decide +kernel
theorem dX8_match_36 : decode cX8_match 36 = .ok (.bipush (-2), 2) := by decide +kernel
theorem dX8_match_38 : decode cX8_match 38 = .ok (.ireturn, 1) := by decide +kernel
theorem dX8_match_39 : decode cX8_match 39 = .ok (.aload_n 0, 1) := by decide +kernel
theorem dX8_match_40 : decode cX8_match 40 = .ok (.getfield 58, 3) := by decide +kernel
theorem dX8_match_43 : decode cX8_match 43 = .ok (.iload_n 1, 1) := by decide +kernel
theorem dX8_match_44 : decode cX8_match 44 = .ok (.iload_n 2, 1) := by decide +kernel
theorem dX8_match_45 : decode cX8_match 45 = .ok (.invokevirtual 210, 3) := by decide +kernel
theorem dX8_match_48 : decode cX8_match 48 = .ok (.ifCond .ne 6, 3) := by decide +kernel
theorem dX8_match_51 : decode cX8_match 51 = .ok (.bipush (-5), 2) := by decide +kernel
theorem dX8_match_53 : decode cX8_match 53 = .ok (.ireturn, 1) := by decide +kernel
theorem dX8_match_54 : decode cX8_match 54 = .ok (.iload_n 3, 1) := by decide +kernel
theorem dX8_match_55 : decode cX8_match 55 = .ok (.iconst (-1), 1) := by decide +kernel
theorem dX8_match_56 : decode cX8_match 56 = .ok (.if_icmp .ne 13, 3) := by decide +kernel
theorem dX8_match_59 : decode cX8_match 59 = .ok (.aload_n 0, 1) := by decide +kernel
theorem dX8_match_60 : decode cX8_match 60 = .ok (.getfield 58, 3) := by decide +kernel
theorem dX8_match_63 : decode cX8_match 63 = .ok (.invokevirtual 213, 3) := by decide +kernel
theorem dX8_match_66 : decode cX8_match 66 = .ok (.goto 12, 3) := by decide +kernel
theorem dX8_match_69 : decode cX8_match 69 = .ok (.aload_n 0, 1) := by decide +kernel
theorem dX8_match_70 : decode cX8_match 70 = .ok (.getfield 58, 3) := by decide +kernel
theorem dX8_match_73 : decode cX8_match 73 = .ok (.getfield 216, 3) := by decide +kernel
theorem dX8_match_76 : decode cX8_match 76 = .ok (.iload_n 3, 1) := by decide +kernel
theorem dX8_match_77 : decode cX8_match 77 = .ok (.iaload, 1) := by decide +kernel
theorem dX8_match_78 : decode cX8_match 78 = .ok (.ireturn, 1) := by decide +kernel
set_option maxRecDepth 20000 in
theorem ggX8_held_X8_within : GoodIn wsX8_held wsX8_within := goodIn_r _ [6] (by decide +kernel) (by decide +kernel)
set_option maxRecDepth 20000 in
theorem gX8_held_X8_within : GoodIn wsX8_held (va_wsS RX8 62 yX8_within wsX8_within) := goodIn_app (goodIn_of _ (by decide +kernel)) ggX8_held_X8_within
set_option maxRecDepth 20000 in
theorem ggX8_held_X8_agreement : GoodIn wsX8_held wsX8_agreement := goodIn_r _ [10, 1, 11, 12, 13, 14, 15, 16, 17, 18, 19, 20, 21, 22, 23, 24, 25, 26, 27, 28, 29, 30, 31, 32, 33, 34, 35, 36, 37, 38, 39, 40, 41, 42, 43, 44, 45, 46, 47, 48, 49, 50, 51, 52, 53, 54, 55, 56, 57, 58, 59] (by decide +kernel) (by decide +kernel)
set_option maxRecDepth 20000 in
theorem gX8_held_X8_agreement : GoodIn wsX8_held (wsV RX8 219 RX8 yX8_agreement wsX8_agreement) := goodIn_app (goodIn_of _ (by decide +kernel)) ggX8_held_X8_agreement
theorem dX8_held_0 : decode cX8_held 0 = .ok (.iload_n 1, 1) := by decide +kernel
theorem dX8_held_1 : decode cX8_held 1 = .ok (.iconst 0, 1) := by decide +kernel
theorem dX8_held_2 : decode cX8_held 2 = .ok (.iconst 1, 1) := by decide +kernel
theorem dX8_held_3 : decode cX8_held 3 = .ok (.invokestatic 62, 3) := by decide +kernel
theorem dX8_held_6 : decode cX8_held 6 = .ok (.ifCond .ne 6, 3) := by decide +kernel
theorem dX8_held_9 : decode cX8_held 9 = .ok (.bipush (-2), 2) := by decide +kernel
theorem dX8_held_11 : decode cX8_held 11 = .ok (.ireturn, 1) := by decide +kernel
theorem dX8_held_12 : decode cX8_held 12 = .ok (.iload_n 1, 1) := by decide +kernel
theorem dX8_held_13 : decode cX8_held 13 = .ok (.ifCond .ne 7, 3) := by decide +kernel
theorem dX8_held_16 : decode cX8_held 16 = .ok (.iconst 1, 1) := by decide +kernel
theorem dX8_held_17 : decode cX8_held 17 = .ok (.goto 4, 3) := by decide +kernel
theorem dX8_held_20 : decode cX8_held 20 = .ok (.iconst (-1), 1) := by decide +kernel
theorem dX8_held_21 : decode cX8_held 21 = .ok (.istore_n 2, 1) := by decide +kernel
theorem dX8_held_22 : decode cX8_held 22 = .ok (.iconst 0, 1) := by decide +kernel
theorem dX8_held_23 : decode cX8_held 23 = .ok (.istore_n 3, 1) := by decide +kernel
theorem dX8_held_24 : decode cX8_held 24 = .ok (.iconst 0, 1) := by decide +kernel
theorem dX8_held_25 : decode cX8_held 25 = .ok (.istore 4, 2) := by decide +kernel
theorem dX8_held_27 : decode cX8_held 27 = .ok (.iload 4, 2) := by decide +kernel
theorem dX8_held_29 : decode cX8_held 29 = .ok (.aload_n 0, 1) := by decide +kernel
theorem dX8_held_30 : decode cX8_held 30 = .ok (.getfield 19, 3) := by decide +kernel
theorem dX8_held_33 : decode cX8_held 33 = .ok (.getfield 192, 3) := by decide +kernel
theorem dX8_held_36 : decode cX8_held 36 = .ok (.if_icmp .ge 48, 3) := by decide +kernel
theorem dX8_held_39 : decode cX8_held 39 = .ok (.iload 4, 2) := by decide +kernel
theorem dX8_held_41 : decode cX8_held 41 = .ok (.iconst 1, 1) := by decide +kernel
theorem dX8_held_42 : decode cX8_held 42 = .ok (.iadd, 1) := by decide +kernel
theorem dX8_held_43 : decode cX8_held 43 = .ok (.istore 5, 2) := by decide +kernel
theorem dX8_held_45 : decode cX8_held 45 = .ok (.iload 5, 2) := by decide +kernel
theorem dX8_held_47 : decode cX8_held 47 = .ok (.aload_n 0, 1) := by decide +kernel
theorem dX8_held_48 : decode cX8_held 48 = .ok (.getfield 19, 3) := by decide +kernel
theorem dX8_held_51 : decode cX8_held 51 = .ok (.getfield 192, 3) := by decide +kernel
theorem dX8_held_54 : decode cX8_held 54 = .ok (.if_icmp .ge 24, 3) := by decide +kernel
theorem dX8_held_57 : decode cX8_held 57 = .ok (.aload_n 0, 1) := by decide +kernel
theorem dX8_held_58 : decode cX8_held 58 = .ok (.iload 4, 2) := by decide +kernel
theorem dX8_held_60 : decode cX8_held 60 = .ok (.iload 5, 2) := by decide +kernel
theorem dX8_held_62 : decode cX8_held 62 = .ok (.invokevirtual 219, 3) := by decide +kernel
theorem dX8_held_65 : decode cX8_held 65 = .ok (.iload_n 2, 1) := by decide +kernel
theorem dX8_held_66 : decode cX8_held 66 = .ok (.if_icmp .ne 6, 3) := by decide +kernel
theorem dX8_held_69 : decode cX8_held 69 = .ok (.iinc 3 1, 3) := by decide +kernel
theorem dX8_held_72 : decode cX8_held 72 = .ok (.iinc 5 1, 3) := by decide +kernel
theorem dX8_held_75 : decode cX8_held 75 = .ok (.goto (-30), 3) := by decide +kernel
theorem dX8_held_78 : decode cX8_held 78 = .ok (.iinc 4 1, 3) := by decide +kernel
theorem dX8_held_81 : decode cX8_held 81 = .ok (.goto (-54), 3) := by decide +kernel
theorem dX8_held_84 : decode cX8_held 84 = .ok (.iload_n 3, 1) := by decide +kernel
theorem dX8_held_85 : decode cX8_held 85 = .ok (.ireturn, 1) := by decide +kernel
set_option maxRecDepth 20000 in
theorem ggX8_told_X1_countAll : GoodIn wsX8_told wsX1_countAll := goodIn_r _ [14, 15, 16, 17, 13, 18, 19, 20, 21, 22, 23, 24, 25, 26, 27, 28, 29, 30, 31, 32, 33, 34, 35, 36, 37, 38, 63, 64] (by decide +kernel) (by decide +kernel)
set_option maxRecDepth 20000 in
theorem gX8_told_X1_countAll : GoodIn wsX8_told (wsV RX8 223 RX1 yX1_countAll wsX1_countAll) := goodIn_app (goodIn_of _ (by decide +kernel)) ggX8_told_X1_countAll
theorem dX8_told_0 : decode cX8_told 0 = .ok (.iload_n 1, 1) := by decide +kernel
theorem dX8_told_1 : decode cX8_told 1 = .ok (.tableswitch 75 0 4 #[35, 43, 51, 59, 67], 35) := by decide +kernel
theorem dX8_told_36 : decode cX8_told 36 = .ok (.aload_n 0, 1) := by decide +kernel
theorem dX8_told_37 : decode cX8_told 37 = .ok (.getfield 10, 3) := by decide +kernel
theorem dX8_told_40 : decode cX8_told 40 = .ok (.getfield 191, 3) := by decide +kernel
theorem dX8_told_43 : decode cX8_told 43 = .ok (.ireturn, 1) := by decide +kernel
theorem dX8_told_44 : decode cX8_told 44 = .ok (.aload_n 0, 1) := by decide +kernel
theorem dX8_told_45 : decode cX8_told 45 = .ok (.getfield 19, 3) := by decide +kernel
theorem dX8_told_48 : decode cX8_told 48 = .ok (.getfield 192, 3) := by decide +kernel
theorem dX8_told_51 : decode cX8_told 51 = .ok (.ireturn, 1) := by decide +kernel
theorem dX8_told_52 : decode cX8_told 52 = .ok (.aload_n 0, 1) := by decide +kernel
theorem dX8_told_53 : decode cX8_told 53 = .ok (.getfield 33, 3) := by decide +kernel
theorem dX8_told_56 : decode cX8_told 56 = .ok (.getfield 222, 3) := by decide +kernel
theorem dX8_told_59 : decode cX8_told 59 = .ok (.ireturn, 1) := by decide +kernel
theorem dX8_told_60 : decode cX8_told 60 = .ok (.aload_n 0, 1) := by decide +kernel
theorem dX8_told_61 : decode cX8_told 61 = .ok (.getfield 40, 3) := by decide +kernel
theorem dX8_told_64 : decode cX8_told 64 = .ok (.getfield 122, 3) := by decide +kernel
theorem dX8_told_67 : decode cX8_told 67 = .ok (.ireturn, 1) := by decide +kernel
theorem dX8_told_68 : decode cX8_told 68 = .ok (.aload_n 0, 1) := by decide +kernel
theorem dX8_told_69 : decode cX8_told 69 = .ok (.getfield 26, 3) := by decide +kernel
theorem dX8_told_72 : decode cX8_told 72 = .ok (.invokevirtual 223, 3) := by decide +kernel
theorem dX8_told_75 : decode cX8_told 75 = .ok (.ireturn, 1) := by decide +kernel
theorem dX8_told_76 : decode cX8_told 76 = .ok (.bipush (-2), 2) := by decide +kernel
theorem dX8_told_78 : decode cX8_told 78 = .ok (.ireturn, 1) := by decide +kernel
theorem dX8_within_0 : decode cX8_within 0 = .ok (.iload_n 0, 1) := by decide +kernel
theorem dX8_within_1 : decode cX8_within 1 = .ok (.iload_n 1, 1) := by decide +kernel
theorem dX8_within_2 : decode cX8_within 2 = .ok (.if_icmp .lt 12, 3) := by decide +kernel
theorem dX8_within_5 : decode cX8_within 5 = .ok (.iload_n 0, 1) := by decide +kernel
theorem dX8_within_6 : decode cX8_within 6 = .ok (.iload_n 2, 1) := by decide +kernel
theorem dX8_within_7 : decode cX8_within 7 = .ok (.if_icmp .gt 7, 3) := by decide +kernel
theorem dX8_within_10 : decode cX8_within 10 = .ok (.iconst 1, 1) := by decide +kernel
theorem dX8_within_11 : decode cX8_within 11 = .ok (.goto 4, 3) := by decide +kernel
theorem dX8_within_14 : decode cX8_within 14 = .ok (.iconst 0, 1) := by decide +kernel
theorem dX8_within_15 : decode cX8_within 15 = .ok (.ireturn, 1) := by decide +kernel
set_option maxRecDepth 20000 in
theorem ggX8_isPart_X8_within : GoodIn wsX8_isPart wsX8_within := goodIn_r _ [4] (by decide +kernel) (by decide +kernel)
set_option maxRecDepth 20000 in
theorem gX8_isPart_X8_within : GoodIn wsX8_isPart (va_wsS RX8 62 yX8_within wsX8_within) := goodIn_app (goodIn_of _ (by decide +kernel)) ggX8_isPart_X8_within
theorem dX8_isPart_0 : decode cX8_isPart 0 = .ok (.iload_n 0, 1) := by decide +kernel
theorem dX8_isPart_1 : decode cX8_isPart 1 = .ok (.iconst 0, 1) := by decide +kernel
theorem dX8_isPart_2 : decode cX8_isPart 2 = .ok (.iconst 1, 1) := by decide +kernel
theorem dX8_isPart_3 : decode cX8_isPart 3 = .ok (.invokestatic 62, 3) := by decide +kernel
theorem dX8_isPart_6 : decode cX8_isPart 6 = .ok (.ireturn, 1) := by decide +kernel
set_option maxRecDepth 20000 in
theorem ggX8_isBar_X8_within : GoodIn wsX8_isBar wsX8_within := goodIn_r _ [4] (by decide +kernel) (by decide +kernel)
set_option maxRecDepth 20000 in
theorem gX8_isBar_X8_within : GoodIn wsX8_isBar (va_wsS RX8 62 yX8_within wsX8_within) := goodIn_app (goodIn_of _ (by decide +kernel)) ggX8_isBar_X8_within
theorem dX8_isBar_0 : decode cX8_isBar 0 = .ok (.iload_n 0, 1) := by decide +kernel
theorem dX8_isBar_1 : decode cX8_isBar 1 = .ok (.iconst 1, 1) := by decide +kernel
theorem dX8_isBar_2 : decode cX8_isBar 2 = .ok (.iconst 5, 1) := by decide +kernel
theorem dX8_isBar_3 : decode cX8_isBar 3 = .ok (.invokestatic 62, 3) := by decide +kernel
theorem dX8_isBar_6 : decode cX8_isBar 6 = .ok (.ireturn, 1) := by decide +kernel
set_option maxRecDepth 20000 in
theorem ggX8_areJudges_X8_within : GoodIn wsX8_areJudges wsX8_within := goodIn_r _ [6] (by decide +kernel) (by decide +kernel)
set_option maxRecDepth 20000 in
theorem gX8_areJudges_X8_within : GoodIn wsX8_areJudges (va_wsS RX8 62 yX8_within wsX8_within) := goodIn_app (goodIn_of _ (by decide +kernel)) ggX8_areJudges_X8_within
theorem dX8_areJudges_0 : decode cX8_areJudges 0 = .ok (.iload_n 1, 1) := by decide +kernel
theorem dX8_areJudges_1 : decode cX8_areJudges 1 = .ok (.iconst 0, 1) := by decide +kernel
theorem dX8_areJudges_2 : decode cX8_areJudges 2 = .ok (.iconst 1, 1) := by decide +kernel
theorem dX8_areJudges_3 : decode cX8_areJudges 3 = .ok (.aload_n 0, 1) := by decide +kernel
theorem dX8_areJudges_4 : decode cX8_areJudges 4 = .ok (.getfield 10, 3) := by decide +kernel
theorem dX8_areJudges_7 : decode cX8_areJudges 7 = .ok (.getfield 191, 3) := by decide +kernel
theorem dX8_areJudges_10 : decode cX8_areJudges 10 = .ok (.ishl, 1) := by decide +kernel
theorem dX8_areJudges_11 : decode cX8_areJudges 11 = .ok (.iconst 1, 1) := by decide +kernel
theorem dX8_areJudges_12 : decode cX8_areJudges 12 = .ok (.isub, 1) := by decide +kernel
theorem dX8_areJudges_13 : decode cX8_areJudges 13 = .ok (.invokestatic 62, 3) := by decide +kernel
theorem dX8_areJudges_16 : decode cX8_areJudges 16 = .ok (.ireturn, 1) := by decide +kernel
theorem dX8_hasBit_0 : decode cX8_hasBit 0 = .ok (.iload_n 0, 1) := by decide +kernel
theorem dX8_hasBit_1 : decode cX8_hasBit 1 = .ok (.iload_n 1, 1) := by decide +kernel
theorem dX8_hasBit_2 : decode cX8_hasBit 2 = .ok (.ishr, 1) := by decide +kernel
theorem dX8_hasBit_3 : decode cX8_hasBit 3 = .ok (.iconst 1, 1) := by decide +kernel
theorem dX8_hasBit_4 : decode cX8_hasBit 4 = .ok (.iand, 1) := by decide +kernel
theorem dX8_hasBit_5 : decode cX8_hasBit 5 = .ok (.iconst 1, 1) := by decide +kernel
theorem dX8_hasBit_6 : decode cX8_hasBit 6 = .ok (.if_icmp .ne 7, 3) := by decide +kernel
theorem dX8_hasBit_9 : decode cX8_hasBit 9 = .ok (.iconst 1, 1) := by decide +kernel
theorem dX8_hasBit_10 : decode cX8_hasBit 10 = .ok (.goto 4, 3) := by decide +kernel
theorem dX8_hasBit_13 : decode cX8_hasBit 13 = .ok (.iconst 0, 1) := by decide +kernel
theorem dX8_hasBit_14 : decode cX8_hasBit 14 = .ok (.ireturn, 1) := by decide +kernel
theorem dX8_replace_0 : decode cX8_replace 0 = .ok (.aload_n 0, 1) := by decide +kernel
theorem dX8_replace_1 : decode cX8_replace 1 = .ok (.iload_n 1, 1) := by decide +kernel
theorem dX8_replace_2 : decode cX8_replace 2 = .ok (.iaload, 1) := by decide +kernel
theorem dX8_replace_3 : decode cX8_replace 3 = .ok (.istore_n 3, 1) := by decide +kernel
theorem dX8_replace_4 : decode cX8_replace 4 = .ok (.aload_n 0, 1) := by decide +kernel
theorem dX8_replace_5 : decode cX8_replace 5 = .ok (.iload_n 1, 1) := by decide +kernel
theorem dX8_replace_6 : decode cX8_replace 6 = .ok (.iload_n 2, 1) := by decide +kernel
theorem dX8_replace_7 : decode cX8_replace 7 = .ok (.iastore, 1) := by decide +kernel
theorem dX8_replace_8 : decode cX8_replace 8 = .ok (.iload_n 3, 1) := by decide +kernel
theorem dX8_replace_9 : decode cX8_replace 9 = .ok (.ireturn, 1) := by decide +kernel
theorem dX8_refusalOfOdds_0 : decode cX8_refusalOfOdds 0 = .ok (.iload_n 1, 1) := by decide +kernel
theorem dX8_refusalOfOdds_1 : decode cX8_refusalOfOdds 1 = .ok (.ifCond .ne 5, 3) := by decide +kernel
theorem dX8_refusalOfOdds_4 : decode cX8_refusalOfOdds 4 = .ok (.iconst (-1), 1) := by decide +kernel
theorem dX8_refusalOfOdds_5 : decode cX8_refusalOfOdds 5 = .ok (.ireturn, 1) := by decide +kernel
theorem dX8_refusalOfOdds_6 : decode cX8_refusalOfOdds 6 = .ok (.iload_n 2, 1) := by decide +kernel
theorem dX8_refusalOfOdds_7 : decode cX8_refusalOfOdds 7 = .ok (.ifCond .ne 6, 3) := by decide +kernel
theorem dX8_refusalOfOdds_10 : decode cX8_refusalOfOdds 10 = .ok (.bipush (-2), 2) := by decide +kernel
theorem dX8_refusalOfOdds_12 : decode cX8_refusalOfOdds 12 = .ok (.ireturn, 1) := by decide +kernel
theorem dX8_refusalOfOdds_13 : decode cX8_refusalOfOdds 13 = .ok (.aload_n 0, 1) := by decide +kernel
theorem dX8_refusalOfOdds_14 : decode cX8_refusalOfOdds 14 = .ok (.getfield 40, 3) := by decide +kernel
theorem dX8_refusalOfOdds_17 : decode cX8_refusalOfOdds 17 = .ok (.getfield 122, 3) := by decide +kernel
theorem dX8_refusalOfOdds_20 : decode cX8_refusalOfOdds 20 = .ok (.ifCond .ne 8, 3) := by decide +kernel
theorem dX8_refusalOfOdds_23 : decode cX8_refusalOfOdds 23 = .ok (.bipush (-3), 2) := by decide +kernel
theorem dX8_refusalOfOdds_25 : decode cX8_refusalOfOdds 25 = .ok (.goto 4, 3) := by decide +kernel
theorem dX8_refusalOfOdds_28 : decode cX8_refusalOfOdds 28 = .ok (.iconst 0, 1) := by decide +kernel
theorem dX8_refusalOfOdds_29 : decode cX8_refusalOfOdds 29 = .ok (.ireturn, 1) := by decide +kernel
set_option maxRecDepth 20000 in
theorem ggX8_tell_X8_greatestDivisor : GoodIn wsX8_tell wsX8_greatestDivisor := goodIn_r _ [8] (by decide +kernel) (by decide +kernel)
set_option maxRecDepth 20000 in
theorem gX8_tell_X8_greatestDivisor : GoodIn wsX8_tell (va_wsS RX8 232 yX8_greatestDivisor wsX8_greatestDivisor) := goodIn_app (goodIn_of _ (by decide +kernel)) ggX8_tell_X8_greatestDivisor
theorem dX8_tell_0 : decode cX8_tell 0 = .ok (.lload_n 0, 1) := by decide +kernel
theorem dX8_tell_1 : decode cX8_tell 1 = .ok (.invokestatic 226, 3) := by decide +kernel
theorem dX8_tell_4 : decode cX8_tell 4 = .ok (.lload_n 2, 1) := by decide +kernel
theorem dX8_tell_5 : decode cX8_tell 5 = .ok (.invokestatic 232, 3) := by decide +kernel
theorem dX8_tell_8 : decode cX8_tell 8 = .ok (.lstore 5, 2) := by decide +kernel
theorem dX8_tell_10 : decode cX8_tell 10 = .ok (.lload_n 0, 1) := by decide +kernel
theorem dX8_tell_11 : decode cX8_tell 11 = .ok (.lconst 0, 1) := by decide +kernel
theorem dX8_tell_12 : decode cX8_tell 12 = .ok (.lcmp, 1) := by decide +kernel
theorem dX8_tell_13 : decode cX8_tell 13 = .ok (.ifCond .eq 16, 3) := by decide +kernel
theorem dX8_tell_16 : decode cX8_tell 16 = .ok (.lload_n 2, 1) := by decide +kernel
theorem dX8_tell_17 : decode cX8_tell 17 = .ok (.lconst 0, 1) := by decide +kernel
theorem dX8_tell_18 : decode cX8_tell 18 = .ok (.lcmp, 1) := by decide +kernel
theorem dX8_tell_19 : decode cX8_tell 19 = .ok (.ifCond .eq 10, 3) := by decide +kernel
theorem dX8_tell_22 : decode cX8_tell 22 = .ok (.lload 5, 2) := by decide +kernel
theorem dX8_tell_24 : decode cX8_tell 24 = .ok (.lconst 0, 1) := by decide +kernel
theorem dX8_tell_25 : decode cX8_tell 25 = .ok (.lcmp, 1) := by decide +kernel
theorem dX8_tell_26 : decode cX8_tell 26 = .ok (.ifCond .ne 14, 3) := by decide +kernel
theorem dX8_tell_29 : decode cX8_tell 29 = .ok (.iload 4, 2) := by decide +kernel
theorem dX8_tell_31 : decode cX8_tell 31 = .ok (.ifCond .ne 7, 3) := by decide +kernel
theorem dX8_tell_34 : decode cX8_tell 34 = .ok (.lconst 0, 1) := by decide +kernel
theorem dX8_tell_35 : decode cX8_tell 35 = .ok (.goto 4, 3) := by decide +kernel
theorem dX8_tell_38 : decode cX8_tell 38 = .ok (.lconst 1, 1) := by decide +kernel
theorem dX8_tell_39 : decode cX8_tell 39 = .ok (.lreturn, 1) := by decide +kernel
theorem dX8_tell_40 : decode cX8_tell 40 = .ok (.iload 4, 2) := by decide +kernel
theorem dX8_tell_42 : decode cX8_tell 42 = .ok (.ifCond .ne 7, 3) := by decide +kernel
theorem dX8_tell_45 : decode cX8_tell 45 = .ok (.lload_n 0, 1) := by decide +kernel
theorem dX8_tell_46 : decode cX8_tell 46 = .ok (.goto 4, 3) := by decide +kernel
theorem dX8_tell_49 : decode cX8_tell 49 = .ok (.lload_n 2, 1) := by decide +kernel
theorem dX8_tell_50 : decode cX8_tell 50 = .ok (.lload 5, 2) := by decide +kernel
theorem dX8_tell_52 : decode cX8_tell 52 = .ok (.ldiv, 1) := by decide +kernel
theorem dX8_tell_53 : decode cX8_tell 53 = .ok (.lreturn, 1) := by decide +kernel
theorem dX8_greatestDivisor_0 : decode cX8_greatestDivisor 0 = .ok (.iconst 0, 1) := by decide +kernel
theorem dX8_greatestDivisor_1 : decode cX8_greatestDivisor 1 = .ok (.istore 4, 2) := by decide +kernel
theorem dX8_greatestDivisor_3 : decode cX8_greatestDivisor 3 = .ok (.iload 4, 2) := by decide +kernel
theorem dX8_greatestDivisor_5 : decode cX8_greatestDivisor 5 = .ok (.bipush 100, 2) := by decide +kernel
theorem dX8_greatestDivisor_7 : decode cX8_greatestDivisor 7 = .ok (.if_icmp .ge 25, 3) := by decide +kernel
theorem dX8_greatestDivisor_10 : decode cX8_greatestDivisor 10 = .ok (.lload_n 2, 1) := by decide +kernel
theorem dX8_greatestDivisor_11 : decode cX8_greatestDivisor 11 = .ok (.lconst 0, 1) := by decide +kernel
theorem dX8_greatestDivisor_12 : decode cX8_greatestDivisor 12 = .ok (.lcmp, 1) := by decide +kernel
theorem dX8_greatestDivisor_13 : decode cX8_greatestDivisor 13 = .ok (.ifCond .eq 19, 3) := by decide +kernel
theorem dX8_greatestDivisor_16 : decode cX8_greatestDivisor 16 = .ok (.lload_n 0, 1) := by decide +kernel
theorem dX8_greatestDivisor_17 : decode cX8_greatestDivisor 17 = .ok (.lload_n 2, 1) := by decide +kernel
theorem dX8_greatestDivisor_18 : decode cX8_greatestDivisor 18 = .ok (.lrem, 1) := by decide +kernel
theorem dX8_greatestDivisor_19 : decode cX8_greatestDivisor 19 = .ok (.lstore 5, 2) := by decide +kernel
theorem dX8_greatestDivisor_21 : decode cX8_greatestDivisor 21 = .ok (.lload_n 2, 1) := by decide +kernel
theorem dX8_greatestDivisor_22 : decode cX8_greatestDivisor 22 = .ok (.lstore_n 0, 1) := by decide +kernel
theorem dX8_greatestDivisor_23 : decode cX8_greatestDivisor 23 = .ok (.lload 5, 2) := by decide +kernel
theorem dX8_greatestDivisor_25 : decode cX8_greatestDivisor 25 = .ok (.lstore_n 2, 1) := by decide +kernel
theorem dX8_greatestDivisor_26 : decode cX8_greatestDivisor 26 = .ok (.iinc 4 1, 3) := by decide +kernel
theorem dX8_greatestDivisor_29 : decode cX8_greatestDivisor 29 = .ok (.goto (-26), 3) := by decide +kernel
theorem dX8_greatestDivisor_32 : decode cX8_greatestDivisor 32 = .ok (.lload_n 0, 1) := by decide +kernel
theorem dX8_greatestDivisor_33 : decode cX8_greatestDivisor 33 = .ok (.lreturn, 1) := by decide +kernel
theorem dX8_power_0 : decode cX8_power 0 = .ok (.lconst 1, 1) := by decide +kernel
theorem dX8_power_1 : decode cX8_power 1 = .ok (.lstore_n 3, 1) := by decide +kernel
theorem dX8_power_2 : decode cX8_power 2 = .ok (.iconst 0, 1) := by decide +kernel
theorem dX8_power_3 : decode cX8_power 3 = .ok (.istore 5, 2) := by decide +kernel
theorem dX8_power_5 : decode cX8_power 5 = .ok (.iload 5, 2) := by decide +kernel
theorem dX8_power_7 : decode cX8_power 7 = .ok (.iload_n 2, 1) := by decide +kernel
theorem dX8_power_8 : decode cX8_power 8 = .ok (.if_icmp .ge 13, 3) := by decide +kernel
theorem dX8_power_11 : decode cX8_power 11 = .ok (.lload_n 3, 1) := by decide +kernel
theorem dX8_power_12 : decode cX8_power 12 = .ok (.lload_n 0, 1) := by decide +kernel
theorem dX8_power_13 : decode cX8_power 13 = .ok (.lmul, 1) := by decide +kernel
theorem dX8_power_14 : decode cX8_power 14 = .ok (.lstore_n 3, 1) := by decide +kernel
theorem dX8_power_15 : decode cX8_power 15 = .ok (.iinc 5 1, 3) := by decide +kernel
theorem dX8_power_18 : decode cX8_power 18 = .ok (.goto (-13), 3) := by decide +kernel
theorem dX8_power_21 : decode cX8_power 21 = .ok (.lload_n 3, 1) := by decide +kernel
theorem dX8_power_22 : decode cX8_power 22 = .ok (.lreturn, 1) := by decide +kernel
set_option maxRecDepth 20000 in
theorem ggX8_favours_X1_of : GoodIn wsX8_favours wsX1_of := goodIn_r _ [9, 10, 24, 25] (by decide +kernel) (by decide +kernel)
set_option maxRecDepth 20000 in
theorem gX8_favours_X1_of : GoodIn wsX8_favours (wsV RX8 236 RX1 yX1_of wsX1_of) := goodIn_app (goodIn_of _ (by decide +kernel)) ggX8_favours_X1_of
theorem dX8_favours_0 : decode cX8_favours 0 = .ok (.iconst 0, 1) := by decide +kernel
theorem dX8_favours_1 : decode cX8_favours 1 = .ok (.istore_n 3, 1) := by decide +kernel
theorem dX8_favours_2 : decode cX8_favours 2 = .ok (.iload_n 3, 1) := by decide +kernel
theorem dX8_favours_3 : decode cX8_favours 3 = .ok (.aload_n 0, 1) := by decide +kernel
theorem dX8_favours_4 : decode cX8_favours 4 = .ok (.getfield 19, 3) := by decide +kernel
theorem dX8_favours_7 : decode cX8_favours 7 = .ok (.getfield 192, 3) := by decide +kernel
theorem dX8_favours_10 : decode cX8_favours 10 = .ok (.if_icmp .ge 37, 3) := by decide +kernel
theorem dX8_favours_13 : decode cX8_favours 13 = .ok (.aload_n 0, 1) := by decide +kernel
theorem dX8_favours_14 : decode cX8_favours 14 = .ok (.getfield 19, 3) := by decide +kernel
theorem dX8_favours_17 : decode cX8_favours 17 = .ok (.getfield 83, 3) := by decide +kernel
theorem dX8_favours_20 : decode cX8_favours 20 = .ok (.iload_n 3, 1) := by decide +kernel
theorem dX8_favours_21 : decode cX8_favours 21 = .ok (.iaload, 1) := by decide +kernel
theorem dX8_favours_22 : decode cX8_favours 22 = .ok (.iload_n 2, 1) := by decide +kernel
theorem dX8_favours_23 : decode cX8_favours 23 = .ok (.if_icmp .ne 18, 3) := by decide +kernel
theorem dX8_favours_26 : decode cX8_favours 26 = .ok (.aload_n 0, 1) := by decide +kernel
theorem dX8_favours_27 : decode cX8_favours 27 = .ok (.getfield 26, 3) := by decide +kernel
theorem dX8_favours_30 : decode cX8_favours 30 = .ok (.iload_n 1, 1) := by decide +kernel
theorem dX8_favours_31 : decode cX8_favours 31 = .ok (.iload_n 3, 1) := by decide +kernel
theorem dX8_favours_32 : decode cX8_favours 32 = .ok (.invokevirtual 236, 3) := by decide +kernel
theorem dX8_favours_35 : decode cX8_favours 35 = .ok (.iconst 4, 1) := by decide +kernel
theorem dX8_favours_36 : decode cX8_favours 36 = .ok (.if_icmp .lt 5, 3) := by decide +kernel
theorem dX8_favours_39 : decode cX8_favours 39 = .ok (.iconst 1, 1) := by decide +kernel
theorem dX8_favours_40 : decode cX8_favours 40 = .ok (.ireturn, 1) := by decide +kernel
theorem dX8_favours_41 : decode cX8_favours 41 = .ok (.iinc 3 1, 3) := by decide +kernel
theorem dX8_favours_44 : decode cX8_favours 44 = .ok (.goto (-42), 3) := by decide +kernel
theorem dX8_favours_47 : decode cX8_favours 47 = .ok (.iconst 0, 1) := by decide +kernel
theorem dX8_favours_48 : decode cX8_favours 48 = .ok (.ireturn, 1) := by decide +kernel
set_option maxRecDepth 20000 in
theorem ggX8_agreement_X1_countOf : GoodIn wsX8_agreement wsX1_countOf := goodIn_r _ [8, 9, 10, 11, 7, 12, 13, 14, 15, 16, 17, 18, 19, 20, 21, 22, 23, 24, 25, 26, 27, 28, 49, 50] (by decide +kernel) (by decide +kernel)
set_option maxRecDepth 20000 in
theorem gX8_agreement_X1_countOf : GoodIn wsX8_agreement (wsV RX8 239 RX1 yX1_countOf wsX1_countOf) := goodIn_app (goodIn_of _ (by decide +kernel)) ggX8_agreement_X1_countOf
set_option maxRecDepth 20000 in
theorem ggX8_agreement_X1_sumOf : GoodIn wsX8_agreement wsX1_sumOf := goodIn_r _ [32, 13, 14, 15, 7, 16, 17, 18, 19, 20, 21, 49, 50] (by decide +kernel) (by decide +kernel)
set_option maxRecDepth 20000 in
theorem gX8_agreement_X1_sumOf : GoodIn wsX8_agreement (wsV RX8 242 RX1 yX1_sumOf wsX1_sumOf) := goodIn_app (goodIn_of _ (by decide +kernel)) ggX8_agreement_X1_sumOf
set_option maxRecDepth 20000 in
theorem ggX8_agreement_J6_compare_7cf53 : GoodIn wsX8_agreement wsJ6_compare_7cf53 := goodIn_r _ [35] (by decide +kernel) (by decide +kernel)
set_option maxRecDepth 20000 in
theorem gX8_agreement_J6_compare_7cf53 : GoodIn wsX8_agreement (va_wsS RX8 245 yJ6_compare_7cf53 wsJ6_compare_7cf53) := goodIn_app (goodIn_of _ (by decide +kernel)) ggX8_agreement_J6_compare_7cf53
theorem dX8_agreement_0 : decode cX8_agreement 0 = .ok (.aload_n 0, 1) := by decide +kernel
theorem dX8_agreement_1 : decode cX8_agreement 1 = .ok (.getfield 19, 3) := by decide +kernel
theorem dX8_agreement_4 : decode cX8_agreement 4 = .ok (.getfield 105, 3) := by decide +kernel
theorem dX8_agreement_7 : decode cX8_agreement 7 = .ok (.iload_n 1, 1) := by decide +kernel
theorem dX8_agreement_8 : decode cX8_agreement 8 = .ok (.iaload, 1) := by decide +kernel
theorem dX8_agreement_9 : decode cX8_agreement 9 = .ok (.istore_n 3, 1) := by decide +kernel
theorem dX8_agreement_10 : decode cX8_agreement 10 = .ok (.aload_n 0, 1) := by decide +kernel
theorem dX8_agreement_11 : decode cX8_agreement 11 = .ok (.getfield 19, 3) := by decide +kernel
theorem dX8_agreement_14 : decode cX8_agreement 14 = .ok (.getfield 105, 3) := by decide +kernel
theorem dX8_agreement_17 : decode cX8_agreement 17 = .ok (.iload_n 2, 1) := by decide +kernel
theorem dX8_agreement_18 : decode cX8_agreement 18 = .ok (.iaload, 1) := by decide +kernel
theorem dX8_agreement_19 : decode cX8_agreement 19 = .ok (.istore 4, 2) := by decide +kernel
theorem dX8_agreement_21 : decode cX8_agreement 21 = .ok (.aload_n 0, 1) := by decide +kernel
theorem dX8_agreement_22 : decode cX8_agreement 22 = .ok (.getfield 26, 3) := by decide +kernel
theorem dX8_agreement_25 : decode cX8_agreement 25 = .ok (.iload_n 1, 1) := by decide +kernel
theorem dX8_agreement_26 : decode cX8_agreement 26 = .ok (.invokevirtual 239, 3) := by decide +kernel
theorem dX8_agreement_29 : decode cX8_agreement 29 = .ok (.istore 5, 2) := by decide +kernel
theorem dX8_agreement_31 : decode cX8_agreement 31 = .ok (.aload_n 0, 1) := by decide +kernel
theorem dX8_agreement_32 : decode cX8_agreement 32 = .ok (.getfield 26, 3) := by decide +kernel
theorem dX8_agreement_35 : decode cX8_agreement 35 = .ok (.iload_n 2, 1) := by decide +kernel
theorem dX8_agreement_36 : decode cX8_agreement 36 = .ok (.invokevirtual 239, 3) := by decide +kernel
theorem dX8_agreement_39 : decode cX8_agreement 39 = .ok (.istore 6, 2) := by decide +kernel
theorem dX8_agreement_41 : decode cX8_agreement 41 = .ok (.iload_n 3, 1) := by decide +kernel
theorem dX8_agreement_42 : decode cX8_agreement 42 = .ok (.bipush (-6), 2) := by decide +kernel
theorem dX8_agreement_44 : decode cX8_agreement 44 = .ok (.if_icmp .eq 20, 3) := by decide +kernel
theorem dX8_agreement_47 : decode cX8_agreement 47 = .ok (.iload 4, 2) := by decide +kernel
theorem dX8_agreement_49 : decode cX8_agreement 49 = .ok (.bipush (-6), 2) := by decide +kernel
theorem dX8_agreement_51 : decode cX8_agreement 51 = .ok (.if_icmp .eq 13, 3) := by decide +kernel
theorem dX8_agreement_54 : decode cX8_agreement 54 = .ok (.iload 5, 2) := by decide +kernel
theorem dX8_agreement_56 : decode cX8_agreement 56 = .ok (.ifCond .eq 8, 3) := by decide +kernel
theorem dX8_agreement_59 : decode cX8_agreement 59 = .ok (.iload 6, 2) := by decide +kernel
theorem dX8_agreement_61 : decode cX8_agreement 61 = .ok (.ifCond .ne 5, 3) := by decide +kernel
theorem dX8_agreement_64 : decode cX8_agreement 64 = .ok (.iconst 0, 1) := by decide +kernel
theorem dX8_agreement_65 : decode cX8_agreement 65 = .ok (.ireturn, 1) := by decide +kernel
theorem dX8_agreement_66 : decode cX8_agreement 66 = .ok (.aload_n 0, 1) := by decide +kernel
theorem dX8_agreement_67 : decode cX8_agreement 67 = .ok (.getfield 26, 3) := by decide +kernel
theorem dX8_agreement_70 : decode cX8_agreement 70 = .ok (.iload_n 1, 1) := by decide +kernel
theorem dX8_agreement_71 : decode cX8_agreement 71 = .ok (.invokevirtual 242, 3) := by decide +kernel
theorem dX8_agreement_74 : decode cX8_agreement 74 = .ok (.iload 6, 2) := by decide +kernel
theorem dX8_agreement_76 : decode cX8_agreement 76 = .ok (.imul, 1) := by decide +kernel
theorem dX8_agreement_77 : decode cX8_agreement 77 = .ok (.aload_n 0, 1) := by decide +kernel
theorem dX8_agreement_78 : decode cX8_agreement 78 = .ok (.getfield 26, 3) := by decide +kernel
theorem dX8_agreement_81 : decode cX8_agreement 81 = .ok (.iload_n 2, 1) := by decide +kernel
theorem dX8_agreement_82 : decode cX8_agreement 82 = .ok (.invokevirtual 242, 3) := by decide +kernel
theorem dX8_agreement_85 : decode cX8_agreement 85 = .ok (.iload 5, 2) := by decide +kernel
theorem dX8_agreement_87 : decode cX8_agreement 87 = .ok (.imul, 1) := by decide +kernel
theorem dX8_agreement_88 : decode cX8_agreement 88 = .ok (.invokestatic 245, 3) := by decide +kernel
theorem dX8_agreement_91 : decode cX8_agreement 91 = .ok (.istore 7, 2) := by decide +kernel
theorem dX8_agreement_93 : decode cX8_agreement 93 = .ok (.iload 7, 2) := by decide +kernel
theorem dX8_agreement_95 : decode cX8_agreement 95 = .ok (.iload_n 3, 1) := by decide +kernel
theorem dX8_agreement_96 : decode cX8_agreement 96 = .ok (.iload 4, 2) := by decide +kernel
theorem dX8_agreement_98 : decode cX8_agreement 98 = .ok (.invokestatic 245, 3) := by decide +kernel
theorem dX8_agreement_101 : decode cX8_agreement 101 = .ok (.imul, 1) := by decide +kernel
theorem dX8_agreement_102 : decode cX8_agreement 102 = .ok (.ireturn, 1) := by decide +kernel
theorem dX9_init_0 : decode cX9_init 0 = .ok (.aload_n 0, 1) := by decide +kernel
theorem dX9_init_1 : decode cX9_init 1 = .ok (.invokespecial 1, 3) := by decide +kernel
theorem dX9_init_4 : decode cX9_init 4 = .ok (.aload_n 0, 1) := by decide +kernel
theorem dX9_init_5 : decode cX9_init 5 = .ok (.bipush 6, 2) := by decide +kernel
theorem dX9_init_7 : decode cX9_init 7 = .ok (.newarray .int, 2) := by decide +kernel
theorem dX9_init_9 : decode cX9_init 9 = .ok (.putfield 7, 3) := by decide +kernel
theorem dX9_init_12 : decode cX9_init 12 = .ok (.aload_n 0, 1) := by decide +kernel
theorem dX9_init_13 : decode cX9_init 13 = .ok (.bipush 6, 2) := by decide +kernel
theorem dX9_init_15 : decode cX9_init 15 = .ok (.newarray .int, 2) := by decide +kernel
theorem dX9_init_17 : decode cX9_init 17 = .ok (.putfield 13, 3) := by decide +kernel
theorem dX9_init_20 : decode cX9_init 20 = .ok (.aload_n 0, 1) := by decide +kernel
theorem dX9_init_21 : decode cX9_init 21 = .ok (.bipush 6, 2) := by decide +kernel
theorem dX9_init_23 : decode cX9_init 23 = .ok (.newarray .int, 2) := by decide +kernel
theorem dX9_init_25 : decode cX9_init 25 = .ok (.putfield 16, 3) := by decide +kernel
theorem dX9_init_28 : decode cX9_init 28 = .ok (.aload_n 0, 1) := by decide +kernel
theorem dX9_init_29 : decode cX9_init 29 = .ok (.bipush 36, 2) := by decide +kernel
theorem dX9_init_31 : decode cX9_init 31 = .ok (.newarray .int, 2) := by decide +kernel
theorem dX9_init_33 : decode cX9_init 33 = .ok (.putfield 19, 3) := by decide +kernel
theorem dX9_init_36 : decode cX9_init 36 = .ok (.aload_n 0, 1) := by decide +kernel
theorem dX9_init_37 : decode cX9_init 37 = .ok (.bipush 6, 2) := by decide +kernel
theorem dX9_init_39 : decode cX9_init 39 = .ok (.newarray .int, 2) := by decide +kernel
theorem dX9_init_41 : decode cX9_init 41 = .ok (.putfield 22, 3) := by decide +kernel
theorem dX9_init_44 : decode cX9_init 44 = .ok (.aload_n 0, 1) := by decide +kernel
theorem dX9_init_45 : decode cX9_init 45 = .ok (.bipush 6, 2) := by decide +kernel
theorem dX9_init_47 : decode cX9_init 47 = .ok (.newarray .int, 2) := by decide +kernel
theorem dX9_init_49 : decode cX9_init 49 = .ok (.putfield 25, 3) := by decide +kernel
theorem dX9_init_52 : decode cX9_init 52 = .ok (.aload_n 0, 1) := by decide +kernel
theorem dX9_init_53 : decode cX9_init 53 = .ok (.bipush 6, 2) := by decide +kernel
theorem dX9_init_55 : decode cX9_init 55 = .ok (.newarray .int, 2) := by decide +kernel
theorem dX9_init_57 : decode cX9_init 57 = .ok (.putfield 28, 3) := by decide +kernel
theorem dX9_init_60 : decode cX9_init 60 = .ok (.aload_n 0, 1) := by decide +kernel
theorem dX9_init_61 : decode cX9_init 61 = .ok (.bipush 6, 2) := by decide +kernel
theorem dX9_init_63 : decode cX9_init 63 = .ok (.newarray .int, 2) := by decide +kernel
theorem dX9_init_65 : decode cX9_init 65 = .ok (.putfield 31, 3) := by decide +kernel
theorem dX9_init_68 : decode cX9_init 68 = .ok (.aload_n 0, 1) := by decide +kernel
theorem dX9_init_69 : decode cX9_init 69 = .ok (.bipush 36, 2) := by decide +kernel
theorem dX9_init_71 : decode cX9_init 71 = .ok (.newarray .int, 2) := by decide +kernel
theorem dX9_init_73 : decode cX9_init 73 = .ok (.putfield 34, 3) := by decide +kernel
theorem dX9_init_76 : decode cX9_init 76 = .ok (.aload_n 0, 1) := by decide +kernel
theorem dX9_init_77 : decode cX9_init 77 = .ok (.bipush 36, 2) := by decide +kernel
theorem dX9_init_79 : decode cX9_init 79 = .ok (.newarray .int, 2) := by decide +kernel
theorem dX9_init_81 : decode cX9_init 81 = .ok (.putfield 37, 3) := by decide +kernel
theorem dX9_init_84 : decode cX9_init 84 = .ok (.aload_n 0, 1) := by decide +kernel
theorem dX9_init_85 : decode cX9_init 85 = .ok (.bipush 40, 2) := by decide +kernel
theorem dX9_init_87 : decode cX9_init 87 = .ok (.newarray .int, 2) := by decide +kernel
theorem dX9_init_89 : decode cX9_init 89 = .ok (.putfield 40, 3) := by decide +kernel
theorem dX9_init_92 : decode cX9_init 92 = .ok (.aload_n 0, 1) := by decide +kernel
theorem dX9_init_93 : decode cX9_init 93 = .ok (.bipush 12, 2) := by decide +kernel
theorem dX9_init_95 : decode cX9_init 95 = .ok (.newarray .int, 2) := by decide +kernel
theorem dX9_init_97 : decode cX9_init 97 = .ok (.putfield 43, 3) := by decide +kernel
theorem dX9_init_100 : decode cX9_init 100 = .ok (.aload_n 0, 1) := by decide +kernel
theorem dX9_init_101 : decode cX9_init 101 = .ok (.bipush 12, 2) := by decide +kernel
theorem dX9_init_103 : decode cX9_init 103 = .ok (.newarray .int, 2) := by decide +kernel
theorem dX9_init_105 : decode cX9_init 105 = .ok (.putfield 46, 3) := by decide +kernel
theorem dX9_init_108 : decode cX9_init 108 = .ok (.aload_n 0, 1) := by decide +kernel
theorem dX9_init_109 : decode cX9_init 109 = .ok (.bipush 12, 2) := by decide +kernel
theorem dX9_init_111 : decode cX9_init 111 = .ok (.newarray .int, 2) := by decide +kernel
theorem dX9_init_113 : decode cX9_init 113 = .ok (.putfield 49, 3) := by decide +kernel
theorem dX9_init_116 : decode cX9_init 116 = .ok (.aload_n 0, 1) := by decide +kernel
theorem dX9_init_117 : decode cX9_init 117 = .ok (.bipush 6, 2) := by decide +kernel
theorem dX9_init_119 : decode cX9_init 119 = .ok (.newarray .int, 2) := by decide +kernel
theorem dX9_init_121 : decode cX9_init 121 = .ok (.putfield 52, 3) := by decide +kernel
theorem dX9_init_124 : decode cX9_init 124 = .ok (.aload_n 0, 1) := by decide +kernel
theorem dX9_init_125 : decode cX9_init 125 = .ok (.ldc 55, 2) := by decide +kernel
theorem dX9_init_127 : decode cX9_init 127 = .ok (.newarray .int, 2) := by decide +kernel
theorem dX9_init_129 : decode cX9_init 129 = .ok (.putfield 56, 3) := by decide +kernel
theorem dX9_init_132 : decode cX9_init 132 = .ok (.return_, 1) := by decide +kernel
theorem dX9_in_0 : decode cX9_in 0 = .ok (.lload_n 0, 1) := by decide +kernel
theorem dX9_in_1 : decode cX9_in 1 = .ok (.lload_n 2, 1) := by decide +kernel
theorem dX9_in_2 : decode cX9_in 2 = .ok (.lcmp, 1) := by decide +kernel
theorem dX9_in_3 : decode cX9_in 3 = .ok (.ifCond .lt 14, 3) := by decide +kernel
theorem dX9_in_6 : decode cX9_in 6 = .ok (.lload_n 0, 1) := by decide +kernel
theorem dX9_in_7 : decode cX9_in 7 = .ok (.lload 4, 2) := by decide +kernel
theorem dX9_in_9 : decode cX9_in 9 = .ok (.lcmp, 1) := by decide +kernel
theorem dX9_in_10 : decode cX9_in 10 = .ok (.ifCond .gt 7, 3) := by decide +kernel
theorem dX9_in_13 : decode cX9_in 13 = .ok (.iconst 1, 1) := by decide +kernel
theorem dX9_in_14 : decode cX9_in 14 = .ok (.goto 4, 3) := by decide +kernel
theorem dX9_in_17 : decode cX9_in 17 = .ok (.iconst 0, 1) := by decide +kernel
theorem dX9_in_18 : decode cX9_in 18 = .ok (.ireturn, 1) := by decide +kernel
theorem dX9_ones_0 : decode cX9_ones 0 = .ok (.iconst 0, 1) := by decide +kernel
theorem dX9_ones_1 : decode cX9_ones 1 = .ok (.istore_n 1, 1) := by decide +kernel
theorem dX9_ones_2 : decode cX9_ones 2 = .ok (.iconst 0, 1) := by decide +kernel
theorem dX9_ones_3 : decode cX9_ones 3 = .ok (.istore_n 2, 1) := by decide +kernel
theorem dX9_ones_4 : decode cX9_ones 4 = .ok (.iload_n 2, 1) := by decide +kernel
theorem dX9_ones_5 : decode cX9_ones 5 = .ok (.bipush 6, 2) := by decide +kernel
theorem dX9_ones_7 : decode cX9_ones 7 = .ok (.if_icmp .ge 17, 3) := by decide +kernel
theorem dX9_ones_10 : decode cX9_ones 10 = .ok (.iload_n 1, 1) := by decide +kernel
theorem dX9_ones_11 : decode cX9_ones 11 = .ok (.iload_n 0, 1) := by decide +kernel
theorem dX9_ones_12 : decode cX9_ones 12 = .ok (.iload_n 2, 1) := by decide +kernel
theorem dX9_ones_13 : decode cX9_ones 13 = .ok (.ishr, 1) := by decide +kernel
theorem dX9_ones_14 : decode cX9_ones 14 = .ok (.iconst 1, 1) := by decide +kernel
theorem dX9_ones_15 : decode cX9_ones 15 = .ok (.iand, 1) := by decide +kernel
theorem dX9_ones_16 : decode cX9_ones 16 = .ok (.iadd, 1) := by decide +kernel
theorem dX9_ones_17 : decode cX9_ones 17 = .ok (.istore_n 1, 1) := by decide +kernel
theorem dX9_ones_18 : decode cX9_ones 18 = .ok (.iinc 2 1, 3) := by decide +kernel
theorem dX9_ones_21 : decode cX9_ones 21 = .ok (.goto (-17), 3) := by decide +kernel
theorem dX9_ones_24 : decode cX9_ones 24 = .ok (.iload_n 1, 1) := by decide +kernel
theorem dX9_ones_25 : decode cX9_ones 25 = .ok (.ireturn, 1) := by decide +kernel
set_option maxRecDepth 20000 in
theorem ggX9_isPart_X9_in : GoodIn wsX9_isPart wsX9_in := goodIn_r _ [4] (by decide +kernel) (by decide +kernel)
set_option maxRecDepth 20000 in
theorem gX9_isPart_X9_in : GoodIn wsX9_isPart (va_wsS RX9 59 yX9_in wsX9_in) := goodIn_app (goodIn_of _ (by decide +kernel)) ggX9_isPart_X9_in
theorem dX9_isPart_0 : decode cX9_isPart 0 = .ok (.iload_n 0, 1) := by decide +kernel
theorem dX9_isPart_1 : decode cX9_isPart 1 = .ok (.i2l, 1) := by decide +kernel
theorem dX9_isPart_2 : decode cX9_isPart 2 = .ok (.lconst 0, 1) := by decide +kernel
theorem dX9_isPart_3 : decode cX9_isPart 3 = .ok (.lconst 1, 1) := by decide +kernel
theorem dX9_isPart_4 : decode cX9_isPart 4 = .ok (.invokestatic 59, 3) := by decide +kernel
theorem dX9_isPart_7 : decode cX9_isPart 7 = .ok (.ireturn, 1) := by decide +kernel
theorem dX9_lowest_0 : decode cX9_lowest 0 = .ok (.lload_n 0, 1) := by decide +kernel
theorem dX9_lowest_1 : decode cX9_lowest 1 = .ok (.lconst 0, 1) := by decide +kernel
theorem dX9_lowest_2 : decode cX9_lowest 2 = .ok (.lcmp, 1) := by decide +kernel
theorem dX9_lowest_3 : decode cX9_lowest 3 = .ok (.ifCond .ge 8, 3) := by decide +kernel
theorem dX9_lowest_6 : decode cX9_lowest 6 = .ok (.lload_n 0, 1) := by decide +kernel
theorem dX9_lowest_7 : decode cX9_lowest 7 = .ok (.lneg, 1) := by decide +kernel
theorem dX9_lowest_8 : decode cX9_lowest 8 = .ok (.goto 4, 3) := by decide +kernel
theorem dX9_lowest_11 : decode cX9_lowest 11 = .ok (.lload_n 0, 1) := by decide +kernel
theorem dX9_lowest_12 : decode cX9_lowest 12 = .ok (.lstore 5, 2) := by decide +kernel
theorem dX9_lowest_14 : decode cX9_lowest 14 = .ok (.lload_n 2, 1) := by decide +kernel
theorem dX9_lowest_15 : decode cX9_lowest 15 = .ok (.lstore 7, 2) := by decide +kernel
theorem dX9_lowest_17 : decode cX9_lowest 17 = .ok (.lload 7, 2) := by decide +kernel
theorem dX9_lowest_19 : decode cX9_lowest 19 = .ok (.lconst 0, 1) := by decide +kernel
theorem dX9_lowest_20 : decode cX9_lowest 20 = .ok (.lcmp, 1) := by decide +kernel
theorem dX9_lowest_21 : decode cX9_lowest 21 = .ok (.ifCond .eq 21, 3) := by decide +kernel
theorem dX9_lowest_24 : decode cX9_lowest 24 = .ok (.lload 5, 2) := by decide +kernel
theorem dX9_lowest_26 : decode cX9_lowest 26 = .ok (.lload 7, 2) := by decide +kernel
theorem dX9_lowest_28 : decode cX9_lowest 28 = .ok (.lrem, 1) := by decide +kernel
theorem dX9_lowest_29 : decode cX9_lowest 29 = .ok (.lstore 9, 2) := by decide +kernel
theorem dX9_lowest_31 : decode cX9_lowest 31 = .ok (.lload 7, 2) := by decide +kernel
theorem dX9_lowest_33 : decode cX9_lowest 33 = .ok (.lstore 5, 2) := by decide +kernel
theorem dX9_lowest_35 : decode cX9_lowest 35 = .ok (.lload 9, 2) := by decide +kernel
theorem dX9_lowest_37 : decode cX9_lowest 37 = .ok (.lstore 7, 2) := by decide +kernel
theorem dX9_lowest_39 : decode cX9_lowest 39 = .ok (.goto (-22), 3) := by decide +kernel
theorem dX9_lowest_42 : decode cX9_lowest 42 = .ok (.iload 4, 2) := by decide +kernel
theorem dX9_lowest_44 : decode cX9_lowest 44 = .ok (.ifCond .ne 10, 3) := by decide +kernel
theorem dX9_lowest_47 : decode cX9_lowest 47 = .ok (.lload_n 0, 1) := by decide +kernel
theorem dX9_lowest_48 : decode cX9_lowest 48 = .ok (.lload 5, 2) := by decide +kernel
theorem dX9_lowest_50 : decode cX9_lowest 50 = .ok (.ldiv, 1) := by decide +kernel
theorem dX9_lowest_51 : decode cX9_lowest 51 = .ok (.goto 7, 3) := by decide +kernel
theorem dX9_lowest_54 : decode cX9_lowest 54 = .ok (.lload_n 2, 1) := by decide +kernel
theorem dX9_lowest_55 : decode cX9_lowest 55 = .ok (.lload 5, 2) := by decide +kernel
theorem dX9_lowest_57 : decode cX9_lowest 57 = .ok (.ldiv, 1) := by decide +kernel
theorem dX9_lowest_58 : decode cX9_lowest 58 = .ok (.lreturn, 1) := by decide +kernel
set_option maxRecDepth 20000 in
theorem ggX9_isJudge_X9_in : GoodIn wsX9_isJudge wsX9_in := goodIn_r _ [5] (by decide +kernel) (by decide +kernel)
set_option maxRecDepth 20000 in
theorem gX9_isJudge_X9_in : GoodIn wsX9_isJudge (va_wsS RX9 59 yX9_in wsX9_in) := goodIn_app (goodIn_of _ (by decide +kernel)) ggX9_isJudge_X9_in
theorem dX9_isJudge_0 : decode cX9_isJudge 0 = .ok (.iload_n 1, 1) := by decide +kernel
theorem dX9_isJudge_1 : decode cX9_isJudge 1 = .ok (.i2l, 1) := by decide +kernel
theorem dX9_isJudge_2 : decode cX9_isJudge 2 = .ok (.lconst 0, 1) := by decide +kernel
theorem dX9_isJudge_3 : decode cX9_isJudge 3 = .ok (.aload_n 0, 1) := by decide +kernel
theorem dX9_isJudge_4 : decode cX9_isJudge 4 = .ok (.getfield 63, 3) := by decide +kernel
theorem dX9_isJudge_7 : decode cX9_isJudge 7 = .ok (.iconst 1, 1) := by decide +kernel
theorem dX9_isJudge_8 : decode cX9_isJudge 8 = .ok (.isub, 1) := by decide +kernel
theorem dX9_isJudge_9 : decode cX9_isJudge 9 = .ok (.i2l, 1) := by decide +kernel
theorem dX9_isJudge_10 : decode cX9_isJudge 10 = .ok (.invokestatic 59, 3) := by decide +kernel
theorem dX9_isJudge_13 : decode cX9_isJudge 13 = .ok (.ireturn, 1) := by decide +kernel
set_option maxRecDepth 20000 in
theorem ggX9_isPaper_X9_in : GoodIn wsX9_isPaper wsX9_in := goodIn_r _ [5] (by decide +kernel) (by decide +kernel)
set_option maxRecDepth 20000 in
theorem gX9_isPaper_X9_in : GoodIn wsX9_isPaper (va_wsS RX9 59 yX9_in wsX9_in) := goodIn_app (goodIn_of _ (by decide +kernel)) ggX9_isPaper_X9_in
theorem dX9_isPaper_0 : decode cX9_isPaper 0 = .ok (.iload_n 1, 1) := by decide +kernel
theorem dX9_isPaper_1 : decode cX9_isPaper 1 = .ok (.i2l, 1) := by decide +kernel
theorem dX9_isPaper_2 : decode cX9_isPaper 2 = .ok (.lconst 0, 1) := by decide +kernel
theorem dX9_isPaper_3 : decode cX9_isPaper 3 = .ok (.aload_n 0, 1) := by decide +kernel
theorem dX9_isPaper_4 : decode cX9_isPaper 4 = .ok (.getfield 67, 3) := by decide +kernel
theorem dX9_isPaper_7 : decode cX9_isPaper 7 = .ok (.iconst 1, 1) := by decide +kernel
theorem dX9_isPaper_8 : decode cX9_isPaper 8 = .ok (.isub, 1) := by decide +kernel
theorem dX9_isPaper_9 : decode cX9_isPaper 9 = .ok (.i2l, 1) := by decide +kernel
theorem dX9_isPaper_10 : decode cX9_isPaper 10 = .ok (.invokestatic 59, 3) := by decide +kernel
theorem dX9_isPaper_13 : decode cX9_isPaper 13 = .ok (.ireturn, 1) := by decide +kernel
theorem dX9_at_0 : decode cX9_at 0 = .ok (.bipush 6, 2) := by decide +kernel
theorem dX9_at_2 : decode cX9_at 2 = .ok (.iload_n 0, 1) := by decide +kernel
theorem dX9_at_3 : decode cX9_at 3 = .ok (.imul, 1) := by decide +kernel
theorem dX9_at_4 : decode cX9_at 4 = .ok (.iload_n 1, 1) := by decide +kernel
theorem dX9_at_5 : decode cX9_at 5 = .ok (.iadd, 1) := by decide +kernel
theorem dX9_at_6 : decode cX9_at 6 = .ok (.ireturn, 1) := by decide +kernel
set_option maxRecDepth 20000 in
theorem ggX9_judge_X9_in : GoodIn wsX9_judge wsX9_in := goodIn_r _ [10] (by decide +kernel) (by decide +kernel)
set_option maxRecDepth 20000 in
theorem gX9_judge_X9_in : GoodIn wsX9_judge (va_wsS RX9 59 yX9_in wsX9_in) := goodIn_app (goodIn_of _ (by decide +kernel)) ggX9_judge_X9_in
set_option maxRecDepth 20000 in
theorem ggX9_judge_X9_at : GoodIn wsX9_judge wsX9_at := goodIn_r _ [13] (by decide +kernel) (by decide +kernel)
set_option maxRecDepth 20000 in
theorem gX9_judge_X9_at : GoodIn wsX9_judge (va_wsS RX9 74 yX9_at wsX9_at) := goodIn_app (goodIn_of _ (by decide +kernel)) ggX9_judge_X9_at
theorem dX9_judge_0 : decode cX9_judge 0 = .ok (.iload_n 1, 1) := by decide +kernel
theorem dX9_judge_1 : decode cX9_judge 1 = .ok (.i2l, 1) := by decide +kernel
theorem dX9_judge_2 : decode cX9_judge 2 = .ok (.ldc2_w 70, 3) := by decide +kernel
theorem dX9_judge_5 : decode cX9_judge 5 = .ok (.ldc2_w 72, 3) := by decide +kernel
theorem dX9_judge_8 : decode cX9_judge 8 = .ok (.invokestatic 59, 3) := by decide +kernel
theorem dX9_judge_11 : decode cX9_judge 11 = .ok (.ifCond .eq 15, 3) := by decide +kernel
theorem dX9_judge_14 : decode cX9_judge 14 = .ok (.iload_n 2, 1) := by decide +kernel
theorem dX9_judge_15 : decode cX9_judge 15 = .ok (.i2l, 1) := by decide +kernel
theorem dX9_judge_16 : decode cX9_judge 16 = .ok (.lconst 0, 1) := by decide +kernel
theorem dX9_judge_17 : decode cX9_judge 17 = .ok (.ldc2_w 72, 3) := by decide +kernel
theorem dX9_judge_20 : decode cX9_judge 20 = .ok (.invokestatic 59, 3) := by decide +kernel
theorem dX9_judge_23 : decode cX9_judge 23 = .ok (.ifCond .ne 6, 3) := by decide +kernel
theorem dX9_judge_26 : decode cX9_judge 26 = .ok (.bipush (-2), 2) := by decide +kernel
theorem dX9_judge_28 : decode cX9_judge 28 = .ok (.ireturn, 1) := by decide +kernel
theorem dX9_judge_29 : decode cX9_judge 29 = .ok (.aload_n 0, 1) := by decide +kernel
theorem dX9_judge_30 : decode cX9_judge 30 = .ok (.getfield 63, 3) := by decide +kernel
theorem dX9_judge_33 : decode cX9_judge 33 = .ok (.bipush 6, 2) := by decide +kernel
theorem dX9_judge_35 : decode cX9_judge 35 = .ok (.if_icmp .ne 6, 3) := by decide +kernel
theorem dX9_judge_38 : decode cX9_judge 38 = .ok (.bipush (-4), 2) := by decide +kernel
theorem dX9_judge_40 : decode cX9_judge 40 = .ok (.ireturn, 1) := by decide +kernel
theorem dX9_judge_41 : decode cX9_judge 41 = .ok (.aload_n 0, 1) := by decide +kernel
theorem dX9_judge_42 : decode cX9_judge 42 = .ok (.getfield 7, 3) := by decide +kernel
theorem dX9_judge_45 : decode cX9_judge 45 = .ok (.aload_n 0, 1) := by decide +kernel
theorem dX9_judge_46 : decode cX9_judge 46 = .ok (.getfield 63, 3) := by decide +kernel
theorem dX9_judge_49 : decode cX9_judge 49 = .ok (.iload_n 1, 1) := by decide +kernel
theorem dX9_judge_50 : decode cX9_judge 50 = .ok (.iastore, 1) := by decide +kernel
theorem dX9_judge_51 : decode cX9_judge 51 = .ok (.aload_n 0, 1) := by decide +kernel
theorem dX9_judge_52 : decode cX9_judge 52 = .ok (.getfield 13, 3) := by decide +kernel
theorem dX9_judge_55 : decode cX9_judge 55 = .ok (.aload_n 0, 1) := by decide +kernel
theorem dX9_judge_56 : decode cX9_judge 56 = .ok (.getfield 63, 3) := by decide +kernel
theorem dX9_judge_59 : decode cX9_judge 59 = .ok (.iload_n 2, 1) := by decide +kernel
theorem dX9_judge_60 : decode cX9_judge 60 = .ok (.iastore, 1) := by decide +kernel
theorem dX9_judge_61 : decode cX9_judge 61 = .ok (.iconst 0, 1) := by decide +kernel
theorem dX9_judge_62 : decode cX9_judge 62 = .ok (.istore_n 3, 1) := by decide +kernel
theorem dX9_judge_63 : decode cX9_judge 63 = .ok (.iload_n 3, 1) := by decide +kernel
theorem dX9_judge_64 : decode cX9_judge 64 = .ok (.bipush 6, 2) := by decide +kernel
theorem dX9_judge_66 : decode cX9_judge 66 = .ok (.if_icmp .ge 24, 3) := by decide +kernel
theorem dX9_judge_69 : decode cX9_judge 69 = .ok (.aload_n 0, 1) := by decide +kernel
theorem dX9_judge_70 : decode cX9_judge 70 = .ok (.getfield 34, 3) := by decide +kernel
theorem dX9_judge_73 : decode cX9_judge 73 = .ok (.aload_n 0, 1) := by decide +kernel
theorem dX9_judge_74 : decode cX9_judge 74 = .ok (.getfield 63, 3) := by decide +kernel
theorem dX9_judge_77 : decode cX9_judge 77 = .ok (.iload_n 3, 1) := by decide +kernel
theorem dX9_judge_78 : decode cX9_judge 78 = .ok (.invokestatic 74, 3) := by decide +kernel
theorem dX9_judge_81 : decode cX9_judge 81 = .ok (.bipush (-6), 2) := by decide +kernel
theorem dX9_judge_83 : decode cX9_judge 83 = .ok (.iastore, 1) := by decide +kernel
theorem dX9_judge_84 : decode cX9_judge 84 = .ok (.iinc 3 1, 3) := by decide +kernel
theorem dX9_judge_87 : decode cX9_judge 87 = .ok (.goto (-24), 3) := by decide +kernel
theorem dX9_judge_90 : decode cX9_judge 90 = .ok (.aload_n 0, 1) := by decide +kernel
theorem dX9_judge_91 : decode cX9_judge 91 = .ok (.dup, 1) := by decide +kernel
theorem dX9_judge_92 : decode cX9_judge 92 = .ok (.getfield 63, 3) := by decide +kernel
theorem dX9_judge_95 : decode cX9_judge 95 = .ok (.iconst 1, 1) := by decide +kernel
theorem dX9_judge_96 : decode cX9_judge 96 = .ok (.iadd, 1) := by decide +kernel
theorem dX9_judge_97 : decode cX9_judge 97 = .ok (.putfield 63, 3) := by decide +kernel
theorem dX9_judge_100 : decode cX9_judge 100 = .ok (.aload_n 0, 1) := by decide +kernel
theorem dX9_judge_101 : decode cX9_judge 101 = .ok (.getfield 63, 3) := by decide +kernel
theorem dX9_judge_104 : decode cX9_judge 104 = .ok (.iconst 1, 1) := by decide +kernel
theorem dX9_judge_105 : decode cX9_judge 105 = .ok (.isub, 1) := by decide +kernel
theorem dX9_judge_106 : decode cX9_judge 106 = .ok (.ireturn, 1) := by decide +kernel
set_option maxRecDepth 20000 in
theorem ggX9_paper_X9_isJudge : GoodIn wsX9_paper wsX9_isJudge := goodIn_r _ [10, 11, 12, 13, 9, 14, 15, 16, 17, 18, 19, 20, 21, 22, 23, 24, 25, 26, 27, 28, 29, 30, 31, 32, 33, 34] (by decide +kernel) (by decide +kernel)
set_option maxRecDepth 20000 in
theorem gX9_paper_X9_isJudge : GoodIn wsX9_paper (wsV RX9 78 RX9 yX9_isJudge wsX9_isJudge) := goodIn_app (goodIn_of _ (by decide +kernel)) ggX9_paper_X9_isJudge
set_option maxRecDepth 20000 in
theorem ggX9_paper_X9_in : GoodIn wsX9_paper wsX9_in := goodIn_r _ [14] (by decide +kernel) (by decide +kernel)
set_option maxRecDepth 20000 in
theorem gX9_paper_X9_in : GoodIn wsX9_paper (va_wsS RX9 59 yX9_in wsX9_in) := goodIn_app (goodIn_of _ (by decide +kernel)) ggX9_paper_X9_in
theorem dX9_paper_0 : decode cX9_paper 0 = .ok (.iload_n 2, 1) := by decide +kernel
theorem dX9_paper_1 : decode cX9_paper 1 = .ok (.bipush (-6), 2) := by decide +kernel
theorem dX9_paper_3 : decode cX9_paper 3 = .ok (.if_icmp .eq 13, 3) := by decide +kernel
theorem dX9_paper_6 : decode cX9_paper 6 = .ok (.aload_n 0, 1) := by decide +kernel
theorem dX9_paper_7 : decode cX9_paper 7 = .ok (.iload_n 2, 1) := by decide +kernel
theorem dX9_paper_8 : decode cX9_paper 8 = .ok (.invokevirtual 78, 3) := by decide +kernel
theorem dX9_paper_11 : decode cX9_paper 11 = .ok (.ifCond .ne 5, 3) := by decide +kernel
theorem dX9_paper_14 : decode cX9_paper 14 = .ok (.iconst (-1), 1) := by decide +kernel
theorem dX9_paper_15 : decode cX9_paper 15 = .ok (.ireturn, 1) := by decide +kernel
theorem dX9_paper_16 : decode cX9_paper 16 = .ok (.iload_n 1, 1) := by decide +kernel
theorem dX9_paper_17 : decode cX9_paper 17 = .ok (.i2l, 1) := by decide +kernel
theorem dX9_paper_18 : decode cX9_paper 18 = .ok (.lconst 0, 1) := by decide +kernel
theorem dX9_paper_19 : decode cX9_paper 19 = .ok (.ldc2_w 82, 3) := by decide +kernel
theorem dX9_paper_22 : decode cX9_paper 22 = .ok (.invokestatic 59, 3) := by decide +kernel
theorem dX9_paper_25 : decode cX9_paper 25 = .ok (.ifCond .ne 6, 3) := by decide +kernel
theorem dX9_paper_28 : decode cX9_paper 28 = .ok (.bipush (-2), 2) := by decide +kernel
theorem dX9_paper_30 : decode cX9_paper 30 = .ok (.ireturn, 1) := by decide +kernel
theorem dX9_paper_31 : decode cX9_paper 31 = .ok (.aload_n 0, 1) := by decide +kernel
theorem dX9_paper_32 : decode cX9_paper 32 = .ok (.getfield 67, 3) := by decide +kernel
theorem dX9_paper_35 : decode cX9_paper 35 = .ok (.bipush 6, 2) := by decide +kernel
theorem dX9_paper_37 : decode cX9_paper 37 = .ok (.if_icmp .ne 6, 3) := by decide +kernel
theorem dX9_paper_40 : decode cX9_paper 40 = .ok (.bipush (-4), 2) := by decide +kernel
theorem dX9_paper_42 : decode cX9_paper 42 = .ok (.ireturn, 1) := by decide +kernel
theorem dX9_paper_43 : decode cX9_paper 43 = .ok (.aload_n 0, 1) := by decide +kernel
theorem dX9_paper_44 : decode cX9_paper 44 = .ok (.getfield 22, 3) := by decide +kernel
theorem dX9_paper_47 : decode cX9_paper 47 = .ok (.aload_n 0, 1) := by decide +kernel
theorem dX9_paper_48 : decode cX9_paper 48 = .ok (.getfield 67, 3) := by decide +kernel
theorem dX9_paper_51 : decode cX9_paper 51 = .ok (.iload_n 1, 1) := by decide +kernel
theorem dX9_paper_52 : decode cX9_paper 52 = .ok (.iastore, 1) := by decide +kernel
theorem dX9_paper_53 : decode cX9_paper 53 = .ok (.aload_n 0, 1) := by decide +kernel
theorem dX9_paper_54 : decode cX9_paper 54 = .ok (.getfield 25, 3) := by decide +kernel
theorem dX9_paper_57 : decode cX9_paper 57 = .ok (.aload_n 0, 1) := by decide +kernel
theorem dX9_paper_58 : decode cX9_paper 58 = .ok (.getfield 67, 3) := by decide +kernel
theorem dX9_paper_61 : decode cX9_paper 61 = .ok (.iload_n 2, 1) := by decide +kernel
theorem dX9_paper_62 : decode cX9_paper 62 = .ok (.iastore, 1) := by decide +kernel
theorem dX9_paper_63 : decode cX9_paper 63 = .ok (.aload_n 0, 1) := by decide +kernel
theorem dX9_paper_64 : decode cX9_paper 64 = .ok (.getfield 31, 3) := by decide +kernel
theorem dX9_paper_67 : decode cX9_paper 67 = .ok (.aload_n 0, 1) := by decide +kernel
theorem dX9_paper_68 : decode cX9_paper 68 = .ok (.getfield 67, 3) := by decide +kernel
theorem dX9_paper_71 : decode cX9_paper 71 = .ok (.bipush (-6), 2) := by decide +kernel
theorem dX9_paper_73 : decode cX9_paper 73 = .ok (.iastore, 1) := by decide +kernel
theorem dX9_paper_74 : decode cX9_paper 74 = .ok (.aload_n 0, 1) := by decide +kernel
theorem dX9_paper_75 : decode cX9_paper 75 = .ok (.dup, 1) := by decide +kernel
theorem dX9_paper_76 : decode cX9_paper 76 = .ok (.getfield 67, 3) := by decide +kernel
theorem dX9_paper_79 : decode cX9_paper 79 = .ok (.iconst 1, 1) := by decide +kernel
theorem dX9_paper_80 : decode cX9_paper 80 = .ok (.iadd, 1) := by decide +kernel
theorem dX9_paper_81 : decode cX9_paper 81 = .ok (.putfield 67, 3) := by decide +kernel
theorem dX9_paper_84 : decode cX9_paper 84 = .ok (.aload_n 0, 1) := by decide +kernel
theorem dX9_paper_85 : decode cX9_paper 85 = .ok (.getfield 67, 3) := by decide +kernel
theorem dX9_paper_88 : decode cX9_paper 88 = .ok (.iconst 1, 1) := by decide +kernel
theorem dX9_paper_89 : decode cX9_paper 89 = .ok (.isub, 1) := by decide +kernel
theorem dX9_paper_90 : decode cX9_paper 90 = .ok (.ireturn, 1) := by decide +kernel
set_option maxRecDepth 20000 in
theorem ggX9_tie_X9_isJudge : GoodIn wsX9_tie wsX9_isJudge := goodIn_r _ [7, 8, 9, 10, 6, 11, 12, 13, 14, 15, 16, 17, 18, 19, 20, 21, 22, 23, 24, 25, 26, 27, 28, 29, 30, 31] (by decide +kernel) (by decide +kernel)
set_option maxRecDepth 20000 in
theorem gX9_tie_X9_isJudge : GoodIn wsX9_tie (wsV RX9 78 RX9 yX9_isJudge wsX9_isJudge) := goodIn_app (goodIn_of _ (by decide +kernel)) ggX9_tie_X9_isJudge
set_option maxRecDepth 20000 in
theorem ggX9_tie_X9_in : GoodIn wsX9_tie wsX9_in := goodIn_r _ [11] (by decide +kernel) (by decide +kernel)
set_option maxRecDepth 20000 in
theorem gX9_tie_X9_in : GoodIn wsX9_tie (va_wsS RX9 59 yX9_in wsX9_in) := goodIn_app (goodIn_of _ (by decide +kernel)) ggX9_tie_X9_in
theorem dX9_tie_0 : decode cX9_tie 0 = .ok (.aload_n 0, 1) := by decide +kernel
theorem dX9_tie_1 : decode cX9_tie 1 = .ok (.iload_n 1, 1) := by decide +kernel
theorem dX9_tie_2 : decode cX9_tie 2 = .ok (.invokevirtual 78, 3) := by decide +kernel
theorem dX9_tie_5 : decode cX9_tie 5 = .ok (.ifCond .eq 16, 3) := by decide +kernel
theorem dX9_tie_8 : decode cX9_tie 8 = .ok (.aload_n 0, 1) := by decide +kernel
theorem dX9_tie_9 : decode cX9_tie 9 = .ok (.iload_n 2, 1) := by decide +kernel
theorem dX9_tie_10 : decode cX9_tie 10 = .ok (.invokevirtual 78, 3) := by decide +kernel
theorem dX9_tie_13 : decode cX9_tie 13 = .ok (.ifCond .eq 8, 3) := by decide +kernel
theorem dX9_tie_16 : decode cX9_tie 16 = .ok (.iload_n 1, 1) := by decide +kernel
theorem dX9_tie_17 : decode cX9_tie 17 = .ok (.iload_n 2, 1) := by decide +kernel
theorem dX9_tie_18 : decode cX9_tie 18 = .ok (.if_icmp .ne 5, 3) := by decide +kernel
theorem dX9_tie_21 : decode cX9_tie 21 = .ok (.iconst (-1), 1) := by decide +kernel
theorem dX9_tie_22 : decode cX9_tie 22 = .ok (.ireturn, 1) := by decide +kernel
theorem dX9_tie_23 : decode cX9_tie 23 = .ok (.iload_n 3, 1) := by decide +kernel
theorem dX9_tie_24 : decode cX9_tie 24 = .ok (.i2l, 1) := by decide +kernel
theorem dX9_tie_25 : decode cX9_tie 25 = .ok (.ldc2_w 84, 3) := by decide +kernel
theorem dX9_tie_28 : decode cX9_tie 28 = .ok (.lconst 1, 1) := by decide +kernel
theorem dX9_tie_29 : decode cX9_tie 29 = .ok (.invokestatic 59, 3) := by decide +kernel
theorem dX9_tie_32 : decode cX9_tie 32 = .ok (.ifCond .ne 6, 3) := by decide +kernel
theorem dX9_tie_35 : decode cX9_tie 35 = .ok (.bipush (-2), 2) := by decide +kernel
theorem dX9_tie_37 : decode cX9_tie 37 = .ok (.ireturn, 1) := by decide +kernel
theorem dX9_tie_38 : decode cX9_tie 38 = .ok (.aload_n 0, 1) := by decide +kernel
theorem dX9_tie_39 : decode cX9_tie 39 = .ok (.getfield 19, 3) := by decide +kernel
theorem dX9_tie_42 : decode cX9_tie 42 = .ok (.bipush 6, 2) := by decide +kernel
theorem dX9_tie_44 : decode cX9_tie 44 = .ok (.iload_n 1, 1) := by decide +kernel
theorem dX9_tie_45 : decode cX9_tie 45 = .ok (.imul, 1) := by decide +kernel
theorem dX9_tie_46 : decode cX9_tie 46 = .ok (.iload_n 2, 1) := by decide +kernel
theorem dX9_tie_47 : decode cX9_tie 47 = .ok (.iadd, 1) := by decide +kernel
theorem dX9_tie_48 : decode cX9_tie 48 = .ok (.iaload, 1) := by decide +kernel
theorem dX9_tie_49 : decode cX9_tie 49 = .ok (.istore 4, 2) := by decide +kernel
theorem dX9_tie_51 : decode cX9_tie 51 = .ok (.aload_n 0, 1) := by decide +kernel
theorem dX9_tie_52 : decode cX9_tie 52 = .ok (.getfield 19, 3) := by decide +kernel
theorem dX9_tie_55 : decode cX9_tie 55 = .ok (.bipush 6, 2) := by decide +kernel
theorem dX9_tie_57 : decode cX9_tie 57 = .ok (.iload_n 1, 1) := by decide +kernel
theorem dX9_tie_58 : decode cX9_tie 58 = .ok (.imul, 1) := by decide +kernel
theorem dX9_tie_59 : decode cX9_tie 59 = .ok (.iload_n 2, 1) := by decide +kernel
theorem dX9_tie_60 : decode cX9_tie 60 = .ok (.iadd, 1) := by decide +kernel
theorem dX9_tie_61 : decode cX9_tie 61 = .ok (.iload_n 3, 1) := by decide +kernel
theorem dX9_tie_62 : decode cX9_tie 62 = .ok (.iastore, 1) := by decide +kernel
theorem dX9_tie_63 : decode cX9_tie 63 = .ok (.aload_n 0, 1) := by decide +kernel
theorem dX9_tie_64 : decode cX9_tie 64 = .ok (.getfield 19, 3) := by decide +kernel
theorem dX9_tie_67 : decode cX9_tie 67 = .ok (.bipush 6, 2) := by decide +kernel
theorem dX9_tie_69 : decode cX9_tie 69 = .ok (.iload_n 2, 1) := by decide +kernel
theorem dX9_tie_70 : decode cX9_tie 70 = .ok (.imul, 1) := by decide +kernel
theorem dX9_tie_71 : decode cX9_tie 71 = .ok (.iload_n 1, 1) := by decide +kernel
theorem dX9_tie_72 : decode cX9_tie 72 = .ok (.iadd, 1) := by decide +kernel
theorem dX9_tie_73 : decode cX9_tie 73 = .ok (.iload_n 3, 1) := by decide +kernel
theorem dX9_tie_74 : decode cX9_tie 74 = .ok (.iastore, 1) := by decide +kernel
theorem dX9_tie_75 : decode cX9_tie 75 = .ok (.iload 4, 2) := by decide +kernel
theorem dX9_tie_77 : decode cX9_tie 77 = .ok (.bipush 10, 2) := by decide +kernel
theorem dX9_tie_79 : decode cX9_tie 79 = .ok (.iadd, 1) := by decide +kernel
theorem dX9_tie_80 : decode cX9_tie 80 = .ok (.ireturn, 1) := by decide +kernel
set_option maxRecDepth 20000 in
theorem ggX9_mark_X9_isJudge : GoodIn wsX9_mark wsX9_isJudge := goodIn_r _ [9, 10, 11, 12, 8, 13, 22, 23, 24, 25, 26, 27, 28, 29, 30, 31, 32, 33, 34, 35, 36, 37, 38, 39, 40, 41] (by decide +kernel) (by decide +kernel)
set_option maxRecDepth 20000 in
theorem gX9_mark_X9_isJudge : GoodIn wsX9_mark (wsV RX9 78 RX9 yX9_isJudge wsX9_isJudge) := goodIn_app (goodIn_of _ (by decide +kernel)) ggX9_mark_X9_isJudge
set_option maxRecDepth 20000 in
theorem ggX9_mark_X9_isPaper : GoodIn wsX9_mark wsX9_isPaper := goodIn_r _ [17, 18, 11, 12, 8, 13, 22, 23, 24, 25, 26, 27, 28, 29, 30, 31, 32, 33, 34, 35, 36, 37, 38, 39, 40, 41] (by decide +kernel) (by decide +kernel)
set_option maxRecDepth 20000 in
theorem gX9_mark_X9_isPaper : GoodIn wsX9_mark (wsV RX9 86 RX9 yX9_isPaper wsX9_isPaper) := goodIn_app (goodIn_of _ (by decide +kernel)) ggX9_mark_X9_isPaper
set_option maxRecDepth 20000 in
theorem ggX9_mark_X9_in : GoodIn wsX9_mark wsX9_in := goodIn_r _ [13] (by decide +kernel) (by decide +kernel)
set_option maxRecDepth 20000 in
theorem gX9_mark_X9_in : GoodIn wsX9_mark (va_wsS RX9 59 yX9_in wsX9_in) := goodIn_app (goodIn_of _ (by decide +kernel)) ggX9_mark_X9_in
set_option maxRecDepth 20000 in
theorem ggX9_mark_X9_at : GoodIn wsX9_mark wsX9_at := goodIn_r _ [21] (by decide +kernel) (by decide +kernel)
set_option maxRecDepth 20000 in
theorem gX9_mark_X9_at : GoodIn wsX9_mark (va_wsS RX9 74 yX9_at wsX9_at) := goodIn_app (goodIn_of _ (by decide +kernel)) ggX9_mark_X9_at
theorem dX9_mark_0 : decode cX9_mark 0 = .ok (.aload_n 0, 1) := by decide +kernel
theorem dX9_mark_1 : decode cX9_mark 1 = .ok (.iload_n 1, 1) := by decide +kernel
theorem dX9_mark_2 : decode cX9_mark 2 = .ok (.invokevirtual 78, 3) := by decide +kernel
theorem dX9_mark_5 : decode cX9_mark 5 = .ok (.ifCond .eq 11, 3) := by decide +kernel
theorem dX9_mark_8 : decode cX9_mark 8 = .ok (.aload_n 0, 1) := by decide +kernel
theorem dX9_mark_9 : decode cX9_mark 9 = .ok (.iload_n 2, 1) := by decide +kernel
theorem dX9_mark_10 : decode cX9_mark 10 = .ok (.invokevirtual 86, 3) := by decide +kernel
theorem dX9_mark_13 : decode cX9_mark 13 = .ok (.ifCond .ne 5, 3) := by decide +kernel
theorem dX9_mark_16 : decode cX9_mark 16 = .ok (.iconst (-1), 1) := by decide +kernel
theorem dX9_mark_17 : decode cX9_mark 17 = .ok (.ireturn, 1) := by decide +kernel
theorem dX9_mark_18 : decode cX9_mark 18 = .ok (.iload_n 3, 1) := by decide +kernel
theorem dX9_mark_19 : decode cX9_mark 19 = .ok (.i2l, 1) := by decide +kernel
theorem dX9_mark_20 : decode cX9_mark 20 = .ok (.ldc2_w 84, 3) := by decide +kernel
theorem dX9_mark_23 : decode cX9_mark 23 = .ok (.ldc2_w 82, 3) := by decide +kernel
theorem dX9_mark_26 : decode cX9_mark 26 = .ok (.invokestatic 59, 3) := by decide +kernel
theorem dX9_mark_29 : decode cX9_mark 29 = .ok (.ifCond .ne 6, 3) := by decide +kernel
theorem dX9_mark_32 : decode cX9_mark 32 = .ok (.bipush (-2), 2) := by decide +kernel
theorem dX9_mark_34 : decode cX9_mark 34 = .ok (.ireturn, 1) := by decide +kernel
theorem dX9_mark_35 : decode cX9_mark 35 = .ok (.aload_n 0, 1) := by decide +kernel
theorem dX9_mark_36 : decode cX9_mark 36 = .ok (.getfield 25, 3) := by decide +kernel
theorem dX9_mark_39 : decode cX9_mark 39 = .ok (.iload_n 2, 1) := by decide +kernel
theorem dX9_mark_40 : decode cX9_mark 40 = .ok (.iaload, 1) := by decide +kernel
theorem dX9_mark_41 : decode cX9_mark 41 = .ok (.iload_n 1, 1) := by decide +kernel
theorem dX9_mark_42 : decode cX9_mark 42 = .ok (.if_icmp .ne 6, 3) := by decide +kernel
theorem dX9_mark_45 : decode cX9_mark 45 = .ok (.bipush (-5), 2) := by decide +kernel
theorem dX9_mark_47 : decode cX9_mark 47 = .ok (.ireturn, 1) := by decide +kernel
theorem dX9_mark_48 : decode cX9_mark 48 = .ok (.aload_n 0, 1) := by decide +kernel
theorem dX9_mark_49 : decode cX9_mark 49 = .ok (.getfield 34, 3) := by decide +kernel
theorem dX9_mark_52 : decode cX9_mark 52 = .ok (.iload_n 1, 1) := by decide +kernel
theorem dX9_mark_53 : decode cX9_mark 53 = .ok (.iload_n 2, 1) := by decide +kernel
theorem dX9_mark_54 : decode cX9_mark 54 = .ok (.invokestatic 74, 3) := by decide +kernel
theorem dX9_mark_57 : decode cX9_mark 57 = .ok (.iaload, 1) := by decide +kernel
theorem dX9_mark_58 : decode cX9_mark 58 = .ok (.istore 4, 2) := by decide +kernel
theorem dX9_mark_60 : decode cX9_mark 60 = .ok (.aload_n 0, 1) := by decide +kernel
theorem dX9_mark_61 : decode cX9_mark 61 = .ok (.getfield 34, 3) := by decide +kernel
theorem dX9_mark_64 : decode cX9_mark 64 = .ok (.iload_n 1, 1) := by decide +kernel
theorem dX9_mark_65 : decode cX9_mark 65 = .ok (.iload_n 2, 1) := by decide +kernel
theorem dX9_mark_66 : decode cX9_mark 66 = .ok (.invokestatic 74, 3) := by decide +kernel
