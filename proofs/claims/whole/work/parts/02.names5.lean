theorem dX9_told_1 : decode cX9_told 1 = .ok (.istore_n 2, 1) := by decide +kernel
theorem dX9_told_2 : decode cX9_told 2 = .ok (.iconst 0, 1) := by decide +kernel
theorem dX9_told_3 : decode cX9_told 3 = .ok (.istore_n 3, 1) := by decide +kernel
theorem dX9_told_4 : decode cX9_told 4 = .ok (.iload_n 3, 1) := by decide +kernel
theorem dX9_told_5 : decode cX9_told 5 = .ok (.aload_n 0, 1) := by decide +kernel
theorem dX9_told_6 : decode cX9_told 6 = .ok (.getfield 63, 3) := by decide +kernel
theorem dX9_told_9 : decode cX9_told 9 = .ok (.if_icmp .ge 49, 3) := by decide +kernel
theorem dX9_told_12 : decode cX9_told 12 = .ok (.iconst 0, 1) := by decide +kernel
theorem dX9_told_13 : decode cX9_told 13 = .ok (.istore 4, 2) := by decide +kernel
theorem dX9_told_15 : decode cX9_told 15 = .ok (.iload 4, 2) := by decide +kernel
theorem dX9_told_17 : decode cX9_told 17 = .ok (.aload_n 0, 1) := by decide +kernel
theorem dX9_told_18 : decode cX9_told 18 = .ok (.getfield 67, 3) := by decide +kernel
theorem dX9_told_21 : decode cX9_told 21 = .ok (.if_icmp .ge 31, 3) := by decide +kernel
theorem dX9_told_24 : decode cX9_told 24 = .ok (.iload_n 2, 1) := by decide +kernel
theorem dX9_told_25 : decode cX9_told 25 = .ok (.aload_n 0, 1) := by decide +kernel
theorem dX9_told_26 : decode cX9_told 26 = .ok (.getfield 34, 3) := by decide +kernel
theorem dX9_told_29 : decode cX9_told 29 = .ok (.iload_n 3, 1) := by decide +kernel
theorem dX9_told_30 : decode cX9_told 30 = .ok (.iload 4, 2) := by decide +kernel
theorem dX9_told_32 : decode cX9_told 32 = .ok (.invokestatic 74, 3) := by decide +kernel
theorem dX9_told_35 : decode cX9_told 35 = .ok (.iaload, 1) := by decide +kernel
theorem dX9_told_36 : decode cX9_told 36 = .ok (.ifCond .lt 7, 3) := by decide +kernel
theorem dX9_told_39 : decode cX9_told 39 = .ok (.iconst 1, 1) := by decide +kernel
theorem dX9_told_40 : decode cX9_told 40 = .ok (.goto 4, 3) := by decide +kernel
theorem dX9_told_43 : decode cX9_told 43 = .ok (.iconst 0, 1) := by decide +kernel
theorem dX9_told_44 : decode cX9_told 44 = .ok (.iadd, 1) := by decide +kernel
theorem dX9_told_45 : decode cX9_told 45 = .ok (.istore_n 2, 1) := by decide +kernel
theorem dX9_told_46 : decode cX9_told 46 = .ok (.iinc 4 1, 3) := by decide +kernel
theorem dX9_told_49 : decode cX9_told 49 = .ok (.goto (-34), 3) := by decide +kernel
theorem dX9_told_52 : decode cX9_told 52 = .ok (.iinc 3 1, 3) := by decide +kernel
theorem dX9_told_55 : decode cX9_told 55 = .ok (.goto (-51), 3) := by decide +kernel
theorem dX9_told_58 : decode cX9_told 58 = .ok (.iload_n 1, 1) := by decide +kernel
theorem dX9_told_59 : decode cX9_told 59 = .ok (.tableswitch 55 0 4 #[33, 38, 43, 48, 53], 33) := by decide +kernel
theorem dX9_told_92 : decode cX9_told 92 = .ok (.aload_n 0, 1) := by decide +kernel
theorem dX9_told_93 : decode cX9_told 93 = .ok (.getfield 63, 3) := by decide +kernel
theorem dX9_told_96 : decode cX9_told 96 = .ok (.ireturn, 1) := by decide +kernel
theorem dX9_told_97 : decode cX9_told 97 = .ok (.aload_n 0, 1) := by decide +kernel
theorem dX9_told_98 : decode cX9_told 98 = .ok (.getfield 67, 3) := by decide +kernel
theorem dX9_told_101 : decode cX9_told 101 = .ok (.ireturn, 1) := by decide +kernel
theorem dX9_told_102 : decode cX9_told 102 = .ok (.aload_n 0, 1) := by decide +kernel
theorem dX9_told_103 : decode cX9_told 103 = .ok (.getfield 97, 3) := by decide +kernel
theorem dX9_told_106 : decode cX9_told 106 = .ok (.ireturn, 1) := by decide +kernel
theorem dX9_told_107 : decode cX9_told 107 = .ok (.aload_n 0, 1) := by decide +kernel
theorem dX9_told_108 : decode cX9_told 108 = .ok (.getfield 118, 3) := by decide +kernel
theorem dX9_told_111 : decode cX9_told 111 = .ok (.ireturn, 1) := by decide +kernel
theorem dX9_told_112 : decode cX9_told 112 = .ok (.iload_n 2, 1) := by decide +kernel
theorem dX9_told_113 : decode cX9_told 113 = .ok (.ireturn, 1) := by decide +kernel
theorem dX9_told_114 : decode cX9_told 114 = .ok (.bipush (-2), 2) := by decide +kernel
theorem dX9_told_116 : decode cX9_told 116 = .ok (.ireturn, 1) := by decide +kernel
theorem dJ6_compare_7cf53_0 : decode cJ6_compare_7cf53 0 = .ok (.iload_n 0, 1) := by decide +kernel
theorem dJ6_compare_7cf53_1 : decode cJ6_compare_7cf53 1 = .ok (.iload_n 1, 1) := by decide +kernel
theorem dJ6_compare_7cf53_2 : decode cJ6_compare_7cf53 2 = .ok (.if_icmp .ge 7, 3) := by decide +kernel
theorem dJ6_compare_7cf53_5 : decode cJ6_compare_7cf53 5 = .ok (.iconst (-1), 1) := by decide +kernel
theorem dJ6_compare_7cf53_6 : decode cJ6_compare_7cf53 6 = .ok (.goto 13, 3) := by decide +kernel
theorem dJ6_compare_7cf53_9 : decode cJ6_compare_7cf53 9 = .ok (.iload_n 0, 1) := by decide +kernel
theorem dJ6_compare_7cf53_10 : decode cJ6_compare_7cf53 10 = .ok (.iload_n 1, 1) := by decide +kernel
theorem dJ6_compare_7cf53_11 : decode cJ6_compare_7cf53 11 = .ok (.if_icmp .ne 7, 3) := by decide +kernel
theorem dJ6_compare_7cf53_14 : decode cJ6_compare_7cf53 14 = .ok (.iconst 0, 1) := by decide +kernel
theorem dJ6_compare_7cf53_15 : decode cJ6_compare_7cf53 15 = .ok (.goto 4, 3) := by decide +kernel
theorem dJ6_compare_7cf53_18 : decode cJ6_compare_7cf53 18 = .ok (.iconst 1, 1) := by decide +kernel
theorem dJ6_compare_7cf53_19 : decode cJ6_compare_7cf53 19 = .ok (.ireturn, 1) := by decide +kernel
theorem dJ6_bitCount_0f7a4_0 : decode cJ6_bitCount_0f7a4 0 = .ok (.iload_n 0, 1) := by decide +kernel
theorem dJ6_bitCount_0f7a4_1 : decode cJ6_bitCount_0f7a4 1 = .ok (.iload_n 0, 1) := by decide +kernel
theorem dJ6_bitCount_0f7a4_2 : decode cJ6_bitCount_0f7a4 2 = .ok (.iconst 1, 1) := by decide +kernel
theorem dJ6_bitCount_0f7a4_3 : decode cJ6_bitCount_0f7a4 3 = .ok (.iushr, 1) := by decide +kernel
theorem dJ6_bitCount_0f7a4_4 : decode cJ6_bitCount_0f7a4 4 = .ok (.ldc_w 265, 3) := by decide +kernel
theorem dJ6_bitCount_0f7a4_7 : decode cJ6_bitCount_0f7a4 7 = .ok (.iand, 1) := by decide +kernel
theorem dJ6_bitCount_0f7a4_8 : decode cJ6_bitCount_0f7a4 8 = .ok (.isub, 1) := by decide +kernel
theorem dJ6_bitCount_0f7a4_9 : decode cJ6_bitCount_0f7a4 9 = .ok (.istore_n 0, 1) := by decide +kernel
theorem dJ6_bitCount_0f7a4_10 : decode cJ6_bitCount_0f7a4 10 = .ok (.iload_n 0, 1) := by decide +kernel
theorem dJ6_bitCount_0f7a4_11 : decode cJ6_bitCount_0f7a4 11 = .ok (.ldc_w 266, 3) := by decide +kernel
theorem dJ6_bitCount_0f7a4_14 : decode cJ6_bitCount_0f7a4 14 = .ok (.iand, 1) := by decide +kernel
theorem dJ6_bitCount_0f7a4_15 : decode cJ6_bitCount_0f7a4 15 = .ok (.iload_n 0, 1) := by decide +kernel
theorem dJ6_bitCount_0f7a4_16 : decode cJ6_bitCount_0f7a4 16 = .ok (.iconst 2, 1) := by decide +kernel
theorem dJ6_bitCount_0f7a4_17 : decode cJ6_bitCount_0f7a4 17 = .ok (.iushr, 1) := by decide +kernel
theorem dJ6_bitCount_0f7a4_18 : decode cJ6_bitCount_0f7a4 18 = .ok (.ldc_w 266, 3) := by decide +kernel
theorem dJ6_bitCount_0f7a4_21 : decode cJ6_bitCount_0f7a4 21 = .ok (.iand, 1) := by decide +kernel
theorem dJ6_bitCount_0f7a4_22 : decode cJ6_bitCount_0f7a4 22 = .ok (.iadd, 1) := by decide +kernel
theorem dJ6_bitCount_0f7a4_23 : decode cJ6_bitCount_0f7a4 23 = .ok (.istore_n 0, 1) := by decide +kernel
theorem dJ6_bitCount_0f7a4_24 : decode cJ6_bitCount_0f7a4 24 = .ok (.iload_n 0, 1) := by decide +kernel
theorem dJ6_bitCount_0f7a4_25 : decode cJ6_bitCount_0f7a4 25 = .ok (.iload_n 0, 1) := by decide +kernel
theorem dJ6_bitCount_0f7a4_26 : decode cJ6_bitCount_0f7a4 26 = .ok (.iconst 4, 1) := by decide +kernel
theorem dJ6_bitCount_0f7a4_27 : decode cJ6_bitCount_0f7a4 27 = .ok (.iushr, 1) := by decide +kernel
theorem dJ6_bitCount_0f7a4_28 : decode cJ6_bitCount_0f7a4 28 = .ok (.iadd, 1) := by decide +kernel
theorem dJ6_bitCount_0f7a4_29 : decode cJ6_bitCount_0f7a4 29 = .ok (.ldc_w 267, 3) := by decide +kernel
theorem dJ6_bitCount_0f7a4_32 : decode cJ6_bitCount_0f7a4 32 = .ok (.iand, 1) := by decide +kernel
theorem dJ6_bitCount_0f7a4_33 : decode cJ6_bitCount_0f7a4 33 = .ok (.istore_n 0, 1) := by decide +kernel
theorem dJ6_bitCount_0f7a4_34 : decode cJ6_bitCount_0f7a4 34 = .ok (.iload_n 0, 1) := by decide +kernel
theorem dJ6_bitCount_0f7a4_35 : decode cJ6_bitCount_0f7a4 35 = .ok (.iload_n 0, 1) := by decide +kernel
theorem dJ6_bitCount_0f7a4_36 : decode cJ6_bitCount_0f7a4 36 = .ok (.bipush 8, 2) := by decide +kernel
theorem dJ6_bitCount_0f7a4_38 : decode cJ6_bitCount_0f7a4 38 = .ok (.iushr, 1) := by decide +kernel
theorem dJ6_bitCount_0f7a4_39 : decode cJ6_bitCount_0f7a4 39 = .ok (.iadd, 1) := by decide +kernel
theorem dJ6_bitCount_0f7a4_40 : decode cJ6_bitCount_0f7a4 40 = .ok (.istore_n 0, 1) := by decide +kernel
theorem dJ6_bitCount_0f7a4_41 : decode cJ6_bitCount_0f7a4 41 = .ok (.iload_n 0, 1) := by decide +kernel
theorem dJ6_bitCount_0f7a4_42 : decode cJ6_bitCount_0f7a4 42 = .ok (.iload_n 0, 1) := by decide +kernel
theorem dJ6_bitCount_0f7a4_43 : decode cJ6_bitCount_0f7a4 43 = .ok (.bipush 16, 2) := by decide +kernel
theorem dJ6_bitCount_0f7a4_45 : decode cJ6_bitCount_0f7a4 45 = .ok (.iushr, 1) := by decide +kernel
theorem dJ6_bitCount_0f7a4_46 : decode cJ6_bitCount_0f7a4 46 = .ok (.iadd, 1) := by decide +kernel
theorem dJ6_bitCount_0f7a4_47 : decode cJ6_bitCount_0f7a4 47 = .ok (.istore_n 0, 1) := by decide +kernel
theorem dJ6_bitCount_0f7a4_48 : decode cJ6_bitCount_0f7a4 48 = .ok (.iload_n 0, 1) := by decide +kernel
theorem dJ6_bitCount_0f7a4_49 : decode cJ6_bitCount_0f7a4 49 = .ok (.bipush 63, 2) := by decide +kernel
theorem dJ6_bitCount_0f7a4_51 : decode cJ6_bitCount_0f7a4 51 = .ok (.iand, 1) := by decide +kernel
theorem dJ6_bitCount_0f7a4_52 : decode cJ6_bitCount_0f7a4 52 = .ok (.ireturn, 1) := by decide +kernel
theorem dJ9_abs_067f4_0 : decode cJ9_abs_067f4 0 = .ok (.lload_n 0, 1) := by decide +kernel
theorem dJ9_abs_067f4_1 : decode cJ9_abs_067f4 1 = .ok (.lconst 0, 1) := by decide +kernel
theorem dJ9_abs_067f4_2 : decode cJ9_abs_067f4 2 = .ok (.lcmp, 1) := by decide +kernel
theorem dJ9_abs_067f4_3 : decode cJ9_abs_067f4 3 = .ok (.ifCond .ge 8, 3) := by decide +kernel
theorem dJ9_abs_067f4_6 : decode cJ9_abs_067f4 6 = .ok (.lload_n 0, 1) := by decide +kernel
theorem dJ9_abs_067f4_7 : decode cJ9_abs_067f4 7 = .ok (.lneg, 1) := by decide +kernel
theorem dJ9_abs_067f4_8 : decode cJ9_abs_067f4 8 = .ok (.goto 4, 3) := by decide +kernel
theorem dJ9_abs_067f4_11 : decode cJ9_abs_067f4 11 = .ok (.lload_n 0, 1) := by decide +kernel
theorem dJ9_abs_067f4_12 : decode cJ9_abs_067f4 12 = .ok (.lreturn, 1) := by decide +kernel
theorem dJ9_max_7cf53_0 : decode cJ9_max_7cf53 0 = .ok (.iload_n 0, 1) := by decide +kernel
theorem dJ9_max_7cf53_1 : decode cJ9_max_7cf53 1 = .ok (.iload_n 1, 1) := by decide +kernel
theorem dJ9_max_7cf53_2 : decode cJ9_max_7cf53 2 = .ok (.if_icmp .lt 7, 3) := by decide +kernel
theorem dJ9_max_7cf53_5 : decode cJ9_max_7cf53 5 = .ok (.iload_n 0, 1) := by decide +kernel
theorem dJ9_max_7cf53_6 : decode cJ9_max_7cf53 6 = .ok (.goto 4, 3) := by decide +kernel
theorem dJ9_max_7cf53_9 : decode cJ9_max_7cf53 9 = .ok (.iload_n 1, 1) := by decide +kernel
theorem dJ9_max_7cf53_10 : decode cJ9_max_7cf53 10 = .ok (.ireturn, 1) := by decide +kernel
theorem dJ9_min_7cf53_0 : decode cJ9_min_7cf53 0 = .ok (.iload_n 0, 1) := by decide +kernel
theorem dJ9_min_7cf53_1 : decode cJ9_min_7cf53 1 = .ok (.iload_n 1, 1) := by decide +kernel
theorem dJ9_min_7cf53_2 : decode cJ9_min_7cf53 2 = .ok (.if_icmp .gt 7, 3) := by decide +kernel
theorem dJ9_min_7cf53_5 : decode cJ9_min_7cf53 5 = .ok (.iload_n 0, 1) := by decide +kernel
theorem dJ9_min_7cf53_6 : decode cJ9_min_7cf53 6 = .ok (.goto 4, 3) := by decide +kernel
theorem dJ9_min_7cf53_9 : decode cJ9_min_7cf53 9 = .ok (.iload_n 1, 1) := by decide +kernel
theorem dJ9_min_7cf53_10 : decode cJ9_min_7cf53 10 = .ok (.ireturn, 1) := by decide +kernel
theorem dJ7_fill_d0a16_0 : decode cJ7_fill_d0a16 0 = .ok (.iconst 0, 1) := by decide +kernel
theorem dJ7_fill_d0a16_1 : decode cJ7_fill_d0a16 1 = .ok (.istore_n 3, 1) := by decide +kernel
theorem dJ7_fill_d0a16_2 : decode cJ7_fill_d0a16 2 = .ok (.aload_n 0, 1) := by decide +kernel
theorem dJ7_fill_d0a16_3 : decode cJ7_fill_d0a16 3 = .ok (.arraylength, 1) := by decide +kernel
theorem dJ7_fill_d0a16_4 : decode cJ7_fill_d0a16 4 = .ok (.istore 4, 2) := by decide +kernel
theorem dJ7_fill_d0a16_6 : decode cJ7_fill_d0a16 6 = .ok (.iload_n 3, 1) := by decide +kernel
theorem dJ7_fill_d0a16_7 : decode cJ7_fill_d0a16 7 = .ok (.iload 4, 2) := by decide +kernel
theorem dJ7_fill_d0a16_9 : decode cJ7_fill_d0a16 9 = .ok (.if_icmp .ge 13, 3) := by decide +kernel
theorem dJ7_fill_d0a16_12 : decode cJ7_fill_d0a16 12 = .ok (.aload_n 0, 1) := by decide +kernel
theorem dJ7_fill_d0a16_13 : decode cJ7_fill_d0a16 13 = .ok (.iload_n 3, 1) := by decide +kernel
theorem dJ7_fill_d0a16_14 : decode cJ7_fill_d0a16 14 = .ok (.lload_n 1, 1) := by decide +kernel
theorem dJ7_fill_d0a16_15 : decode cJ7_fill_d0a16 15 = .ok (.lastore, 1) := by decide +kernel
theorem dJ7_fill_d0a16_16 : decode cJ7_fill_d0a16 16 = .ok (.iinc 3 1, 3) := by decide +kernel
theorem dJ7_fill_d0a16_19 : decode cJ7_fill_d0a16 19 = .ok (.goto (-13), 3) := by decide +kernel
theorem dJ7_fill_d0a16_22 : decode cJ7_fill_d0a16 22 = .ok (.return_, 1) := by decide +kernel
theorem dJ7_fill_53178_0 : decode cJ7_fill_53178 0 = .ok (.iconst 0, 1) := by decide +kernel
theorem dJ7_fill_53178_1 : decode cJ7_fill_53178 1 = .ok (.istore_n 2, 1) := by decide +kernel
theorem dJ7_fill_53178_2 : decode cJ7_fill_53178 2 = .ok (.aload_n 0, 1) := by decide +kernel
theorem dJ7_fill_53178_3 : decode cJ7_fill_53178 3 = .ok (.arraylength, 1) := by decide +kernel
theorem dJ7_fill_53178_4 : decode cJ7_fill_53178 4 = .ok (.istore_n 3, 1) := by decide +kernel
theorem dJ7_fill_53178_5 : decode cJ7_fill_53178 5 = .ok (.iload_n 2, 1) := by decide +kernel
theorem dJ7_fill_53178_6 : decode cJ7_fill_53178 6 = .ok (.iload_n 3, 1) := by decide +kernel
theorem dJ7_fill_53178_7 : decode cJ7_fill_53178 7 = .ok (.if_icmp .ge 13, 3) := by decide +kernel
theorem dJ7_fill_53178_10 : decode cJ7_fill_53178 10 = .ok (.aload_n 0, 1) := by decide +kernel
theorem dJ7_fill_53178_11 : decode cJ7_fill_53178 11 = .ok (.iload_n 2, 1) := by decide +kernel
theorem dJ7_fill_53178_12 : decode cJ7_fill_53178 12 = .ok (.iload_n 1, 1) := by decide +kernel
theorem dJ7_fill_53178_13 : decode cJ7_fill_53178 13 = .ok (.iastore, 1) := by decide +kernel
theorem dJ7_fill_53178_14 : decode cJ7_fill_53178 14 = .ok (.iinc 2 1, 3) := by decide +kernel
theorem dJ7_fill_53178_17 : decode cJ7_fill_53178 17 = .ok (.goto (-12), 3) := by decide +kernel
theorem dJ7_fill_53178_20 : decode cJ7_fill_53178 20 = .ok (.return_, 1) := by decide +kernel
