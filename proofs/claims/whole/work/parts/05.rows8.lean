theorem dX6_confirm_21 : decode cX6_confirm 21 = .ok (.if_icmp .ne 6, 3) := by decide +kernel
theorem dX6_confirm_24 : decode cX6_confirm 24 = .ok (.bipush (-7), 2) := by decide +kernel
theorem dX6_confirm_26 : decode cX6_confirm 26 = .ok (.ireturn, 1) := by decide +kernel
theorem dX6_confirm_27 : decode cX6_confirm 27 = .ok (.aload_n 0, 1) := by decide +kernel
theorem dX6_confirm_28 : decode cX6_confirm 28 = .ok (.aload_n 0, 1) := by decide +kernel
theorem dX6_confirm_29 : decode cX6_confirm 29 = .ok (.getfield 23, 3) := by decide +kernel
theorem dX6_confirm_32 : decode cX6_confirm 32 = .ok (.invokevirtual 138, 3) := by decide +kernel
theorem dX6_confirm_35 : decode cX6_confirm 35 = .ok (.ifCond .eq 5, 3) := by decide +kernel
theorem dX6_confirm_38 : decode cX6_confirm 38 = .ok (.iconst 0, 1) := by decide +kernel
theorem dX6_confirm_39 : decode cX6_confirm 39 = .ok (.ireturn, 1) := by decide +kernel
theorem dX6_confirm_40 : decode cX6_confirm 40 = .ok (.aload_n 0, 1) := by decide +kernel
theorem dX6_confirm_41 : decode cX6_confirm 41 = .ok (.aload_n 0, 1) := by decide +kernel
theorem dX6_confirm_42 : decode cX6_confirm 42 = .ok (.getfield 23, 3) := by decide +kernel
theorem dX6_confirm_45 : decode cX6_confirm 45 = .ok (.invokevirtual 112, 3) := by decide +kernel
theorem dX6_confirm_48 : decode cX6_confirm 48 = .ok (.istore_n 1, 1) := by decide +kernel
theorem dX6_confirm_49 : decode cX6_confirm 49 = .ok (.aload_n 0, 1) := by decide +kernel
theorem dX6_confirm_50 : decode cX6_confirm 50 = .ok (.aload_n 0, 1) := by decide +kernel
theorem dX6_confirm_51 : decode cX6_confirm 51 = .ok (.getfield 23, 3) := by decide +kernel
theorem dX6_confirm_54 : decode cX6_confirm 54 = .ok (.invokestatic 58, 3) := by decide +kernel
theorem dX6_confirm_57 : decode cX6_confirm 57 = .ok (.bipush 7, 2) := by decide +kernel
theorem dX6_confirm_59 : decode cX6_confirm 59 = .ok (.iadd, 1) := by decide +kernel
theorem dX6_confirm_60 : decode cX6_confirm 60 = .ok (.iconst 0, 1) := by decide +kernel
theorem dX6_confirm_61 : decode cX6_confirm 61 = .ok (.invokevirtual 83, 3) := by decide +kernel
theorem dX6_confirm_64 : decode cX6_confirm 64 = .ok (.sipush 704, 3) := by decide +kernel
theorem dX6_confirm_67 : decode cX6_confirm 67 = .ok (.istore_n 2, 1) := by decide +kernel
theorem dX6_confirm_68 : decode cX6_confirm 68 = .ok (.iload_n 2, 1) := by decide +kernel
theorem dX6_confirm_69 : decode cX6_confirm 69 = .ok (.sipush 736, 3) := by decide +kernel
theorem dX6_confirm_72 : decode cX6_confirm 72 = .ok (.if_icmp .ge 50, 3) := by decide +kernel
theorem dX6_confirm_75 : decode cX6_confirm 75 = .ok (.aload_n 0, 1) := by decide +kernel
theorem dX6_confirm_76 : decode cX6_confirm 76 = .ok (.getfield 19, 3) := by decide +kernel
theorem dX6_confirm_79 : decode cX6_confirm 79 = .ok (.ifCond .eq 37, 3) := by decide +kernel
theorem dX6_confirm_82 : decode cX6_confirm 82 = .ok (.aload_n 0, 1) := by decide +kernel
theorem dX6_confirm_83 : decode cX6_confirm 83 = .ok (.getfield 7, 3) := by decide +kernel
theorem dX6_confirm_86 : decode cX6_confirm 86 = .ok (.iload_n 2, 1) := by decide +kernel
theorem dX6_confirm_87 : decode cX6_confirm 87 = .ok (.iaload, 1) := by decide +kernel
theorem dX6_confirm_88 : decode cX6_confirm 88 = .ok (.ifCond .eq 28, 3) := by decide +kernel
theorem dX6_confirm_91 : decode cX6_confirm 91 = .ok (.aload_n 0, 1) := by decide +kernel
theorem dX6_confirm_92 : decode cX6_confirm 92 = .ok (.invokevirtual 70, 3) := by decide +kernel
theorem dX6_confirm_95 : decode cX6_confirm 95 = .ok (.iload_n 1, 1) := by decide +kernel
theorem dX6_confirm_96 : decode cX6_confirm 96 = .ok (.if_icmp .ge 20, 3) := by decide +kernel
theorem dX6_confirm_99 : decode cX6_confirm 99 = .ok (.aload_n 0, 1) := by decide +kernel
theorem dX6_confirm_100 : decode cX6_confirm 100 = .ok (.iload_n 2, 1) := by decide +kernel
theorem dX6_confirm_101 : decode cX6_confirm 101 = .ok (.aload_n 0, 1) := by decide +kernel
theorem dX6_confirm_102 : decode cX6_confirm 102 = .ok (.getfield 7, 3) := by decide +kernel
theorem dX6_confirm_105 : decode cX6_confirm 105 = .ok (.iload_n 2, 1) := by decide +kernel
theorem dX6_confirm_106 : decode cX6_confirm 106 = .ok (.iaload, 1) := by decide +kernel
theorem dX6_confirm_107 : decode cX6_confirm 107 = .ok (.invokestatic 145, 3) := by decide +kernel
theorem dX6_confirm_110 : decode cX6_confirm 110 = .ok (.invokevirtual 83, 3) := by decide +kernel
theorem dX6_confirm_113 : decode cX6_confirm 113 = .ok (.goto (-38), 3) := by decide +kernel
theorem dX6_confirm_116 : decode cX6_confirm 116 = .ok (.iinc 2 1, 3) := by decide +kernel
theorem dX6_confirm_119 : decode cX6_confirm 119 = .ok (.goto (-51), 3) := by decide +kernel
theorem dX6_confirm_122 : decode cX6_confirm 122 = .ok (.aload_n 0, 1) := by decide +kernel
theorem dX6_confirm_123 : decode cX6_confirm 123 = .ok (.getfield 19, 3) := by decide +kernel
theorem dX6_confirm_126 : decode cX6_confirm 126 = .ok (.ifCond .eq 7, 3) := by decide +kernel
theorem dX6_confirm_129 : decode cX6_confirm 129 = .ok (.iconst 1, 1) := by decide +kernel
theorem dX6_confirm_130 : decode cX6_confirm 130 = .ok (.goto 5, 3) := by decide +kernel
theorem dX6_confirm_133 : decode cX6_confirm 133 = .ok (.bipush (-2), 2) := by decide +kernel
theorem dX6_confirm_135 : decode cX6_confirm 135 = .ok (.ireturn, 1) := by decide +kernel
theorem dX6_crash_0 : decode cX6_crash 0 = .ok (.aload_n 0, 1) := by decide +kernel
theorem dX6_crash_1 : decode cX6_crash 1 = .ok (.iconst 0, 1) := by decide +kernel
theorem dX6_crash_2 : decode cX6_crash 2 = .ok (.putfield 36, 3) := by decide +kernel
theorem dX6_crash_5 : decode cX6_crash 5 = .ok (.iload_n 2, 1) := by decide +kernel
theorem dX6_crash_6 : decode cX6_crash 6 = .ok (.ifCond .lt 10, 3) := by decide +kernel
theorem dX6_crash_9 : decode cX6_crash 9 = .ok (.iload_n 2, 1) := by decide +kernel
theorem dX6_crash_10 : decode cX6_crash 10 = .ok (.sipush 255, 3) := by decide +kernel
theorem dX6_crash_13 : decode cX6_crash 13 = .ok (.if_icmp .le 5, 3) := by decide +kernel
theorem dX6_crash_16 : decode cX6_crash 16 = .ok (.iconst (-1), 1) := by decide +kernel
theorem dX6_crash_17 : decode cX6_crash 17 = .ok (.ireturn, 1) := by decide +kernel
theorem dX6_crash_18 : decode cX6_crash 18 = .ok (.aload_n 0, 1) := by decide +kernel
theorem dX6_crash_19 : decode cX6_crash 19 = .ok (.iload_n 1, 1) := by decide +kernel
theorem dX6_crash_20 : decode cX6_crash 20 = .ok (.ifCond .ge 7, 3) := by decide +kernel
theorem dX6_crash_23 : decode cX6_crash 23 = .ok (.iconst (-1), 1) := by decide +kernel
theorem dX6_crash_24 : decode cX6_crash 24 = .ok (.goto 4, 3) := by decide +kernel
theorem dX6_crash_27 : decode cX6_crash 27 = .ok (.iload_n 1, 1) := by decide +kernel
theorem dX6_crash_28 : decode cX6_crash 28 = .ok (.putfield 27, 3) := by decide +kernel
theorem dX6_crash_31 : decode cX6_crash 31 = .ok (.aload_n 0, 1) := by decide +kernel
theorem dX6_crash_32 : decode cX6_crash 32 = .ok (.iload_n 2, 1) := by decide +kernel
theorem dX6_crash_33 : decode cX6_crash 33 = .ok (.putfield 46, 3) := by decide +kernel
theorem dX6_crash_36 : decode cX6_crash 36 = .ok (.iconst 1, 1) := by decide +kernel
theorem dX6_crash_37 : decode cX6_crash 37 = .ok (.ireturn, 1) := by decide +kernel
theorem dX6_running_0 : decode cX6_running 0 = .ok (.aload_n 0, 1) := by decide +kernel
theorem dX6_running_1 : decode cX6_running 1 = .ok (.iconst 0, 1) := by decide +kernel
theorem dX6_running_2 : decode cX6_running 2 = .ok (.putfield 36, 3) := by decide +kernel
theorem dX6_running_5 : decode cX6_running 5 = .ok (.aload_n 0, 1) := by decide +kernel
theorem dX6_running_6 : decode cX6_running 6 = .ok (.getfield 23, 3) := by decide +kernel
theorem dX6_running_9 : decode cX6_running 9 = .ok (.ireturn, 1) := by decide +kernel
set_option maxRecDepth 20000 in
theorem ggX6_counter_X6_counterValue : GoodIn wsX6_counter wsX6_counterValue := goodIn_r _ [6, 7, 8, 9, 5, 10, 11, 12, 13, 14, 15, 16, 17, 18, 19, 20, 21, 22, 23] (by decide +kernel) (by decide +kernel)
set_option maxRecDepth 20000 in
theorem gX6_counter_X6_counterValue : GoodIn wsX6_counter (wsV RX6 70 RX6 yX6_counterValue wsX6_counterValue) := goodIn_app (goodIn_of _ (by decide +kernel)) ggX6_counter_X6_counterValue
theorem dX6_counter_0 : decode cX6_counter 0 = .ok (.aload_n 0, 1) := by decide +kernel
theorem dX6_counter_1 : decode cX6_counter 1 = .ok (.iconst 0, 1) := by decide +kernel
theorem dX6_counter_2 : decode cX6_counter 2 = .ok (.putfield 36, 3) := by decide +kernel
theorem dX6_counter_5 : decode cX6_counter 5 = .ok (.aload_n 0, 1) := by decide +kernel
theorem dX6_counter_6 : decode cX6_counter 6 = .ok (.invokevirtual 70, 3) := by decide +kernel
theorem dX6_counter_9 : decode cX6_counter 9 = .ok (.ireturn, 1) := by decide +kernel
theorem dX6_acts_0 : decode cX6_acts 0 = .ok (.aload_n 0, 1) := by decide +kernel
theorem dX6_acts_1 : decode cX6_acts 1 = .ok (.iconst 0, 1) := by decide +kernel
theorem dX6_acts_2 : decode cX6_acts 2 = .ok (.putfield 36, 3) := by decide +kernel
theorem dX6_acts_5 : decode cX6_acts 5 = .ok (.aload_n 0, 1) := by decide +kernel
theorem dX6_acts_6 : decode cX6_acts 6 = .ok (.getfield 39, 3) := by decide +kernel
theorem dX6_acts_9 : decode cX6_acts 9 = .ok (.ireturn, 1) := by decide +kernel
theorem dX6_byteOf_0 : decode cX6_byteOf 0 = .ok (.aload_n 0, 1) := by decide +kernel
theorem dX6_byteOf_1 : decode cX6_byteOf 1 = .ok (.iconst 0, 1) := by decide +kernel
theorem dX6_byteOf_2 : decode cX6_byteOf 2 = .ok (.putfield 36, 3) := by decide +kernel
theorem dX6_byteOf_5 : decode cX6_byteOf 5 = .ok (.iload_n 1, 1) := by decide +kernel
theorem dX6_byteOf_6 : decode cX6_byteOf 6 = .ok (.ifCond .lt 10, 3) := by decide +kernel
theorem dX6_byteOf_9 : decode cX6_byteOf 9 = .ok (.iload_n 1, 1) := by decide +kernel
theorem dX6_byteOf_10 : decode cX6_byteOf 10 = .ok (.sipush 767, 3) := by decide +kernel
theorem dX6_byteOf_13 : decode cX6_byteOf 13 = .ok (.if_icmp .le 7, 3) := by decide +kernel
theorem dX6_byteOf_16 : decode cX6_byteOf 16 = .ok (.iconst (-1), 1) := by decide +kernel
theorem dX6_byteOf_17 : decode cX6_byteOf 17 = .ok (.goto 9, 3) := by decide +kernel
theorem dX6_byteOf_20 : decode cX6_byteOf 20 = .ok (.aload_n 0, 1) := by decide +kernel
theorem dX6_byteOf_21 : decode cX6_byteOf 21 = .ok (.getfield 7, 3) := by decide +kernel
theorem dX6_byteOf_24 : decode cX6_byteOf 24 = .ok (.iload_n 1, 1) := by decide +kernel
theorem dX6_byteOf_25 : decode cX6_byteOf 25 = .ok (.iaload, 1) := by decide +kernel
theorem dX6_byteOf_26 : decode cX6_byteOf 26 = .ok (.ireturn, 1) := by decide +kernel
set_option maxRecDepth 20000 in
theorem ggX6_good_X6_isGood : GoodIn wsX6_good wsX6_isGood := goodIn_r _ [6, 7, 8, 9, 5, 10, 11, 12, 13, 14, 15, 16, 17, 18, 19, 20, 21, 22, 23, 24, 25, 26, 27, 28, 29, 30, 31, 32, 33, 34, 35, 36, 37, 38, 39, 40, 41, 42, 43, 44, 45] (by decide +kernel) (by decide +kernel)
set_option maxRecDepth 20000 in
theorem gX6_good_X6_isGood : GoodIn wsX6_good (wsV RX6 134 RX6 yX6_isGood wsX6_isGood) := goodIn_app (goodIn_of _ (by decide +kernel)) ggX6_good_X6_isGood
theorem dX6_good_0 : decode cX6_good 0 = .ok (.aload_n 0, 1) := by decide +kernel
theorem dX6_good_1 : decode cX6_good 1 = .ok (.iconst 0, 1) := by decide +kernel
theorem dX6_good_2 : decode cX6_good 2 = .ok (.putfield 36, 3) := by decide +kernel
theorem dX6_good_5 : decode cX6_good 5 = .ok (.iload_n 1, 1) := by decide +kernel
theorem dX6_good_6 : decode cX6_good 6 = .ok (.ifCond .lt 8, 3) := by decide +kernel
theorem dX6_good_9 : decode cX6_good 9 = .ok (.iload_n 1, 1) := by decide +kernel
theorem dX6_good_10 : decode cX6_good 10 = .ok (.iconst 1, 1) := by decide +kernel
theorem dX6_good_11 : decode cX6_good 11 = .ok (.if_icmp .le 7, 3) := by decide +kernel
theorem dX6_good_14 : decode cX6_good 14 = .ok (.iconst (-1), 1) := by decide +kernel
theorem dX6_good_15 : decode cX6_good 15 = .ok (.goto 16, 3) := by decide +kernel
theorem dX6_good_18 : decode cX6_good 18 = .ok (.aload_n 0, 1) := by decide +kernel
theorem dX6_good_19 : decode cX6_good 19 = .ok (.iload_n 1, 1) := by decide +kernel
theorem dX6_good_20 : decode cX6_good 20 = .ok (.invokevirtual 134, 3) := by decide +kernel
theorem dX6_good_23 : decode cX6_good 23 = .ok (.ifCond .eq 7, 3) := by decide +kernel
theorem dX6_good_26 : decode cX6_good 26 = .ok (.iconst 1, 1) := by decide +kernel
theorem dX6_good_27 : decode cX6_good 27 = .ok (.goto 4, 3) := by decide +kernel
theorem dX6_good_30 : decode cX6_good 30 = .ok (.iconst 0, 1) := by decide +kernel
theorem dX6_good_31 : decode cX6_good 31 = .ok (.ireturn, 1) := by decide +kernel
theorem dJ6_bitCount_0f7a4_0 : decode cJ6_bitCount_0f7a4 0 = .ok (.iload_n 0, 1) := by decide +kernel
theorem dJ6_bitCount_0f7a4_1 : decode cJ6_bitCount_0f7a4 1 = .ok (.iload_n 0, 1) := by decide +kernel
theorem dJ6_bitCount_0f7a4_2 : decode cJ6_bitCount_0f7a4 2 = .ok (.iconst 1, 1) := by decide +kernel
theorem dJ6_bitCount_0f7a4_3 : decode cJ6_bitCount_0f7a4 3 = .ok (.iushr, 1) := by decide +kernel
theorem dJ6_bitCount_0f7a4_4 : decode cJ6_bitCount_0f7a4 4 = .ok (.ldc_w 265, 3) := by decide +kernel
theorem dJ6_bitCount_0f7a4_7 : decode cJ6_bitCount_0f7a4 7 = .ok (.iand, 1) := by decide +kernel
theorem dJ6_bitCount_0f7a4_8 : decode cJ6_bitCount_0f7a4 8 = .ok (.isub, 1) := by decide +kernel
theorem dJ6_bitCount_0f7a4_9 : decode cJ6_bitCount_0f7a4 9 = .ok (.istore_n 0, 1) := by decide +kernel
theorem dJ6_bitCount_0f7a4_10 : decode cJ6_bitCount_0f7a4 10 = .ok (.iload_n 0, 1) := by decide +kernel
theorem dJ6_bitCount_0f7a4_11 : decode cJ6_bitCount_0f7a4 11 = .ok (.ldc_w 266, 3) := by decide +kernel
theorem dJ6_bitCount_0f7a4_14 : decode cJ6_bitCount_0f7a4 14 = .ok (.iand, 1) := by decide +kernel
theorem dJ6_bitCount_0f7a4_15 : decode cJ6_bitCount_0f7a4 15 = .ok (.iload_n 0, 1) := by decide +kernel
theorem dJ6_bitCount_0f7a4_16 : decode cJ6_bitCount_0f7a4 16 = .ok (.iconst 2, 1) := by decide +kernel
theorem dJ6_bitCount_0f7a4_17 : decode cJ6_bitCount_0f7a4 17 = .ok (.iushr, 1) := by decide +kernel
theorem dJ6_bitCount_0f7a4_18 : decode cJ6_bitCount_0f7a4 18 = .ok (.ldc_w 266, 3) := by decide +kernel
theorem dJ6_bitCount_0f7a4_21 : decode cJ6_bitCount_0f7a4 21 = .ok (.iand, 1) := by decide +kernel
theorem dJ6_bitCount_0f7a4_22 : decode cJ6_bitCount_0f7a4 22 = .ok (.iadd, 1) := by decide +kernel
theorem dJ6_bitCount_0f7a4_23 : decode cJ6_bitCount_0f7a4 23 = .ok (.istore_n 0, 1) := by decide +kernel
theorem dJ6_bitCount_0f7a4_24 : decode cJ6_bitCount_0f7a4 24 = .ok (.iload_n 0, 1) := by decide +kernel
theorem dJ6_bitCount_0f7a4_25 : decode cJ6_bitCount_0f7a4 25 = .ok (.iload_n 0, 1) := by decide +kernel
theorem dJ6_bitCount_0f7a4_26 : decode cJ6_bitCount_0f7a4 26 = .ok (.iconst 4, 1) := by decide +kernel
theorem dJ6_bitCount_0f7a4_27 : decode cJ6_bitCount_0f7a4 27 = .ok (.iushr, 1) := by decide +kernel
theorem dJ6_bitCount_0f7a4_28 : decode cJ6_bitCount_0f7a4 28 = .ok (.iadd, 1) := by decide +kernel
theorem dJ6_bitCount_0f7a4_29 : decode cJ6_bitCount_0f7a4 29 = .ok (.ldc_w 267, 3) := by decide +kernel
theorem dJ6_bitCount_0f7a4_32 : decode cJ6_bitCount_0f7a4 32 = .ok (.iand, 1) := by decide +kernel
theorem dJ6_bitCount_0f7a4_33 : decode cJ6_bitCount_0f7a4 33 = .ok (.istore_n 0, 1) := by decide +kernel
theorem dJ6_bitCount_0f7a4_34 : decode cJ6_bitCount_0f7a4 34 = .ok (.iload_n 0, 1) := by decide +kernel
theorem dJ6_bitCount_0f7a4_35 : decode cJ6_bitCount_0f7a4 35 = .ok (.iload_n 0, 1) := by decide +kernel
theorem dJ6_bitCount_0f7a4_36 : decode cJ6_bitCount_0f7a4 36 = .ok (.bipush 8, 2) := by decide +kernel
theorem dJ6_bitCount_0f7a4_38 : decode cJ6_bitCount_0f7a4 38 = .ok (.iushr, 1) := by decide +kernel
theorem dJ6_bitCount_0f7a4_39 : decode cJ6_bitCount_0f7a4 39 = .ok (.iadd, 1) := by decide +kernel
theorem dJ6_bitCount_0f7a4_40 : decode cJ6_bitCount_0f7a4 40 = .ok (.istore_n 0, 1) := by decide +kernel
theorem dJ6_bitCount_0f7a4_41 : decode cJ6_bitCount_0f7a4 41 = .ok (.iload_n 0, 1) := by decide +kernel
theorem dJ6_bitCount_0f7a4_42 : decode cJ6_bitCount_0f7a4 42 = .ok (.iload_n 0, 1) := by decide +kernel
theorem dJ6_bitCount_0f7a4_43 : decode cJ6_bitCount_0f7a4 43 = .ok (.bipush 16, 2) := by decide +kernel
theorem dJ6_bitCount_0f7a4_45 : decode cJ6_bitCount_0f7a4 45 = .ok (.iushr, 1) := by decide +kernel
theorem dJ6_bitCount_0f7a4_46 : decode cJ6_bitCount_0f7a4 46 = .ok (.iadd, 1) := by decide +kernel
theorem dJ6_bitCount_0f7a4_47 : decode cJ6_bitCount_0f7a4 47 = .ok (.istore_n 0, 1) := by decide +kernel
theorem dJ6_bitCount_0f7a4_48 : decode cJ6_bitCount_0f7a4 48 = .ok (.iload_n 0, 1) := by decide +kernel
theorem dJ6_bitCount_0f7a4_49 : decode cJ6_bitCount_0f7a4 49 = .ok (.bipush 63, 2) := by decide +kernel
theorem dJ6_bitCount_0f7a4_51 : decode cJ6_bitCount_0f7a4 51 = .ok (.iand, 1) := by decide +kernel
theorem dJ6_bitCount_0f7a4_52 : decode cJ6_bitCount_0f7a4 52 = .ok (.ireturn, 1) := by decide +kernel
theorem dJ9_min_7cf53_0 : decode cJ9_min_7cf53 0 = .ok (.iload_n 0, 1) := by decide +kernel
theorem dJ9_min_7cf53_1 : decode cJ9_min_7cf53 1 = .ok (.iload_n 1, 1) := by decide +kernel
theorem dJ9_min_7cf53_2 : decode cJ9_min_7cf53 2 = .ok (.if_icmp .gt 7, 3) := by decide +kernel
theorem dJ9_min_7cf53_5 : decode cJ9_min_7cf53 5 = .ok (.iload_n 0, 1) := by decide +kernel
theorem dJ9_min_7cf53_6 : decode cJ9_min_7cf53 6 = .ok (.goto 4, 3) := by decide +kernel
theorem dJ9_min_7cf53_9 : decode cJ9_min_7cf53 9 = .ok (.iload_n 1, 1) := by decide +kernel
theorem dJ9_min_7cf53_10 : decode cJ9_min_7cf53 10 = .ok (.ireturn, 1) := by decide +kernel
theorem dL_cell_0 : decode cL_cell 0 = .ok (.iload_n 1, 1) := by decide +kernel
theorem dL_cell_1 : decode cL_cell 1 = .ok (.aload_n 0, 1) := by decide +kernel
theorem dL_cell_2 : decode cL_cell 2 = .ok (.arraylength, 1) := by decide +kernel
theorem dL_cell_3 : decode cL_cell 3 = .ok (.if_icmp .ge 9, 3) := by decide +kernel
theorem dL_cell_6 : decode cL_cell 6 = .ok (.aload_n 0, 1) := by decide +kernel
theorem dL_cell_7 : decode cL_cell 7 = .ok (.iload_n 1, 1) := by decide +kernel
theorem dL_cell_8 : decode cL_cell 8 = .ok (.iaload, 1) := by decide +kernel
theorem dL_cell_9 : decode cL_cell 9 = .ok (.goto 4, 3) := by decide +kernel
theorem dL_cell_12 : decode cL_cell 12 = .ok (.iconst 0, 1) := by decide +kernel
theorem dL_cell_13 : decode cL_cell 13 = .ok (.ireturn, 1) := by decide +kernel
set_option maxRecDepth 20000 in
theorem ggL_law_L_cell : GoodIn wsL_law wsL_cell := goodIn_r _ [10] (by decide +kernel) (by decide +kernel)
set_option maxRecDepth 20000 in
theorem gL_law_L_cell : GoodIn wsL_law (va_wsS RL 9 yL_cell wsL_cell) := goodIn_app (goodIn_of _ (by decide +kernel)) ggL_law_L_cell
set_option maxRecDepth 20000 in
theorem ggL_law_X5_init : GoodIn wsL_law wsX5_init := goodIn_r _ [13, 14, 15, 16, 17, 18, 19, 20, 21, 22, 23, 24, 25, 26, 27, 28, 29, 30, 31, 32, 33, 34, 35, 36, 37, 38, 39, 40, 41, 42, 43, 44, 45, 46, 47, 48, 49, 50, 51, 52, 53, 54, 55, 56, 57, 58, 59, 60, 61, 62, 63, 64, 65, 66, 67, 68, 69, 70, 71, 72, 73, 74, 2, 75, 76, 77, 78, 616, 617, 618, 619, 620, 621, 594, 595, 596, 597, 598, 599, 600, 601, 602, 622, 623, 624, 625, 626, 627, 628, 629] (by decide +kernel) (by decide +kernel)
set_option maxRecDepth 20000 in
theorem gL_law_X5_init : GoodIn wsL_law (wsX5_init) := ggL_law_X5_init
set_option maxRecDepth 20000 in
theorem ggL_law_X6_init : GoodIn wsL_law wsX6_init := goodIn_r _ [81, 82, 15, 16, 45, 83, 84, 85, 86, 87, 88, 89, 90, 603, 604, 605, 606, 607, 608, 609, 610, 611, 612, 613, 614, 615] (by decide +kernel) (by decide +kernel)
set_option maxRecDepth 20000 in
theorem gL_law_X6_init : GoodIn wsL_law (wsX6_init) := ggL_law_X6_init
set_option maxRecDepth 20000 in
theorem ggL_law_X5_type : GoodIn wsL_law wsX5_type := goodIn_r _ [94, 24, 95, 96, 97, 23, 98, 56, 55, 594, 595, 596, 597, 598, 599, 600, 601, 602, 622, 623] (by decide +kernel) (by decide +kernel)
set_option maxRecDepth 20000 in
theorem gL_law_X5_type : GoodIn wsL_law (wsV RL 23 RX5 yX5_type wsX5_type) := goodIn_app (goodIn_of _ (by decide +kernel)) ggL_law_X5_type
set_option maxRecDepth 20000 in
theorem ggL_law_X6_type : GoodIn wsL_law wsX6_type := goodIn_r _ [102, 103, 104, 85, 105, 603, 604, 605, 606, 607, 608, 609, 610, 611, 612, 613, 614, 615] (by decide +kernel) (by decide +kernel)
set_option maxRecDepth 20000 in
theorem gL_law_X6_type : GoodIn wsL_law (wsV RL 27 RX6 yX6_type wsX6_type) := goodIn_app (goodIn_of _ (by decide +kernel)) ggL_law_X6_type
set_option maxRecDepth 20000 in
theorem ggL_law_X5_factory : GoodIn wsL_law wsX5_factory := goodIn_r _ [109, 20, 24, 38, 28, 110, 111, 2, 112, 113, 114, 115, 27, 116, 61, 117, 118, 119, 19, 120, 47, 51, 46, 121, 122, 123, 124, 48, 49, 50, 125, 126, 127, 128, 129, 130, 131, 132, 133, 62, 134, 135, 136, 137, 138, 139, 140, 141, 142, 143, 144, 145, 146, 147, 148, 149, 150, 151, 152, 63, 153, 154, 155, 156, 157, 77, 78, 158, 159, 160, 161, 162, 163, 164, 165, 166, 167, 168, 169, 594, 595, 596, 597, 598, 599, 600, 601, 602, 616, 617, 618, 619, 620, 621, 622, 623, 624, 625, 626] (by decide +kernel) (by decide +kernel)
set_option maxRecDepth 20000 in
theorem gL_law_X5_factory : GoodIn wsL_law (wsV RL 28 RX5 yX5_factory wsX5_factory) := goodIn_app (goodIn_of _ (by decide +kernel)) ggL_law_X5_factory
set_option maxRecDepth 20000 in
theorem ggL_law_X6_factory : GoodIn wsL_law wsX6_factory := goodIn_r _ [173, 103, 86, 104, 87, 85, 174, 175, 176, 5, 177, 178, 83, 179, 180, 181, 182, 183, 88, 184, 185, 186, 187, 188, 189, 190, 191, 192, 193, 194, 195, 196, 197, 198, 199, 200, 201, 603, 604, 605, 606, 607, 608, 609, 610, 611, 612, 613, 614, 615] (by decide +kernel) (by decide +kernel)
set_option maxRecDepth 20000 in
theorem gL_law_X6_factory : GoodIn wsL_law (wsV RL 32 RX6 yX6_factory wsX6_factory) := goodIn_app (goodIn_of _ (by decide +kernel)) ggL_law_X6_factory
set_option maxRecDepth 20000 in
theorem ggL_law_X5_manifest : GoodIn wsL_law wsX5_manifest := goodIn_r _ [205, 20, 24, 206, 207, 208, 2, 209, 33, 210, 211, 212, 32, 213, 67, 214, 215, 216, 217, 218, 219, 220, 221, 222, 223, 224, 225, 111, 112, 226, 227, 228, 229, 230, 231, 232, 233, 234, 235, 236, 237, 238, 239, 39, 40, 240, 241, 242, 243, 143, 144, 145, 146, 147, 148, 244, 245, 246, 247, 248, 249, 250, 251, 252, 253, 254, 255, 256, 38, 257, 258, 259, 260, 261, 262, 263, 19, 264, 46, 265, 266, 267, 268, 269, 270, 271, 272, 273, 274, 275, 28, 29, 276, 277, 278, 27, 279, 63, 280, 281, 282, 283, 284, 285, 286, 287, 288, 289, 129, 118, 119, 120, 47, 51, 121, 122, 123, 124, 48, 49, 50, 290, 135, 136, 137, 138, 139, 140, 141, 166, 167, 168, 169, 594, 595, 596, 597, 598, 599, 600, 601, 602, 616, 617, 618, 619, 620, 621, 622, 623, 627, 624, 625, 626] (by decide +kernel) (by decide +kernel)
set_option maxRecDepth 20000 in
theorem gL_law_X5_manifest : GoodIn wsL_law (wsV RL 33 RX5 yX5_manifest wsX5_manifest) := goodIn_app (goodIn_of _ (by decide +kernel)) ggL_law_X5_manifest
set_option maxRecDepth 20000 in
theorem ggL_law_X6_manifest : GoodIn wsL_law wsX6_manifest := goodIn_r _ [294, 103, 86, 104, 83, 85, 295, 296, 297, 5, 298, 299, 300, 301, 302, 303, 304, 305, 306, 307, 308, 309, 84, 90, 188, 189, 190, 191, 310, 311, 312, 313, 314, 315, 316, 317, 87, 318, 319, 320, 321, 322, 323, 324, 325, 326, 327, 328, 196, 197, 198, 174, 175, 176, 177, 178, 179, 180, 181, 182, 183, 88, 184, 185, 186, 187, 603, 604, 605, 606, 607, 608, 609, 610, 611, 612, 613, 614, 615] (by decide +kernel) (by decide +kernel)
set_option maxRecDepth 20000 in
theorem gL_law_X6_manifest : GoodIn wsL_law (wsV RL 37 RX6 yX6_manifest wsX6_manifest) := goodIn_app (goodIn_of _ (by decide +kernel)) ggL_law_X6_manifest
set_option maxRecDepth 20000 in
theorem ggL_law_X5_block : GoodIn wsL_law wsX5_block := goodIn_r _ [332, 20, 33, 24, 333, 334, 335, 2, 336, 337, 338, 339, 32, 340, 67, 285, 262, 263, 19, 264, 46, 218, 219, 220, 221, 222, 223, 224, 225, 111, 112, 226, 227, 228, 229, 230, 231, 232, 233, 234, 235, 236, 237, 238, 239, 39, 40, 240, 241, 242, 243, 143, 144, 145, 146, 147, 148, 244, 245, 246, 247, 248, 249, 250, 251, 341, 342, 343, 344, 345, 346, 347, 348, 349, 350, 351, 352, 353, 354, 355, 356, 357, 358, 359, 261, 290, 135, 136, 137, 138, 139, 140, 141, 47, 51, 121, 122, 123, 124, 48, 49, 50, 360, 166, 167, 168, 169, 38, 594, 595, 596, 597, 598, 599, 600, 601, 602, 616, 617, 618, 619, 620, 621, 622, 623, 627] (by decide +kernel) (by decide +kernel)
set_option maxRecDepth 20000 in
theorem gL_law_X5_block : GoodIn wsL_law (wsV RL 38 RX5 yX5_block wsX5_block) := goodIn_app (goodIn_of _ (by decide +kernel)) ggL_law_X5_block
set_option maxRecDepth 20000 in
theorem ggL_law_X6_block : GoodIn wsL_law wsX6_block := goodIn_r _ [364, 103, 86, 83, 104, 85, 365, 366, 367, 5, 368, 295, 296, 297, 298, 299, 300, 301, 302, 303, 304, 305, 306, 307, 308, 309, 84, 90, 188, 189, 190, 191, 310, 311, 312, 313, 369, 370, 371, 372, 184, 185, 186, 187, 178, 179, 180, 181, 182, 183, 88, 87, 603, 604, 605, 606, 607, 608, 609, 610, 611, 612, 613, 614, 615] (by decide +kernel) (by decide +kernel)
set_option maxRecDepth 20000 in
theorem gL_law_X6_block : GoodIn wsL_law (wsV RL 41 RX6 yX6_block wsX6_block) := goodIn_app (goodIn_of _ (by decide +kernel)) ggL_law_X6_block
set_option maxRecDepth 20000 in
theorem ggL_law_X5_install : GoodIn wsL_law wsX5_install := goodIn_r _ [376, 20, 33, 38, 333, 334, 335, 2, 336, 337, 338, 339, 32, 340, 67, 285, 262, 263, 19, 264, 46, 218, 219, 220, 221, 222, 223, 224, 225, 111, 112, 226, 227, 228, 229, 230, 231, 232, 233, 234, 235, 236, 237, 238, 239, 39, 40, 240, 241, 242, 243, 143, 144, 145, 146, 147, 148, 244, 245, 246, 247, 248, 249, 250, 251, 252, 253, 254, 255, 256, 257, 258, 259, 260, 261, 265, 266, 267, 268, 269, 270, 271, 272, 273, 274, 275, 28, 29, 276, 277, 278, 27, 279, 63, 280, 377, 378, 379, 380, 341, 345, 346, 347, 356, 357, 358, 359, 381, 382, 383, 384, 37, 385, 386, 387, 388, 389, 390, 391, 392, 393, 394, 395, 396, 397, 398, 399, 400, 401, 402, 403, 404, 405, 406, 407, 408, 409, 410, 411, 412, 36, 413, 72, 414, 415, 416, 417, 418, 71, 419, 420, 421, 422, 423, 142, 424, 425, 426, 427, 428, 429, 430, 431, 125, 126, 127, 128, 61, 117, 118, 119, 120, 47, 51, 121, 122, 123, 124, 48, 49, 50, 113, 114, 115, 116, 130, 131, 132, 133, 62, 134, 135, 136, 137, 138, 139, 140, 141, 149, 150, 151, 152, 153, 154, 155, 156, 157, 77, 78, 432, 433, 434, 435, 162, 163, 164, 165, 129, 166, 167, 168, 169, 594, 595, 596, 597, 598, 599, 600, 601, 602, 616, 617, 618, 619, 620, 621, 627, 624, 625, 626, 628, 629] (by decide +kernel) (by decide +kernel)
set_option maxRecDepth 20000 in
theorem gL_law_X5_install : GoodIn wsL_law (wsV RL 42 RX5 yX5_install wsX5_install) := goodIn_app (goodIn_of _ (by decide +kernel)) ggL_law_X5_install
set_option maxRecDepth 20000 in
theorem ggL_law_X6_install : GoodIn wsL_law wsX6_install := goodIn_r _ [439, 103, 86, 83, 87, 440, 89, 365, 366, 367, 5, 368, 295, 296, 297, 298, 299, 300, 301, 302, 85, 303, 304, 305, 306, 307, 308, 309, 84, 90, 188, 189, 190, 191, 310, 311, 312, 313, 314, 315, 316, 317, 318, 319, 320, 321, 322, 323, 324, 325, 326, 327, 328, 196, 197, 198, 369, 370, 371, 372, 441, 442, 443, 444, 445, 446, 447, 448, 449, 450, 451, 452, 453, 454, 455, 456, 457, 458, 459, 174, 175, 176, 177, 178, 179, 180, 181, 182, 183, 88, 184, 185, 186, 187, 192, 193, 194, 195, 199, 200, 201, 603, 604, 605, 606, 607, 608, 609, 610, 611, 612, 613, 614, 615] (by decide +kernel) (by decide +kernel)
set_option maxRecDepth 20000 in
theorem gL_law_X6_install : GoodIn wsL_law (wsV RL 45 RX6 yX6_install wsX6_install) := goodIn_app (goodIn_of _ (by decide +kernel)) ggL_law_X6_install
set_option maxRecDepth 20000 in
theorem ggL_law_X5_boot : GoodIn wsL_law wsX5_boot := goodIn_r _ [463, 20, 38, 464, 465, 466, 2, 467, 28, 29, 468, 469, 470, 471, 257, 258, 259, 260, 261, 262, 263, 19, 264, 46, 265, 266, 267, 268, 269, 270, 271, 472, 473, 474, 27, 475, 62, 476, 477, 478, 479, 63, 280, 480, 407, 408, 409, 230, 231, 481, 277, 278, 279, 482, 386, 387, 388, 389, 146, 147, 148, 483, 399, 400, 401, 402, 403, 404, 405, 484, 485, 486, 487, 488, 489, 490, 491, 492, 493, 494, 495, 276, 496, 497, 498, 499, 500, 272, 273, 274, 275, 501, 502, 503, 504, 505, 506, 507, 508, 138, 139, 140, 141, 47, 51, 121, 122, 123, 124, 48, 49, 50, 166, 167, 168, 169, 594, 595, 596, 597, 598, 599, 600, 601, 602, 616, 617, 618, 619, 620, 621, 624, 625, 626] (by decide +kernel) (by decide +kernel)
set_option maxRecDepth 20000 in
theorem gL_law_X5_boot : GoodIn wsL_law (wsV RL 46 RX5 yX5_boot wsX5_boot) := goodIn_app (goodIn_of _ (by decide +kernel)) ggL_law_X5_boot
set_option maxRecDepth 20000 in
theorem ggL_law_X6_boot : GoodIn wsL_law wsX6_boot := goodIn_r _ [512, 103, 86, 87, 83, 513, 514, 515, 5, 516, 517, 518, 519, 520, 196, 197, 198, 449, 450, 451, 445, 446, 447, 448, 188, 189, 190, 191, 441, 442, 443, 444, 318, 319, 320, 321, 322, 323, 324, 521, 522, 523, 524, 325, 326, 327, 328, 525, 526, 527, 184, 185, 186, 187, 178, 179, 180, 181, 182, 183, 88, 603, 604, 605, 606, 607, 608, 609, 610, 611, 612, 613, 614, 615] (by decide +kernel) (by decide +kernel)
set_option maxRecDepth 20000 in
theorem gL_law_X6_boot : GoodIn wsL_law (wsV RL 49 RX6 yX6_boot wsX6_boot) := goodIn_app (goodIn_of _ (by decide +kernel)) ggL_law_X6_boot
set_option maxRecDepth 20000 in
theorem ggL_law_X5_confirm : GoodIn wsL_law wsX5_confirm := goodIn_r _ [531, 20, 38, 272, 273, 274, 2, 275, 28, 29, 500, 489, 490, 27, 491, 63, 280, 262, 263, 19, 264, 46, 158, 159, 160, 161, 153, 139, 140, 141, 47, 51, 121, 122, 123, 124, 48, 49, 50, 276, 277, 278, 279, 532, 533, 534, 535, 257, 258, 259, 260, 261, 265, 266, 267, 268, 269, 270, 271, 536, 537, 538, 539, 540, 506, 507, 508, 389, 138, 166, 167, 168, 169, 594, 595, 596, 597, 598, 599, 600, 601, 602, 616, 617, 618, 619, 620, 621, 624, 625, 626] (by decide +kernel) (by decide +kernel)
set_option maxRecDepth 20000 in
theorem gL_law_X5_confirm : GoodIn wsL_law (wsV RL 50 RX5 yX5_confirm wsX5_confirm) := goodIn_app (goodIn_of _ (by decide +kernel)) ggL_law_X5_confirm
set_option maxRecDepth 20000 in
theorem ggL_law_X6_confirm : GoodIn wsL_law wsX6_confirm := goodIn_r _ [544, 103, 86, 87, 83, 521, 522, 523, 5, 524, 196, 197, 198, 325, 326, 327, 328, 184, 185, 186, 187, 178, 179, 180, 181, 182, 183, 88, 318, 319, 320, 321, 322, 323, 324, 525, 526, 527, 603, 604, 605, 606, 607, 608, 609, 610, 611, 612, 613, 614, 615] (by decide +kernel) (by decide +kernel)
set_option maxRecDepth 20000 in
theorem gL_law_X6_confirm : GoodIn wsL_law (wsV RL 53 RX6 yX6_confirm wsX6_confirm) := goodIn_app (goodIn_of _ (by decide +kernel)) ggL_law_X6_confirm
set_option maxRecDepth 20000 in
theorem ggL_law_X5_crash : GoodIn wsL_law wsX5_crash := goodIn_r _ [548, 20, 549, 550, 551, 19, 552, 49, 50, 51, 594, 595, 596, 597, 598, 599, 600, 601, 602, 616, 617, 618, 619, 620, 621] (by decide +kernel) (by decide +kernel)
set_option maxRecDepth 20000 in
theorem gL_law_X5_crash : GoodIn wsL_law (wsV RL 54 RX5 yX5_crash wsX5_crash) := goodIn_app (goodIn_of _ (by decide +kernel)) ggL_law_X5_crash
set_option maxRecDepth 20000 in
theorem ggL_law_X6_crash : GoodIn wsL_law wsX6_crash := goodIn_r _ [556, 103, 88, 178, 603, 604, 605, 606, 607, 608, 609, 610, 611, 612, 613, 614, 615] (by decide +kernel) (by decide +kernel)
set_option maxRecDepth 20000 in
theorem gL_law_X6_crash : GoodIn wsL_law (wsV RL 58 RX6 yX6_crash wsX6_crash) := goodIn_app (goodIn_of _ (by decide +kernel)) ggL_law_X6_crash
set_option maxRecDepth 20000 in
theorem ggL_law_X5_running : GoodIn wsL_law wsX5_running := goodIn_r _ [560, 38, 594, 595, 596, 597, 598, 599, 600, 601, 602] (by decide +kernel) (by decide +kernel)
set_option maxRecDepth 20000 in
theorem gL_law_X5_running : GoodIn wsL_law (wsV RL 59 RX5 yX5_running wsX5_running) := goodIn_app (goodIn_of _ (by decide +kernel)) ggL_law_X5_running
set_option maxRecDepth 20000 in
theorem ggL_law_X6_running : GoodIn wsL_law wsX6_running := goodIn_r _ [564, 103, 87, 603, 604, 605, 606, 607, 608, 609, 610, 611, 612, 613, 614, 615] (by decide +kernel) (by decide +kernel)
set_option maxRecDepth 20000 in
theorem gL_law_X6_running : GoodIn wsL_law (wsV RL 62 RX6 yX6_running wsX6_running) := goodIn_app (goodIn_of _ (by decide +kernel)) ggL_law_X6_running
set_option maxRecDepth 20000 in
theorem ggL_law_X5_counter : GoodIn wsL_law wsX5_counter := goodIn_r _ [260, 20, 261, 262, 263, 19, 264, 46, 265, 266, 267, 268, 269, 270, 271, 594, 595, 596, 597, 598, 599, 600, 601, 602, 616, 617, 618, 619, 620, 621] (by decide +kernel) (by decide +kernel)
set_option maxRecDepth 20000 in
theorem gL_law_X5_counter : GoodIn wsL_law (wsV RL 63 RX5 yX5_counter wsX5_counter) := goodIn_app (goodIn_of _ (by decide +kernel)) ggL_law_X5_counter
set_option maxRecDepth 20000 in
theorem ggL_law_X6_counter : GoodIn wsL_law wsX6_counter := goodIn_r _ [569, 103, 318, 319, 320, 5, 321, 83, 322, 323, 324, 603, 604, 605, 606, 607, 608, 609, 610, 611, 612, 613, 614, 615] (by decide +kernel) (by decide +kernel)
set_option maxRecDepth 20000 in
theorem gL_law_X6_counter : GoodIn wsL_law (wsV RL 66 RX6 yX6_counter wsX6_counter) := goodIn_app (goodIn_of _ (by decide +kernel)) ggL_law_X6_counter
set_option maxRecDepth 20000 in
theorem ggL_law_X5_acts : GoodIn wsL_law wsX5_acts := goodIn_r _ [573, 20, 594, 595, 596, 597, 598, 599, 600, 601, 602, 616, 617, 618, 619, 620, 621] (by decide +kernel) (by decide +kernel)
set_option maxRecDepth 20000 in
theorem gL_law_X5_acts : GoodIn wsL_law (wsV RL 67 RX5 yX5_acts wsX5_acts) := goodIn_app (goodIn_of _ (by decide +kernel)) ggL_law_X5_acts
set_option maxRecDepth 20000 in
theorem ggL_law_X6_acts : GoodIn wsL_law wsX6_acts := goodIn_r _ [577, 103, 183, 603, 604, 605, 606, 607, 608, 609, 610, 611, 612, 613, 614, 615] (by decide +kernel) (by decide +kernel)
set_option maxRecDepth 20000 in
theorem gL_law_X6_acts : GoodIn wsL_law (wsV RL 70 RX6 yX6_acts wsX6_acts) := goodIn_app (goodIn_of _ (by decide +kernel)) ggL_law_X6_acts
set_option maxRecDepth 20000 in
theorem ggL_law_X5_byteOf : GoodIn wsL_law wsX5_byteOf := goodIn_r _ [581, 20, 261, 262, 263, 19, 264, 46, 594, 595, 596, 597, 598, 599, 600, 601, 602, 616, 617, 618, 619, 620, 621] (by decide +kernel) (by decide +kernel)
set_option maxRecDepth 20000 in
theorem gL_law_X5_byteOf : GoodIn wsL_law (wsV RL 71 RX5 yX5_byteOf wsX5_byteOf) := goodIn_app (goodIn_of _ (by decide +kernel)) ggL_law_X5_byteOf
set_option maxRecDepth 20000 in
theorem ggL_law_X6_byteOf : GoodIn wsL_law wsX6_byteOf := goodIn_r _ [585, 103, 83, 603, 604, 605, 606, 607, 608, 609, 610, 611, 612, 613, 614, 615] (by decide +kernel) (by decide +kernel)
set_option maxRecDepth 20000 in
theorem gL_law_X6_byteOf : GoodIn wsL_law (wsV RL 74 RX6 yX6_byteOf wsX6_byteOf) := goodIn_app (goodIn_of _ (by decide +kernel)) ggL_law_X6_byteOf
set_option maxRecDepth 20000 in
theorem ggL_law_X5_good : GoodIn wsL_law wsX5_good := goodIn_r _ [589, 272, 273, 274, 2, 275, 28, 29, 468, 469, 470, 471, 20, 257, 258, 259, 260, 261, 262, 263, 19, 264, 46, 265, 266, 267, 268, 269, 270, 271, 472, 473, 474, 27, 475, 62, 476, 477, 478, 479, 63, 280, 480, 407, 408, 409, 230, 231, 481, 277, 278, 279, 482, 386, 387, 388, 389, 146, 147, 148, 483, 399, 400, 401, 402, 403, 404, 405, 594, 595, 596, 597, 598, 599, 600, 601, 602, 616, 617, 618, 619, 620, 621, 624, 625, 626] (by decide +kernel) (by decide +kernel)
set_option maxRecDepth 20000 in
theorem gL_law_X5_good : GoodIn wsL_law (wsV RL 75 RX5 yX5_good wsX5_good) := goodIn_app (goodIn_of _ (by decide +kernel)) ggL_law_X5_good
set_option maxRecDepth 20000 in
theorem ggL_law_X6_good : GoodIn wsL_law wsX6_good := goodIn_r _ [593, 103, 517, 518, 519, 5, 520, 83, 196, 197, 198, 449, 450, 451, 445, 446, 447, 448, 188, 189, 190, 191, 441, 442, 443, 444, 318, 319, 320, 321, 322, 323, 324, 603, 604, 605, 606, 607, 608, 609, 610, 611, 612, 613, 614, 615] (by decide +kernel) (by decide +kernel)
set_option maxRecDepth 20000 in
theorem gL_law_X6_good : GoodIn wsL_law (wsV RL 78 RX6 yX6_good wsX6_good) := goodIn_app (goodIn_of _ (by decide +kernel)) ggL_law_X6_good
theorem dL_law_0 : decode cL_law 0 = .ok (.new 7, 3) := by decide +kernel
theorem dL_law_3 : decode cL_law 3 = .ok (.dup, 1) := by decide +kernel
theorem dL_law_4 : decode cL_law 4 = .ok (.aload_n 0, 1) := by decide +kernel
theorem dL_law_5 : decode cL_law 5 = .ok (.iconst 0, 1) := by decide +kernel
theorem dL_law_6 : decode cL_law 6 = .ok (.invokestatic 9, 3) := by decide +kernel
theorem dL_law_9 : decode cL_law 9 = .ok (.aload_n 0, 1) := by decide +kernel
theorem dL_law_10 : decode cL_law 10 = .ok (.iconst 1, 1) := by decide +kernel
theorem dL_law_11 : decode cL_law 11 = .ok (.invokestatic 9, 3) := by decide +kernel
theorem dL_law_14 : decode cL_law 14 = .ok (.aload_n 0, 1) := by decide +kernel
theorem dL_law_15 : decode cL_law 15 = .ok (.iconst 2, 1) := by decide +kernel
theorem dL_law_16 : decode cL_law 16 = .ok (.invokestatic 9, 3) := by decide +kernel
theorem dL_law_19 : decode cL_law 19 = .ok (.invokespecial 15, 3) := by decide +kernel
theorem dL_law_22 : decode cL_law 22 = .ok (.astore_n 1, 1) := by decide +kernel
theorem dL_law_23 : decode cL_law 23 = .ok (.new 18, 3) := by decide +kernel
theorem dL_law_26 : decode cL_law 26 = .ok (.dup, 1) := by decide +kernel
theorem dL_law_27 : decode cL_law 27 = .ok (.aload_n 0, 1) := by decide +kernel
theorem dL_law_28 : decode cL_law 28 = .ok (.iconst 0, 1) := by decide +kernel
theorem dL_law_29 : decode cL_law 29 = .ok (.invokestatic 9, 3) := by decide +kernel
theorem dL_law_32 : decode cL_law 32 = .ok (.aload_n 0, 1) := by decide +kernel
theorem dL_law_33 : decode cL_law 33 = .ok (.iconst 1, 1) := by decide +kernel
theorem dL_law_34 : decode cL_law 34 = .ok (.invokestatic 9, 3) := by decide +kernel
theorem dL_law_37 : decode cL_law 37 = .ok (.aload_n 0, 1) := by decide +kernel
theorem dL_law_38 : decode cL_law 38 = .ok (.iconst 2, 1) := by decide +kernel
theorem dL_law_39 : decode cL_law 39 = .ok (.invokestatic 9, 3) := by decide +kernel
theorem dL_law_42 : decode cL_law 42 = .ok (.invokespecial 20, 3) := by decide +kernel
theorem dL_law_45 : decode cL_law 45 = .ok (.astore_n 2, 1) := by decide +kernel
theorem dL_law_46 : decode cL_law 46 = .ok (.iconst 3, 1) := by decide +kernel
theorem dL_law_47 : decode cL_law 47 = .ok (.istore_n 3, 1) := by decide +kernel
theorem dL_law_48 : decode cL_law 48 = .ok (.iload_n 3, 1) := by decide +kernel
theorem dL_law_49 : decode cL_law 49 = .ok (.aload_n 0, 1) := by decide +kernel
theorem dL_law_50 : decode cL_law 50 = .ok (.arraylength, 1) := by decide +kernel
theorem dL_law_51 : decode cL_law 51 = .ok (.iconst 4, 1) := by decide +kernel
theorem dL_law_52 : decode cL_law 52 = .ok (.isub, 1) := by decide +kernel
theorem dL_law_53 : decode cL_law 53 = .ok (.if_icmp .gt 360, 3) := by decide +kernel
theorem dL_law_56 : decode cL_law 56 = .ok (.aload_n 0, 1) := by decide +kernel
theorem dL_law_57 : decode cL_law 57 = .ok (.iload_n 3, 1) := by decide +kernel
theorem dL_law_58 : decode cL_law 58 = .ok (.iaload, 1) := by decide +kernel
theorem dL_law_59 : decode cL_law 59 = .ok (.bipush 15, 2) := by decide +kernel
theorem dL_law_61 : decode cL_law 61 = .ok (.iand, 1) := by decide +kernel
theorem dL_law_62 : decode cL_law 62 = .ok (.tableswitch 345 0 12 #[66, 129, 152, 165, 188, 201, 214, 227, 260, 273, 286, 299, 322], 66) := by decide +kernel
theorem dL_law_128 : decode cL_law 128 = .ok (.aload_n 1, 1) := by decide +kernel
theorem dL_law_129 : decode cL_law 129 = .ok (.aload_n 0, 1) := by decide +kernel
theorem dL_law_130 : decode cL_law 130 = .ok (.iload_n 3, 1) := by decide +kernel
theorem dL_law_131 : decode cL_law 131 = .ok (.iconst 1, 1) := by decide +kernel
theorem dL_law_132 : decode cL_law 132 = .ok (.iadd, 1) := by decide +kernel
theorem dL_law_133 : decode cL_law 133 = .ok (.iaload, 1) := by decide +kernel
theorem dL_law_134 : decode cL_law 134 = .ok (.i2l, 1) := by decide +kernel
theorem dL_law_135 : decode cL_law 135 = .ok (.bipush 32, 2) := by decide +kernel
theorem dL_law_137 : decode cL_law 137 = .ok (.lshl, 1) := by decide +kernel
theorem dL_law_138 : decode cL_law 138 = .ok (.aload_n 0, 1) := by decide +kernel
theorem dL_law_139 : decode cL_law 139 = .ok (.iload_n 3, 1) := by decide +kernel
theorem dL_law_140 : decode cL_law 140 = .ok (.iconst 2, 1) := by decide +kernel
theorem dL_law_141 : decode cL_law 141 = .ok (.iadd, 1) := by decide +kernel
theorem dL_law_142 : decode cL_law 142 = .ok (.iaload, 1) := by decide +kernel
theorem dL_law_143 : decode cL_law 143 = .ok (.i2l, 1) := by decide +kernel
theorem dL_law_144 : decode cL_law 144 = .ok (.ldc2_w 21, 3) := by decide +kernel
theorem dL_law_147 : decode cL_law 147 = .ok (.land, 1) := by decide +kernel
theorem dL_law_148 : decode cL_law 148 = .ok (.lor, 1) := by decide +kernel
theorem dL_law_149 : decode cL_law 149 = .ok (.aload_n 0, 1) := by decide +kernel
theorem dL_law_150 : decode cL_law 150 = .ok (.iload_n 3, 1) := by decide +kernel
theorem dL_law_151 : decode cL_law 151 = .ok (.iconst 3, 1) := by decide +kernel
theorem dL_law_152 : decode cL_law 152 = .ok (.iadd, 1) := by decide +kernel
theorem dL_law_153 : decode cL_law 153 = .ok (.iaload, 1) := by decide +kernel
theorem dL_law_154 : decode cL_law 154 = .ok (.invokevirtual 23, 3) := by decide +kernel
theorem dL_law_157 : decode cL_law 157 = .ok (.aload_n 2, 1) := by decide +kernel
theorem dL_law_158 : decode cL_law 158 = .ok (.aload_n 0, 1) := by decide +kernel
theorem dL_law_159 : decode cL_law 159 = .ok (.iload_n 3, 1) := by decide +kernel
theorem dL_law_160 : decode cL_law 160 = .ok (.iconst 1, 1) := by decide +kernel
theorem dL_law_161 : decode cL_law 161 = .ok (.iadd, 1) := by decide +kernel
theorem dL_law_162 : decode cL_law 162 = .ok (.iaload, 1) := by decide +kernel
theorem dL_law_163 : decode cL_law 163 = .ok (.i2l, 1) := by decide +kernel
theorem dL_law_164 : decode cL_law 164 = .ok (.bipush 32, 2) := by decide +kernel
theorem dL_law_166 : decode cL_law 166 = .ok (.lshl, 1) := by decide +kernel
theorem dL_law_167 : decode cL_law 167 = .ok (.aload_n 0, 1) := by decide +kernel
theorem dL_law_168 : decode cL_law 168 = .ok (.iload_n 3, 1) := by decide +kernel
theorem dL_law_169 : decode cL_law 169 = .ok (.iconst 2, 1) := by decide +kernel
theorem dL_law_170 : decode cL_law 170 = .ok (.iadd, 1) := by decide +kernel
theorem dL_law_171 : decode cL_law 171 = .ok (.iaload, 1) := by decide +kernel
theorem dL_law_172 : decode cL_law 172 = .ok (.i2l, 1) := by decide +kernel
theorem dL_law_173 : decode cL_law 173 = .ok (.ldc2_w 21, 3) := by decide +kernel
theorem dL_law_176 : decode cL_law 176 = .ok (.land, 1) := by decide +kernel
theorem dL_law_177 : decode cL_law 177 = .ok (.lor, 1) := by decide +kernel
theorem dL_law_178 : decode cL_law 178 = .ok (.aload_n 0, 1) := by decide +kernel
theorem dL_law_179 : decode cL_law 179 = .ok (.iload_n 3, 1) := by decide +kernel
theorem dL_law_180 : decode cL_law 180 = .ok (.iconst 3, 1) := by decide +kernel
theorem dL_law_181 : decode cL_law 181 = .ok (.iadd, 1) := by decide +kernel
theorem dL_law_182 : decode cL_law 182 = .ok (.iaload, 1) := by decide +kernel
theorem dL_law_183 : decode cL_law 183 = .ok (.invokevirtual 27, 3) := by decide +kernel
theorem dL_law_186 : decode cL_law 186 = .ok (.if_icmp .eq 221, 3) := by decide +kernel
theorem dL_law_189 : decode cL_law 189 = .ok (.iconst 0, 1) := by decide +kernel
theorem dL_law_190 : decode cL_law 190 = .ok (.ireturn, 1) := by decide +kernel
theorem dL_law_191 : decode cL_law 191 = .ok (.aload_n 1, 1) := by decide +kernel
theorem dL_law_192 : decode cL_law 192 = .ok (.aload_n 0, 1) := by decide +kernel
theorem dL_law_193 : decode cL_law 193 = .ok (.iload_n 3, 1) := by decide +kernel
theorem dL_law_194 : decode cL_law 194 = .ok (.iconst 1, 1) := by decide +kernel
theorem dL_law_195 : decode cL_law 195 = .ok (.iadd, 1) := by decide +kernel
theorem dL_law_196 : decode cL_law 196 = .ok (.iaload, 1) := by decide +kernel
theorem dL_law_197 : decode cL_law 197 = .ok (.invokevirtual 28, 3) := by decide +kernel
theorem dL_law_200 : decode cL_law 200 = .ok (.aload_n 2, 1) := by decide +kernel
theorem dL_law_201 : decode cL_law 201 = .ok (.aload_n 0, 1) := by decide +kernel
theorem dL_law_202 : decode cL_law 202 = .ok (.iload_n 3, 1) := by decide +kernel
theorem dL_law_203 : decode cL_law 203 = .ok (.iconst 1, 1) := by decide +kernel
theorem dL_law_204 : decode cL_law 204 = .ok (.iadd, 1) := by decide +kernel
theorem dL_law_205 : decode cL_law 205 = .ok (.iaload, 1) := by decide +kernel
theorem dL_law_206 : decode cL_law 206 = .ok (.invokevirtual 32, 3) := by decide +kernel
theorem dL_law_209 : decode cL_law 209 = .ok (.if_icmp .eq 198, 3) := by decide +kernel
theorem dL_law_212 : decode cL_law 212 = .ok (.iconst 0, 1) := by decide +kernel
theorem dL_law_213 : decode cL_law 213 = .ok (.ireturn, 1) := by decide +kernel
theorem dL_law_214 : decode cL_law 214 = .ok (.aload_n 1, 1) := by decide +kernel
theorem dL_law_215 : decode cL_law 215 = .ok (.invokevirtual 33, 3) := by decide +kernel
theorem dL_law_218 : decode cL_law 218 = .ok (.aload_n 2, 1) := by decide +kernel
theorem dL_law_219 : decode cL_law 219 = .ok (.invokevirtual 37, 3) := by decide +kernel
theorem dL_law_222 : decode cL_law 222 = .ok (.if_icmp .eq 185, 3) := by decide +kernel
theorem dL_law_225 : decode cL_law 225 = .ok (.iconst 0, 1) := by decide +kernel
theorem dL_law_226 : decode cL_law 226 = .ok (.ireturn, 1) := by decide +kernel
theorem dL_law_227 : decode cL_law 227 = .ok (.aload_n 1, 1) := by decide +kernel
theorem dL_law_228 : decode cL_law 228 = .ok (.aload_n 0, 1) := by decide +kernel
theorem dL_law_229 : decode cL_law 229 = .ok (.iload_n 3, 1) := by decide +kernel
theorem dL_law_230 : decode cL_law 230 = .ok (.iconst 1, 1) := by decide +kernel
theorem dL_law_231 : decode cL_law 231 = .ok (.iadd, 1) := by decide +kernel
theorem dL_law_232 : decode cL_law 232 = .ok (.iaload, 1) := by decide +kernel
theorem dL_law_233 : decode cL_law 233 = .ok (.invokevirtual 38, 3) := by decide +kernel
theorem dL_law_236 : decode cL_law 236 = .ok (.aload_n 2, 1) := by decide +kernel
theorem dL_law_237 : decode cL_law 237 = .ok (.aload_n 0, 1) := by decide +kernel
theorem dL_law_238 : decode cL_law 238 = .ok (.iload_n 3, 1) := by decide +kernel
theorem dL_law_239 : decode cL_law 239 = .ok (.iconst 1, 1) := by decide +kernel
theorem dL_law_240 : decode cL_law 240 = .ok (.iadd, 1) := by decide +kernel
theorem dL_law_241 : decode cL_law 241 = .ok (.iaload, 1) := by decide +kernel
theorem dL_law_242 : decode cL_law 242 = .ok (.invokevirtual 41, 3) := by decide +kernel
theorem dL_law_245 : decode cL_law 245 = .ok (.if_icmp .eq 162, 3) := by decide +kernel
theorem dL_law_248 : decode cL_law 248 = .ok (.iconst 0, 1) := by decide +kernel
theorem dL_law_249 : decode cL_law 249 = .ok (.ireturn, 1) := by decide +kernel
theorem dL_law_250 : decode cL_law 250 = .ok (.aload_n 1, 1) := by decide +kernel
theorem dL_law_251 : decode cL_law 251 = .ok (.invokevirtual 42, 3) := by decide +kernel
theorem dL_law_254 : decode cL_law 254 = .ok (.aload_n 2, 1) := by decide +kernel
theorem dL_law_255 : decode cL_law 255 = .ok (.invokevirtual 45, 3) := by decide +kernel
theorem dL_law_258 : decode cL_law 258 = .ok (.if_icmp .eq 149, 3) := by decide +kernel
theorem dL_law_261 : decode cL_law 261 = .ok (.iconst 0, 1) := by decide +kernel
theorem dL_law_262 : decode cL_law 262 = .ok (.ireturn, 1) := by decide +kernel
theorem dL_law_263 : decode cL_law 263 = .ok (.aload_n 1, 1) := by decide +kernel
theorem dL_law_264 : decode cL_law 264 = .ok (.invokevirtual 46, 3) := by decide +kernel
theorem dL_law_267 : decode cL_law 267 = .ok (.aload_n 2, 1) := by decide +kernel
theorem dL_law_268 : decode cL_law 268 = .ok (.invokevirtual 49, 3) := by decide +kernel
theorem dL_law_271 : decode cL_law 271 = .ok (.if_icmp .eq 136, 3) := by decide +kernel
theorem dL_law_274 : decode cL_law 274 = .ok (.iconst 0, 1) := by decide +kernel
theorem dL_law_275 : decode cL_law 275 = .ok (.ireturn, 1) := by decide +kernel
theorem dL_law_276 : decode cL_law 276 = .ok (.aload_n 1, 1) := by decide +kernel
theorem dL_law_277 : decode cL_law 277 = .ok (.invokevirtual 50, 3) := by decide +kernel
theorem dL_law_280 : decode cL_law 280 = .ok (.aload_n 2, 1) := by decide +kernel
theorem dL_law_281 : decode cL_law 281 = .ok (.invokevirtual 53, 3) := by decide +kernel
theorem dL_law_284 : decode cL_law 284 = .ok (.if_icmp .eq 123, 3) := by decide +kernel
theorem dL_law_287 : decode cL_law 287 = .ok (.iconst 0, 1) := by decide +kernel
theorem dL_law_288 : decode cL_law 288 = .ok (.ireturn, 1) := by decide +kernel
theorem dL_law_289 : decode cL_law 289 = .ok (.aload_n 1, 1) := by decide +kernel
theorem dL_law_290 : decode cL_law 290 = .ok (.aload_n 0, 1) := by decide +kernel
theorem dL_law_291 : decode cL_law 291 = .ok (.iload_n 3, 1) := by decide +kernel
theorem dL_law_292 : decode cL_law 292 = .ok (.iconst 1, 1) := by decide +kernel
theorem dL_law_293 : decode cL_law 293 = .ok (.iadd, 1) := by decide +kernel
theorem dL_law_294 : decode cL_law 294 = .ok (.iaload, 1) := by decide +kernel
theorem dL_law_295 : decode cL_law 295 = .ok (.aload_n 0, 1) := by decide +kernel
theorem dL_law_296 : decode cL_law 296 = .ok (.iload_n 3, 1) := by decide +kernel
theorem dL_law_297 : decode cL_law 297 = .ok (.iconst 2, 1) := by decide +kernel
theorem dL_law_298 : decode cL_law 298 = .ok (.iadd, 1) := by decide +kernel
theorem dL_law_299 : decode cL_law 299 = .ok (.iaload, 1) := by decide +kernel
theorem dL_law_300 : decode cL_law 300 = .ok (.invokevirtual 54, 3) := by decide +kernel
theorem dL_law_303 : decode cL_law 303 = .ok (.aload_n 2, 1) := by decide +kernel
theorem dL_law_304 : decode cL_law 304 = .ok (.aload_n 0, 1) := by decide +kernel
theorem dL_law_305 : decode cL_law 305 = .ok (.iload_n 3, 1) := by decide +kernel
theorem dL_law_306 : decode cL_law 306 = .ok (.iconst 1, 1) := by decide +kernel
theorem dL_law_307 : decode cL_law 307 = .ok (.iadd, 1) := by decide +kernel
theorem dL_law_308 : decode cL_law 308 = .ok (.iaload, 1) := by decide +kernel
theorem dL_law_309 : decode cL_law 309 = .ok (.aload_n 0, 1) := by decide +kernel
theorem dL_law_310 : decode cL_law 310 = .ok (.iload_n 3, 1) := by decide +kernel
theorem dL_law_311 : decode cL_law 311 = .ok (.iconst 2, 1) := by decide +kernel
theorem dL_law_312 : decode cL_law 312 = .ok (.iadd, 1) := by decide +kernel
theorem dL_law_313 : decode cL_law 313 = .ok (.iaload, 1) := by decide +kernel
theorem dL_law_314 : decode cL_law 314 = .ok (.invokevirtual 58, 3) := by decide +kernel
theorem dL_law_317 : decode cL_law 317 = .ok (.if_icmp .eq 90, 3) := by decide +kernel
theorem dL_law_320 : decode cL_law 320 = .ok (.iconst 0, 1) := by decide +kernel
theorem dL_law_321 : decode cL_law 321 = .ok (.ireturn, 1) := by decide +kernel
theorem dL_law_322 : decode cL_law 322 = .ok (.aload_n 1, 1) := by decide +kernel
theorem dL_law_323 : decode cL_law 323 = .ok (.invokevirtual 59, 3) := by decide +kernel
theorem dL_law_326 : decode cL_law 326 = .ok (.aload_n 2, 1) := by decide +kernel
theorem dL_law_327 : decode cL_law 327 = .ok (.invokevirtual 62, 3) := by decide +kernel
theorem dL_law_330 : decode cL_law 330 = .ok (.if_icmp .eq 77, 3) := by decide +kernel
theorem dL_law_333 : decode cL_law 333 = .ok (.iconst 0, 1) := by decide +kernel
theorem dL_law_334 : decode cL_law 334 = .ok (.ireturn, 1) := by decide +kernel
theorem dL_law_335 : decode cL_law 335 = .ok (.aload_n 1, 1) := by decide +kernel
theorem dL_law_336 : decode cL_law 336 = .ok (.invokevirtual 63, 3) := by decide +kernel
theorem dL_law_339 : decode cL_law 339 = .ok (.aload_n 2, 1) := by decide +kernel
theorem dL_law_340 : decode cL_law 340 = .ok (.invokevirtual 66, 3) := by decide +kernel
theorem dL_law_343 : decode cL_law 343 = .ok (.if_icmp .eq 64, 3) := by decide +kernel
theorem dL_law_346 : decode cL_law 346 = .ok (.iconst 0, 1) := by decide +kernel
theorem dL_law_347 : decode cL_law 347 = .ok (.ireturn, 1) := by decide +kernel
theorem dL_law_348 : decode cL_law 348 = .ok (.aload_n 1, 1) := by decide +kernel
theorem dL_law_349 : decode cL_law 349 = .ok (.invokevirtual 67, 3) := by decide +kernel
theorem dL_law_352 : decode cL_law 352 = .ok (.aload_n 2, 1) := by decide +kernel
theorem dL_law_353 : decode cL_law 353 = .ok (.invokevirtual 70, 3) := by decide +kernel
theorem dL_law_356 : decode cL_law 356 = .ok (.if_icmp .eq 51, 3) := by decide +kernel
theorem dL_law_359 : decode cL_law 359 = .ok (.iconst 0, 1) := by decide +kernel
theorem dL_law_360 : decode cL_law 360 = .ok (.ireturn, 1) := by decide +kernel
theorem dL_law_361 : decode cL_law 361 = .ok (.aload_n 1, 1) := by decide +kernel
theorem dL_law_362 : decode cL_law 362 = .ok (.aload_n 0, 1) := by decide +kernel
theorem dL_law_363 : decode cL_law 363 = .ok (.iload_n 3, 1) := by decide +kernel
theorem dL_law_364 : decode cL_law 364 = .ok (.iconst 1, 1) := by decide +kernel
theorem dL_law_365 : decode cL_law 365 = .ok (.iadd, 1) := by decide +kernel
theorem dL_law_366 : decode cL_law 366 = .ok (.iaload, 1) := by decide +kernel
theorem dL_law_367 : decode cL_law 367 = .ok (.invokevirtual 71, 3) := by decide +kernel
theorem dL_law_370 : decode cL_law 370 = .ok (.aload_n 2, 1) := by decide +kernel
theorem dL_law_371 : decode cL_law 371 = .ok (.aload_n 0, 1) := by decide +kernel
theorem dL_law_372 : decode cL_law 372 = .ok (.iload_n 3, 1) := by decide +kernel
theorem dL_law_373 : decode cL_law 373 = .ok (.iconst 1, 1) := by decide +kernel
theorem dL_law_374 : decode cL_law 374 = .ok (.iadd, 1) := by decide +kernel
theorem dL_law_375 : decode cL_law 375 = .ok (.iaload, 1) := by decide +kernel
theorem dL_law_376 : decode cL_law 376 = .ok (.invokevirtual 74, 3) := by decide +kernel
theorem dL_law_379 : decode cL_law 379 = .ok (.if_icmp .eq 28, 3) := by decide +kernel
theorem dL_law_382 : decode cL_law 382 = .ok (.iconst 0, 1) := by decide +kernel
theorem dL_law_383 : decode cL_law 383 = .ok (.ireturn, 1) := by decide +kernel
theorem dL_law_384 : decode cL_law 384 = .ok (.aload_n 1, 1) := by decide +kernel
theorem dL_law_385 : decode cL_law 385 = .ok (.aload_n 0, 1) := by decide +kernel
theorem dL_law_386 : decode cL_law 386 = .ok (.iload_n 3, 1) := by decide +kernel
theorem dL_law_387 : decode cL_law 387 = .ok (.iconst 1, 1) := by decide +kernel
theorem dL_law_388 : decode cL_law 388 = .ok (.iadd, 1) := by decide +kernel
theorem dL_law_389 : decode cL_law 389 = .ok (.iaload, 1) := by decide +kernel
theorem dL_law_390 : decode cL_law 390 = .ok (.invokevirtual 75, 3) := by decide +kernel
theorem dL_law_393 : decode cL_law 393 = .ok (.aload_n 2, 1) := by decide +kernel
theorem dL_law_394 : decode cL_law 394 = .ok (.aload_n 0, 1) := by decide +kernel
theorem dL_law_395 : decode cL_law 395 = .ok (.iload_n 3, 1) := by decide +kernel
theorem dL_law_396 : decode cL_law 396 = .ok (.iconst 1, 1) := by decide +kernel
theorem dL_law_397 : decode cL_law 397 = .ok (.iadd, 1) := by decide +kernel
theorem dL_law_398 : decode cL_law 398 = .ok (.iaload, 1) := by decide +kernel
theorem dL_law_399 : decode cL_law 399 = .ok (.invokevirtual 78, 3) := by decide +kernel
theorem dL_law_402 : decode cL_law 402 = .ok (.if_icmp .eq 5, 3) := by decide +kernel
theorem dL_law_405 : decode cL_law 405 = .ok (.iconst 0, 1) := by decide +kernel
theorem dL_law_406 : decode cL_law 406 = .ok (.ireturn, 1) := by decide +kernel
theorem dL_law_407 : decode cL_law 407 = .ok (.iinc 3 4, 3) := by decide +kernel
theorem dL_law_410 : decode cL_law 410 = .ok (.goto (-362), 3) := by decide +kernel
theorem dL_law_413 : decode cL_law 413 = .ok (.iconst 1, 1) := by decide +kernel
theorem dL_law_414 : decode cL_law 414 = .ok (.ireturn, 1) := by decide +kernel
