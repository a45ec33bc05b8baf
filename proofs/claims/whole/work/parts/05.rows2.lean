theorem dX2_unfold_114 : decode cX2_unfold 114 = .ok (.invokevirtual 29, 3) := by decide +kernel
theorem dX2_unfold_117 : decode cX2_unfold 117 = .ok (.ifCond .ne 5, 3) := by decide +kernel
theorem dX2_unfold_120 : decode cX2_unfold 120 = .ok (.iconst 0, 1) := by decide +kernel
theorem dX2_unfold_121 : decode cX2_unfold 121 = .ok (.ireturn, 1) := by decide +kernel
theorem dX2_unfold_122 : decode cX2_unfold 122 = .ok (.goto (-114), 3) := by decide +kernel
theorem dX2_unfold_125 : decode cX2_unfold 125 = .ok (.iconst 1, 1) := by decide +kernel
theorem dX2_unfold_126 : decode cX2_unfold 126 = .ok (.ireturn, 1) := by decide +kernel
set_option maxRecDepth 20000 in
theorem ggX2_takeBase_X2_take : GoodIn wsX2_takeBase wsX2_take := goodIn_r _ [5, 6, 7, 8, 9, 10, 11, 12, 13, 14, 15, 16, 17, 18, 19, 20, 21] (by decide +kernel) (by decide +kernel)
set_option maxRecDepth 20000 in
theorem gX2_takeBase_X2_take : GoodIn wsX2_takeBase (wsV RX2 25 RX2 yX2_take wsX2_take) := goodIn_app (goodIn_of _ (by decide +kernel)) ggX2_takeBase_X2_take
theorem dX2_takeBase_0 : decode cX2_takeBase 0 = .ok (.iload 4, 2) := by decide +kernel
theorem dX2_takeBase_2 : decode cX2_takeBase 2 = .ok (.iload 5, 2) := by decide +kernel
theorem dX2_takeBase_4 : decode cX2_takeBase 4 = .ok (.iadd, 1) := by decide +kernel
theorem dX2_takeBase_5 : decode cX2_takeBase 5 = .ok (.iload_n 3, 1) := by decide +kernel
theorem dX2_takeBase_6 : decode cX2_takeBase 6 = .ok (.if_icmp .gt 21, 3) := by decide +kernel
theorem dX2_takeBase_9 : decode cX2_takeBase 9 = .ok (.aload_n 0, 1) := by decide +kernel
theorem dX2_takeBase_10 : decode cX2_takeBase 10 = .ok (.aload_n 1, 1) := by decide +kernel
theorem dX2_takeBase_11 : decode cX2_takeBase 11 = .ok (.iload_n 2, 1) := by decide +kernel
theorem dX2_takeBase_12 : decode cX2_takeBase 12 = .ok (.iload 4, 2) := by decide +kernel
theorem dX2_takeBase_14 : decode cX2_takeBase 14 = .ok (.iadd, 1) := by decide +kernel
theorem dX2_takeBase_15 : decode cX2_takeBase 15 = .ok (.iload 5, 2) := by decide +kernel
theorem dX2_takeBase_17 : decode cX2_takeBase 17 = .ok (.invokevirtual 25, 3) := by decide +kernel
theorem dX2_takeBase_20 : decode cX2_takeBase 20 = .ok (.ifCond .eq 7, 3) := by decide +kernel
theorem dX2_takeBase_23 : decode cX2_takeBase 23 = .ok (.iconst 1, 1) := by decide +kernel
theorem dX2_takeBase_24 : decode cX2_takeBase 24 = .ok (.goto 4, 3) := by decide +kernel
theorem dX2_takeBase_27 : decode cX2_takeBase 27 = .ok (.iconst 0, 1) := by decide +kernel
theorem dX2_takeBase_28 : decode cX2_takeBase 28 = .ok (.ireturn, 1) := by decide +kernel
set_option maxRecDepth 20000 in
theorem ggX2_take_X0_at : GoodIn wsX2_take wsX0_at := goodIn_r _ [7, 8, 11, 12, 13, 14, 15, 16] (by decide +kernel) (by decide +kernel)
set_option maxRecDepth 20000 in
theorem gX2_take_X0_at : GoodIn wsX2_take (wsV RX2 19 RX0 yX0_at wsX0_at) := goodIn_app (goodIn_of _ (by decide +kernel)) ggX2_take_X0_at
theorem dX2_take_0 : decode cX2_take 0 = .ok (.aload_n 0, 1) := by decide +kernel
theorem dX2_take_1 : decode cX2_take 1 = .ok (.getfield 15, 3) := by decide +kernel
theorem dX2_take_4 : decode cX2_take 4 = .ok (.iload_n 3, 1) := by decide +kernel
theorem dX2_take_5 : decode cX2_take 5 = .ok (.iadd, 1) := by decide +kernel
theorem dX2_take_6 : decode cX2_take 6 = .ok (.sipush 192, 3) := by decide +kernel
theorem dX2_take_9 : decode cX2_take 9 = .ok (.if_icmp .le 5, 3) := by decide +kernel
theorem dX2_take_12 : decode cX2_take 12 = .ok (.iconst 0, 1) := by decide +kernel
theorem dX2_take_13 : decode cX2_take 13 = .ok (.ireturn, 1) := by decide +kernel
theorem dX2_take_14 : decode cX2_take 14 = .ok (.iconst 0, 1) := by decide +kernel
theorem dX2_take_15 : decode cX2_take 15 = .ok (.istore 4, 2) := by decide +kernel
theorem dX2_take_17 : decode cX2_take 17 = .ok (.iload 4, 2) := by decide +kernel
theorem dX2_take_19 : decode cX2_take 19 = .ok (.iload_n 3, 1) := by decide +kernel
theorem dX2_take_20 : decode cX2_take 20 = .ok (.if_icmp .ge 36, 3) := by decide +kernel
theorem dX2_take_23 : decode cX2_take 23 = .ok (.aload_n 0, 1) := by decide +kernel
theorem dX2_take_24 : decode cX2_take 24 = .ok (.getfield 9, 3) := by decide +kernel
theorem dX2_take_27 : decode cX2_take 27 = .ok (.aload_n 0, 1) := by decide +kernel
theorem dX2_take_28 : decode cX2_take 28 = .ok (.getfield 15, 3) := by decide +kernel
theorem dX2_take_31 : decode cX2_take 31 = .ok (.aload_n 1, 1) := by decide +kernel
theorem dX2_take_32 : decode cX2_take 32 = .ok (.iload_n 2, 1) := by decide +kernel
theorem dX2_take_33 : decode cX2_take 33 = .ok (.iload 4, 2) := by decide +kernel
theorem dX2_take_35 : decode cX2_take 35 = .ok (.iadd, 1) := by decide +kernel
theorem dX2_take_36 : decode cX2_take 36 = .ok (.invokevirtual 19, 3) := by decide +kernel
theorem dX2_take_39 : decode cX2_take 39 = .ok (.iastore, 1) := by decide +kernel
theorem dX2_take_40 : decode cX2_take 40 = .ok (.aload_n 0, 1) := by decide +kernel
theorem dX2_take_41 : decode cX2_take 41 = .ok (.dup, 1) := by decide +kernel
theorem dX2_take_42 : decode cX2_take 42 = .ok (.getfield 15, 3) := by decide +kernel
theorem dX2_take_45 : decode cX2_take 45 = .ok (.iconst 1, 1) := by decide +kernel
theorem dX2_take_46 : decode cX2_take 46 = .ok (.iadd, 1) := by decide +kernel
theorem dX2_take_47 : decode cX2_take 47 = .ok (.putfield 15, 3) := by decide +kernel
theorem dX2_take_50 : decode cX2_take 50 = .ok (.iinc 4 1, 3) := by decide +kernel
theorem dX2_take_53 : decode cX2_take 53 = .ok (.goto (-36), 3) := by decide +kernel
theorem dX2_take_56 : decode cX2_take 56 = .ok (.iconst 1, 1) := by decide +kernel
theorem dX2_take_57 : decode cX2_take 57 = .ok (.ireturn, 1) := by decide +kernel
theorem dX3_init_0 : decode cX3_init 0 = .ok (.aload_n 0, 1) := by decide +kernel
theorem dX3_init_1 : decode cX3_init 1 = .ok (.invokespecial 3, 3) := by decide +kernel
theorem dX3_init_4 : decode cX3_init 4 = .ok (.aload_n 0, 1) := by decide +kernel
theorem dX3_init_5 : decode cX3_init 5 = .ok (.iload_n 1, 1) := by decide +kernel
theorem dX3_init_6 : decode cX3_init 6 = .ok (.putfield 9, 3) := by decide +kernel
theorem dX3_init_9 : decode cX3_init 9 = .ok (.aload_n 0, 1) := by decide +kernel
theorem dX3_init_10 : decode cX3_init 10 = .ok (.iload_n 1, 1) := by decide +kernel
theorem dX3_init_11 : decode cX3_init 11 = .ok (.bipush 32, 2) := by decide +kernel
theorem dX3_init_13 : decode cX3_init 13 = .ok (.imul, 1) := by decide +kernel
theorem dX3_init_14 : decode cX3_init 14 = .ok (.putfield 15, 3) := by decide +kernel
theorem dX3_init_17 : decode cX3_init 17 = .ok (.aload_n 0, 1) := by decide +kernel
theorem dX3_init_18 : decode cX3_init 18 = .ok (.iload_n 1, 1) := by decide +kernel
theorem dX3_init_19 : decode cX3_init 19 = .ok (.bipush 6, 2) := by decide +kernel
theorem dX3_init_21 : decode cX3_init 21 = .ok (.iadd, 1) := by decide +kernel
theorem dX3_init_22 : decode cX3_init 22 = .ok (.bipush 32, 2) := by decide +kernel
theorem dX3_init_24 : decode cX3_init 24 = .ok (.imul, 1) := by decide +kernel
theorem dX3_init_25 : decode cX3_init 25 = .ok (.putfield 18, 3) := by decide +kernel
theorem dX3_init_28 : decode cX3_init 28 = .ok (.return_, 1) := by decide +kernel
set_option maxRecDepth 20000 in
theorem ggX3_length_X0_at : GoodIn wsX3_length wsX0_at := goodIn_r _ [6, 7, 11, 12, 13, 14, 15, 16] (by decide +kernel) (by decide +kernel)
set_option maxRecDepth 20000 in
theorem gX3_length_X0_at : GoodIn wsX3_length (wsV RX3 21 RX0 yX0_at wsX0_at) := goodIn_app (goodIn_of _ (by decide +kernel)) ggX3_length_X0_at
theorem dX3_length_0 : decode cX3_length 0 = .ok (.aload_n 1, 1) := by decide +kernel
theorem dX3_length_1 : decode cX3_length 1 = .ok (.aload_n 0, 1) := by decide +kernel
theorem dX3_length_2 : decode cX3_length 2 = .ok (.getfield 18, 3) := by decide +kernel
theorem dX3_length_5 : decode cX3_length 5 = .ok (.invokevirtual 21, 3) := by decide +kernel
theorem dX3_length_8 : decode cX3_length 8 = .ok (.ireturn, 1) := by decide +kernel
set_option maxRecDepth 20000 in
theorem ggX3_sequence_X0_at : GoodIn wsX3_sequence wsX0_at := goodIn_r _ [6, 7, 11, 12, 13, 14, 15, 16] (by decide +kernel) (by decide +kernel)
set_option maxRecDepth 20000 in
theorem gX3_sequence_X0_at : GoodIn wsX3_sequence (wsV RX3 21 RX0 yX0_at wsX0_at) := goodIn_app (goodIn_of _ (by decide +kernel)) ggX3_sequence_X0_at
theorem dX3_sequence_0 : decode cX3_sequence 0 = .ok (.aload_n 1, 1) := by decide +kernel
theorem dX3_sequence_1 : decode cX3_sequence 1 = .ok (.aload_n 0, 1) := by decide +kernel
theorem dX3_sequence_2 : decode cX3_sequence 2 = .ok (.getfield 18, 3) := by decide +kernel
theorem dX3_sequence_5 : decode cX3_sequence 5 = .ok (.iconst 1, 1) := by decide +kernel
theorem dX3_sequence_6 : decode cX3_sequence 6 = .ok (.iadd, 1) := by decide +kernel
theorem dX3_sequence_7 : decode cX3_sequence 7 = .ok (.invokevirtual 21, 3) := by decide +kernel
theorem dX3_sequence_10 : decode cX3_sequence 10 = .ok (.ireturn, 1) := by decide +kernel
set_option maxRecDepth 20000 in
theorem ggX3_digest_X0_word : GoodIn wsX3_digest wsX0_word := goodIn_r _ [6, 7, 8, 9, 5, 10, 11, 15, 16, 17, 18, 19, 20] (by decide +kernel) (by decide +kernel)
set_option maxRecDepth 20000 in
theorem gX3_digest_X0_word : GoodIn wsX3_digest (wsV RX3 27 RX0 yX0_word wsX0_word) := goodIn_app (goodIn_of _ (by decide +kernel)) ggX3_digest_X0_word
theorem dX3_digest_0 : decode cX3_digest 0 = .ok (.aload_n 1, 1) := by decide +kernel
theorem dX3_digest_1 : decode cX3_digest 1 = .ok (.aload_n 0, 1) := by decide +kernel
theorem dX3_digest_2 : decode cX3_digest 2 = .ok (.getfield 18, 3) := by decide +kernel
theorem dX3_digest_5 : decode cX3_digest 5 = .ok (.iconst 2, 1) := by decide +kernel
theorem dX3_digest_6 : decode cX3_digest 6 = .ok (.iadd, 1) := by decide +kernel
theorem dX3_digest_7 : decode cX3_digest 7 = .ok (.invokevirtual 27, 3) := by decide +kernel
theorem dX3_digest_10 : decode cX3_digest 10 = .ok (.ireturn, 1) := by decide +kernel
set_option maxRecDepth 20000 in
theorem ggX3_isConfirmed_X0_at : GoodIn wsX3_isConfirmed wsX0_at := goodIn_r _ [6, 7, 11, 12, 13, 14, 15, 16] (by decide +kernel) (by decide +kernel)
set_option maxRecDepth 20000 in
theorem gX3_isConfirmed_X0_at : GoodIn wsX3_isConfirmed (wsV RX3 21 RX0 yX0_at wsX0_at) := goodIn_app (goodIn_of _ (by decide +kernel)) ggX3_isConfirmed_X0_at
theorem dX3_isConfirmed_0 : decode cX3_isConfirmed 0 = .ok (.aload_n 1, 1) := by decide +kernel
theorem dX3_isConfirmed_1 : decode cX3_isConfirmed 1 = .ok (.aload_n 0, 1) := by decide +kernel
theorem dX3_isConfirmed_2 : decode cX3_isConfirmed 2 = .ok (.getfield 18, 3) := by decide +kernel
theorem dX3_isConfirmed_5 : decode cX3_isConfirmed 5 = .ok (.bipush 7, 2) := by decide +kernel
theorem dX3_isConfirmed_7 : decode cX3_isConfirmed 7 = .ok (.iadd, 1) := by decide +kernel
theorem dX3_isConfirmed_8 : decode cX3_isConfirmed 8 = .ok (.invokevirtual 21, 3) := by decide +kernel
theorem dX3_isConfirmed_11 : decode cX3_isConfirmed 11 = .ok (.ifCond .ne 7, 3) := by decide +kernel
theorem dX3_isConfirmed_14 : decode cX3_isConfirmed 14 = .ok (.iconst 1, 1) := by decide +kernel
theorem dX3_isConfirmed_15 : decode cX3_isConfirmed 15 = .ok (.goto 4, 3) := by decide +kernel
theorem dX3_isConfirmed_18 : decode cX3_isConfirmed 18 = .ok (.iconst 0, 1) := by decide +kernel
theorem dX3_isConfirmed_19 : decode cX3_isConfirmed 19 = .ok (.ireturn, 1) := by decide +kernel
set_option maxRecDepth 20000 in
theorem ggX3_isOnTrial_X3_isConfirmed : GoodIn wsX3_isOnTrial wsX3_isConfirmed := goodIn_r _ [6, 1, 7, 8, 9, 10, 11, 12, 13, 14, 15, 16, 17, 18, 19, 20, 21] (by decide +kernel) (by decide +kernel)
set_option maxRecDepth 20000 in
theorem gX3_isOnTrial_X3_isConfirmed : GoodIn wsX3_isOnTrial (wsV RX3 30 RX3 yX3_isConfirmed wsX3_isConfirmed) := goodIn_app (goodIn_of _ (by decide +kernel)) ggX3_isOnTrial_X3_isConfirmed
set_option maxRecDepth 20000 in
theorem ggX3_isOnTrial_X0_at : GoodIn wsX3_isOnTrial wsX0_at := goodIn_r _ [11, 12, 16, 17, 18, 19, 20, 21] (by decide +kernel) (by decide +kernel)
set_option maxRecDepth 20000 in
theorem gX3_isOnTrial_X0_at : GoodIn wsX3_isOnTrial (wsV RX3 21 RX0 yX0_at wsX0_at) := goodIn_app (goodIn_of _ (by decide +kernel)) ggX3_isOnTrial_X0_at
theorem dX3_isOnTrial_0 : decode cX3_isOnTrial 0 = .ok (.aload_n 0, 1) := by decide +kernel
theorem dX3_isOnTrial_1 : decode cX3_isOnTrial 1 = .ok (.aload_n 1, 1) := by decide +kernel
theorem dX3_isOnTrial_2 : decode cX3_isOnTrial 2 = .ok (.invokevirtual 30, 3) := by decide +kernel
theorem dX3_isOnTrial_5 : decode cX3_isOnTrial 5 = .ok (.ifCond .ne 21, 3) := by decide +kernel
theorem dX3_isOnTrial_8 : decode cX3_isOnTrial 8 = .ok (.aload_n 1, 1) := by decide +kernel
theorem dX3_isOnTrial_9 : decode cX3_isOnTrial 9 = .ok (.aload_n 0, 1) := by decide +kernel
theorem dX3_isOnTrial_10 : decode cX3_isOnTrial 10 = .ok (.getfield 18, 3) := by decide +kernel
theorem dX3_isOnTrial_13 : decode cX3_isOnTrial 13 = .ok (.bipush 6, 2) := by decide +kernel
theorem dX3_isOnTrial_15 : decode cX3_isOnTrial 15 = .ok (.iadd, 1) := by decide +kernel
theorem dX3_isOnTrial_16 : decode cX3_isOnTrial 16 = .ok (.invokevirtual 21, 3) := by decide +kernel
theorem dX3_isOnTrial_19 : decode cX3_isOnTrial 19 = .ok (.ifCond .eq 7, 3) := by decide +kernel
theorem dX3_isOnTrial_22 : decode cX3_isOnTrial 22 = .ok (.iconst 1, 1) := by decide +kernel
theorem dX3_isOnTrial_23 : decode cX3_isOnTrial 23 = .ok (.goto 4, 3) := by decide +kernel
theorem dX3_isOnTrial_26 : decode cX3_isOnTrial 26 = .ok (.iconst 0, 1) := by decide +kernel
theorem dX3_isOnTrial_27 : decode cX3_isOnTrial 27 = .ok (.ireturn, 1) := by decide +kernel
set_option maxRecDepth 20000 in
theorem ggX3_isWhole_X0_at : GoodIn wsX3_isWhole wsX0_at := goodIn_r _ [6, 7, 11, 12, 13, 14, 15, 16] (by decide +kernel) (by decide +kernel)
set_option maxRecDepth 20000 in
theorem gX3_isWhole_X0_at : GoodIn wsX3_isWhole (wsV RX3 21 RX0 yX0_at wsX0_at) := goodIn_app (goodIn_of _ (by decide +kernel)) ggX3_isWhole_X0_at
theorem dX3_isWhole_0 : decode cX3_isWhole 0 = .ok (.aload_n 1, 1) := by decide +kernel
theorem dX3_isWhole_1 : decode cX3_isWhole 1 = .ok (.aload_n 0, 1) := by decide +kernel
theorem dX3_isWhole_2 : decode cX3_isWhole 2 = .ok (.getfield 18, 3) := by decide +kernel
theorem dX3_isWhole_5 : decode cX3_isWhole 5 = .ok (.bipush 8, 2) := by decide +kernel
theorem dX3_isWhole_7 : decode cX3_isWhole 7 = .ok (.iadd, 1) := by decide +kernel
theorem dX3_isWhole_8 : decode cX3_isWhole 8 = .ok (.invokevirtual 21, 3) := by decide +kernel
theorem dX3_isWhole_11 : decode cX3_isWhole 11 = .ok (.ifCond .ne 7, 3) := by decide +kernel
theorem dX3_isWhole_14 : decode cX3_isWhole 14 = .ok (.iconst 1, 1) := by decide +kernel
theorem dX3_isWhole_15 : decode cX3_isWhole 15 = .ok (.goto 4, 3) := by decide +kernel
theorem dX3_isWhole_18 : decode cX3_isWhole 18 = .ok (.iconst 0, 1) := by decide +kernel
theorem dX3_isWhole_19 : decode cX3_isWhole 19 = .ok (.ireturn, 1) := by decide +kernel
set_option maxRecDepth 20000 in
theorem ggX3_isGood_X3_isWhole : GoodIn wsX3_isGood wsX3_isWhole := goodIn_r _ [6, 7, 8, 9, 10, 11, 12, 13, 41, 42, 43, 44, 45, 46, 47, 48, 49] (by decide +kernel) (by decide +kernel)
set_option maxRecDepth 20000 in
theorem gX3_isGood_X3_isWhole : GoodIn wsX3_isGood (wsV RX3 34 RX3 yX3_isWhole wsX3_isWhole) := goodIn_app (goodIn_of _ (by decide +kernel)) ggX3_isGood_X3_isWhole
set_option maxRecDepth 20000 in
theorem ggX3_isGood_X3_length : GoodIn wsX3_isGood wsX3_length := goodIn_r _ [17, 7, 8, 9, 10, 11, 12, 13, 41, 42, 43, 44, 45, 46, 47, 48, 49] (by decide +kernel) (by decide +kernel)
set_option maxRecDepth 20000 in
theorem gX3_isGood_X3_length : GoodIn wsX3_isGood (wsV RX3 37 RX3 yX3_length wsX3_length) := goodIn_app (goodIn_of _ (by decide +kernel)) ggX3_isGood_X3_length
set_option maxRecDepth 20000 in
theorem ggX3_isGood_X5_isLength : GoodIn wsX3_isGood wsX5_isLength := goodIn_r _ [20] (by decide +kernel) (by decide +kernel)
set_option maxRecDepth 20000 in
theorem gX3_isGood_X5_isLength_n41 : GoodIn wsX3_isGood (wsX5_isLength) := ggX3_isGood_X5_isLength
set_option maxRecDepth 20000 in
theorem ggX3_isGood_X3_sequence : GoodIn wsX3_isGood wsX3_sequence := goodIn_r _ [24, 7, 8, 9, 10, 11, 12, 13, 41, 42, 43, 44, 45, 46, 47, 48, 49] (by decide +kernel) (by decide +kernel)
set_option maxRecDepth 20000 in
theorem gX3_isGood_X3_sequence : GoodIn wsX3_isGood (wsV RX3 45 RX3 yX3_sequence wsX3_sequence) := goodIn_app (goodIn_of _ (by decide +kernel)) ggX3_isGood_X3_sequence
set_option maxRecDepth 20000 in
theorem ggX3_isGood_X0_digestOf : GoodIn wsX3_isGood wsX0_digestOf := goodIn_r _ [28, 29, 9, 10, 11, 12, 13, 30, 19, 31, 32, 44, 45, 46, 47, 48, 49] (by decide +kernel) (by decide +kernel)
set_option maxRecDepth 20000 in
theorem gX3_isGood_X0_digestOf : GoodIn wsX3_isGood (wsV RX3 48 RX0 yX0_digestOf wsX0_digestOf) := goodIn_app (goodIn_of _ (by decide +kernel)) ggX3_isGood_X0_digestOf
set_option maxRecDepth 20000 in
theorem ggX3_isGood_X3_digest : GoodIn wsX3_isGood wsX3_digest := goodIn_r _ [36, 7, 37, 38, 39, 11, 40, 29, 9, 10, 12, 13, 41, 42, 43, 44, 45, 46, 47, 48, 49] (by decide +kernel) (by decide +kernel)
set_option maxRecDepth 20000 in
theorem gX3_isGood_X3_digest : GoodIn wsX3_isGood (wsV RX3 52 RX3 yX3_digest wsX3_digest) := goodIn_app (goodIn_of _ (by decide +kernel)) ggX3_isGood_X3_digest
theorem dX3_isGood_0 : decode cX3_isGood 0 = .ok (.aload_n 0, 1) := by decide +kernel
theorem dX3_isGood_1 : decode cX3_isGood 1 = .ok (.aload_n 1, 1) := by decide +kernel
theorem dX3_isGood_2 : decode cX3_isGood 2 = .ok (.invokevirtual 34, 3) := by decide +kernel
theorem dX3_isGood_5 : decode cX3_isGood 5 = .ok (.ifCond .eq 48, 3) := by decide +kernel
theorem dX3_isGood_8 : decode cX3_isGood 8 = .ok (.aload_n 0, 1) := by decide +kernel
theorem dX3_isGood_9 : decode cX3_isGood 9 = .ok (.aload_n 1, 1) := by decide +kernel
theorem dX3_isGood_10 : decode cX3_isGood 10 = .ok (.invokevirtual 37, 3) := by decide +kernel
theorem dX3_isGood_13 : decode cX3_isGood 13 = .ok (.invokestatic 41, 3) := by decide +kernel
theorem dX3_isGood_16 : decode cX3_isGood 16 = .ok (.ifCond .eq 37, 3) := by decide +kernel
theorem dX3_isGood_19 : decode cX3_isGood 19 = .ok (.aload_n 0, 1) := by decide +kernel
theorem dX3_isGood_20 : decode cX3_isGood 20 = .ok (.aload_n 1, 1) := by decide +kernel
theorem dX3_isGood_21 : decode cX3_isGood 21 = .ok (.invokevirtual 45, 3) := by decide +kernel
theorem dX3_isGood_24 : decode cX3_isGood 24 = .ok (.iload_n 2, 1) := by decide +kernel
theorem dX3_isGood_25 : decode cX3_isGood 25 = .ok (.if_icmp .lt 28, 3) := by decide +kernel
theorem dX3_isGood_28 : decode cX3_isGood 28 = .ok (.aload_n 1, 1) := by decide +kernel
theorem dX3_isGood_29 : decode cX3_isGood 29 = .ok (.aload_n 0, 1) := by decide +kernel
theorem dX3_isGood_30 : decode cX3_isGood 30 = .ok (.getfield 15, 3) := by decide +kernel
theorem dX3_isGood_33 : decode cX3_isGood 33 = .ok (.aload_n 0, 1) := by decide +kernel
theorem dX3_isGood_34 : decode cX3_isGood 34 = .ok (.aload_n 1, 1) := by decide +kernel
theorem dX3_isGood_35 : decode cX3_isGood 35 = .ok (.invokevirtual 37, 3) := by decide +kernel
theorem dX3_isGood_38 : decode cX3_isGood 38 = .ok (.invokevirtual 48, 3) := by decide +kernel
theorem dX3_isGood_41 : decode cX3_isGood 41 = .ok (.aload_n 0, 1) := by decide +kernel
theorem dX3_isGood_42 : decode cX3_isGood 42 = .ok (.aload_n 1, 1) := by decide +kernel
theorem dX3_isGood_43 : decode cX3_isGood 43 = .ok (.invokevirtual 52, 3) := by decide +kernel
theorem dX3_isGood_46 : decode cX3_isGood 46 = .ok (.if_icmp .ne 7, 3) := by decide +kernel
theorem dX3_isGood_49 : decode cX3_isGood 49 = .ok (.iconst 1, 1) := by decide +kernel
theorem dX3_isGood_50 : decode cX3_isGood 50 = .ok (.goto 4, 3) := by decide +kernel
theorem dX3_isGood_53 : decode cX3_isGood 53 = .ok (.iconst 0, 1) := by decide +kernel
theorem dX3_isGood_54 : decode cX3_isGood 54 = .ok (.ireturn, 1) := by decide +kernel
set_option maxRecDepth 20000 in
theorem ggX3_eraseHeader_X0_erase : GoodIn wsX3_eraseHeader wsX0_erase := goodIn_r _ [6, 7, 8, 9, 10, 11, 12, 5, 13, 14, 15, 16, 20, 21, 22, 23, 24, 25] (by decide +kernel) (by decide +kernel)
set_option maxRecDepth 20000 in
theorem gX3_eraseHeader_X0_erase : GoodIn wsX3_eraseHeader (wsV RX3 55 RX0 yX0_erase wsX0_erase) := goodIn_app (goodIn_of _ (by decide +kernel)) ggX3_eraseHeader_X0_erase
theorem dX3_eraseHeader_0 : decode cX3_eraseHeader 0 = .ok (.aload_n 1, 1) := by decide +kernel
theorem dX3_eraseHeader_1 : decode cX3_eraseHeader 1 = .ok (.aload_n 0, 1) := by decide +kernel
theorem dX3_eraseHeader_2 : decode cX3_eraseHeader 2 = .ok (.getfield 9, 3) := by decide +kernel
theorem dX3_eraseHeader_5 : decode cX3_eraseHeader 5 = .ok (.bipush 6, 2) := by decide +kernel
theorem dX3_eraseHeader_7 : decode cX3_eraseHeader 7 = .ok (.iadd, 1) := by decide +kernel
theorem dX3_eraseHeader_8 : decode cX3_eraseHeader 8 = .ok (.invokevirtual 55, 3) := by decide +kernel
theorem dX3_eraseHeader_11 : decode cX3_eraseHeader 11 = .ok (.return_, 1) := by decide +kernel
set_option maxRecDepth 20000 in
theorem ggX3_eraseImage_X0_erase : GoodIn wsX3_eraseImage wsX0_erase := goodIn_r _ [6, 7, 8, 9, 10, 11, 12, 5, 13, 14, 15, 16, 20, 21, 22, 23, 24, 25] (by decide +kernel) (by decide +kernel)
set_option maxRecDepth 20000 in
theorem gX3_eraseImage_X0_erase : GoodIn wsX3_eraseImage (wsV RX3 55 RX0 yX0_erase wsX0_erase) := goodIn_app (goodIn_of _ (by decide +kernel)) ggX3_eraseImage_X0_erase
theorem dX3_eraseImage_0 : decode cX3_eraseImage 0 = .ok (.iconst 0, 1) := by decide +kernel
theorem dX3_eraseImage_1 : decode cX3_eraseImage 1 = .ok (.istore_n 2, 1) := by decide +kernel
theorem dX3_eraseImage_2 : decode cX3_eraseImage 2 = .ok (.iload_n 2, 1) := by decide +kernel
theorem dX3_eraseImage_3 : decode cX3_eraseImage 3 = .ok (.bipush 6, 2) := by decide +kernel
theorem dX3_eraseImage_5 : decode cX3_eraseImage 5 = .ok (.if_icmp .ge 19, 3) := by decide +kernel
theorem dX3_eraseImage_8 : decode cX3_eraseImage 8 = .ok (.aload_n 1, 1) := by decide +kernel
theorem dX3_eraseImage_9 : decode cX3_eraseImage 9 = .ok (.aload_n 0, 1) := by decide +kernel
theorem dX3_eraseImage_10 : decode cX3_eraseImage 10 = .ok (.getfield 9, 3) := by decide +kernel
theorem dX3_eraseImage_13 : decode cX3_eraseImage 13 = .ok (.iload_n 2, 1) := by decide +kernel
theorem dX3_eraseImage_14 : decode cX3_eraseImage 14 = .ok (.iadd, 1) := by decide +kernel
theorem dX3_eraseImage_15 : decode cX3_eraseImage 15 = .ok (.invokevirtual 55, 3) := by decide +kernel
theorem dX3_eraseImage_18 : decode cX3_eraseImage 18 = .ok (.iinc 2 1, 3) := by decide +kernel
theorem dX3_eraseImage_21 : decode cX3_eraseImage 21 = .ok (.goto (-19), 3) := by decide +kernel
theorem dX3_eraseImage_24 : decode cX3_eraseImage 24 = .ok (.return_, 1) := by decide +kernel
set_option maxRecDepth 20000 in
theorem ggX3_programImage_X0_programRow : GoodIn wsX3_programImage wsX0_programRow := goodIn_r _ [6, 7, 8, 9, 5, 10, 11, 12, 13, 14, 15, 16, 17, 18, 19, 20, 24, 25, 26, 27, 28, 29] (by decide +kernel) (by decide +kernel)
set_option maxRecDepth 20000 in
theorem gX3_programImage_X0_programRow : GoodIn wsX3_programImage (wsV RX3 59 RX0 yX0_programRow wsX0_programRow) := goodIn_app (goodIn_of _ (by decide +kernel)) ggX3_programImage_X0_programRow
theorem dX3_programImage_0 : decode cX3_programImage 0 = .ok (.aload_n 1, 1) := by decide +kernel
theorem dX3_programImage_1 : decode cX3_programImage 1 = .ok (.aload_n 0, 1) := by decide +kernel
theorem dX3_programImage_2 : decode cX3_programImage 2 = .ok (.getfield 15, 3) := by decide +kernel
theorem dX3_programImage_5 : decode cX3_programImage 5 = .ok (.aload_n 2, 1) := by decide +kernel
theorem dX3_programImage_6 : decode cX3_programImage 6 = .ok (.iload_n 3, 1) := by decide +kernel
theorem dX3_programImage_7 : decode cX3_programImage 7 = .ok (.invokevirtual 59, 3) := by decide +kernel
theorem dX3_programImage_10 : decode cX3_programImage 10 = .ok (.return_, 1) := by decide +kernel
set_option maxRecDepth 20000 in
theorem ggX3_programName_X0_program : GoodIn wsX3_programName wsX0_program := goodIn_r _ [6, 7, 8, 9, 10, 11, 12, 5, 13, 14, 15, 16, 28, 29, 30, 31, 32, 33] (by decide +kernel) (by decide +kernel)
set_option maxRecDepth 20000 in
theorem gX3_programName_X0_program : GoodIn wsX3_programName (wsV RX3 63 RX0 yX0_program wsX0_program) := goodIn_app (goodIn_of _ (by decide +kernel)) ggX3_programName_X0_program
set_option maxRecDepth 20000 in
theorem ggX3_programName_X0_programWord : GoodIn wsX3_programName wsX0_programWord := goodIn_r _ [20, 21, 22, 23, 24, 3, 4, 5, 6, 7, 8, 9, 10, 11, 12, 13, 14, 15, 16, 28, 29, 30, 31, 32, 33] (by decide +kernel) (by decide +kernel)
set_option maxRecDepth 20000 in
theorem gX3_programName_X0_programWord : GoodIn wsX3_programName (wsV RX3 67 RX0 yX0_programWord wsX0_programWord) := goodIn_app (goodIn_of _ (by decide +kernel)) ggX3_programName_X0_programWord
theorem dX3_programName_0 : decode cX3_programName 0 = .ok (.aload_n 1, 1) := by decide +kernel
theorem dX3_programName_1 : decode cX3_programName 1 = .ok (.aload_n 0, 1) := by decide +kernel
theorem dX3_programName_2 : decode cX3_programName 2 = .ok (.getfield 18, 3) := by decide +kernel
theorem dX3_programName_5 : decode cX3_programName 5 = .ok (.iload_n 2, 1) := by decide +kernel
theorem dX3_programName_6 : decode cX3_programName 6 = .ok (.invokevirtual 63, 3) := by decide +kernel
theorem dX3_programName_9 : decode cX3_programName 9 = .ok (.aload_n 1, 1) := by decide +kernel
theorem dX3_programName_10 : decode cX3_programName 10 = .ok (.aload_n 0, 1) := by decide +kernel
theorem dX3_programName_11 : decode cX3_programName 11 = .ok (.getfield 18, 3) := by decide +kernel
theorem dX3_programName_14 : decode cX3_programName 14 = .ok (.iconst 1, 1) := by decide +kernel
theorem dX3_programName_15 : decode cX3_programName 15 = .ok (.iadd, 1) := by decide +kernel
theorem dX3_programName_16 : decode cX3_programName 16 = .ok (.iload_n 3, 1) := by decide +kernel
theorem dX3_programName_17 : decode cX3_programName 17 = .ok (.invokevirtual 63, 3) := by decide +kernel
theorem dX3_programName_20 : decode cX3_programName 20 = .ok (.aload_n 1, 1) := by decide +kernel
theorem dX3_programName_21 : decode cX3_programName 21 = .ok (.aload_n 0, 1) := by decide +kernel
theorem dX3_programName_22 : decode cX3_programName 22 = .ok (.getfield 18, 3) := by decide +kernel
theorem dX3_programName_25 : decode cX3_programName 25 = .ok (.iconst 2, 1) := by decide +kernel
theorem dX3_programName_26 : decode cX3_programName 26 = .ok (.iadd, 1) := by decide +kernel
theorem dX3_programName_27 : decode cX3_programName 27 = .ok (.iload 4, 2) := by decide +kernel
theorem dX3_programName_29 : decode cX3_programName 29 = .ok (.invokevirtual 67, 3) := by decide +kernel
theorem dX3_programName_32 : decode cX3_programName 32 = .ok (.return_, 1) := by decide +kernel
set_option maxRecDepth 20000 in
theorem ggX3_programTrials_X0_program : GoodIn wsX3_programTrials wsX0_program := goodIn_r _ [6, 7, 8, 9, 10, 11, 12, 5, 13, 14, 15, 16, 20, 21, 22, 23, 24, 25] (by decide +kernel) (by decide +kernel)
set_option maxRecDepth 20000 in
theorem gX3_programTrials_X0_program : GoodIn wsX3_programTrials (wsV RX3 63 RX0 yX0_program wsX0_program) := goodIn_app (goodIn_of _ (by decide +kernel)) ggX3_programTrials_X0_program
theorem dX3_programTrials_0 : decode cX3_programTrials 0 = .ok (.aload_n 1, 1) := by decide +kernel
theorem dX3_programTrials_1 : decode cX3_programTrials 1 = .ok (.aload_n 0, 1) := by decide +kernel
theorem dX3_programTrials_2 : decode cX3_programTrials 2 = .ok (.getfield 18, 3) := by decide +kernel
theorem dX3_programTrials_5 : decode cX3_programTrials 5 = .ok (.bipush 6, 2) := by decide +kernel
theorem dX3_programTrials_7 : decode cX3_programTrials 7 = .ok (.iadd, 1) := by decide +kernel
theorem dX3_programTrials_8 : decode cX3_programTrials 8 = .ok (.bipush 15, 2) := by decide +kernel
theorem dX3_programTrials_10 : decode cX3_programTrials 10 = .ok (.invokevirtual 63, 3) := by decide +kernel
theorem dX3_programTrials_13 : decode cX3_programTrials 13 = .ok (.return_, 1) := by decide +kernel
set_option maxRecDepth 20000 in
theorem ggX3_useTrial_X0_programLowestBit : GoodIn wsX3_useTrial wsX0_programLowestBit := goodIn_r _ [6, 7, 8, 9, 5, 10, 11, 12, 13, 14, 15, 16, 17, 18, 19, 20, 21, 22, 23, 24, 28, 29, 30, 31, 32, 33] (by decide +kernel) (by decide +kernel)
set_option maxRecDepth 20000 in
theorem gX3_useTrial_X0_programLowestBit : GoodIn wsX3_useTrial (wsV RX3 70 RX0 yX0_programLowestBit wsX0_programLowestBit) := goodIn_app (goodIn_of _ (by decide +kernel)) ggX3_useTrial_X0_programLowestBit
theorem dX3_useTrial_0 : decode cX3_useTrial 0 = .ok (.aload_n 1, 1) := by decide +kernel
theorem dX3_useTrial_1 : decode cX3_useTrial 1 = .ok (.aload_n 0, 1) := by decide +kernel
theorem dX3_useTrial_2 : decode cX3_useTrial 2 = .ok (.getfield 18, 3) := by decide +kernel
theorem dX3_useTrial_5 : decode cX3_useTrial 5 = .ok (.bipush 6, 2) := by decide +kernel
theorem dX3_useTrial_7 : decode cX3_useTrial 7 = .ok (.iadd, 1) := by decide +kernel
theorem dX3_useTrial_8 : decode cX3_useTrial 8 = .ok (.invokevirtual 70, 3) := by decide +kernel
theorem dX3_useTrial_11 : decode cX3_useTrial 11 = .ok (.return_, 1) := by decide +kernel
set_option maxRecDepth 20000 in
theorem ggX3_programConfirmed_X0_program : GoodIn wsX3_programConfirmed wsX0_program := goodIn_r _ [6, 7, 8, 9, 10, 11, 12, 5, 13, 14, 15, 16, 20, 21, 22, 23, 24, 25] (by decide +kernel) (by decide +kernel)
set_option maxRecDepth 20000 in
theorem gX3_programConfirmed_X0_program : GoodIn wsX3_programConfirmed (wsV RX3 63 RX0 yX0_program wsX0_program) := goodIn_app (goodIn_of _ (by decide +kernel)) ggX3_programConfirmed_X0_program
theorem dX3_programConfirmed_0 : decode cX3_programConfirmed 0 = .ok (.aload_n 1, 1) := by decide +kernel
theorem dX3_programConfirmed_1 : decode cX3_programConfirmed 1 = .ok (.aload_n 0, 1) := by decide +kernel
theorem dX3_programConfirmed_2 : decode cX3_programConfirmed 2 = .ok (.getfield 18, 3) := by decide +kernel
theorem dX3_programConfirmed_5 : decode cX3_programConfirmed 5 = .ok (.bipush 7, 2) := by decide +kernel
theorem dX3_programConfirmed_7 : decode cX3_programConfirmed 7 = .ok (.iadd, 1) := by decide +kernel
theorem dX3_programConfirmed_8 : decode cX3_programConfirmed 8 = .ok (.iconst 0, 1) := by decide +kernel
theorem dX3_programConfirmed_9 : decode cX3_programConfirmed 9 = .ok (.invokevirtual 63, 3) := by decide +kernel
theorem dX3_programConfirmed_12 : decode cX3_programConfirmed 12 = .ok (.return_, 1) := by decide +kernel
set_option maxRecDepth 20000 in
theorem ggX3_programWhole_X0_program : GoodIn wsX3_programWhole wsX0_program := goodIn_r _ [6, 7, 8, 9, 10, 11, 12, 5, 13, 14, 15, 16, 20, 21, 22, 23, 24, 25] (by decide +kernel) (by decide +kernel)
set_option maxRecDepth 20000 in
theorem gX3_programWhole_X0_program : GoodIn wsX3_programWhole (wsV RX3 63 RX0 yX0_program wsX0_program) := goodIn_app (goodIn_of _ (by decide +kernel)) ggX3_programWhole_X0_program
theorem dX3_programWhole_0 : decode cX3_programWhole 0 = .ok (.aload_n 1, 1) := by decide +kernel
theorem dX3_programWhole_1 : decode cX3_programWhole 1 = .ok (.aload_n 0, 1) := by decide +kernel
theorem dX3_programWhole_2 : decode cX3_programWhole 2 = .ok (.getfield 18, 3) := by decide +kernel
theorem dX3_programWhole_5 : decode cX3_programWhole 5 = .ok (.bipush 8, 2) := by decide +kernel
theorem dX3_programWhole_7 : decode cX3_programWhole 7 = .ok (.iadd, 1) := by decide +kernel
theorem dX3_programWhole_8 : decode cX3_programWhole 8 = .ok (.iconst 0, 1) := by decide +kernel
theorem dX3_programWhole_9 : decode cX3_programWhole 9 = .ok (.invokevirtual 63, 3) := by decide +kernel
theorem dX3_programWhole_12 : decode cX3_programWhole 12 = .ok (.return_, 1) := by decide +kernel
theorem dX4_init_0 : decode cX4_init 0 = .ok (.aload_n 0, 1) := by decide +kernel
theorem dX4_init_1 : decode cX4_init 1 = .ok (.invokespecial 3, 3) := by decide +kernel
theorem dX4_init_4 : decode cX4_init 4 = .ok (.aload_n 0, 1) := by decide +kernel
theorem dX4_init_5 : decode cX4_init 5 = .ok (.sipush 192, 3) := by decide +kernel
theorem dX4_init_8 : decode cX4_init 8 = .ok (.newarray .int, 2) := by decide +kernel
theorem dX4_init_10 : decode cX4_init 10 = .ok (.putfield 9, 3) := by decide +kernel
theorem dX4_init_13 : decode cX4_init 13 = .ok (.aload_n 0, 1) := by decide +kernel
theorem dX4_init_14 : decode cX4_init 14 = .ok (.iconst 0, 1) := by decide +kernel
theorem dX4_init_15 : decode cX4_init 15 = .ok (.putfield 15, 3) := by decide +kernel
theorem dX4_init_18 : decode cX4_init 18 = .ok (.return_, 1) := by decide +kernel
theorem dX4_add_0 : decode cX4_add 0 = .ok (.aload_n 0, 1) := by decide +kernel
theorem dX4_add_1 : decode cX4_add 1 = .ok (.getfield 15, 3) := by decide +kernel
theorem dX4_add_4 : decode cX4_add 4 = .ok (.iload_n 3, 1) := by decide +kernel
theorem dX4_add_5 : decode cX4_add 5 = .ok (.iadd, 1) := by decide +kernel
theorem dX4_add_6 : decode cX4_add 6 = .ok (.sipush 192, 3) := by decide +kernel
theorem dX4_add_9 : decode cX4_add 9 = .ok (.if_icmp .le 5, 3) := by decide +kernel
theorem dX4_add_12 : decode cX4_add 12 = .ok (.iconst 0, 1) := by decide +kernel
theorem dX4_add_13 : decode cX4_add 13 = .ok (.ireturn, 1) := by decide +kernel
theorem dX4_add_14 : decode cX4_add 14 = .ok (.iload_n 3, 1) := by decide +kernel
theorem dX4_add_15 : decode cX4_add 15 = .ok (.iconst 1, 1) := by decide +kernel
theorem dX4_add_16 : decode cX4_add 16 = .ok (.isub, 1) := by decide +kernel
theorem dX4_add_17 : decode cX4_add 17 = .ok (.istore 4, 2) := by decide +kernel
theorem dX4_add_19 : decode cX4_add 19 = .ok (.iload 4, 2) := by decide +kernel
theorem dX4_add_21 : decode cX4_add 21 = .ok (.ifCond .lt 40, 3) := by decide +kernel
theorem dX4_add_24 : decode cX4_add 24 = .ok (.aload_n 0, 1) := by decide +kernel
theorem dX4_add_25 : decode cX4_add 25 = .ok (.getfield 9, 3) := by decide +kernel
theorem dX4_add_28 : decode cX4_add 28 = .ok (.aload_n 0, 1) := by decide +kernel
theorem dX4_add_29 : decode cX4_add 29 = .ok (.getfield 15, 3) := by decide +kernel
theorem dX4_add_32 : decode cX4_add 32 = .ok (.lload_n 1, 1) := by decide +kernel
theorem dX4_add_33 : decode cX4_add 33 = .ok (.bipush 8, 2) := by decide +kernel
theorem dX4_add_35 : decode cX4_add 35 = .ok (.iload 4, 2) := by decide +kernel
theorem dX4_add_37 : decode cX4_add 37 = .ok (.imul, 1) := by decide +kernel
theorem dX4_add_38 : decode cX4_add 38 = .ok (.lushr, 1) := by decide +kernel
theorem dX4_add_39 : decode cX4_add 39 = .ok (.l2i, 1) := by decide +kernel
theorem dX4_add_40 : decode cX4_add 40 = .ok (.sipush 255, 3) := by decide +kernel
theorem dX4_add_43 : decode cX4_add 43 = .ok (.iand, 1) := by decide +kernel
theorem dX4_add_44 : decode cX4_add 44 = .ok (.iastore, 1) := by decide +kernel
theorem dX4_add_45 : decode cX4_add 45 = .ok (.aload_n 0, 1) := by decide +kernel
theorem dX4_add_46 : decode cX4_add 46 = .ok (.dup, 1) := by decide +kernel
theorem dX4_add_47 : decode cX4_add 47 = .ok (.getfield 15, 3) := by decide +kernel
theorem dX4_add_50 : decode cX4_add 50 = .ok (.iconst 1, 1) := by decide +kernel
theorem dX4_add_51 : decode cX4_add 51 = .ok (.iadd, 1) := by decide +kernel
theorem dX4_add_52 : decode cX4_add 52 = .ok (.putfield 15, 3) := by decide +kernel
theorem dX4_add_55 : decode cX4_add 55 = .ok (.iinc 4 (-1), 3) := by decide +kernel
theorem dX4_add_58 : decode cX4_add 58 = .ok (.goto (-39), 3) := by decide +kernel
theorem dX4_add_61 : decode cX4_add 61 = .ok (.iconst 1, 1) := by decide +kernel
theorem dX4_add_62 : decode cX4_add 62 = .ok (.ireturn, 1) := by decide +kernel
set_option maxRecDepth 20000 in
theorem ggX5_init_X0_init : GoodIn wsX5_init wsX0_init := goodIn_r _ [30, 31, 2, 3, 32, 33, 34, 35, 36, 37, 38, 67, 68, 69, 70, 71, 72] (by decide +kernel) (by decide +kernel)
set_option maxRecDepth 20000 in
theorem gX5_init_X0_init : GoodIn wsX5_init (wsX0_init) := ggX5_init_X0_init
set_option maxRecDepth 20000 in
theorem ggX5_init_X4_init : GoodIn wsX5_init wsX4_init := goodIn_r _ [40, 41, 2, 3, 32, 42, 43, 82, 83] (by decide +kernel) (by decide +kernel)
set_option maxRecDepth 20000 in
theorem gX5_init_X4_init_n18 : GoodIn wsX5_init (wsX4_init) := ggX5_init_X4_init
set_option maxRecDepth 20000 in
theorem ggX5_init_X3_init : GoodIn wsX5_init wsX3_init := goodIn_r _ [46, 47, 2, 3, 48, 49, 50, 84, 85, 86] (by decide +kernel) (by decide +kernel)
set_option maxRecDepth 20000 in
theorem gX5_init_X3_init : GoodIn wsX5_init (wsX3_init) := ggX5_init_X3_init
set_option maxRecDepth 20000 in
theorem ggX5_init_X1_init : GoodIn wsX5_init wsX1_init := goodIn_r _ [52, 53, 2, 3, 32, 54, 87] (by decide +kernel) (by decide +kernel)
set_option maxRecDepth 20000 in
theorem gX5_init_X1_init_n37 : GoodIn wsX5_init (wsX1_init) := ggX5_init_X1_init
set_option maxRecDepth 20000 in
theorem ggX5_init_X2_init : GoodIn wsX5_init wsX2_init := goodIn_r _ [56, 57, 2, 3, 32, 58, 59, 88, 89] (by decide +kernel) (by decide +kernel)
set_option maxRecDepth 20000 in
theorem gX5_init_X2_init_n44 : GoodIn wsX5_init (wsX2_init) := ggX5_init_X2_init
set_option maxRecDepth 20000 in
theorem ggX5_init_X5_rowOfWords : GoodIn wsX5_init wsX5_rowOfWords := goodIn_r _ [63, 32, 64, 65, 62, 66] (by decide +kernel) (by decide +kernel)
set_option maxRecDepth 20000 in
theorem gX5_init_X5_rowOfWords : GoodIn wsX5_init (va_wsS RX5 53 yX5_rowOfWords wsX5_rowOfWords) := goodIn_app (goodIn_of _ (by decide +kernel)) ggX5_init_X5_rowOfWords
theorem dX5_init_0 : decode cX5_init 0 = .ok (.aload_n 0, 1) := by decide +kernel
theorem dX5_init_1 : decode cX5_init 1 = .ok (.invokespecial 3, 3) := by decide +kernel
theorem dX5_init_4 : decode cX5_init 4 = .ok (.aload_n 0, 1) := by decide +kernel
theorem dX5_init_5 : decode cX5_init 5 = .ok (.new 9, 3) := by decide +kernel
theorem dX5_init_8 : decode cX5_init 8 = .ok (.dup, 1) := by decide +kernel
theorem dX5_init_9 : decode cX5_init 9 = .ok (.invokespecial 11, 3) := by decide +kernel
theorem dX5_init_12 : decode cX5_init 12 = .ok (.putfield 12, 3) := by decide +kernel
theorem dX5_init_15 : decode cX5_init 15 = .ok (.aload_n 0, 1) := by decide +kernel
theorem dX5_init_16 : decode cX5_init 16 = .ok (.new 16, 3) := by decide +kernel
theorem dX5_init_19 : decode cX5_init 19 = .ok (.dup, 1) := by decide +kernel
theorem dX5_init_20 : decode cX5_init 20 = .ok (.invokespecial 18, 3) := by decide +kernel
theorem dX5_init_23 : decode cX5_init 23 = .ok (.putfield 19, 3) := by decide +kernel
theorem dX5_init_26 : decode cX5_init 26 = .ok (.aload_n 0, 1) := by decide +kernel
theorem dX5_init_27 : decode cX5_init 27 = .ok (.new 23, 3) := by decide +kernel
theorem dX5_init_30 : decode cX5_init 30 = .ok (.dup, 1) := by decide +kernel
theorem dX5_init_31 : decode cX5_init 31 = .ok (.iconst 0, 1) := by decide +kernel
theorem dX5_init_32 : decode cX5_init 32 = .ok (.invokespecial 25, 3) := by decide +kernel
theorem dX5_init_35 : decode cX5_init 35 = .ok (.putfield 28, 3) := by decide +kernel
theorem dX5_init_38 : decode cX5_init 38 = .ok (.aload_n 0, 1) := by decide +kernel
theorem dX5_init_39 : decode cX5_init 39 = .ok (.new 23, 3) := by decide +kernel
theorem dX5_init_42 : decode cX5_init 42 = .ok (.dup, 1) := by decide +kernel
theorem dX5_init_43 : decode cX5_init 43 = .ok (.bipush 7, 2) := by decide +kernel
theorem dX5_init_45 : decode cX5_init 45 = .ok (.invokespecial 25, 3) := by decide +kernel
theorem dX5_init_48 : decode cX5_init 48 = .ok (.putfield 32, 3) := by decide +kernel
theorem dX5_init_51 : decode cX5_init 51 = .ok (.aload_n 0, 1) := by decide +kernel
theorem dX5_init_52 : decode cX5_init 52 = .ok (.new 35, 3) := by decide +kernel
theorem dX5_init_55 : decode cX5_init 55 = .ok (.dup, 1) := by decide +kernel
theorem dX5_init_56 : decode cX5_init 56 = .ok (.invokespecial 37, 3) := by decide +kernel
theorem dX5_init_59 : decode cX5_init 59 = .ok (.putfield 38, 3) := by decide +kernel
theorem dX5_init_62 : decode cX5_init 62 = .ok (.aload_n 0, 1) := by decide +kernel
theorem dX5_init_63 : decode cX5_init 63 = .ok (.new 42, 3) := by decide +kernel
theorem dX5_init_66 : decode cX5_init 66 = .ok (.dup, 1) := by decide +kernel
theorem dX5_init_67 : decode cX5_init 67 = .ok (.invokespecial 44, 3) := by decide +kernel
theorem dX5_init_70 : decode cX5_init 70 = .ok (.putfield 45, 3) := by decide +kernel
theorem dX5_init_73 : decode cX5_init 73 = .ok (.aload_n 0, 1) := by decide +kernel
theorem dX5_init_74 : decode cX5_init 74 = .ok (.bipush (-7), 2) := by decide +kernel
theorem dX5_init_76 : decode cX5_init 76 = .ok (.putfield 49, 3) := by decide +kernel
theorem dX5_init_79 : decode cX5_init 79 = .ok (.aload_n 0, 1) := by decide +kernel
theorem dX5_init_80 : decode cX5_init 80 = .ok (.iload_n 1, 1) := by decide +kernel
theorem dX5_init_81 : decode cX5_init 81 = .ok (.iload_n 2, 1) := by decide +kernel
theorem dX5_init_82 : decode cX5_init 82 = .ok (.invokestatic 53, 3) := by decide +kernel
theorem dX5_init_85 : decode cX5_init 85 = .ok (.putfield 57, 3) := by decide +kernel
theorem dX5_init_88 : decode cX5_init 88 = .ok (.aload_n 0, 1) := by decide +kernel
theorem dX5_init_89 : decode cX5_init 89 = .ok (.iload_n 3, 1) := by decide +kernel
theorem dX5_init_90 : decode cX5_init 90 = .ok (.sipush 255, 3) := by decide +kernel
theorem dX5_init_93 : decode cX5_init 93 = .ok (.iand, 1) := by decide +kernel
theorem dX5_init_94 : decode cX5_init 94 = .ok (.putfield 61, 3) := by decide +kernel
theorem dX5_init_97 : decode cX5_init 97 = .ok (.return_, 1) := by decide +kernel
set_option maxRecDepth 20000 in
theorem ggX5_type_X4_add : GoodIn wsX5_type wsX4_add := goodIn_r _ [6, 7, 8, 18, 19] (by decide +kernel) (by decide +kernel)
set_option maxRecDepth 20000 in
theorem gX5_type_X4_add : GoodIn wsX5_type (wsV RX5 64 RX4 yX4_add wsX4_add) := goodIn_app (goodIn_of _ (by decide +kernel)) ggX5_type_X4_add
theorem dX5_type_0 : decode cX5_type 0 = .ok (.iload_n 3, 1) := by decide +kernel
theorem dX5_type_1 : decode cX5_type 1 = .ok (.iconst 1, 1) := by decide +kernel
theorem dX5_type_2 : decode cX5_type 2 = .ok (.if_icmp .lt 9, 3) := by decide +kernel
theorem dX5_type_5 : decode cX5_type 5 = .ok (.iload_n 3, 1) := by decide +kernel
theorem dX5_type_6 : decode cX5_type 6 = .ok (.bipush 8, 2) := by decide +kernel
theorem dX5_type_8 : decode cX5_type 8 = .ok (.if_icmp .le 5, 3) := by decide +kernel
theorem dX5_type_11 : decode cX5_type 11 = .ok (.iconst (-1), 1) := by decide +kernel
theorem dX5_type_12 : decode cX5_type 12 = .ok (.ireturn, 1) := by decide +kernel
theorem dX5_type_13 : decode cX5_type 13 = .ok (.aload_n 0, 1) := by decide +kernel
theorem dX5_type_14 : decode cX5_type 14 = .ok (.getfield 19, 3) := by decide +kernel
theorem dX5_type_17 : decode cX5_type 17 = .ok (.lload_n 1, 1) := by decide +kernel
theorem dX5_type_18 : decode cX5_type 18 = .ok (.iload_n 3, 1) := by decide +kernel
theorem dX5_type_19 : decode cX5_type 19 = .ok (.invokevirtual 64, 3) := by decide +kernel
theorem dX5_type_22 : decode cX5_type 22 = .ok (.ifCond .eq 13, 3) := by decide +kernel
theorem dX5_type_25 : decode cX5_type 25 = .ok (.aload_n 0, 1) := by decide +kernel
theorem dX5_type_26 : decode cX5_type 26 = .ok (.getfield 19, 3) := by decide +kernel
theorem dX5_type_29 : decode cX5_type 29 = .ok (.getfield 68, 3) := by decide +kernel
theorem dX5_type_32 : decode cX5_type 32 = .ok (.goto 5, 3) := by decide +kernel
theorem dX5_type_35 : decode cX5_type 35 = .ok (.bipush (-8), 2) := by decide +kernel
theorem dX5_type_37 : decode cX5_type 37 = .ok (.ireturn, 1) := by decide +kernel
set_option maxRecDepth 20000 in
theorem ggX5_factory_X5_isSequence : GoodIn wsX5_factory wsX5_isSequence := goodIn_r _ [8] (by decide +kernel) (by decide +kernel)
set_option maxRecDepth 20000 in
theorem gX5_factory_X5_isSequence : GoodIn wsX5_factory (va_wsS RX5 75 yX5_isSequence wsX5_isSequence) := goodIn_app (goodIn_of _ (by decide +kernel)) ggX5_factory_X5_isSequence
set_option maxRecDepth 20000 in
theorem ggX5_factory_X3_eraseImage : GoodIn wsX5_factory wsX3_eraseImage := goodIn_r _ [13, 14, 15, 16, 17, 18, 19, 20, 21, 22, 23, 24, 25, 26, 27, 28, 29, 96, 97, 98, 88, 89, 90, 91, 92, 93] (by decide +kernel) (by decide +kernel)
set_option maxRecDepth 20000 in
theorem gX5_factory_X3_eraseImage : GoodIn wsX5_factory (wsV RX5 79 RX3 yX3_eraseImage wsX3_eraseImage) := goodIn_app (goodIn_of _ (by decide +kernel)) ggX5_factory_X3_eraseImage
set_option maxRecDepth 20000 in
theorem ggX5_factory_X3_eraseHeader : GoodIn wsX5_factory wsX3_eraseHeader := goodIn_r _ [33, 14, 15, 16, 17, 18, 19, 20, 21, 22, 23, 24, 25, 26, 27, 28, 29, 96, 97, 98, 88, 89, 90, 91, 92, 93] (by decide +kernel) (by decide +kernel)
set_option maxRecDepth 20000 in
theorem gX5_factory_X3_eraseHeader : GoodIn wsX5_factory (wsV RX5 83 RX3 yX3_eraseHeader wsX3_eraseHeader) := goodIn_app (goodIn_of _ (by decide +kernel)) ggX5_factory_X3_eraseHeader
set_option maxRecDepth 20000 in
theorem ggX5_factory_X0_erase : GoodIn wsX5_factory wsX0_erase := goodIn_r _ [19, 20, 21, 22, 23, 24, 25, 18, 26, 27, 28, 29, 88, 89, 90, 91, 92, 93] (by decide +kernel) (by decide +kernel)
set_option maxRecDepth 20000 in
theorem gX5_factory_X0_erase : GoodIn wsX5_factory (wsV RX5 86 RX0 yX0_erase wsX0_erase) := goodIn_app (goodIn_of _ (by decide +kernel)) ggX5_factory_X0_erase
set_option maxRecDepth 20000 in
theorem ggX5_factory_X3_programImage : GoodIn wsX5_factory wsX3_programImage := goodIn_r _ [38, 39, 40, 41, 42, 18, 43, 44, 45, 46, 47, 20, 21, 22, 23, 24, 25, 26, 27, 28, 29, 96, 97, 98, 88, 89, 90, 91, 92, 93] (by decide +kernel) (by decide +kernel)
set_option maxRecDepth 20000 in
theorem gX5_factory_X3_programImage : GoodIn wsX5_factory (wsV RX5 92 RX3 yX3_programImage wsX3_programImage) := goodIn_app (goodIn_of _ (by decide +kernel)) ggX5_factory_X3_programImage
set_option maxRecDepth 20000 in
theorem ggX5_factory_X5_digest : GoodIn wsX5_factory wsX5_digest := goodIn_r _ [50, 51, 52, 7, 53, 54] (by decide +kernel) (by decide +kernel)
set_option maxRecDepth 20000 in
theorem gX5_factory_X5_digest : GoodIn wsX5_factory (va_wsS RX5 96 yX5_digest wsX5_digest) := goodIn_app (goodIn_of _ (by decide +kernel)) ggX5_factory_X5_digest
set_option maxRecDepth 20000 in
theorem ggX5_factory_X3_programName : GoodIn wsX5_factory wsX3_programName := goodIn_r _ [58, 59, 60, 45, 46, 18, 47, 20, 21, 22, 23, 24, 25, 26, 27, 28, 29, 61, 62, 63, 64, 65, 7, 66, 44, 96, 97, 98, 88, 89, 90, 91, 92, 93] (by decide +kernel) (by decide +kernel)
set_option maxRecDepth 20000 in
theorem gX5_factory_X3_programName : GoodIn wsX5_factory (wsV RX5 100 RX3 yX3_programName wsX3_programName) := goodIn_app (goodIn_of _ (by decide +kernel)) ggX5_factory_X3_programName
set_option maxRecDepth 20000 in
theorem ggX5_factory_X3_programConfirmed : GoodIn wsX5_factory wsX3_programConfirmed := goodIn_r _ [70, 59, 60, 45, 46, 18, 47, 20, 21, 22, 23, 24, 25, 26, 27, 28, 29, 96, 97, 98, 88, 89, 90, 91, 92, 93] (by decide +kernel) (by decide +kernel)
set_option maxRecDepth 20000 in
theorem gX5_factory_X3_programConfirmed : GoodIn wsX5_factory (wsV RX5 104 RX3 yX3_programConfirmed wsX3_programConfirmed) := goodIn_app (goodIn_of _ (by decide +kernel)) ggX5_factory_X3_programConfirmed
set_option maxRecDepth 20000 in
theorem ggX5_factory_X3_programWhole : GoodIn wsX5_factory wsX3_programWhole := goodIn_r _ [74, 59, 60, 45, 46, 18, 47, 20, 21, 22, 23, 24, 25, 26, 27, 28, 29, 96, 97, 98, 88, 89, 90, 91, 92, 93] (by decide +kernel) (by decide +kernel)
set_option maxRecDepth 20000 in
theorem gX5_factory_X3_programWhole : GoodIn wsX5_factory (wsV RX5 107 RX3 yX3_programWhole wsX3_programWhole) := goodIn_app (goodIn_of _ (by decide +kernel)) ggX5_factory_X3_programWhole
set_option maxRecDepth 20000 in
theorem ggX5_factory_X5_unlessTorn : GoodIn wsX5_factory wsX5_unlessTorn := goodIn_r _ [78, 1, 3, 79, 80, 81, 82, 83, 84, 85, 86, 87, 88, 89, 90, 91, 92, 93] (by decide +kernel) (by decide +kernel)
set_option maxRecDepth 20000 in
theorem gX5_factory_X5_unlessTorn : GoodIn wsX5_factory (wsV RX5 110 RX5 yX5_unlessTorn wsX5_unlessTorn) := goodIn_app (goodIn_of _ (by decide +kernel)) ggX5_factory_X5_unlessTorn
theorem dX5_factory_0 : decode cX5_factory 0 = .ok (.aload_n 0, 1) := by decide +kernel
theorem dX5_factory_1 : decode cX5_factory 1 = .ok (.getfield 12, 3) := by decide +kernel
theorem dX5_factory_4 : decode cX5_factory 4 = .ok (.getfield 71, 3) := by decide +kernel
theorem dX5_factory_7 : decode cX5_factory 7 = .ok (.ifCond .ne 6, 3) := by decide +kernel
theorem dX5_factory_10 : decode cX5_factory 10 = .ok (.bipush (-2), 2) := by decide +kernel
theorem dX5_factory_12 : decode cX5_factory 12 = .ok (.ireturn, 1) := by decide +kernel
theorem dX5_factory_13 : decode cX5_factory 13 = .ok (.iload_n 1, 1) := by decide +kernel
theorem dX5_factory_14 : decode cX5_factory 14 = .ok (.invokestatic 75, 3) := by decide +kernel
theorem dX5_factory_17 : decode cX5_factory 17 = .ok (.ifCond .eq 14, 3) := by decide +kernel
theorem dX5_factory_20 : decode cX5_factory 20 = .ok (.aload_n 0, 1) := by decide +kernel
theorem dX5_factory_21 : decode cX5_factory 21 = .ok (.getfield 19, 3) := by decide +kernel
theorem dX5_factory_24 : decode cX5_factory 24 = .ok (.getfield 68, 3) := by decide +kernel
theorem dX5_factory_27 : decode cX5_factory 27 = .ok (.iconst 1, 1) := by decide +kernel
theorem dX5_factory_28 : decode cX5_factory 28 = .ok (.if_icmp .ge 5, 3) := by decide +kernel
theorem dX5_factory_31 : decode cX5_factory 31 = .ok (.iconst (-1), 1) := by decide +kernel
theorem dX5_factory_32 : decode cX5_factory 32 = .ok (.ireturn, 1) := by decide +kernel
theorem dX5_factory_33 : decode cX5_factory 33 = .ok (.aload_n 0, 1) := by decide +kernel
theorem dX5_factory_34 : decode cX5_factory 34 = .ok (.bipush (-7), 2) := by decide +kernel
theorem dX5_factory_36 : decode cX5_factory 36 = .ok (.putfield 49, 3) := by decide +kernel
theorem dX5_factory_39 : decode cX5_factory 39 = .ok (.aload_n 0, 1) := by decide +kernel
theorem dX5_factory_40 : decode cX5_factory 40 = .ok (.getfield 28, 3) := by decide +kernel
theorem dX5_factory_43 : decode cX5_factory 43 = .ok (.aload_n 0, 1) := by decide +kernel
theorem dX5_factory_44 : decode cX5_factory 44 = .ok (.getfield 12, 3) := by decide +kernel
theorem dX5_factory_47 : decode cX5_factory 47 = .ok (.invokevirtual 79, 3) := by decide +kernel
theorem dX5_factory_50 : decode cX5_factory 50 = .ok (.aload_n 0, 1) := by decide +kernel
theorem dX5_factory_51 : decode cX5_factory 51 = .ok (.getfield 28, 3) := by decide +kernel
theorem dX5_factory_54 : decode cX5_factory 54 = .ok (.aload_n 0, 1) := by decide +kernel
theorem dX5_factory_55 : decode cX5_factory 55 = .ok (.getfield 12, 3) := by decide +kernel
theorem dX5_factory_58 : decode cX5_factory 58 = .ok (.invokevirtual 83, 3) := by decide +kernel
theorem dX5_factory_61 : decode cX5_factory 61 = .ok (.aload_n 0, 1) := by decide +kernel
theorem dX5_factory_62 : decode cX5_factory 62 = .ok (.getfield 12, 3) := by decide +kernel
theorem dX5_factory_65 : decode cX5_factory 65 = .ok (.bipush 22, 2) := by decide +kernel
theorem dX5_factory_67 : decode cX5_factory 67 = .ok (.invokevirtual 86, 3) := by decide +kernel
theorem dX5_factory_70 : decode cX5_factory 70 = .ok (.aload_n 0, 1) := by decide +kernel
theorem dX5_factory_71 : decode cX5_factory 71 = .ok (.getfield 28, 3) := by decide +kernel
theorem dX5_factory_74 : decode cX5_factory 74 = .ok (.aload_n 0, 1) := by decide +kernel
theorem dX5_factory_75 : decode cX5_factory 75 = .ok (.getfield 12, 3) := by decide +kernel
theorem dX5_factory_78 : decode cX5_factory 78 = .ok (.aload_n 0, 1) := by decide +kernel
theorem dX5_factory_79 : decode cX5_factory 79 = .ok (.getfield 19, 3) := by decide +kernel
theorem dX5_factory_82 : decode cX5_factory 82 = .ok (.getfield 89, 3) := by decide +kernel
theorem dX5_factory_85 : decode cX5_factory 85 = .ok (.aload_n 0, 1) := by decide +kernel
theorem dX5_factory_86 : decode cX5_factory 86 = .ok (.getfield 19, 3) := by decide +kernel
theorem dX5_factory_89 : decode cX5_factory 89 = .ok (.getfield 68, 3) := by decide +kernel
theorem dX5_factory_92 : decode cX5_factory 92 = .ok (.invokevirtual 92, 3) := by decide +kernel
theorem dX5_factory_95 : decode cX5_factory 95 = .ok (.aload_n 0, 1) := by decide +kernel
theorem dX5_factory_96 : decode cX5_factory 96 = .ok (.getfield 28, 3) := by decide +kernel
