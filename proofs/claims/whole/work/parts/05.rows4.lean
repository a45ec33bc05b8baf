theorem dX5_isOurs_15 : decode cX5_isOurs 15 = .ok (.getfield 38, 3) := by decide +kernel
theorem dX5_isOurs_18 : decode cX5_isOurs 18 = .ok (.invokevirtual 220, 3) := by decide +kernel
theorem dX5_isOurs_21 : decode cX5_isOurs 21 = .ok (.aload_n 0, 1) := by decide +kernel
theorem dX5_isOurs_22 : decode cX5_isOurs 22 = .ok (.getfield 61, 3) := by decide +kernel
theorem dX5_isOurs_25 : decode cX5_isOurs 25 = .ok (.if_icmp .ne 7, 3) := by decide +kernel
theorem dX5_isOurs_28 : decode cX5_isOurs 28 = .ok (.iconst 1, 1) := by decide +kernel
theorem dX5_isOurs_29 : decode cX5_isOurs 29 = .ok (.goto 4, 3) := by decide +kernel
theorem dX5_isOurs_32 : decode cX5_isOurs 32 = .ok (.iconst 0, 1) := by decide +kernel
theorem dX5_isOurs_33 : decode cX5_isOurs 33 = .ok (.ireturn, 1) := by decide +kernel
set_option maxRecDepth 20000 in
theorem ggX5_isOld_X5_counter : GoodIn wsX5_isOld wsX5_counter := goodIn_r _ [7, 2, 8, 9, 10, 11, 12, 13, 14, 15, 16, 17, 18, 19, 20, 34, 35, 36, 37, 38, 39, 40, 41, 42, 43, 44, 45, 46, 47, 48] (by decide +kernel) (by decide +kernel)
set_option maxRecDepth 20000 in
theorem gX5_isOld_X5_counter : GoodIn wsX5_isOld (wsV RX5 223 RX5 yX5_counter wsX5_counter) := goodIn_app (goodIn_of _ (by decide +kernel)) ggX5_isOld_X5_counter
set_option maxRecDepth 20000 in
theorem ggX5_isOld_X5_slot : GoodIn wsX5_isOld wsX5_slot := goodIn_r _ [24, 25, 26, 34, 35, 36, 37, 38, 39, 40, 41, 42] (by decide +kernel) (by decide +kernel)
set_option maxRecDepth 20000 in
theorem gX5_isOld_X5_slot : GoodIn wsX5_isOld (wsV RX5 155 RX5 yX5_slot wsX5_slot) := goodIn_app (goodIn_of _ (by decide +kernel)) ggX5_isOld_X5_slot
set_option maxRecDepth 20000 in
theorem ggX5_isOld_X3_sequence : GoodIn wsX5_isOld wsX3_sequence := goodIn_r _ [31, 32, 33, 9, 10, 11, 12, 13, 49, 50, 51, 43, 44, 45, 46, 47, 48] (by decide +kernel) (by decide +kernel)
set_option maxRecDepth 20000 in
theorem gX5_isOld_X3_sequence : GoodIn wsX5_isOld (wsV RX5 180 RX3 yX3_sequence wsX3_sequence) := goodIn_app (goodIn_of _ (by decide +kernel)) ggX5_isOld_X3_sequence
theorem dX5_isOld_0 : decode cX5_isOld 0 = .ok (.iload_n 1, 1) := by decide +kernel
theorem dX5_isOld_1 : decode cX5_isOld 1 = .ok (.aload_n 0, 1) := by decide +kernel
theorem dX5_isOld_2 : decode cX5_isOld 2 = .ok (.invokevirtual 223, 3) := by decide +kernel
theorem dX5_isOld_5 : decode cX5_isOld 5 = .ok (.if_icmp .le 31, 3) := by decide +kernel
theorem dX5_isOld_8 : decode cX5_isOld 8 = .ok (.aload_n 0, 1) := by decide +kernel
theorem dX5_isOld_9 : decode cX5_isOld 9 = .ok (.getfield 49, 3) := by decide +kernel
theorem dX5_isOld_12 : decode cX5_isOld 12 = .ok (.bipush (-7), 2) := by decide +kernel
theorem dX5_isOld_14 : decode cX5_isOld 14 = .ok (.if_icmp .eq 22, 3) := by decide +kernel
theorem dX5_isOld_17 : decode cX5_isOld 17 = .ok (.aload_n 0, 1) := by decide +kernel
theorem dX5_isOld_18 : decode cX5_isOld 18 = .ok (.aload_n 0, 1) := by decide +kernel
theorem dX5_isOld_19 : decode cX5_isOld 19 = .ok (.getfield 49, 3) := by decide +kernel
theorem dX5_isOld_22 : decode cX5_isOld 22 = .ok (.invokevirtual 155, 3) := by decide +kernel
theorem dX5_isOld_25 : decode cX5_isOld 25 = .ok (.aload_n 0, 1) := by decide +kernel
theorem dX5_isOld_26 : decode cX5_isOld 26 = .ok (.getfield 12, 3) := by decide +kernel
theorem dX5_isOld_29 : decode cX5_isOld 29 = .ok (.invokevirtual 180, 3) := by decide +kernel
theorem dX5_isOld_32 : decode cX5_isOld 32 = .ok (.iload_n 1, 1) := by decide +kernel
theorem dX5_isOld_33 : decode cX5_isOld 33 = .ok (.if_icmp .lt 7, 3) := by decide +kernel
theorem dX5_isOld_36 : decode cX5_isOld 36 = .ok (.iconst 1, 1) := by decide +kernel
theorem dX5_isOld_37 : decode cX5_isOld 37 = .ok (.goto 4, 3) := by decide +kernel
theorem dX5_isOld_40 : decode cX5_isOld 40 = .ok (.iconst 0, 1) := by decide +kernel
theorem dX5_isOld_41 : decode cX5_isOld 41 = .ok (.ireturn, 1) := by decide +kernel
set_option maxRecDepth 20000 in
theorem ggX5_stageAnew_X0_erase : GoodIn wsX5_stageAnew wsX0_erase := goodIn_r _ [7, 8, 9, 10, 11, 12, 13, 6, 14, 15, 16, 17, 36, 37, 38, 39, 40, 41] (by decide +kernel) (by decide +kernel)
set_option maxRecDepth 20000 in
theorem gX5_stageAnew_X0_erase : GoodIn wsX5_stageAnew (wsV RX5 86 RX0 yX0_erase wsX0_erase) := goodIn_app (goodIn_of _ (by decide +kernel)) ggX5_stageAnew_X0_erase
set_option maxRecDepth 20000 in
theorem ggX5_stageAnew_X0_programRow : GoodIn wsX5_stageAnew wsX0_programRow := goodIn_r _ [21, 22, 23, 24, 6, 25, 8, 9, 10, 11, 12, 13, 14, 15, 16, 17, 36, 37, 38, 39, 40, 41] (by decide +kernel) (by decide +kernel)
set_option maxRecDepth 20000 in
theorem gX5_stageAnew_X0_programRow : GoodIn wsX5_stageAnew (wsV RX5 138 RX0 yX0_programRow wsX0_programRow) := goodIn_app (goodIn_of _ (by decide +kernel)) ggX5_stageAnew_X0_programRow
theorem dX5_stageAnew_0 : decode cX5_stageAnew 0 = .ok (.aload_n 0, 1) := by decide +kernel
theorem dX5_stageAnew_1 : decode cX5_stageAnew 1 = .ok (.getfield 12, 3) := by decide +kernel
theorem dX5_stageAnew_4 : decode cX5_stageAnew 4 = .ok (.bipush 21, 2) := by decide +kernel
theorem dX5_stageAnew_6 : decode cX5_stageAnew 6 = .ok (.invokevirtual 86, 3) := by decide +kernel
theorem dX5_stageAnew_9 : decode cX5_stageAnew 9 = .ok (.aload_n 0, 1) := by decide +kernel
theorem dX5_stageAnew_10 : decode cX5_stageAnew 10 = .ok (.getfield 12, 3) := by decide +kernel
theorem dX5_stageAnew_13 : decode cX5_stageAnew 13 = .ok (.bipush 20, 2) := by decide +kernel
theorem dX5_stageAnew_15 : decode cX5_stageAnew 15 = .ok (.invokevirtual 86, 3) := by decide +kernel
theorem dX5_stageAnew_18 : decode cX5_stageAnew 18 = .ok (.bipush 14, 2) := by decide +kernel
theorem dX5_stageAnew_20 : decode cX5_stageAnew 20 = .ok (.istore_n 1, 1) := by decide +kernel
theorem dX5_stageAnew_21 : decode cX5_stageAnew 21 = .ok (.iload_n 1, 1) := by decide +kernel
theorem dX5_stageAnew_22 : decode cX5_stageAnew 22 = .ok (.bipush 20, 2) := by decide +kernel
theorem dX5_stageAnew_24 : decode cX5_stageAnew 24 = .ok (.if_icmp .ge 17, 3) := by decide +kernel
theorem dX5_stageAnew_27 : decode cX5_stageAnew 27 = .ok (.aload_n 0, 1) := by decide +kernel
theorem dX5_stageAnew_28 : decode cX5_stageAnew 28 = .ok (.getfield 12, 3) := by decide +kernel
theorem dX5_stageAnew_31 : decode cX5_stageAnew 31 = .ok (.iload_n 1, 1) := by decide +kernel
theorem dX5_stageAnew_32 : decode cX5_stageAnew 32 = .ok (.invokevirtual 86, 3) := by decide +kernel
theorem dX5_stageAnew_35 : decode cX5_stageAnew 35 = .ok (.iinc 1 1, 3) := by decide +kernel
theorem dX5_stageAnew_38 : decode cX5_stageAnew 38 = .ok (.goto (-17), 3) := by decide +kernel
theorem dX5_stageAnew_41 : decode cX5_stageAnew 41 = .ok (.aload_n 0, 1) := by decide +kernel
theorem dX5_stageAnew_42 : decode cX5_stageAnew 42 = .ok (.getfield 12, 3) := by decide +kernel
theorem dX5_stageAnew_45 : decode cX5_stageAnew 45 = .ok (.sipush 640, 3) := by decide +kernel
theorem dX5_stageAnew_48 : decode cX5_stageAnew 48 = .ok (.aload_n 0, 1) := by decide +kernel
theorem dX5_stageAnew_49 : decode cX5_stageAnew 49 = .ok (.getfield 38, 3) := by decide +kernel
theorem dX5_stageAnew_52 : decode cX5_stageAnew 52 = .ok (.getfield 226, 3) := by decide +kernel
theorem dX5_stageAnew_55 : decode cX5_stageAnew 55 = .ok (.bipush 20, 2) := by decide +kernel
theorem dX5_stageAnew_57 : decode cX5_stageAnew 57 = .ok (.invokevirtual 138, 3) := by decide +kernel
theorem dX5_stageAnew_60 : decode cX5_stageAnew 60 = .ok (.return_, 1) := by decide +kernel
set_option maxRecDepth 20000 in
theorem ggX5_readStagedManifest_X1_readPage : GoodIn wsX5_readStagedManifest wsX1_readPage := goodIn_r _ [7, 8, 9, 10, 11, 12, 13, 14, 69, 70, 71, 72, 73, 74, 75] (by decide +kernel) (by decide +kernel)
set_option maxRecDepth 20000 in
theorem gX5_readStagedManifest_X1_readPage : GoodIn wsX5_readStagedManifest (wsV RX5 227 RX1 yX1_readPage wsX1_readPage) := goodIn_app (goodIn_of _ (by decide +kernel)) ggX5_readStagedManifest_X1_readPage
set_option maxRecDepth 20000 in
theorem ggX5_readStagedManifest_X1_isInRange : GoodIn wsX5_readStagedManifest wsX1_isInRange := goodIn_r _ [18, 19, 20, 21, 6, 22, 8, 23, 24, 25, 26, 27, 28, 29, 30, 31, 32, 33, 34, 35, 69] (by decide +kernel) (by decide +kernel)
set_option maxRecDepth 20000 in
theorem gX5_readStagedManifest_X1_isInRange : GoodIn wsX5_readStagedManifest (wsV RX5 207 RX1 yX1_isInRange wsX1_isInRange) := goodIn_app (goodIn_of _ (by decide +kernel)) ggX5_readStagedManifest_X1_isInRange
set_option maxRecDepth 20000 in
theorem ggX5_readStagedManifest_X5_isOurs : GoodIn wsX5_readStagedManifest wsX5_isOurs := goodIn_r _ [39, 1, 40, 41, 42, 43, 44, 6, 45, 8, 46, 24, 47, 48, 49, 50, 51, 52, 53, 54, 55, 56, 57, 58, 59, 60, 61, 62, 63, 64, 65, 66, 67, 68, 69] (by decide +kernel) (by decide +kernel)
set_option maxRecDepth 20000 in
theorem gX5_readStagedManifest_X5_isOurs : GoodIn wsX5_readStagedManifest (wsV RX5 210 RX5 yX5_isOurs wsX5_isOurs) := goodIn_app (goodIn_of _ (by decide +kernel)) ggX5_readStagedManifest_X5_isOurs
theorem dX5_readStagedManifest_0 : decode cX5_readStagedManifest 0 = .ok (.aload_n 0, 1) := by decide +kernel
theorem dX5_readStagedManifest_1 : decode cX5_readStagedManifest 1 = .ok (.getfield 38, 3) := by decide +kernel
theorem dX5_readStagedManifest_4 : decode cX5_readStagedManifest 4 = .ok (.aload_n 0, 1) := by decide +kernel
theorem dX5_readStagedManifest_5 : decode cX5_readStagedManifest 5 = .ok (.getfield 12, 3) := by decide +kernel
theorem dX5_readStagedManifest_8 : decode cX5_readStagedManifest 8 = .ok (.invokevirtual 227, 3) := by decide +kernel
theorem dX5_readStagedManifest_11 : decode cX5_readStagedManifest 11 = .ok (.aload_n 0, 1) := by decide +kernel
theorem dX5_readStagedManifest_12 : decode cX5_readStagedManifest 12 = .ok (.getfield 38, 3) := by decide +kernel
theorem dX5_readStagedManifest_15 : decode cX5_readStagedManifest 15 = .ok (.invokevirtual 207, 3) := by decide +kernel
theorem dX5_readStagedManifest_18 : decode cX5_readStagedManifest 18 = .ok (.ifCond .eq 14, 3) := by decide +kernel
theorem dX5_readStagedManifest_21 : decode cX5_readStagedManifest 21 = .ok (.aload_n 0, 1) := by decide +kernel
theorem dX5_readStagedManifest_22 : decode cX5_readStagedManifest 22 = .ok (.invokevirtual 210, 3) := by decide +kernel
theorem dX5_readStagedManifest_25 : decode cX5_readStagedManifest 25 = .ok (.ifCond .eq 7, 3) := by decide +kernel
theorem dX5_readStagedManifest_28 : decode cX5_readStagedManifest 28 = .ok (.iconst 1, 1) := by decide +kernel
theorem dX5_readStagedManifest_29 : decode cX5_readStagedManifest 29 = .ok (.goto 4, 3) := by decide +kernel
theorem dX5_readStagedManifest_32 : decode cX5_readStagedManifest 32 = .ok (.iconst 0, 1) := by decide +kernel
theorem dX5_readStagedManifest_33 : decode cX5_readStagedManifest 33 = .ok (.ireturn, 1) := by decide +kernel
set_option maxRecDepth 20000 in
theorem ggX5_isBlockOf_X5_blocksOf : GoodIn wsX5_isBlockOf wsX5_blocksOf := goodIn_r _ [4] (by decide +kernel) (by decide +kernel)
set_option maxRecDepth 20000 in
theorem gX5_isBlockOf_X5_blocksOf : GoodIn wsX5_isBlockOf (va_wsS RX5 230 yX5_blocksOf wsX5_blocksOf) := goodIn_app (goodIn_of _ (by decide +kernel)) ggX5_isBlockOf_X5_blocksOf
theorem dX5_isBlockOf_0 : decode cX5_isBlockOf 0 = .ok (.iload_n 0, 1) := by decide +kernel
theorem dX5_isBlockOf_1 : decode cX5_isBlockOf 1 = .ok (.ifCond .lt 15, 3) := by decide +kernel
theorem dX5_isBlockOf_4 : decode cX5_isBlockOf 4 = .ok (.iload_n 0, 1) := by decide +kernel
theorem dX5_isBlockOf_5 : decode cX5_isBlockOf 5 = .ok (.iload_n 1, 1) := by decide +kernel
theorem dX5_isBlockOf_6 : decode cX5_isBlockOf 6 = .ok (.invokestatic 230, 3) := by decide +kernel
theorem dX5_isBlockOf_9 : decode cX5_isBlockOf 9 = .ok (.if_icmp .ge 7, 3) := by decide +kernel
theorem dX5_isBlockOf_12 : decode cX5_isBlockOf 12 = .ok (.iconst 1, 1) := by decide +kernel
theorem dX5_isBlockOf_13 : decode cX5_isBlockOf 13 = .ok (.goto 4, 3) := by decide +kernel
theorem dX5_isBlockOf_16 : decode cX5_isBlockOf 16 = .ok (.iconst 0, 1) := by decide +kernel
theorem dX5_isBlockOf_17 : decode cX5_isBlockOf 17 = .ok (.ireturn, 1) := by decide +kernel
theorem dX5_blocksOf_0 : decode cX5_blocksOf 0 = .ok (.iload_n 0, 1) := by decide +kernel
theorem dX5_blocksOf_1 : decode cX5_blocksOf 1 = .ok (.bipush 16, 2) := by decide +kernel
theorem dX5_blocksOf_3 : decode cX5_blocksOf 3 = .ok (.iadd, 1) := by decide +kernel
theorem dX5_blocksOf_4 : decode cX5_blocksOf 4 = .ok (.iconst 1, 1) := by decide +kernel
theorem dX5_blocksOf_5 : decode cX5_blocksOf 5 = .ok (.isub, 1) := by decide +kernel
theorem dX5_blocksOf_6 : decode cX5_blocksOf 6 = .ok (.bipush 16, 2) := by decide +kernel
theorem dX5_blocksOf_8 : decode cX5_blocksOf 8 = .ok (.idiv, 1) := by decide +kernel
theorem dX5_blocksOf_9 : decode cX5_blocksOf 9 = .ok (.ireturn, 1) := by decide +kernel
set_option maxRecDepth 20000 in
theorem ggX5_blockLength_X1_payloadLength : GoodIn wsX5_blockLength wsX1_payloadLength := goodIn_r _ [10, 11, 21] (by decide +kernel) (by decide +kernel)
set_option maxRecDepth 20000 in
theorem gX5_blockLength_X1_payloadLength : GoodIn wsX5_blockLength (wsV RX5 125 RX1 yX1_payloadLength wsX1_payloadLength) := goodIn_app (goodIn_of _ (by decide +kernel)) ggX5_blockLength_X1_payloadLength
theorem dX5_blockLength_0 : decode cX5_blockLength 0 = .ok (.bipush 16, 2) := by decide +kernel
theorem dX5_blockLength_2 : decode cX5_blockLength 2 = .ok (.aload_n 0, 1) := by decide +kernel
theorem dX5_blockLength_3 : decode cX5_blockLength 3 = .ok (.getfield 38, 3) := by decide +kernel
theorem dX5_blockLength_6 : decode cX5_blockLength 6 = .ok (.invokevirtual 125, 3) := by decide +kernel
theorem dX5_blockLength_9 : decode cX5_blockLength 9 = .ok (.bipush 16, 2) := by decide +kernel
theorem dX5_blockLength_11 : decode cX5_blockLength 11 = .ok (.iload_n 1, 1) := by decide +kernel
theorem dX5_blockLength_12 : decode cX5_blockLength 12 = .ok (.imul, 1) := by decide +kernel
theorem dX5_blockLength_13 : decode cX5_blockLength 13 = .ok (.isub, 1) := by decide +kernel
theorem dX5_blockLength_14 : decode cX5_blockLength 14 = .ok (.invokestatic 233, 3) := by decide +kernel
theorem dX5_blockLength_17 : decode cX5_blockLength 17 = .ok (.ireturn, 1) := by decide +kernel
set_option maxRecDepth 20000 in
theorem ggX5_isThere_X0_at : GoodIn wsX5_isThere wsX0_at := goodIn_r _ [6, 7, 17, 18, 19, 20, 21, 22] (by decide +kernel) (by decide +kernel)
set_option maxRecDepth 20000 in
theorem gX5_isThere_X0_at : GoodIn wsX5_isThere (wsV RX5 189 RX0 yX0_at wsX0_at) := goodIn_app (goodIn_of _ (by decide +kernel)) ggX5_isThere_X0_at
theorem dX5_isThere_0 : decode cX5_isThere 0 = .ok (.aload_n 0, 1) := by decide +kernel
theorem dX5_isThere_1 : decode cX5_isThere 1 = .ok (.getfield 12, 3) := by decide +kernel
theorem dX5_isThere_4 : decode cX5_isThere 4 = .ok (.sipush 672, 3) := by decide +kernel
theorem dX5_isThere_7 : decode cX5_isThere 7 = .ok (.iload_n 1, 1) := by decide +kernel
theorem dX5_isThere_8 : decode cX5_isThere 8 = .ok (.iadd, 1) := by decide +kernel
theorem dX5_isThere_9 : decode cX5_isThere 9 = .ok (.invokevirtual 189, 3) := by decide +kernel
theorem dX5_isThere_12 : decode cX5_isThere 12 = .ok (.ifCond .ne 7, 3) := by decide +kernel
theorem dX5_isThere_15 : decode cX5_isThere 15 = .ok (.iconst 1, 1) := by decide +kernel
theorem dX5_isThere_16 : decode cX5_isThere 16 = .ok (.goto 4, 3) := by decide +kernel
theorem dX5_isThere_19 : decode cX5_isThere 19 = .ok (.iconst 0, 1) := by decide +kernel
theorem dX5_isThere_20 : decode cX5_isThere 20 = .ok (.ireturn, 1) := by decide +kernel
set_option maxRecDepth 20000 in
theorem ggX5_isWhollyStaged_X1_payloadLength : GoodIn wsX5_isWhollyStaged wsX1_payloadLength := goodIn_r _ [6, 7, 32] (by decide +kernel) (by decide +kernel)
set_option maxRecDepth 20000 in
theorem gX5_isWhollyStaged_X1_payloadLength : GoodIn wsX5_isWhollyStaged (wsV RX5 125 RX1 yX1_payloadLength wsX1_payloadLength) := goodIn_app (goodIn_of _ (by decide +kernel)) ggX5_isWhollyStaged_X1_payloadLength
set_option maxRecDepth 20000 in
theorem ggX5_isWhollyStaged_X5_blocksOf : GoodIn wsX5_isWhollyStaged wsX5_blocksOf := goodIn_r _ [11] (by decide +kernel) (by decide +kernel)
set_option maxRecDepth 20000 in
theorem gX5_isWhollyStaged_X5_blocksOf : GoodIn wsX5_isWhollyStaged (va_wsS RX5 230 yX5_blocksOf wsX5_blocksOf) := goodIn_app (goodIn_of _ (by decide +kernel)) ggX5_isWhollyStaged_X5_blocksOf
set_option maxRecDepth 20000 in
theorem ggX5_isWhollyStaged_X5_isThere : GoodIn wsX5_isWhollyStaged wsX5_isThere := goodIn_r _ [15, 16, 17, 18, 19, 20, 21, 22, 23, 24, 25, 26, 27, 28, 29, 30, 31, 33, 34, 35, 36, 37, 38] (by decide +kernel) (by decide +kernel)
set_option maxRecDepth 20000 in
theorem gX5_isWhollyStaged_X5_isThere : GoodIn wsX5_isWhollyStaged (wsV RX5 135 RX5 yX5_isThere wsX5_isThere) := goodIn_app (goodIn_of _ (by decide +kernel)) ggX5_isWhollyStaged_X5_isThere
theorem dX5_isWhollyStaged_0 : decode cX5_isWhollyStaged 0 = .ok (.aload_n 0, 1) := by decide +kernel
theorem dX5_isWhollyStaged_1 : decode cX5_isWhollyStaged 1 = .ok (.getfield 38, 3) := by decide +kernel
theorem dX5_isWhollyStaged_4 : decode cX5_isWhollyStaged 4 = .ok (.invokevirtual 125, 3) := by decide +kernel
theorem dX5_isWhollyStaged_7 : decode cX5_isWhollyStaged 7 = .ok (.invokestatic 230, 3) := by decide +kernel
theorem dX5_isWhollyStaged_10 : decode cX5_isWhollyStaged 10 = .ok (.istore_n 1, 1) := by decide +kernel
theorem dX5_isWhollyStaged_11 : decode cX5_isWhollyStaged 11 = .ok (.iconst 0, 1) := by decide +kernel
theorem dX5_isWhollyStaged_12 : decode cX5_isWhollyStaged 12 = .ok (.istore_n 2, 1) := by decide +kernel
theorem dX5_isWhollyStaged_13 : decode cX5_isWhollyStaged 13 = .ok (.iload_n 2, 1) := by decide +kernel
theorem dX5_isWhollyStaged_14 : decode cX5_isWhollyStaged 14 = .ok (.iload_n 1, 1) := by decide +kernel
theorem dX5_isWhollyStaged_15 : decode cX5_isWhollyStaged 15 = .ok (.if_icmp .ge 19, 3) := by decide +kernel
theorem dX5_isWhollyStaged_18 : decode cX5_isWhollyStaged 18 = .ok (.aload_n 0, 1) := by decide +kernel
theorem dX5_isWhollyStaged_19 : decode cX5_isWhollyStaged 19 = .ok (.iload_n 2, 1) := by decide +kernel
theorem dX5_isWhollyStaged_20 : decode cX5_isWhollyStaged 20 = .ok (.invokevirtual 135, 3) := by decide +kernel
theorem dX5_isWhollyStaged_23 : decode cX5_isWhollyStaged 23 = .ok (.ifCond .ne 5, 3) := by decide +kernel
theorem dX5_isWhollyStaged_26 : decode cX5_isWhollyStaged 26 = .ok (.iconst 0, 1) := by decide +kernel
theorem dX5_isWhollyStaged_27 : decode cX5_isWhollyStaged 27 = .ok (.ireturn, 1) := by decide +kernel
theorem dX5_isWhollyStaged_28 : decode cX5_isWhollyStaged 28 = .ok (.iinc 2 1, 3) := by decide +kernel
theorem dX5_isWhollyStaged_31 : decode cX5_isWhollyStaged 31 = .ok (.goto (-18), 3) := by decide +kernel
theorem dX5_isWhollyStaged_34 : decode cX5_isWhollyStaged 34 = .ok (.iconst 1, 1) := by decide +kernel
theorem dX5_isWhollyStaged_35 : decode cX5_isWhollyStaged 35 = .ok (.ireturn, 1) := by decide +kernel
set_option maxRecDepth 20000 in
theorem ggX5_makeImage_X1_payloadLength : GoodIn wsX5_makeImage wsX1_payloadLength := goodIn_r _ [8, 9, 93] (by decide +kernel) (by decide +kernel)
set_option maxRecDepth 20000 in
theorem gX5_makeImage_X1_payloadLength : GoodIn wsX5_makeImage (wsV RX5 125 RX1 yX1_payloadLength wsX1_payloadLength) := goodIn_app (goodIn_of _ (by decide +kernel)) ggX5_makeImage_X1_payloadLength
set_option maxRecDepth 20000 in
theorem ggX5_makeImage_X0_digestOf : GoodIn wsX5_makeImage wsX0_digestOf := goodIn_r _ [14, 15, 16, 17, 13, 18, 19, 20, 21, 22, 23, 94, 95, 96, 97, 98, 99] (by decide +kernel) (by decide +kernel)
set_option maxRecDepth 20000 in
theorem gX5_makeImage_X0_digestOf : GoodIn wsX5_makeImage (wsV RX5 239 RX0 yX0_digestOf wsX0_digestOf) := goodIn_app (goodIn_of _ (by decide +kernel)) ggX5_makeImage_X0_digestOf
set_option maxRecDepth 20000 in
theorem ggX5_makeImage_X1_payloadDigest : GoodIn wsX5_makeImage wsX1_payloadDigest := goodIn_r _ [27, 28, 29, 30, 7, 31, 9, 93] (by decide +kernel) (by decide +kernel)
set_option maxRecDepth 20000 in
theorem gX5_makeImage_X1_payloadDigest : GoodIn wsX5_makeImage (wsV RX5 242 RX1 yX1_payloadDigest wsX1_payloadDigest) := goodIn_app (goodIn_of _ (by decide +kernel)) ggX5_makeImage_X1_payloadDigest
set_option maxRecDepth 20000 in
theorem ggX5_makeImage_X1_baseDigest : GoodIn wsX5_makeImage wsX1_baseDigest := goodIn_r _ [35, 28, 29, 30, 7, 31, 9, 93] (by decide +kernel) (by decide +kernel)
set_option maxRecDepth 20000 in
theorem gX5_makeImage_X1_baseDigest : GoodIn wsX5_makeImage (wsV RX5 245 RX1 yX1_baseDigest wsX1_baseDigest) := goodIn_app (goodIn_of _ (by decide +kernel)) ggX5_makeImage_X1_baseDigest
set_option maxRecDepth 20000 in
theorem ggX5_makeImage_X3_digest : GoodIn wsX5_makeImage wsX3_digest := goodIn_r _ [40, 41, 42, 43, 44, 13, 45, 15, 16, 17, 18, 19, 88, 89, 90, 94, 95, 96, 97, 98, 99] (by decide +kernel) (by decide +kernel)
set_option maxRecDepth 20000 in
theorem gX5_makeImage_X3_digest : GoodIn wsX5_makeImage (wsV RX5 248 RX3 yX3_digest wsX3_digest) := goodIn_app (goodIn_of _ (by decide +kernel)) ggX5_makeImage_X3_digest
set_option maxRecDepth 20000 in
theorem ggX5_makeImage_X3_length : GoodIn wsX5_makeImage wsX3_length := goodIn_r _ [49, 41, 50, 16, 17, 13, 18, 19, 88, 89, 90, 94, 95, 96, 97, 98, 99] (by decide +kernel) (by decide +kernel)
set_option maxRecDepth 20000 in
theorem gX5_makeImage_X3_length : GoodIn wsX5_makeImage (wsV RX5 250 RX3 yX3_length wsX3_length) := goodIn_app (goodIn_of _ (by decide +kernel)) ggX5_makeImage_X3_length
set_option maxRecDepth 20000 in
theorem ggX5_makeImage_X2_unfold : GoodIn wsX5_makeImage wsX2_unfold := goodIn_r _ [55, 56, 57, 16, 17, 13, 18, 19, 58, 59, 60, 54, 61, 62, 63, 64, 65, 66, 91, 92, 94, 95, 96, 97, 98, 99] (by decide +kernel) (by decide +kernel)
set_option maxRecDepth 20000 in
theorem gX5_makeImage_X2_unfold : GoodIn wsX5_makeImage (wsV RX5 255 RX2 yX2_unfold wsX2_unfold) := goodIn_app (goodIn_of _ (by decide +kernel)) ggX5_makeImage_X2_unfold
set_option maxRecDepth 20000 in
theorem ggX5_makeImage_X1_imageLength : GoodIn wsX5_makeImage wsX1_imageLength := goodIn_r _ [70, 9, 93] (by decide +kernel) (by decide +kernel)
set_option maxRecDepth 20000 in
theorem gX5_makeImage_X1_imageLength : GoodIn wsX5_makeImage (wsV RX5 262 RX1 yX1_imageLength wsX1_imageLength) := goodIn_app (goodIn_of _ (by decide +kernel)) ggX5_makeImage_X1_imageLength
set_option maxRecDepth 20000 in
theorem ggX5_makeImage_X5_digest : GoodIn wsX5_makeImage wsX5_digest := goodIn_r _ [73, 74, 20, 21, 22, 23] (by decide +kernel) (by decide +kernel)
set_option maxRecDepth 20000 in
theorem gX5_makeImage_X5_digest : GoodIn wsX5_makeImage (va_wsS RX5 96 yX5_digest wsX5_digest) := goodIn_app (goodIn_of _ (by decide +kernel)) ggX5_makeImage_X5_digest
set_option maxRecDepth 20000 in
theorem ggX5_makeImage_X1_imageDigest : GoodIn wsX5_makeImage wsX1_imageDigest := goodIn_r _ [78, 28, 29, 30, 7, 31, 9, 93] (by decide +kernel) (by decide +kernel)
set_option maxRecDepth 20000 in
theorem gX5_makeImage_X1_imageDigest : GoodIn wsX5_makeImage (wsV RX5 268 RX1 yX1_imageDigest wsX1_imageDigest) := goodIn_app (goodIn_of _ (by decide +kernel)) ggX5_makeImage_X1_imageDigest
theorem dX5_makeImage_0 : decode cX5_makeImage 0 = .ok (.aload_n 0, 1) := by decide +kernel
theorem dX5_makeImage_1 : decode cX5_makeImage 1 = .ok (.getfield 12, 3) := by decide +kernel
theorem dX5_makeImage_4 : decode cX5_makeImage 4 = .ok (.sipush 448, 3) := by decide +kernel
theorem dX5_makeImage_7 : decode cX5_makeImage 7 = .ok (.aload_n 0, 1) := by decide +kernel
theorem dX5_makeImage_8 : decode cX5_makeImage 8 = .ok (.getfield 38, 3) := by decide +kernel
theorem dX5_makeImage_11 : decode cX5_makeImage 11 = .ok (.invokevirtual 125, 3) := by decide +kernel
theorem dX5_makeImage_14 : decode cX5_makeImage 14 = .ok (.invokevirtual 239, 3) := by decide +kernel
theorem dX5_makeImage_17 : decode cX5_makeImage 17 = .ok (.aload_n 0, 1) := by decide +kernel
theorem dX5_makeImage_18 : decode cX5_makeImage 18 = .ok (.getfield 38, 3) := by decide +kernel
theorem dX5_makeImage_21 : decode cX5_makeImage 21 = .ok (.invokevirtual 242, 3) := by decide +kernel
theorem dX5_makeImage_24 : decode cX5_makeImage 24 = .ok (.if_icmp .eq 5, 3) := by decide +kernel
theorem dX5_makeImage_27 : decode cX5_makeImage 27 = .ok (.iconst 0, 1) := by decide +kernel
theorem dX5_makeImage_28 : decode cX5_makeImage 28 = .ok (.ireturn, 1) := by decide +kernel
theorem dX5_makeImage_29 : decode cX5_makeImage 29 = .ok (.aload_n 0, 1) := by decide +kernel
theorem dX5_makeImage_30 : decode cX5_makeImage 30 = .ok (.getfield 38, 3) := by decide +kernel
theorem dX5_makeImage_33 : decode cX5_makeImage 33 = .ok (.invokevirtual 245, 3) := by decide +kernel
theorem dX5_makeImage_36 : decode cX5_makeImage 36 = .ok (.ifCond .eq 7, 3) := by decide +kernel
theorem dX5_makeImage_39 : decode cX5_makeImage 39 = .ok (.iconst 1, 1) := by decide +kernel
theorem dX5_makeImage_40 : decode cX5_makeImage 40 = .ok (.goto 4, 3) := by decide +kernel
theorem dX5_makeImage_43 : decode cX5_makeImage 43 = .ok (.iconst 0, 1) := by decide +kernel
theorem dX5_makeImage_44 : decode cX5_makeImage 44 = .ok (.istore_n 2, 1) := by decide +kernel
theorem dX5_makeImage_45 : decode cX5_makeImage 45 = .ok (.iload_n 2, 1) := by decide +kernel
theorem dX5_makeImage_46 : decode cX5_makeImage 46 = .ok (.ifCond .eq 23, 3) := by decide +kernel
theorem dX5_makeImage_49 : decode cX5_makeImage 49 = .ok (.aload_n 0, 1) := by decide +kernel
theorem dX5_makeImage_50 : decode cX5_makeImage 50 = .ok (.getfield 38, 3) := by decide +kernel
theorem dX5_makeImage_53 : decode cX5_makeImage 53 = .ok (.invokevirtual 245, 3) := by decide +kernel
theorem dX5_makeImage_56 : decode cX5_makeImage 56 = .ok (.aload_n 1, 1) := by decide +kernel
theorem dX5_makeImage_57 : decode cX5_makeImage 57 = .ok (.aload_n 0, 1) := by decide +kernel
theorem dX5_makeImage_58 : decode cX5_makeImage 58 = .ok (.getfield 12, 3) := by decide +kernel
theorem dX5_makeImage_61 : decode cX5_makeImage 61 = .ok (.invokevirtual 248, 3) := by decide +kernel
theorem dX5_makeImage_64 : decode cX5_makeImage 64 = .ok (.if_icmp .eq 5, 3) := by decide +kernel
theorem dX5_makeImage_67 : decode cX5_makeImage 67 = .ok (.iconst 0, 1) := by decide +kernel
theorem dX5_makeImage_68 : decode cX5_makeImage 68 = .ok (.ireturn, 1) := by decide +kernel
theorem dX5_makeImage_69 : decode cX5_makeImage 69 = .ok (.iload_n 2, 1) := by decide +kernel
theorem dX5_makeImage_70 : decode cX5_makeImage 70 = .ok (.ifCond .eq 14, 3) := by decide +kernel
theorem dX5_makeImage_73 : decode cX5_makeImage 73 = .ok (.aload_n 1, 1) := by decide +kernel
theorem dX5_makeImage_74 : decode cX5_makeImage 74 = .ok (.aload_n 0, 1) := by decide +kernel
theorem dX5_makeImage_75 : decode cX5_makeImage 75 = .ok (.getfield 12, 3) := by decide +kernel
theorem dX5_makeImage_78 : decode cX5_makeImage 78 = .ok (.invokevirtual 250, 3) := by decide +kernel
theorem dX5_makeImage_81 : decode cX5_makeImage 81 = .ok (.goto 4, 3) := by decide +kernel
theorem dX5_makeImage_84 : decode cX5_makeImage 84 = .ok (.iconst 0, 1) := by decide +kernel
theorem dX5_makeImage_85 : decode cX5_makeImage 85 = .ok (.istore_n 3, 1) := by decide +kernel
theorem dX5_makeImage_86 : decode cX5_makeImage 86 = .ok (.aload_n 0, 1) := by decide +kernel
theorem dX5_makeImage_87 : decode cX5_makeImage 87 = .ok (.getfield 45, 3) := by decide +kernel
theorem dX5_makeImage_90 : decode cX5_makeImage 90 = .ok (.aload_n 0, 1) := by decide +kernel
theorem dX5_makeImage_91 : decode cX5_makeImage 91 = .ok (.getfield 12, 3) := by decide +kernel
theorem dX5_makeImage_94 : decode cX5_makeImage 94 = .ok (.aload_n 0, 1) := by decide +kernel
theorem dX5_makeImage_95 : decode cX5_makeImage 95 = .ok (.getfield 38, 3) := by decide +kernel
theorem dX5_makeImage_98 : decode cX5_makeImage 98 = .ok (.invokevirtual 125, 3) := by decide +kernel
theorem dX5_makeImage_101 : decode cX5_makeImage 101 = .ok (.aload_n 1, 1) := by decide +kernel
theorem dX5_makeImage_102 : decode cX5_makeImage 102 = .ok (.getfield 252, 3) := by decide +kernel
theorem dX5_makeImage_105 : decode cX5_makeImage 105 = .ok (.iload_n 3, 1) := by decide +kernel
theorem dX5_makeImage_106 : decode cX5_makeImage 106 = .ok (.invokevirtual 255, 3) := by decide +kernel
theorem dX5_makeImage_109 : decode cX5_makeImage 109 = .ok (.ifCond .eq 52, 3) := by decide +kernel
theorem dX5_makeImage_112 : decode cX5_makeImage 112 = .ok (.aload_n 0, 1) := by decide +kernel
theorem dX5_makeImage_113 : decode cX5_makeImage 113 = .ok (.getfield 45, 3) := by decide +kernel
theorem dX5_makeImage_116 : decode cX5_makeImage 116 = .ok (.getfield 259, 3) := by decide +kernel
theorem dX5_makeImage_119 : decode cX5_makeImage 119 = .ok (.aload_n 0, 1) := by decide +kernel
theorem dX5_makeImage_120 : decode cX5_makeImage 120 = .ok (.getfield 38, 3) := by decide +kernel
theorem dX5_makeImage_123 : decode cX5_makeImage 123 = .ok (.invokevirtual 262, 3) := by decide +kernel
theorem dX5_makeImage_126 : decode cX5_makeImage 126 = .ok (.if_icmp .ne 35, 3) := by decide +kernel
theorem dX5_makeImage_129 : decode cX5_makeImage 129 = .ok (.iconst 0, 1) := by decide +kernel
theorem dX5_makeImage_130 : decode cX5_makeImage 130 = .ok (.aload_n 0, 1) := by decide +kernel
theorem dX5_makeImage_131 : decode cX5_makeImage 131 = .ok (.getfield 45, 3) := by decide +kernel
theorem dX5_makeImage_134 : decode cX5_makeImage 134 = .ok (.getfield 265, 3) := by decide +kernel
theorem dX5_makeImage_137 : decode cX5_makeImage 137 = .ok (.aload_n 0, 1) := by decide +kernel
theorem dX5_makeImage_138 : decode cX5_makeImage 138 = .ok (.getfield 45, 3) := by decide +kernel
theorem dX5_makeImage_141 : decode cX5_makeImage 141 = .ok (.getfield 259, 3) := by decide +kernel
theorem dX5_makeImage_144 : decode cX5_makeImage 144 = .ok (.invokestatic 96, 3) := by decide +kernel
theorem dX5_makeImage_147 : decode cX5_makeImage 147 = .ok (.aload_n 0, 1) := by decide +kernel
theorem dX5_makeImage_148 : decode cX5_makeImage 148 = .ok (.getfield 38, 3) := by decide +kernel
theorem dX5_makeImage_151 : decode cX5_makeImage 151 = .ok (.invokevirtual 268, 3) := by decide +kernel
theorem dX5_makeImage_154 : decode cX5_makeImage 154 = .ok (.if_icmp .ne 7, 3) := by decide +kernel
theorem dX5_makeImage_157 : decode cX5_makeImage 157 = .ok (.iconst 1, 1) := by decide +kernel
theorem dX5_makeImage_158 : decode cX5_makeImage 158 = .ok (.goto 4, 3) := by decide +kernel
theorem dX5_makeImage_161 : decode cX5_makeImage 161 = .ok (.iconst 0, 1) := by decide +kernel
theorem dX5_makeImage_162 : decode cX5_makeImage 162 = .ok (.ireturn, 1) := by decide +kernel
set_option maxRecDepth 20000 in
theorem ggX5_programUpdate_X3_eraseHeader : GoodIn wsX5_programUpdate wsX3_eraseHeader := goodIn_r _ [8, 9, 10, 11, 12, 13, 14, 15, 16, 17, 18, 19, 20, 21, 22, 23, 24, 93, 94, 95, 96, 97, 98, 99, 100, 101] (by decide +kernel) (by decide +kernel)
set_option maxRecDepth 20000 in
theorem gX5_programUpdate_X3_eraseHeader : GoodIn wsX5_programUpdate (wsV RX5 83 RX3 yX3_eraseHeader wsX3_eraseHeader) := goodIn_app (goodIn_of _ (by decide +kernel)) ggX5_programUpdate_X3_eraseHeader
set_option maxRecDepth 20000 in
theorem ggX5_programUpdate_X3_eraseImage : GoodIn wsX5_programUpdate wsX3_eraseImage := goodIn_r _ [28, 9, 10, 11, 12, 13, 14, 15, 16, 17, 18, 19, 20, 21, 22, 23, 24, 93, 94, 95, 96, 97, 98, 99, 100, 101] (by decide +kernel) (by decide +kernel)
set_option maxRecDepth 20000 in
theorem gX5_programUpdate_X3_eraseImage : GoodIn wsX5_programUpdate (wsV RX5 79 RX3 yX3_eraseImage wsX3_eraseImage) := goodIn_app (goodIn_of _ (by decide +kernel)) ggX5_programUpdate_X3_eraseImage
set_option maxRecDepth 20000 in
theorem ggX5_programUpdate_X3_programImage : GoodIn wsX5_programUpdate wsX3_programImage := goodIn_r _ [32, 33, 34, 35, 36, 13, 37, 38, 39, 40, 41, 15, 16, 17, 18, 19, 20, 21, 22, 23, 24, 93, 94, 95, 96, 97, 98, 99, 100, 101] (by decide +kernel) (by decide +kernel)
set_option maxRecDepth 20000 in
theorem gX5_programUpdate_X3_programImage : GoodIn wsX5_programUpdate (wsV RX5 92 RX3 yX3_programImage wsX3_programImage) := goodIn_app (goodIn_of _ (by decide +kernel)) ggX5_programUpdate_X3_programImage
set_option maxRecDepth 20000 in
theorem ggX5_programUpdate_X1_imageLength : GoodIn wsX5_programUpdate wsX1_imageLength := goodIn_r _ [46, 47, 102] (by decide +kernel) (by decide +kernel)
set_option maxRecDepth 20000 in
theorem gX5_programUpdate_X1_imageLength : GoodIn wsX5_programUpdate (wsV RX5 262 RX1 yX1_imageLength wsX1_imageLength) := goodIn_app (goodIn_of _ (by decide +kernel)) ggX5_programUpdate_X1_imageLength
set_option maxRecDepth 20000 in
theorem ggX5_programUpdate_X1_sequence : GoodIn wsX5_programUpdate wsX1_sequence := goodIn_r _ [51, 47, 102] (by decide +kernel) (by decide +kernel)
set_option maxRecDepth 20000 in
theorem gX5_programUpdate_X1_sequence : GoodIn wsX5_programUpdate (wsV RX5 146 RX1 yX1_sequence wsX1_sequence) := goodIn_app (goodIn_of _ (by decide +kernel)) ggX5_programUpdate_X1_sequence
set_option maxRecDepth 20000 in
theorem ggX5_programUpdate_X1_imageDigest : GoodIn wsX5_programUpdate wsX1_imageDigest := goodIn_r _ [55, 56, 57, 58, 45, 59, 47, 102] (by decide +kernel) (by decide +kernel)
set_option maxRecDepth 20000 in
theorem gX5_programUpdate_X1_imageDigest : GoodIn wsX5_programUpdate (wsV RX5 268 RX1 yX1_imageDigest wsX1_imageDigest) := goodIn_app (goodIn_of _ (by decide +kernel)) ggX5_programUpdate_X1_imageDigest
set_option maxRecDepth 20000 in
theorem ggX5_programUpdate_X3_programName : GoodIn wsX5_programUpdate wsX3_programName := goodIn_r _ [63, 64, 65, 39, 40, 13, 41, 15, 16, 17, 18, 19, 20, 21, 22, 23, 24, 66, 67, 68, 69, 70, 71, 72, 38, 93, 94, 95, 96, 97, 98, 99, 100, 101] (by decide +kernel) (by decide +kernel)
set_option maxRecDepth 20000 in
theorem gX5_programUpdate_X3_programName : GoodIn wsX5_programUpdate (wsV RX5 100 RX3 yX3_programName wsX3_programName) := goodIn_app (goodIn_of _ (by decide +kernel)) ggX5_programUpdate_X3_programName
set_option maxRecDepth 20000 in
theorem ggX5_programUpdate_X3_programTrials : GoodIn wsX5_programUpdate wsX3_programTrials := goodIn_r _ [76, 64, 65, 39, 40, 13, 41, 15, 16, 17, 18, 19, 20, 21, 22, 23, 24, 93, 94, 95, 96, 97, 98, 99, 100, 101] (by decide +kernel) (by decide +kernel)
set_option maxRecDepth 20000 in
theorem gX5_programUpdate_X3_programTrials : GoodIn wsX5_programUpdate (wsV RX5 271 RX3 yX3_programTrials wsX3_programTrials) := goodIn_app (goodIn_of _ (by decide +kernel)) ggX5_programUpdate_X3_programTrials
set_option maxRecDepth 20000 in
theorem ggX5_programUpdate_X3_programWhole : GoodIn wsX5_programUpdate wsX3_programWhole := goodIn_r _ [80, 64, 65, 39, 40, 13, 41, 15, 16, 17, 18, 19, 20, 21, 22, 23, 24, 93, 94, 95, 96, 97, 98, 99, 100, 101] (by decide +kernel) (by decide +kernel)
set_option maxRecDepth 20000 in
theorem gX5_programUpdate_X3_programWhole : GoodIn wsX5_programUpdate (wsV RX5 107 RX3 yX3_programWhole wsX3_programWhole) := goodIn_app (goodIn_of _ (by decide +kernel)) ggX5_programUpdate_X3_programWhole
set_option maxRecDepth 20000 in
theorem ggX5_programUpdate_X0_erase : GoodIn wsX5_programUpdate wsX0_erase := goodIn_r _ [14, 15, 16, 17, 18, 19, 20, 13, 21, 22, 23, 24, 96, 97, 98, 99, 100, 101] (by decide +kernel) (by decide +kernel)
set_option maxRecDepth 20000 in
theorem gX5_programUpdate_X0_erase : GoodIn wsX5_programUpdate (wsV RX5 86 RX0 yX0_erase wsX0_erase) := goodIn_app (goodIn_of _ (by decide +kernel)) ggX5_programUpdate_X0_erase
theorem dX5_programUpdate_0 : decode cX5_programUpdate 0 = .ok (.aload_n 1, 1) := by decide +kernel
theorem dX5_programUpdate_1 : decode cX5_programUpdate 1 = .ok (.aload_n 0, 1) := by decide +kernel
theorem dX5_programUpdate_2 : decode cX5_programUpdate 2 = .ok (.getfield 12, 3) := by decide +kernel
theorem dX5_programUpdate_5 : decode cX5_programUpdate 5 = .ok (.invokevirtual 83, 3) := by decide +kernel
theorem dX5_programUpdate_8 : decode cX5_programUpdate 8 = .ok (.aload_n 1, 1) := by decide +kernel
theorem dX5_programUpdate_9 : decode cX5_programUpdate 9 = .ok (.aload_n 0, 1) := by decide +kernel
theorem dX5_programUpdate_10 : decode cX5_programUpdate 10 = .ok (.getfield 12, 3) := by decide +kernel
theorem dX5_programUpdate_13 : decode cX5_programUpdate 13 = .ok (.invokevirtual 79, 3) := by decide +kernel
theorem dX5_programUpdate_16 : decode cX5_programUpdate 16 = .ok (.aload_n 1, 1) := by decide +kernel
theorem dX5_programUpdate_17 : decode cX5_programUpdate 17 = .ok (.aload_n 0, 1) := by decide +kernel
theorem dX5_programUpdate_18 : decode cX5_programUpdate 18 = .ok (.getfield 12, 3) := by decide +kernel
theorem dX5_programUpdate_21 : decode cX5_programUpdate 21 = .ok (.aload_n 0, 1) := by decide +kernel
theorem dX5_programUpdate_22 : decode cX5_programUpdate 22 = .ok (.getfield 45, 3) := by decide +kernel
theorem dX5_programUpdate_25 : decode cX5_programUpdate 25 = .ok (.getfield 265, 3) := by decide +kernel
theorem dX5_programUpdate_28 : decode cX5_programUpdate 28 = .ok (.aload_n 0, 1) := by decide +kernel
theorem dX5_programUpdate_29 : decode cX5_programUpdate 29 = .ok (.getfield 45, 3) := by decide +kernel
theorem dX5_programUpdate_32 : decode cX5_programUpdate 32 = .ok (.getfield 259, 3) := by decide +kernel
theorem dX5_programUpdate_35 : decode cX5_programUpdate 35 = .ok (.invokevirtual 92, 3) := by decide +kernel
theorem dX5_programUpdate_38 : decode cX5_programUpdate 38 = .ok (.aload_n 1, 1) := by decide +kernel
theorem dX5_programUpdate_39 : decode cX5_programUpdate 39 = .ok (.aload_n 0, 1) := by decide +kernel
theorem dX5_programUpdate_40 : decode cX5_programUpdate 40 = .ok (.getfield 12, 3) := by decide +kernel
theorem dX5_programUpdate_43 : decode cX5_programUpdate 43 = .ok (.aload_n 0, 1) := by decide +kernel
theorem dX5_programUpdate_44 : decode cX5_programUpdate 44 = .ok (.getfield 38, 3) := by decide +kernel
theorem dX5_programUpdate_47 : decode cX5_programUpdate 47 = .ok (.invokevirtual 262, 3) := by decide +kernel
theorem dX5_programUpdate_50 : decode cX5_programUpdate 50 = .ok (.aload_n 0, 1) := by decide +kernel
theorem dX5_programUpdate_51 : decode cX5_programUpdate 51 = .ok (.getfield 38, 3) := by decide +kernel
theorem dX5_programUpdate_54 : decode cX5_programUpdate 54 = .ok (.invokevirtual 146, 3) := by decide +kernel
theorem dX5_programUpdate_57 : decode cX5_programUpdate 57 = .ok (.aload_n 0, 1) := by decide +kernel
theorem dX5_programUpdate_58 : decode cX5_programUpdate 58 = .ok (.getfield 38, 3) := by decide +kernel
theorem dX5_programUpdate_61 : decode cX5_programUpdate 61 = .ok (.invokevirtual 268, 3) := by decide +kernel
theorem dX5_programUpdate_64 : decode cX5_programUpdate 64 = .ok (.invokevirtual 100, 3) := by decide +kernel
theorem dX5_programUpdate_67 : decode cX5_programUpdate 67 = .ok (.aload_n 1, 1) := by decide +kernel
theorem dX5_programUpdate_68 : decode cX5_programUpdate 68 = .ok (.aload_n 0, 1) := by decide +kernel
theorem dX5_programUpdate_69 : decode cX5_programUpdate 69 = .ok (.getfield 12, 3) := by decide +kernel
theorem dX5_programUpdate_72 : decode cX5_programUpdate 72 = .ok (.invokevirtual 271, 3) := by decide +kernel
theorem dX5_programUpdate_75 : decode cX5_programUpdate 75 = .ok (.aload_n 1, 1) := by decide +kernel
theorem dX5_programUpdate_76 : decode cX5_programUpdate 76 = .ok (.aload_n 0, 1) := by decide +kernel
theorem dX5_programUpdate_77 : decode cX5_programUpdate 77 = .ok (.getfield 12, 3) := by decide +kernel
theorem dX5_programUpdate_80 : decode cX5_programUpdate 80 = .ok (.invokevirtual 107, 3) := by decide +kernel
theorem dX5_programUpdate_83 : decode cX5_programUpdate 83 = .ok (.aload_n 0, 1) := by decide +kernel
theorem dX5_programUpdate_84 : decode cX5_programUpdate 84 = .ok (.getfield 12, 3) := by decide +kernel
theorem dX5_programUpdate_87 : decode cX5_programUpdate 87 = .ok (.bipush 20, 2) := by decide +kernel
theorem dX5_programUpdate_89 : decode cX5_programUpdate 89 = .ok (.invokevirtual 86, 3) := by decide +kernel
theorem dX5_programUpdate_92 : decode cX5_programUpdate 92 = .ok (.return_, 1) := by decide +kernel
set_option maxRecDepth 20000 in
theorem ggX5_slotOnTrial_X5_isGood : GoodIn wsX5_slotOnTrial wsX5_isGood := goodIn_r _ [8, 2, 9, 10, 11, 7, 12, 13, 14, 15, 16, 17, 18, 19, 20, 21, 22, 23, 24, 25, 26, 27, 28, 29, 30, 31, 32, 33, 34, 35, 36, 37, 38, 39, 40, 41, 42, 43, 44, 45, 46, 47, 48, 49, 50, 51, 52, 53, 54, 55, 56, 57, 58, 59, 60, 61, 62, 63, 77, 78, 79, 80, 81, 82, 83, 84, 85, 86, 87, 88, 89, 90, 91, 92, 93, 94] (by decide +kernel) (by decide +kernel)
set_option maxRecDepth 20000 in
theorem gX5_slotOnTrial_X5_isGood : GoodIn wsX5_slotOnTrial (wsV RX5 200 RX5 yX5_isGood wsX5_isGood) := goodIn_app (goodIn_of _ (by decide +kernel)) ggX5_slotOnTrial_X5_isGood
set_option maxRecDepth 20000 in
theorem ggX5_slotOnTrial_X3_isOnTrial : GoodIn wsX5_slotOnTrial wsX3_isOnTrial := goodIn_r _ [67, 36, 68, 69, 70, 29, 71, 37, 14, 15, 16, 17, 18, 92, 93, 94, 86, 87, 88, 89, 90, 91] (by decide +kernel) (by decide +kernel)
set_option maxRecDepth 20000 in
theorem gX5_slotOnTrial_X3_isOnTrial : GoodIn wsX5_slotOnTrial (wsV RX5 274 RX3 yX3_isOnTrial wsX3_isOnTrial) := goodIn_app (goodIn_of _ (by decide +kernel)) ggX5_slotOnTrial_X3_isOnTrial
set_option maxRecDepth 20000 in
theorem ggX5_slotOnTrial_X5_later : GoodIn wsX5_slotOnTrial wsX5_later := goodIn_r _ [75, 3, 2, 1, 76, 45, 46, 29, 47, 36, 37, 14, 15, 16, 17, 18, 77, 78, 79, 80, 81, 82, 83, 84, 85, 92, 93, 94, 86, 87, 88, 89, 90, 91] (by decide +kernel) (by decide +kernel)
set_option maxRecDepth 20000 in
theorem gX5_slotOnTrial_X5_later : GoodIn wsX5_slotOnTrial (wsV RX5 277 RX5 yX5_later wsX5_later) := goodIn_app (goodIn_of _ (by decide +kernel)) ggX5_slotOnTrial_X5_later
theorem dX5_slotOnTrial_0 : decode cX5_slotOnTrial 0 = .ok (.aload_n 0, 1) := by decide +kernel
theorem dX5_slotOnTrial_1 : decode cX5_slotOnTrial 1 = .ok (.aload_n 0, 1) := by decide +kernel
theorem dX5_slotOnTrial_2 : decode cX5_slotOnTrial 2 = .ok (.aload_n 0, 1) := by decide +kernel
theorem dX5_slotOnTrial_3 : decode cX5_slotOnTrial 3 = .ok (.getfield 28, 3) := by decide +kernel
theorem dX5_slotOnTrial_6 : decode cX5_slotOnTrial 6 = .ok (.invokevirtual 200, 3) := by decide +kernel
theorem dX5_slotOnTrial_9 : decode cX5_slotOnTrial 9 = .ok (.ifCond .eq 21, 3) := by decide +kernel
theorem dX5_slotOnTrial_12 : decode cX5_slotOnTrial 12 = .ok (.aload_n 0, 1) := by decide +kernel
theorem dX5_slotOnTrial_13 : decode cX5_slotOnTrial 13 = .ok (.getfield 28, 3) := by decide +kernel
theorem dX5_slotOnTrial_16 : decode cX5_slotOnTrial 16 = .ok (.aload_n 0, 1) := by decide +kernel
theorem dX5_slotOnTrial_17 : decode cX5_slotOnTrial 17 = .ok (.getfield 12, 3) := by decide +kernel
theorem dX5_slotOnTrial_20 : decode cX5_slotOnTrial 20 = .ok (.invokevirtual 274, 3) := by decide +kernel
theorem dX5_slotOnTrial_23 : decode cX5_slotOnTrial 23 = .ok (.ifCond .eq 7, 3) := by decide +kernel
theorem dX5_slotOnTrial_26 : decode cX5_slotOnTrial 26 = .ok (.iconst 1, 1) := by decide +kernel
theorem dX5_slotOnTrial_27 : decode cX5_slotOnTrial 27 = .ok (.goto 4, 3) := by decide +kernel
theorem dX5_slotOnTrial_30 : decode cX5_slotOnTrial 30 = .ok (.iconst 0, 1) := by decide +kernel
theorem dX5_slotOnTrial_31 : decode cX5_slotOnTrial 31 = .ok (.aload_n 0, 1) := by decide +kernel
theorem dX5_slotOnTrial_32 : decode cX5_slotOnTrial 32 = .ok (.aload_n 0, 1) := by decide +kernel
theorem dX5_slotOnTrial_33 : decode cX5_slotOnTrial 33 = .ok (.getfield 32, 3) := by decide +kernel
theorem dX5_slotOnTrial_36 : decode cX5_slotOnTrial 36 = .ok (.invokevirtual 200, 3) := by decide +kernel
theorem dX5_slotOnTrial_39 : decode cX5_slotOnTrial 39 = .ok (.ifCond .eq 21, 3) := by decide +kernel
theorem dX5_slotOnTrial_42 : decode cX5_slotOnTrial 42 = .ok (.aload_n 0, 1) := by decide +kernel
theorem dX5_slotOnTrial_43 : decode cX5_slotOnTrial 43 = .ok (.getfield 32, 3) := by decide +kernel
theorem dX5_slotOnTrial_46 : decode cX5_slotOnTrial 46 = .ok (.aload_n 0, 1) := by decide +kernel
theorem dX5_slotOnTrial_47 : decode cX5_slotOnTrial 47 = .ok (.getfield 12, 3) := by decide +kernel
theorem dX5_slotOnTrial_50 : decode cX5_slotOnTrial 50 = .ok (.invokevirtual 274, 3) := by decide +kernel
theorem dX5_slotOnTrial_53 : decode cX5_slotOnTrial 53 = .ok (.ifCond .eq 7, 3) := by decide +kernel
theorem dX5_slotOnTrial_56 : decode cX5_slotOnTrial 56 = .ok (.iconst 1, 1) := by decide +kernel
theorem dX5_slotOnTrial_57 : decode cX5_slotOnTrial 57 = .ok (.goto 4, 3) := by decide +kernel
theorem dX5_slotOnTrial_60 : decode cX5_slotOnTrial 60 = .ok (.iconst 0, 1) := by decide +kernel
theorem dX5_slotOnTrial_61 : decode cX5_slotOnTrial 61 = .ok (.invokevirtual 277, 3) := by decide +kernel
theorem dX5_slotOnTrial_64 : decode cX5_slotOnTrial 64 = .ok (.ireturn, 1) := by decide +kernel
set_option maxRecDepth 20000 in
theorem ggX5_slotConfirmed_X5_isGood : GoodIn wsX5_slotConfirmed wsX5_isGood := goodIn_r _ [8, 2, 9, 10, 11, 7, 12, 13, 14, 15, 16, 17, 18, 19, 20, 21, 22, 23, 24, 25, 26, 27, 28, 29, 30, 31, 32, 33, 34, 35, 36, 37, 38, 39, 40, 41, 42, 43, 44, 45, 46, 47, 48, 49, 50, 51, 52, 53, 54, 55, 56, 57, 58, 59, 60, 61, 62, 63, 73, 74, 75, 76, 77, 78, 79, 80, 81, 82, 83, 84, 85, 86, 87, 88, 89, 90] (by decide +kernel) (by decide +kernel)
set_option maxRecDepth 20000 in
theorem gX5_slotConfirmed_X5_isGood : GoodIn wsX5_slotConfirmed (wsV RX5 200 RX5 yX5_isGood wsX5_isGood) := goodIn_app (goodIn_of _ (by decide +kernel)) ggX5_slotConfirmed_X5_isGood
set_option maxRecDepth 20000 in
theorem ggX5_slotConfirmed_X3_isConfirmed : GoodIn wsX5_slotConfirmed wsX3_isConfirmed := goodIn_r _ [67, 36, 37, 14, 15, 16, 17, 18, 88, 89, 90, 82, 83, 84, 85, 86, 87] (by decide +kernel) (by decide +kernel)
set_option maxRecDepth 20000 in
theorem gX5_slotConfirmed_X3_isConfirmed : GoodIn wsX5_slotConfirmed (wsV RX5 176 RX3 yX3_isConfirmed wsX3_isConfirmed) := goodIn_app (goodIn_of _ (by decide +kernel)) ggX5_slotConfirmed_X3_isConfirmed
set_option maxRecDepth 20000 in
theorem ggX5_slotConfirmed_X5_later : GoodIn wsX5_slotConfirmed wsX5_later := goodIn_r _ [71, 3, 2, 1, 72, 45, 46, 29, 47, 36, 37, 14, 15, 16, 17, 18, 73, 74, 75, 76, 77, 78, 79, 80, 81, 88, 89, 90, 82, 83, 84, 85, 86, 87] (by decide +kernel) (by decide +kernel)
set_option maxRecDepth 20000 in
theorem gX5_slotConfirmed_X5_later : GoodIn wsX5_slotConfirmed (wsV RX5 277 RX5 yX5_later wsX5_later) := goodIn_app (goodIn_of _ (by decide +kernel)) ggX5_slotConfirmed_X5_later
theorem dX5_slotConfirmed_0 : decode cX5_slotConfirmed 0 = .ok (.aload_n 0, 1) := by decide +kernel
theorem dX5_slotConfirmed_1 : decode cX5_slotConfirmed 1 = .ok (.aload_n 0, 1) := by decide +kernel
theorem dX5_slotConfirmed_2 : decode cX5_slotConfirmed 2 = .ok (.aload_n 0, 1) := by decide +kernel
theorem dX5_slotConfirmed_3 : decode cX5_slotConfirmed 3 = .ok (.getfield 28, 3) := by decide +kernel
theorem dX5_slotConfirmed_6 : decode cX5_slotConfirmed 6 = .ok (.invokevirtual 200, 3) := by decide +kernel
theorem dX5_slotConfirmed_9 : decode cX5_slotConfirmed 9 = .ok (.ifCond .eq 21, 3) := by decide +kernel
theorem dX5_slotConfirmed_12 : decode cX5_slotConfirmed 12 = .ok (.aload_n 0, 1) := by decide +kernel
theorem dX5_slotConfirmed_13 : decode cX5_slotConfirmed 13 = .ok (.getfield 28, 3) := by decide +kernel
theorem dX5_slotConfirmed_16 : decode cX5_slotConfirmed 16 = .ok (.aload_n 0, 1) := by decide +kernel
theorem dX5_slotConfirmed_17 : decode cX5_slotConfirmed 17 = .ok (.getfield 12, 3) := by decide +kernel
theorem dX5_slotConfirmed_20 : decode cX5_slotConfirmed 20 = .ok (.invokevirtual 176, 3) := by decide +kernel
theorem dX5_slotConfirmed_23 : decode cX5_slotConfirmed 23 = .ok (.ifCond .eq 7, 3) := by decide +kernel
theorem dX5_slotConfirmed_26 : decode cX5_slotConfirmed 26 = .ok (.iconst 1, 1) := by decide +kernel
theorem dX5_slotConfirmed_27 : decode cX5_slotConfirmed 27 = .ok (.goto 4, 3) := by decide +kernel
theorem dX5_slotConfirmed_30 : decode cX5_slotConfirmed 30 = .ok (.iconst 0, 1) := by decide +kernel
theorem dX5_slotConfirmed_31 : decode cX5_slotConfirmed 31 = .ok (.aload_n 0, 1) := by decide +kernel
theorem dX5_slotConfirmed_32 : decode cX5_slotConfirmed 32 = .ok (.aload_n 0, 1) := by decide +kernel
theorem dX5_slotConfirmed_33 : decode cX5_slotConfirmed 33 = .ok (.getfield 32, 3) := by decide +kernel
theorem dX5_slotConfirmed_36 : decode cX5_slotConfirmed 36 = .ok (.invokevirtual 200, 3) := by decide +kernel
theorem dX5_slotConfirmed_39 : decode cX5_slotConfirmed 39 = .ok (.ifCond .eq 21, 3) := by decide +kernel
theorem dX5_slotConfirmed_42 : decode cX5_slotConfirmed 42 = .ok (.aload_n 0, 1) := by decide +kernel
theorem dX5_slotConfirmed_43 : decode cX5_slotConfirmed 43 = .ok (.getfield 32, 3) := by decide +kernel
theorem dX5_slotConfirmed_46 : decode cX5_slotConfirmed 46 = .ok (.aload_n 0, 1) := by decide +kernel
theorem dX5_slotConfirmed_47 : decode cX5_slotConfirmed 47 = .ok (.getfield 12, 3) := by decide +kernel
theorem dX5_slotConfirmed_50 : decode cX5_slotConfirmed 50 = .ok (.invokevirtual 176, 3) := by decide +kernel
theorem dX5_slotConfirmed_53 : decode cX5_slotConfirmed 53 = .ok (.ifCond .eq 7, 3) := by decide +kernel
theorem dX5_slotConfirmed_56 : decode cX5_slotConfirmed 56 = .ok (.iconst 1, 1) := by decide +kernel
theorem dX5_slotConfirmed_57 : decode cX5_slotConfirmed 57 = .ok (.goto 4, 3) := by decide +kernel
theorem dX5_slotConfirmed_60 : decode cX5_slotConfirmed 60 = .ok (.iconst 0, 1) := by decide +kernel
theorem dX5_slotConfirmed_61 : decode cX5_slotConfirmed 61 = .ok (.invokevirtual 277, 3) := by decide +kernel
theorem dX5_slotConfirmed_64 : decode cX5_slotConfirmed 64 = .ok (.ireturn, 1) := by decide +kernel
set_option maxRecDepth 20000 in
theorem ggX5_isGood_X5_counter : GoodIn wsX5_isGood wsX5_counter := goodIn_r _ [6, 1, 7, 8, 9, 10, 11, 12, 13, 14, 15, 16, 17, 18, 19, 58, 59, 60, 61, 62, 63, 64, 65, 66, 67, 68, 69, 70, 71, 72] (by decide +kernel) (by decide +kernel)
set_option maxRecDepth 20000 in
theorem gX5_isGood_X5_counter : GoodIn wsX5_isGood (wsV RX5 223 RX5 yX5_counter wsX5_counter) := goodIn_app (goodIn_of _ (by decide +kernel)) ggX5_isGood_X5_counter
set_option maxRecDepth 20000 in
theorem ggX5_isGood_X3_isGood : GoodIn wsX5_isGood wsX3_isGood := goodIn_r _ [24, 25, 26, 27, 28, 23, 29, 30, 31, 8, 9, 10, 11, 12, 32, 33, 34, 35, 36, 5, 37, 38, 39, 40, 41, 42, 43, 44, 45, 46, 47, 48, 49, 50, 51, 52, 53, 54, 55, 56, 57, 73, 74, 75, 67, 68, 69, 70, 71, 72] (by decide +kernel) (by decide +kernel)
set_option maxRecDepth 20000 in
theorem gX5_isGood_X3_isGood : GoodIn wsX5_isGood (wsV RX5 281 RX3 yX3_isGood wsX3_isGood) := goodIn_app (goodIn_of _ (by decide +kernel)) ggX5_isGood_X3_isGood
theorem dX5_isGood_0 : decode cX5_isGood 0 = .ok (.aload_n 1, 1) := by decide +kernel
theorem dX5_isGood_1 : decode cX5_isGood 1 = .ok (.aload_n 0, 1) := by decide +kernel
theorem dX5_isGood_2 : decode cX5_isGood 2 = .ok (.getfield 12, 3) := by decide +kernel
theorem dX5_isGood_5 : decode cX5_isGood 5 = .ok (.aload_n 0, 1) := by decide +kernel
theorem dX5_isGood_6 : decode cX5_isGood 6 = .ok (.invokevirtual 223, 3) := by decide +kernel
theorem dX5_isGood_9 : decode cX5_isGood 9 = .ok (.invokevirtual 281, 3) := by decide +kernel
theorem dX5_isGood_12 : decode cX5_isGood 12 = .ok (.ireturn, 1) := by decide +kernel
set_option maxRecDepth 20000 in
theorem ggX5_later_X3_sequence : GoodIn wsX5_later wsX3_sequence := goodIn_r _ [8, 9, 10, 11, 12, 13, 14, 15, 25, 26, 27, 28, 29, 30, 31, 32, 33] (by decide +kernel) (by decide +kernel)
set_option maxRecDepth 20000 in
theorem gX5_later_X3_sequence : GoodIn wsX5_later (wsV RX5 180 RX3 yX3_sequence wsX3_sequence) := goodIn_app (goodIn_of _ (by decide +kernel)) ggX5_later_X3_sequence
theorem dX5_later_0 : decode cX5_later 0 = .ok (.iload_n 2, 1) := by decide +kernel
theorem dX5_later_1 : decode cX5_later 1 = .ok (.ifCond .eq 34, 3) := by decide +kernel
theorem dX5_later_4 : decode cX5_later 4 = .ok (.iload_n 1, 1) := by decide +kernel
theorem dX5_later_5 : decode cX5_later 5 = .ok (.ifCond .eq 28, 3) := by decide +kernel
theorem dX5_later_8 : decode cX5_later 8 = .ok (.aload_n 0, 1) := by decide +kernel
theorem dX5_later_9 : decode cX5_later 9 = .ok (.getfield 32, 3) := by decide +kernel
theorem dX5_later_12 : decode cX5_later 12 = .ok (.aload_n 0, 1) := by decide +kernel
theorem dX5_later_13 : decode cX5_later 13 = .ok (.getfield 12, 3) := by decide +kernel
theorem dX5_later_16 : decode cX5_later 16 = .ok (.invokevirtual 180, 3) := by decide +kernel
theorem dX5_later_19 : decode cX5_later 19 = .ok (.aload_n 0, 1) := by decide +kernel
theorem dX5_later_20 : decode cX5_later 20 = .ok (.getfield 28, 3) := by decide +kernel
theorem dX5_later_23 : decode cX5_later 23 = .ok (.aload_n 0, 1) := by decide +kernel
theorem dX5_later_24 : decode cX5_later 24 = .ok (.getfield 12, 3) := by decide +kernel
theorem dX5_later_27 : decode cX5_later 27 = .ok (.invokevirtual 180, 3) := by decide +kernel
theorem dX5_later_30 : decode cX5_later 30 = .ok (.if_icmp .le 5, 3) := by decide +kernel
theorem dX5_later_33 : decode cX5_later 33 = .ok (.iconst 1, 1) := by decide +kernel
theorem dX5_later_34 : decode cX5_later 34 = .ok (.ireturn, 1) := by decide +kernel
theorem dX5_later_35 : decode cX5_later 35 = .ok (.iload_n 1, 1) := by decide +kernel
theorem dX5_later_36 : decode cX5_later 36 = .ok (.ifCond .eq 7, 3) := by decide +kernel
theorem dX5_later_39 : decode cX5_later 39 = .ok (.iconst 0, 1) := by decide +kernel
theorem dX5_later_40 : decode cX5_later 40 = .ok (.goto 5, 3) := by decide +kernel
theorem dX5_later_43 : decode cX5_later 43 = .ok (.bipush (-7), 2) := by decide +kernel
theorem dX5_later_45 : decode cX5_later 45 = .ok (.ireturn, 1) := by decide +kernel
set_option maxRecDepth 20000 in
theorem ggX5_raiseCounter_X5_counter : GoodIn wsX5_raiseCounter wsX5_counter := goodIn_r _ [5, 6, 7, 8, 9, 10, 11, 12, 13, 14, 15, 16, 17, 18, 19, 42, 43, 44, 45, 46, 47, 48, 49, 50, 51, 52, 53, 54, 55, 56] (by decide +kernel) (by decide +kernel)
set_option maxRecDepth 20000 in
theorem gX5_raiseCounter_X5_counter : GoodIn wsX5_raiseCounter (wsV RX5 223 RX5 yX5_counter wsX5_counter) := goodIn_app (goodIn_of _ (by decide +kernel)) ggX5_raiseCounter_X5_counter
set_option maxRecDepth 20000 in
theorem ggX5_raiseCounter_X5_clearCounterBit : GoodIn wsX5_raiseCounter wsX5_clearCounterBit := goodIn_r _ [23, 6, 7, 8, 9, 10, 11, 12, 24, 25, 26, 27, 28, 29, 30, 31, 32, 33, 34, 35, 36, 37, 38, 39, 40, 41, 42, 43, 44, 45, 46, 47, 48, 49, 50, 51, 52, 53, 54, 55, 56] (by decide +kernel) (by decide +kernel)
set_option maxRecDepth 20000 in
theorem gX5_raiseCounter_X5_clearCounterBit : GoodIn wsX5_raiseCounter (wsV RX5 284 RX5 yX5_clearCounterBit wsX5_clearCounterBit) := goodIn_app (goodIn_of _ (by decide +kernel)) ggX5_raiseCounter_X5_clearCounterBit
theorem dX5_raiseCounter_0 : decode cX5_raiseCounter 0 = .ok (.aload_n 0, 1) := by decide +kernel
theorem dX5_raiseCounter_1 : decode cX5_raiseCounter 1 = .ok (.invokevirtual 223, 3) := by decide +kernel
theorem dX5_raiseCounter_4 : decode cX5_raiseCounter 4 = .ok (.istore_n 2, 1) := by decide +kernel
theorem dX5_raiseCounter_5 : decode cX5_raiseCounter 5 = .ok (.iload_n 2, 1) := by decide +kernel
theorem dX5_raiseCounter_6 : decode cX5_raiseCounter 6 = .ok (.iload_n 1, 1) := by decide +kernel
theorem dX5_raiseCounter_7 : decode cX5_raiseCounter 7 = .ok (.if_icmp .ge 13, 3) := by decide +kernel
theorem dX5_raiseCounter_10 : decode cX5_raiseCounter 10 = .ok (.aload_n 0, 1) := by decide +kernel
theorem dX5_raiseCounter_11 : decode cX5_raiseCounter 11 = .ok (.invokevirtual 284, 3) := by decide +kernel
theorem dX5_raiseCounter_14 : decode cX5_raiseCounter 14 = .ok (.iinc 2 1, 3) := by decide +kernel
theorem dX5_raiseCounter_17 : decode cX5_raiseCounter 17 = .ok (.goto (-12), 3) := by decide +kernel
theorem dX5_raiseCounter_20 : decode cX5_raiseCounter 20 = .ok (.return_, 1) := by decide +kernel
set_option maxRecDepth 20000 in
theorem ggX5_clearCounterBit_X0_at : GoodIn wsX5_clearCounterBit wsX0_at := goodIn_r _ [6, 7, 35, 36, 37, 38, 39, 40] (by decide +kernel) (by decide +kernel)
set_option maxRecDepth 20000 in
theorem gX5_clearCounterBit_X0_at : GoodIn wsX5_clearCounterBit (wsV RX5 189 RX0 yX0_at wsX0_at) := goodIn_app (goodIn_of _ (by decide +kernel)) ggX5_clearCounterBit_X0_at
set_option maxRecDepth 20000 in
theorem ggX5_clearCounterBit_X0_programLowestBit : GoodIn wsX5_clearCounterBit wsX0_programLowestBit := goodIn_r _ [11, 12, 3, 4, 5, 6, 7, 13, 14, 15, 16, 17, 18, 19, 20, 21, 22, 23, 24, 25, 35, 36, 37, 38, 39, 40] (by decide +kernel) (by decide +kernel)
set_option maxRecDepth 20000 in
theorem gX5_clearCounterBit_X0_programLowestBit : GoodIn wsX5_clearCounterBit (wsV RX5 287 RX0 yX0_programLowestBit wsX0_programLowestBit) := goodIn_app (goodIn_of _ (by decide +kernel)) ggX5_clearCounterBit_X0_programLowestBit
theorem dX5_clearCounterBit_0 : decode cX5_clearCounterBit 0 = .ok (.sipush 704, 3) := by decide +kernel
theorem dX5_clearCounterBit_3 : decode cX5_clearCounterBit 3 = .ok (.istore_n 1, 1) := by decide +kernel
theorem dX5_clearCounterBit_4 : decode cX5_clearCounterBit 4 = .ok (.iload_n 1, 1) := by decide +kernel
theorem dX5_clearCounterBit_5 : decode cX5_clearCounterBit 5 = .ok (.sipush 736, 3) := by decide +kernel
theorem dX5_clearCounterBit_8 : decode cX5_clearCounterBit 8 = .ok (.if_icmp .ge 29, 3) := by decide +kernel
theorem dX5_clearCounterBit_11 : decode cX5_clearCounterBit 11 = .ok (.aload_n 0, 1) := by decide +kernel
theorem dX5_clearCounterBit_12 : decode cX5_clearCounterBit 12 = .ok (.getfield 12, 3) := by decide +kernel
theorem dX5_clearCounterBit_15 : decode cX5_clearCounterBit 15 = .ok (.iload_n 1, 1) := by decide +kernel
theorem dX5_clearCounterBit_16 : decode cX5_clearCounterBit 16 = .ok (.invokevirtual 189, 3) := by decide +kernel
theorem dX5_clearCounterBit_19 : decode cX5_clearCounterBit 19 = .ok (.ifCond .eq 12, 3) := by decide +kernel
theorem dX5_clearCounterBit_22 : decode cX5_clearCounterBit 22 = .ok (.aload_n 0, 1) := by decide +kernel
theorem dX5_clearCounterBit_23 : decode cX5_clearCounterBit 23 = .ok (.getfield 12, 3) := by decide +kernel
theorem dX5_clearCounterBit_26 : decode cX5_clearCounterBit 26 = .ok (.iload_n 1, 1) := by decide +kernel
theorem dX5_clearCounterBit_27 : decode cX5_clearCounterBit 27 = .ok (.invokevirtual 287, 3) := by decide +kernel
theorem dX5_clearCounterBit_30 : decode cX5_clearCounterBit 30 = .ok (.return_, 1) := by decide +kernel
theorem dX5_clearCounterBit_31 : decode cX5_clearCounterBit 31 = .ok (.iinc 1 1, 3) := by decide +kernel
theorem dX5_clearCounterBit_34 : decode cX5_clearCounterBit 34 = .ok (.goto (-30), 3) := by decide +kernel
theorem dX5_clearCounterBit_37 : decode cX5_clearCounterBit 37 = .ok (.return_, 1) := by decide +kernel
set_option maxRecDepth 20000 in
theorem ggX5_digest_X5_digestByte : GoodIn wsX5_digest wsX5_digestByte := goodIn_r _ [4, 5] (by decide +kernel) (by decide +kernel)
set_option maxRecDepth 20000 in
theorem gX5_digest_X5_digestByte : GoodIn wsX5_digest (va_wsS RX5 290 yX5_digestByte wsX5_digestByte) := goodIn_app (goodIn_of _ (by decide +kernel)) ggX5_digest_X5_digestByte
