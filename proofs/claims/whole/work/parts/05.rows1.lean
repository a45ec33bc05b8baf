theorem dX0_init_0 : decode cX0_init 0 = .ok (.aload_n 0, 1) := by decide +kernel
theorem dX0_init_1 : decode cX0_init 1 = .ok (.invokespecial 3, 3) := by decide +kernel
theorem dX0_init_4 : decode cX0_init 4 = .ok (.aload_n 0, 1) := by decide +kernel
theorem dX0_init_5 : decode cX0_init 5 = .ok (.sipush 768, 3) := by decide +kernel
theorem dX0_init_8 : decode cX0_init 8 = .ok (.newarray .int, 2) := by decide +kernel
theorem dX0_init_10 : decode cX0_init 10 = .ok (.putfield 11, 3) := by decide +kernel
theorem dX0_init_13 : decode cX0_init 13 = .ok (.aload_n 0, 1) := by decide +kernel
theorem dX0_init_14 : decode cX0_init 14 = .ok (.iconst 1, 1) := by decide +kernel
theorem dX0_init_15 : decode cX0_init 15 = .ok (.putfield 15, 3) := by decide +kernel
theorem dX0_init_18 : decode cX0_init 18 = .ok (.aload_n 0, 1) := by decide +kernel
theorem dX0_init_19 : decode cX0_init 19 = .ok (.iconst 0, 1) := by decide +kernel
theorem dX0_init_20 : decode cX0_init 20 = .ok (.putfield 19, 3) := by decide +kernel
theorem dX0_init_23 : decode cX0_init 23 = .ok (.aload_n 0, 1) := by decide +kernel
theorem dX0_init_24 : decode cX0_init 24 = .ok (.iconst 0, 1) := by decide +kernel
theorem dX0_init_25 : decode cX0_init 25 = .ok (.putfield 23, 3) := by decide +kernel
theorem dX0_init_28 : decode cX0_init 28 = .ok (.aload_n 0, 1) := by decide +kernel
theorem dX0_init_29 : decode cX0_init 29 = .ok (.iconst 0, 1) := by decide +kernel
theorem dX0_init_30 : decode cX0_init 30 = .ok (.putfield 26, 3) := by decide +kernel
theorem dX0_init_33 : decode cX0_init 33 = .ok (.aload_n 0, 1) := by decide +kernel
theorem dX0_init_34 : decode cX0_init 34 = .ok (.iconst 0, 1) := by decide +kernel
theorem dX0_init_35 : decode cX0_init 35 = .ok (.putfield 29, 3) := by decide +kernel
theorem dX0_init_38 : decode cX0_init 38 = .ok (.iconst 0, 1) := by decide +kernel
theorem dX0_init_39 : decode cX0_init 39 = .ok (.istore_n 1, 1) := by decide +kernel
theorem dX0_init_40 : decode cX0_init 40 = .ok (.iload_n 1, 1) := by decide +kernel
theorem dX0_init_41 : decode cX0_init 41 = .ok (.sipush 768, 3) := by decide +kernel
theorem dX0_init_44 : decode cX0_init 44 = .ok (.if_icmp .ge 18, 3) := by decide +kernel
theorem dX0_init_47 : decode cX0_init 47 = .ok (.aload_n 0, 1) := by decide +kernel
theorem dX0_init_48 : decode cX0_init 48 = .ok (.getfield 11, 3) := by decide +kernel
theorem dX0_init_51 : decode cX0_init 51 = .ok (.iload_n 1, 1) := by decide +kernel
theorem dX0_init_52 : decode cX0_init 52 = .ok (.sipush 255, 3) := by decide +kernel
theorem dX0_init_55 : decode cX0_init 55 = .ok (.iastore, 1) := by decide +kernel
theorem dX0_init_56 : decode cX0_init 56 = .ok (.iinc 1 1, 3) := by decide +kernel
theorem dX0_init_59 : decode cX0_init 59 = .ok (.goto (-19), 3) := by decide +kernel
theorem dX0_init_62 : decode cX0_init 62 = .ok (.return_, 1) := by decide +kernel
theorem dX0_at_0 : decode cX0_at 0 = .ok (.iload_n 1, 1) := by decide +kernel
theorem dX0_at_1 : decode cX0_at 1 = .ok (.ifCond .lt 19, 3) := by decide +kernel
theorem dX0_at_4 : decode cX0_at 4 = .ok (.iload_n 1, 1) := by decide +kernel
theorem dX0_at_5 : decode cX0_at 5 = .ok (.sipush 768, 3) := by decide +kernel
theorem dX0_at_8 : decode cX0_at 8 = .ok (.if_icmp .ge 12, 3) := by decide +kernel
theorem dX0_at_11 : decode cX0_at 11 = .ok (.aload_n 0, 1) := by decide +kernel
theorem dX0_at_12 : decode cX0_at 12 = .ok (.getfield 11, 3) := by decide +kernel
theorem dX0_at_15 : decode cX0_at 15 = .ok (.iload_n 1, 1) := by decide +kernel
theorem dX0_at_16 : decode cX0_at 16 = .ok (.iaload, 1) := by decide +kernel
theorem dX0_at_17 : decode cX0_at 17 = .ok (.goto 4, 3) := by decide +kernel
theorem dX0_at_20 : decode cX0_at 20 = .ok (.iconst (-1), 1) := by decide +kernel
theorem dX0_at_21 : decode cX0_at 21 = .ok (.ireturn, 1) := by decide +kernel
theorem dX0_setCrash_0 : decode cX0_setCrash 0 = .ok (.aload_n 0, 1) := by decide +kernel
theorem dX0_setCrash_1 : decode cX0_setCrash 1 = .ok (.iload_n 1, 1) := by decide +kernel
theorem dX0_setCrash_2 : decode cX0_setCrash 2 = .ok (.ifCond .lt 7, 3) := by decide +kernel
theorem dX0_setCrash_5 : decode cX0_setCrash 5 = .ok (.iconst 1, 1) := by decide +kernel
theorem dX0_setCrash_6 : decode cX0_setCrash 6 = .ok (.goto 4, 3) := by decide +kernel
theorem dX0_setCrash_9 : decode cX0_setCrash 9 = .ok (.iconst 0, 1) := by decide +kernel
theorem dX0_setCrash_10 : decode cX0_setCrash 10 = .ok (.putfield 23, 3) := by decide +kernel
theorem dX0_setCrash_13 : decode cX0_setCrash 13 = .ok (.aload_n 0, 1) := by decide +kernel
theorem dX0_setCrash_14 : decode cX0_setCrash 14 = .ok (.iload_n 1, 1) := by decide +kernel
theorem dX0_setCrash_15 : decode cX0_setCrash 15 = .ok (.putfield 26, 3) := by decide +kernel
theorem dX0_setCrash_18 : decode cX0_setCrash 18 = .ok (.aload_n 0, 1) := by decide +kernel
theorem dX0_setCrash_19 : decode cX0_setCrash 19 = .ok (.iload_n 2, 1) := by decide +kernel
theorem dX0_setCrash_20 : decode cX0_setCrash 20 = .ok (.putfield 29, 3) := by decide +kernel
theorem dX0_setCrash_23 : decode cX0_setCrash 23 = .ok (.return_, 1) := by decide +kernel
set_option maxRecDepth 20000 in
theorem ggX0_erase_X0_tearNextAct : GoodIn wsX0_erase wsX0_tearNextAct := goodIn_r _ [8, 9, 10, 11, 1, 12, 13, 14, 15, 16, 17] (by decide +kernel) (by decide +kernel)
set_option maxRecDepth 20000 in
theorem gX0_erase_X0_tearNextAct : GoodIn wsX0_erase (wsV RX0 32 RX0 yX0_tearNextAct wsX0_tearNextAct) := goodIn_app (goodIn_of _ (by decide +kernel)) ggX0_erase_X0_tearNextAct
theorem dX0_erase_0 : decode cX0_erase 0 = .ok (.aload_n 0, 1) := by decide +kernel
theorem dX0_erase_1 : decode cX0_erase 1 = .ok (.getfield 15, 3) := by decide +kernel
theorem dX0_erase_4 : decode cX0_erase 4 = .ok (.ifCond .eq 17, 3) := by decide +kernel
theorem dX0_erase_7 : decode cX0_erase 7 = .ok (.iload_n 1, 1) := by decide +kernel
theorem dX0_erase_8 : decode cX0_erase 8 = .ok (.ifCond .lt 13, 3) := by decide +kernel
theorem dX0_erase_11 : decode cX0_erase 11 = .ok (.iload_n 1, 1) := by decide +kernel
theorem dX0_erase_12 : decode cX0_erase 12 = .ok (.bipush 32, 2) := by decide +kernel
theorem dX0_erase_14 : decode cX0_erase 14 = .ok (.imul, 1) := by decide +kernel
theorem dX0_erase_15 : decode cX0_erase 15 = .ok (.sipush 768, 3) := by decide +kernel
theorem dX0_erase_18 : decode cX0_erase 18 = .ok (.if_icmp .lt 4, 3) := by decide +kernel
theorem dX0_erase_21 : decode cX0_erase 21 = .ok (.return_, 1) := by decide +kernel
theorem dX0_erase_22 : decode cX0_erase 22 = .ok (.aload_n 0, 1) := by decide +kernel
theorem dX0_erase_23 : decode cX0_erase 23 = .ok (.invokevirtual 32, 3) := by decide +kernel
theorem dX0_erase_26 : decode cX0_erase 26 = .ok (.ifCond .eq 13, 3) := by decide +kernel
theorem dX0_erase_29 : decode cX0_erase 29 = .ok (.aload_n 0, 1) := by decide +kernel
theorem dX0_erase_30 : decode cX0_erase 30 = .ok (.getfield 29, 3) := by decide +kernel
theorem dX0_erase_33 : decode cX0_erase 33 = .ok (.bipush 32, 2) := by decide +kernel
theorem dX0_erase_35 : decode cX0_erase 35 = .ok (.irem, 1) := by decide +kernel
theorem dX0_erase_36 : decode cX0_erase 36 = .ok (.goto 5, 3) := by decide +kernel
theorem dX0_erase_39 : decode cX0_erase 39 = .ok (.bipush 32, 2) := by decide +kernel
theorem dX0_erase_41 : decode cX0_erase 41 = .ok (.istore_n 2, 1) := by decide +kernel
theorem dX0_erase_42 : decode cX0_erase 42 = .ok (.iconst 0, 1) := by decide +kernel
theorem dX0_erase_43 : decode cX0_erase 43 = .ok (.istore_n 3, 1) := by decide +kernel
theorem dX0_erase_44 : decode cX0_erase 44 = .ok (.iload_n 3, 1) := by decide +kernel
theorem dX0_erase_45 : decode cX0_erase 45 = .ok (.iload_n 2, 1) := by decide +kernel
theorem dX0_erase_46 : decode cX0_erase 46 = .ok (.if_icmp .ge 23, 3) := by decide +kernel
theorem dX0_erase_49 : decode cX0_erase 49 = .ok (.aload_n 0, 1) := by decide +kernel
theorem dX0_erase_50 : decode cX0_erase 50 = .ok (.getfield 11, 3) := by decide +kernel
theorem dX0_erase_53 : decode cX0_erase 53 = .ok (.iload_n 1, 1) := by decide +kernel
theorem dX0_erase_54 : decode cX0_erase 54 = .ok (.bipush 32, 2) := by decide +kernel
theorem dX0_erase_56 : decode cX0_erase 56 = .ok (.imul, 1) := by decide +kernel
theorem dX0_erase_57 : decode cX0_erase 57 = .ok (.iload_n 3, 1) := by decide +kernel
theorem dX0_erase_58 : decode cX0_erase 58 = .ok (.iadd, 1) := by decide +kernel
theorem dX0_erase_59 : decode cX0_erase 59 = .ok (.sipush 255, 3) := by decide +kernel
theorem dX0_erase_62 : decode cX0_erase 62 = .ok (.iastore, 1) := by decide +kernel
theorem dX0_erase_63 : decode cX0_erase 63 = .ok (.iinc 3 1, 3) := by decide +kernel
theorem dX0_erase_66 : decode cX0_erase 66 = .ok (.goto (-22), 3) := by decide +kernel
theorem dX0_erase_69 : decode cX0_erase 69 = .ok (.return_, 1) := by decide +kernel
set_option maxRecDepth 20000 in
theorem ggX0_program_X0_tearNextAct : GoodIn wsX0_program wsX0_tearNextAct := goodIn_r _ [8, 9, 10, 11, 1, 12, 13, 14, 15, 16, 17] (by decide +kernel) (by decide +kernel)
set_option maxRecDepth 20000 in
theorem gX0_program_X0_tearNextAct : GoodIn wsX0_program (wsV RX0 32 RX0 yX0_tearNextAct wsX0_tearNextAct) := goodIn_app (goodIn_of _ (by decide +kernel)) ggX0_program_X0_tearNextAct
theorem dX0_program_0 : decode cX0_program 0 = .ok (.aload_n 0, 1) := by decide +kernel
theorem dX0_program_1 : decode cX0_program 1 = .ok (.getfield 15, 3) := by decide +kernel
theorem dX0_program_4 : decode cX0_program 4 = .ok (.ifCond .eq 14, 3) := by decide +kernel
theorem dX0_program_7 : decode cX0_program 7 = .ok (.iload_n 1, 1) := by decide +kernel
theorem dX0_program_8 : decode cX0_program 8 = .ok (.ifCond .lt 10, 3) := by decide +kernel
theorem dX0_program_11 : decode cX0_program 11 = .ok (.iload_n 1, 1) := by decide +kernel
theorem dX0_program_12 : decode cX0_program 12 = .ok (.sipush 768, 3) := by decide +kernel
theorem dX0_program_15 : decode cX0_program 15 = .ok (.if_icmp .lt 4, 3) := by decide +kernel
theorem dX0_program_18 : decode cX0_program 18 = .ok (.return_, 1) := by decide +kernel
theorem dX0_program_19 : decode cX0_program 19 = .ok (.aload_n 0, 1) := by decide +kernel
theorem dX0_program_20 : decode cX0_program 20 = .ok (.invokevirtual 32, 3) := by decide +kernel
theorem dX0_program_23 : decode cX0_program 23 = .ok (.ifCond .eq 12, 3) := by decide +kernel
theorem dX0_program_26 : decode cX0_program 26 = .ok (.iload_n 2, 1) := by decide +kernel
theorem dX0_program_27 : decode cX0_program 27 = .ok (.aload_n 0, 1) := by decide +kernel
theorem dX0_program_28 : decode cX0_program 28 = .ok (.getfield 29, 3) := by decide +kernel
theorem dX0_program_31 : decode cX0_program 31 = .ok (.ior, 1) := by decide +kernel
theorem dX0_program_32 : decode cX0_program 32 = .ok (.goto 4, 3) := by decide +kernel
theorem dX0_program_35 : decode cX0_program 35 = .ok (.iload_n 2, 1) := by decide +kernel
theorem dX0_program_36 : decode cX0_program 36 = .ok (.istore_n 3, 1) := by decide +kernel
theorem dX0_program_37 : decode cX0_program 37 = .ok (.aload_n 0, 1) := by decide +kernel
theorem dX0_program_38 : decode cX0_program 38 = .ok (.getfield 11, 3) := by decide +kernel
theorem dX0_program_41 : decode cX0_program 41 = .ok (.iload_n 1, 1) := by decide +kernel
theorem dX0_program_42 : decode cX0_program 42 = .ok (.aload_n 0, 1) := by decide +kernel
theorem dX0_program_43 : decode cX0_program 43 = .ok (.getfield 11, 3) := by decide +kernel
theorem dX0_program_46 : decode cX0_program 46 = .ok (.iload_n 1, 1) := by decide +kernel
theorem dX0_program_47 : decode cX0_program 47 = .ok (.iaload, 1) := by decide +kernel
theorem dX0_program_48 : decode cX0_program 48 = .ok (.iload_n 3, 1) := by decide +kernel
theorem dX0_program_49 : decode cX0_program 49 = .ok (.iand, 1) := by decide +kernel
theorem dX0_program_50 : decode cX0_program 50 = .ok (.iastore, 1) := by decide +kernel
theorem dX0_program_51 : decode cX0_program 51 = .ok (.return_, 1) := by decide +kernel
theorem dX0_tearNextAct_0 : decode cX0_tearNextAct 0 = .ok (.aload_n 0, 1) := by decide +kernel
theorem dX0_tearNextAct_1 : decode cX0_tearNextAct 1 = .ok (.dup, 1) := by decide +kernel
theorem dX0_tearNextAct_2 : decode cX0_tearNextAct 2 = .ok (.getfield 19, 3) := by decide +kernel
theorem dX0_tearNextAct_5 : decode cX0_tearNextAct 5 = .ok (.iconst 1, 1) := by decide +kernel
theorem dX0_tearNextAct_6 : decode cX0_tearNextAct 6 = .ok (.iadd, 1) := by decide +kernel
theorem dX0_tearNextAct_7 : decode cX0_tearNextAct 7 = .ok (.putfield 19, 3) := by decide +kernel
theorem dX0_tearNextAct_10 : decode cX0_tearNextAct 10 = .ok (.aload_n 0, 1) := by decide +kernel
theorem dX0_tearNextAct_11 : decode cX0_tearNextAct 11 = .ok (.getfield 23, 3) := by decide +kernel
theorem dX0_tearNextAct_14 : decode cX0_tearNextAct 14 = .ok (.ifCond .ne 5, 3) := by decide +kernel
theorem dX0_tearNextAct_17 : decode cX0_tearNextAct 17 = .ok (.iconst 0, 1) := by decide +kernel
theorem dX0_tearNextAct_18 : decode cX0_tearNextAct 18 = .ok (.ireturn, 1) := by decide +kernel
theorem dX0_tearNextAct_19 : decode cX0_tearNextAct 19 = .ok (.aload_n 0, 1) := by decide +kernel
theorem dX0_tearNextAct_20 : decode cX0_tearNextAct 20 = .ok (.getfield 26, 3) := by decide +kernel
theorem dX0_tearNextAct_23 : decode cX0_tearNextAct 23 = .ok (.ifCond .le 15, 3) := by decide +kernel
theorem dX0_tearNextAct_26 : decode cX0_tearNextAct 26 = .ok (.aload_n 0, 1) := by decide +kernel
theorem dX0_tearNextAct_27 : decode cX0_tearNextAct 27 = .ok (.dup, 1) := by decide +kernel
theorem dX0_tearNextAct_28 : decode cX0_tearNextAct 28 = .ok (.getfield 26, 3) := by decide +kernel
theorem dX0_tearNextAct_31 : decode cX0_tearNextAct 31 = .ok (.iconst 1, 1) := by decide +kernel
theorem dX0_tearNextAct_32 : decode cX0_tearNextAct 32 = .ok (.isub, 1) := by decide +kernel
theorem dX0_tearNextAct_33 : decode cX0_tearNextAct 33 = .ok (.putfield 26, 3) := by decide +kernel
theorem dX0_tearNextAct_36 : decode cX0_tearNextAct 36 = .ok (.iconst 0, 1) := by decide +kernel
theorem dX0_tearNextAct_37 : decode cX0_tearNextAct 37 = .ok (.ireturn, 1) := by decide +kernel
theorem dX0_tearNextAct_38 : decode cX0_tearNextAct 38 = .ok (.aload_n 0, 1) := by decide +kernel
theorem dX0_tearNextAct_39 : decode cX0_tearNextAct 39 = .ok (.iconst 0, 1) := by decide +kernel
theorem dX0_tearNextAct_40 : decode cX0_tearNextAct 40 = .ok (.putfield 23, 3) := by decide +kernel
theorem dX0_tearNextAct_43 : decode cX0_tearNextAct 43 = .ok (.aload_n 0, 1) := by decide +kernel
theorem dX0_tearNextAct_44 : decode cX0_tearNextAct 44 = .ok (.iconst 0, 1) := by decide +kernel
theorem dX0_tearNextAct_45 : decode cX0_tearNextAct 45 = .ok (.putfield 15, 3) := by decide +kernel
theorem dX0_tearNextAct_48 : decode cX0_tearNextAct 48 = .ok (.iconst 1, 1) := by decide +kernel
theorem dX0_tearNextAct_49 : decode cX0_tearNextAct 49 = .ok (.ireturn, 1) := by decide +kernel
set_option maxRecDepth 20000 in
theorem ggX0_programRow_X0_program : GoodIn wsX0_programRow wsX0_program := goodIn_r _ [5, 6, 7, 8, 9, 10, 11, 4, 12, 13, 14, 15, 16, 17, 18, 19, 20, 21] (by decide +kernel) (by decide +kernel)
set_option maxRecDepth 20000 in
theorem gX0_programRow_X0_program : GoodIn wsX0_programRow (wsV RX0 36 RX0 yX0_program wsX0_program) := goodIn_app (goodIn_of _ (by decide +kernel)) ggX0_programRow_X0_program
theorem dX0_programRow_0 : decode cX0_programRow 0 = .ok (.iconst 0, 1) := by decide +kernel
theorem dX0_programRow_1 : decode cX0_programRow 1 = .ok (.istore 4, 2) := by decide +kernel
theorem dX0_programRow_3 : decode cX0_programRow 3 = .ok (.iload 4, 2) := by decide +kernel
theorem dX0_programRow_5 : decode cX0_programRow 5 = .ok (.iload_n 3, 1) := by decide +kernel
theorem dX0_programRow_6 : decode cX0_programRow 6 = .ok (.if_icmp .ge 28, 3) := by decide +kernel
theorem dX0_programRow_9 : decode cX0_programRow 9 = .ok (.iload 4, 2) := by decide +kernel
theorem dX0_programRow_11 : decode cX0_programRow 11 = .ok (.aload_n 2, 1) := by decide +kernel
theorem dX0_programRow_12 : decode cX0_programRow 12 = .ok (.arraylength, 1) := by decide +kernel
theorem dX0_programRow_13 : decode cX0_programRow 13 = .ok (.if_icmp .ge 21, 3) := by decide +kernel
theorem dX0_programRow_16 : decode cX0_programRow 16 = .ok (.aload_n 0, 1) := by decide +kernel
theorem dX0_programRow_17 : decode cX0_programRow 17 = .ok (.iload_n 1, 1) := by decide +kernel
theorem dX0_programRow_18 : decode cX0_programRow 18 = .ok (.iload 4, 2) := by decide +kernel
theorem dX0_programRow_20 : decode cX0_programRow 20 = .ok (.iadd, 1) := by decide +kernel
theorem dX0_programRow_21 : decode cX0_programRow 21 = .ok (.aload_n 2, 1) := by decide +kernel
theorem dX0_programRow_22 : decode cX0_programRow 22 = .ok (.iload 4, 2) := by decide +kernel
theorem dX0_programRow_24 : decode cX0_programRow 24 = .ok (.iaload, 1) := by decide +kernel
theorem dX0_programRow_25 : decode cX0_programRow 25 = .ok (.invokevirtual 36, 3) := by decide +kernel
theorem dX0_programRow_28 : decode cX0_programRow 28 = .ok (.iinc 4 1, 3) := by decide +kernel
theorem dX0_programRow_31 : decode cX0_programRow 31 = .ok (.goto (-28), 3) := by decide +kernel
theorem dX0_programRow_34 : decode cX0_programRow 34 = .ok (.return_, 1) := by decide +kernel
set_option maxRecDepth 20000 in
theorem ggX0_programWord_X5_byteOfWord : GoodIn wsX0_programWord wsX5_byteOfWord := goodIn_r _ [3] (by decide +kernel) (by decide +kernel)
set_option maxRecDepth 20000 in
theorem gX0_programWord_X5_byteOfWord_n40 : GoodIn wsX0_programWord (wsX5_byteOfWord) := ggX0_programWord_X5_byteOfWord
set_option maxRecDepth 20000 in
theorem ggX0_programWord_X0_program : GoodIn wsX0_programWord wsX0_program := goodIn_r _ [8, 9, 10, 11, 12, 13, 14, 7, 15, 16, 17, 18, 19, 20, 21, 22, 23, 24] (by decide +kernel) (by decide +kernel)
set_option maxRecDepth 20000 in
theorem gX0_programWord_X0_program : GoodIn wsX0_programWord (wsV RX0 36 RX0 yX0_program wsX0_program) := goodIn_app (goodIn_of _ (by decide +kernel)) ggX0_programWord_X0_program
theorem dX0_programWord_0 : decode cX0_programWord 0 = .ok (.iconst 0, 1) := by decide +kernel
theorem dX0_programWord_1 : decode cX0_programWord 1 = .ok (.istore_n 3, 1) := by decide +kernel
theorem dX0_programWord_2 : decode cX0_programWord 2 = .ok (.iload_n 3, 1) := by decide +kernel
theorem dX0_programWord_3 : decode cX0_programWord 3 = .ok (.iconst 4, 1) := by decide +kernel
theorem dX0_programWord_4 : decode cX0_programWord 4 = .ok (.if_icmp .ge 21, 3) := by decide +kernel
theorem dX0_programWord_7 : decode cX0_programWord 7 = .ok (.aload_n 0, 1) := by decide +kernel
theorem dX0_programWord_8 : decode cX0_programWord 8 = .ok (.iload_n 1, 1) := by decide +kernel
theorem dX0_programWord_9 : decode cX0_programWord 9 = .ok (.iload_n 3, 1) := by decide +kernel
theorem dX0_programWord_10 : decode cX0_programWord 10 = .ok (.iadd, 1) := by decide +kernel
theorem dX0_programWord_11 : decode cX0_programWord 11 = .ok (.iload_n 2, 1) := by decide +kernel
theorem dX0_programWord_12 : decode cX0_programWord 12 = .ok (.iload_n 3, 1) := by decide +kernel
theorem dX0_programWord_13 : decode cX0_programWord 13 = .ok (.invokestatic 40, 3) := by decide +kernel
theorem dX0_programWord_16 : decode cX0_programWord 16 = .ok (.invokevirtual 36, 3) := by decide +kernel
theorem dX0_programWord_19 : decode cX0_programWord 19 = .ok (.iinc 3 1, 3) := by decide +kernel
theorem dX0_programWord_22 : decode cX0_programWord 22 = .ok (.goto (-20), 3) := by decide +kernel
theorem dX0_programWord_25 : decode cX0_programWord 25 = .ok (.return_, 1) := by decide +kernel
set_option maxRecDepth 20000 in
theorem ggX0_programLowestBit_X0_at : GoodIn wsX0_programLowestBit wsX0_at := goodIn_r _ [5, 6, 20, 21, 22, 23, 24, 25] (by decide +kernel) (by decide +kernel)
set_option maxRecDepth 20000 in
theorem gX0_programLowestBit_X0_at : GoodIn wsX0_programLowestBit (wsV RX0 44 RX0 yX0_at wsX0_at) := goodIn_app (goodIn_of _ (by decide +kernel)) ggX0_programLowestBit_X0_at
set_option maxRecDepth 20000 in
theorem ggX0_programLowestBit_X0_program : GoodIn wsX0_programLowestBit wsX0_program := goodIn_r _ [10, 11, 12, 6, 13, 14, 15, 4, 16, 17, 18, 19, 20, 21, 22, 23, 24, 25] (by decide +kernel) (by decide +kernel)
set_option maxRecDepth 20000 in
theorem gX0_programLowestBit_X0_program : GoodIn wsX0_programLowestBit (wsV RX0 36 RX0 yX0_program wsX0_program) := goodIn_app (goodIn_of _ (by decide +kernel)) ggX0_programLowestBit_X0_program
theorem dX0_programLowestBit_0 : decode cX0_programLowestBit 0 = .ok (.aload_n 0, 1) := by decide +kernel
theorem dX0_programLowestBit_1 : decode cX0_programLowestBit 1 = .ok (.iload_n 1, 1) := by decide +kernel
theorem dX0_programLowestBit_2 : decode cX0_programLowestBit 2 = .ok (.invokevirtual 44, 3) := by decide +kernel
theorem dX0_programLowestBit_5 : decode cX0_programLowestBit 5 = .ok (.istore_n 2, 1) := by decide +kernel
theorem dX0_programLowestBit_6 : decode cX0_programLowestBit 6 = .ok (.aload_n 0, 1) := by decide +kernel
theorem dX0_programLowestBit_7 : decode cX0_programLowestBit 7 = .ok (.iload_n 1, 1) := by decide +kernel
theorem dX0_programLowestBit_8 : decode cX0_programLowestBit 8 = .ok (.iload_n 2, 1) := by decide +kernel
theorem dX0_programLowestBit_9 : decode cX0_programLowestBit 9 = .ok (.iload_n 2, 1) := by decide +kernel
theorem dX0_programLowestBit_10 : decode cX0_programLowestBit 10 = .ok (.iconst 1, 1) := by decide +kernel
theorem dX0_programLowestBit_11 : decode cX0_programLowestBit 11 = .ok (.isub, 1) := by decide +kernel
theorem dX0_programLowestBit_12 : decode cX0_programLowestBit 12 = .ok (.iand, 1) := by decide +kernel
theorem dX0_programLowestBit_13 : decode cX0_programLowestBit 13 = .ok (.invokevirtual 36, 3) := by decide +kernel
theorem dX0_programLowestBit_16 : decode cX0_programLowestBit 16 = .ok (.return_, 1) := by decide +kernel
set_option maxRecDepth 20000 in
theorem ggX0_word_X0_at : GoodIn wsX0_word wsX0_at := goodIn_r _ [5, 6, 7, 8, 9, 10, 11, 12] (by decide +kernel) (by decide +kernel)
set_option maxRecDepth 20000 in
theorem gX0_word_X0_at : GoodIn wsX0_word (wsV RX0 44 RX0 yX0_at wsX0_at) := goodIn_app (goodIn_of _ (by decide +kernel)) ggX0_word_X0_at
theorem dX0_word_0 : decode cX0_word 0 = .ok (.iconst 0, 1) := by decide +kernel
theorem dX0_word_1 : decode cX0_word 1 = .ok (.istore_n 2, 1) := by decide +kernel
theorem dX0_word_2 : decode cX0_word 2 = .ok (.iconst 0, 1) := by decide +kernel
theorem dX0_word_3 : decode cX0_word 3 = .ok (.istore_n 3, 1) := by decide +kernel
theorem dX0_word_4 : decode cX0_word 4 = .ok (.iload_n 3, 1) := by decide +kernel
theorem dX0_word_5 : decode cX0_word 5 = .ok (.iconst 4, 1) := by decide +kernel
theorem dX0_word_6 : decode cX0_word 6 = .ok (.if_icmp .ge 22, 3) := by decide +kernel
theorem dX0_word_9 : decode cX0_word 9 = .ok (.iload_n 2, 1) := by decide +kernel
theorem dX0_word_10 : decode cX0_word 10 = .ok (.bipush 8, 2) := by decide +kernel
theorem dX0_word_12 : decode cX0_word 12 = .ok (.ishl, 1) := by decide +kernel
theorem dX0_word_13 : decode cX0_word 13 = .ok (.aload_n 0, 1) := by decide +kernel
theorem dX0_word_14 : decode cX0_word 14 = .ok (.iload_n 1, 1) := by decide +kernel
theorem dX0_word_15 : decode cX0_word 15 = .ok (.iload_n 3, 1) := by decide +kernel
theorem dX0_word_16 : decode cX0_word 16 = .ok (.iadd, 1) := by decide +kernel
theorem dX0_word_17 : decode cX0_word 17 = .ok (.invokevirtual 44, 3) := by decide +kernel
theorem dX0_word_20 : decode cX0_word 20 = .ok (.ior, 1) := by decide +kernel
theorem dX0_word_21 : decode cX0_word 21 = .ok (.istore_n 2, 1) := by decide +kernel
theorem dX0_word_22 : decode cX0_word 22 = .ok (.iinc 3 1, 3) := by decide +kernel
theorem dX0_word_25 : decode cX0_word 25 = .ok (.goto (-21), 3) := by decide +kernel
theorem dX0_word_28 : decode cX0_word 28 = .ok (.iload_n 2, 1) := by decide +kernel
theorem dX0_word_29 : decode cX0_word 29 = .ok (.ireturn, 1) := by decide +kernel
set_option maxRecDepth 20000 in
theorem ggX0_digestOf_X0_at : GoodIn wsX0_digestOf wsX0_at := goodIn_r _ [5, 6, 11, 12, 13, 14, 15, 16] (by decide +kernel) (by decide +kernel)
set_option maxRecDepth 20000 in
theorem gX0_digestOf_X0_at : GoodIn wsX0_digestOf (wsV RX0 44 RX0 yX0_at wsX0_at) := goodIn_app (goodIn_of _ (by decide +kernel)) ggX0_digestOf_X0_at
set_option maxRecDepth 20000 in
theorem ggX0_digestOf_X5_digestByte : GoodIn wsX0_digestOf wsX5_digestByte := goodIn_r _ [9, 10] (by decide +kernel) (by decide +kernel)
set_option maxRecDepth 20000 in
theorem gX0_digestOf_X5_digestByte_n48 : GoodIn wsX0_digestOf (wsX5_digestByte) := ggX0_digestOf_X5_digestByte
theorem dX0_digestOf_0 : decode cX0_digestOf 0 = .ok (.iconst 0, 1) := by decide +kernel
theorem dX0_digestOf_1 : decode cX0_digestOf 1 = .ok (.istore_n 3, 1) := by decide +kernel
theorem dX0_digestOf_2 : decode cX0_digestOf 2 = .ok (.iconst 0, 1) := by decide +kernel
theorem dX0_digestOf_3 : decode cX0_digestOf 3 = .ok (.istore 4, 2) := by decide +kernel
theorem dX0_digestOf_5 : decode cX0_digestOf 5 = .ok (.iload 4, 2) := by decide +kernel
theorem dX0_digestOf_7 : decode cX0_digestOf 7 = .ok (.iload_n 2, 1) := by decide +kernel
theorem dX0_digestOf_8 : decode cX0_digestOf 8 = .ok (.if_icmp .ge 22, 3) := by decide +kernel
theorem dX0_digestOf_11 : decode cX0_digestOf 11 = .ok (.iload_n 3, 1) := by decide +kernel
theorem dX0_digestOf_12 : decode cX0_digestOf 12 = .ok (.aload_n 0, 1) := by decide +kernel
theorem dX0_digestOf_13 : decode cX0_digestOf 13 = .ok (.iload_n 1, 1) := by decide +kernel
theorem dX0_digestOf_14 : decode cX0_digestOf 14 = .ok (.iload 4, 2) := by decide +kernel
theorem dX0_digestOf_16 : decode cX0_digestOf 16 = .ok (.iadd, 1) := by decide +kernel
theorem dX0_digestOf_17 : decode cX0_digestOf 17 = .ok (.invokevirtual 44, 3) := by decide +kernel
theorem dX0_digestOf_20 : decode cX0_digestOf 20 = .ok (.invokestatic 48, 3) := by decide +kernel
theorem dX0_digestOf_23 : decode cX0_digestOf 23 = .ok (.istore_n 3, 1) := by decide +kernel
theorem dX0_digestOf_24 : decode cX0_digestOf 24 = .ok (.iinc 4 1, 3) := by decide +kernel
theorem dX0_digestOf_27 : decode cX0_digestOf 27 = .ok (.goto (-22), 3) := by decide +kernel
theorem dX0_digestOf_30 : decode cX0_digestOf 30 = .ok (.iload_n 3, 1) := by decide +kernel
theorem dX0_digestOf_31 : decode cX0_digestOf 31 = .ok (.ireturn, 1) := by decide +kernel
theorem dX1_init_0 : decode cX1_init 0 = .ok (.aload_n 0, 1) := by decide +kernel
theorem dX1_init_1 : decode cX1_init 1 = .ok (.invokespecial 3, 3) := by decide +kernel
theorem dX1_init_4 : decode cX1_init 4 = .ok (.aload_n 0, 1) := by decide +kernel
theorem dX1_init_5 : decode cX1_init 5 = .ok (.bipush 20, 2) := by decide +kernel
theorem dX1_init_7 : decode cX1_init 7 = .ok (.newarray .int, 2) := by decide +kernel
theorem dX1_init_9 : decode cX1_init 9 = .ok (.putfield 11, 3) := by decide +kernel
theorem dX1_init_12 : decode cX1_init 12 = .ok (.return_, 1) := by decide +kernel
theorem dX1_readTape_0 : decode cX1_readTape 0 = .ok (.aload_n 1, 1) := by decide +kernel
theorem dX1_readTape_1 : decode cX1_readTape 1 = .ok (.getfield 15, 3) := by decide +kernel
theorem dX1_readTape_4 : decode cX1_readTape 4 = .ok (.iconst 0, 1) := by decide +kernel
theorem dX1_readTape_5 : decode cX1_readTape 5 = .ok (.aload_n 0, 1) := by decide +kernel
theorem dX1_readTape_6 : decode cX1_readTape 6 = .ok (.getfield 11, 3) := by decide +kernel
theorem dX1_readTape_9 : decode cX1_readTape 9 = .ok (.iconst 0, 1) := by decide +kernel
theorem dX1_readTape_10 : decode cX1_readTape 10 = .ok (.bipush 20, 2) := by decide +kernel
theorem dX1_readTape_12 : decode cX1_readTape 12 = .ok (.invokestatic 18, 3) := by decide +kernel
theorem dX1_readTape_15 : decode cX1_readTape 15 = .ok (.return_, 1) := by decide +kernel
set_option maxRecDepth 20000 in
theorem ggX1_readPage_X0_at : GoodIn wsX1_readPage wsX0_at := goodIn_r _ [6, 7, 9, 10, 11, 12, 13, 14] (by decide +kernel) (by decide +kernel)
set_option maxRecDepth 20000 in
theorem gX1_readPage_X0_at : GoodIn wsX1_readPage (wsV RX1 24 RX0 yX0_at wsX0_at) := goodIn_app (goodIn_of _ (by decide +kernel)) ggX1_readPage_X0_at
theorem dX1_readPage_0 : decode cX1_readPage 0 = .ok (.iconst 0, 1) := by decide +kernel
theorem dX1_readPage_1 : decode cX1_readPage 1 = .ok (.istore_n 2, 1) := by decide +kernel
theorem dX1_readPage_2 : decode cX1_readPage 2 = .ok (.iload_n 2, 1) := by decide +kernel
theorem dX1_readPage_3 : decode cX1_readPage 3 = .ok (.bipush 20, 2) := by decide +kernel
theorem dX1_readPage_5 : decode cX1_readPage 5 = .ok (.if_icmp .ge 24, 3) := by decide +kernel
theorem dX1_readPage_8 : decode cX1_readPage 8 = .ok (.aload_n 0, 1) := by decide +kernel
theorem dX1_readPage_9 : decode cX1_readPage 9 = .ok (.getfield 11, 3) := by decide +kernel
theorem dX1_readPage_12 : decode cX1_readPage 12 = .ok (.iload_n 2, 1) := by decide +kernel
theorem dX1_readPage_13 : decode cX1_readPage 13 = .ok (.aload_n 1, 1) := by decide +kernel
theorem dX1_readPage_14 : decode cX1_readPage 14 = .ok (.sipush 640, 3) := by decide +kernel
theorem dX1_readPage_17 : decode cX1_readPage 17 = .ok (.iload_n 2, 1) := by decide +kernel
theorem dX1_readPage_18 : decode cX1_readPage 18 = .ok (.iadd, 1) := by decide +kernel
theorem dX1_readPage_19 : decode cX1_readPage 19 = .ok (.invokevirtual 24, 3) := by decide +kernel
theorem dX1_readPage_22 : decode cX1_readPage 22 = .ok (.iastore, 1) := by decide +kernel
theorem dX1_readPage_23 : decode cX1_readPage 23 = .ok (.iinc 2 1, 3) := by decide +kernel
theorem dX1_readPage_26 : decode cX1_readPage 26 = .ok (.goto (-24), 3) := by decide +kernel
theorem dX1_readPage_29 : decode cX1_readPage 29 = .ok (.return_, 1) := by decide +kernel
set_option maxRecDepth 20000 in
theorem ggX1_standsIn_X0_at : GoodIn wsX1_standsIn wsX0_at := goodIn_r _ [6, 7, 9, 10, 11, 12, 13, 14] (by decide +kernel) (by decide +kernel)
set_option maxRecDepth 20000 in
theorem gX1_standsIn_X0_at : GoodIn wsX1_standsIn (wsV RX1 24 RX0 yX0_at wsX0_at) := goodIn_app (goodIn_of _ (by decide +kernel)) ggX1_standsIn_X0_at
theorem dX1_standsIn_0 : decode cX1_standsIn 0 = .ok (.iconst 0, 1) := by decide +kernel
theorem dX1_standsIn_1 : decode cX1_standsIn 1 = .ok (.istore_n 2, 1) := by decide +kernel
theorem dX1_standsIn_2 : decode cX1_standsIn 2 = .ok (.iload_n 2, 1) := by decide +kernel
theorem dX1_standsIn_3 : decode cX1_standsIn 3 = .ok (.bipush 20, 2) := by decide +kernel
theorem dX1_standsIn_5 : decode cX1_standsIn 5 = .ok (.if_icmp .ge 29, 3) := by decide +kernel
theorem dX1_standsIn_8 : decode cX1_standsIn 8 = .ok (.aload_n 0, 1) := by decide +kernel
theorem dX1_standsIn_9 : decode cX1_standsIn 9 = .ok (.getfield 11, 3) := by decide +kernel
theorem dX1_standsIn_12 : decode cX1_standsIn 12 = .ok (.iload_n 2, 1) := by decide +kernel
theorem dX1_standsIn_13 : decode cX1_standsIn 13 = .ok (.iaload, 1) := by decide +kernel
theorem dX1_standsIn_14 : decode cX1_standsIn 14 = .ok (.aload_n 1, 1) := by decide +kernel
theorem dX1_standsIn_15 : decode cX1_standsIn 15 = .ok (.sipush 640, 3) := by decide +kernel
theorem dX1_standsIn_18 : decode cX1_standsIn 18 = .ok (.iload_n 2, 1) := by decide +kernel
theorem dX1_standsIn_19 : decode cX1_standsIn 19 = .ok (.iadd, 1) := by decide +kernel
theorem dX1_standsIn_20 : decode cX1_standsIn 20 = .ok (.invokevirtual 24, 3) := by decide +kernel
theorem dX1_standsIn_23 : decode cX1_standsIn 23 = .ok (.if_icmp .eq 5, 3) := by decide +kernel
theorem dX1_standsIn_26 : decode cX1_standsIn 26 = .ok (.iconst 0, 1) := by decide +kernel
theorem dX1_standsIn_27 : decode cX1_standsIn 27 = .ok (.ireturn, 1) := by decide +kernel
theorem dX1_standsIn_28 : decode cX1_standsIn 28 = .ok (.iinc 2 1, 3) := by decide +kernel
theorem dX1_standsIn_31 : decode cX1_standsIn 31 = .ok (.goto (-29), 3) := by decide +kernel
theorem dX1_standsIn_34 : decode cX1_standsIn 34 = .ok (.iconst 1, 1) := by decide +kernel
theorem dX1_standsIn_35 : decode cX1_standsIn 35 = .ok (.ireturn, 1) := by decide +kernel
theorem dX1_vendor_0 : decode cX1_vendor 0 = .ok (.aload_n 0, 1) := by decide +kernel
theorem dX1_vendor_1 : decode cX1_vendor 1 = .ok (.getfield 11, 3) := by decide +kernel
theorem dX1_vendor_4 : decode cX1_vendor 4 = .ok (.iconst 0, 1) := by decide +kernel
theorem dX1_vendor_5 : decode cX1_vendor 5 = .ok (.iaload, 1) := by decide +kernel
theorem dX1_vendor_6 : decode cX1_vendor 6 = .ok (.ireturn, 1) := by decide +kernel
theorem dX1_sequence_0 : decode cX1_sequence 0 = .ok (.aload_n 0, 1) := by decide +kernel
theorem dX1_sequence_1 : decode cX1_sequence 1 = .ok (.getfield 11, 3) := by decide +kernel
theorem dX1_sequence_4 : decode cX1_sequence 4 = .ok (.iconst 1, 1) := by decide +kernel
theorem dX1_sequence_5 : decode cX1_sequence 5 = .ok (.iaload, 1) := by decide +kernel
theorem dX1_sequence_6 : decode cX1_sequence 6 = .ok (.ireturn, 1) := by decide +kernel
set_option maxRecDepth 20000 in
theorem ggX1_baseDigest_X1_word : GoodIn wsX1_baseDigest wsX1_word := goodIn_r _ [5, 6, 7] (by decide +kernel) (by decide +kernel)
set_option maxRecDepth 20000 in
theorem gX1_baseDigest_X1_word : GoodIn wsX1_baseDigest (wsV RX1 30 RX1 yX1_word wsX1_word) := goodIn_app (goodIn_of _ (by decide +kernel)) ggX1_baseDigest_X1_word
theorem dX1_baseDigest_0 : decode cX1_baseDigest 0 = .ok (.aload_n 0, 1) := by decide +kernel
theorem dX1_baseDigest_1 : decode cX1_baseDigest 1 = .ok (.iconst 2, 1) := by decide +kernel
theorem dX1_baseDigest_2 : decode cX1_baseDigest 2 = .ok (.invokevirtual 30, 3) := by decide +kernel
theorem dX1_baseDigest_5 : decode cX1_baseDigest 5 = .ok (.ireturn, 1) := by decide +kernel
theorem dX1_payloadLength_0 : decode cX1_payloadLength 0 = .ok (.aload_n 0, 1) := by decide +kernel
theorem dX1_payloadLength_1 : decode cX1_payloadLength 1 = .ok (.getfield 11, 3) := by decide +kernel
theorem dX1_payloadLength_4 : decode cX1_payloadLength 4 = .ok (.bipush 6, 2) := by decide +kernel
theorem dX1_payloadLength_6 : decode cX1_payloadLength 6 = .ok (.iaload, 1) := by decide +kernel
theorem dX1_payloadLength_7 : decode cX1_payloadLength 7 = .ok (.ireturn, 1) := by decide +kernel
set_option maxRecDepth 20000 in
theorem ggX1_payloadDigest_X1_word : GoodIn wsX1_payloadDigest wsX1_word := goodIn_r _ [5, 6, 7] (by decide +kernel) (by decide +kernel)
set_option maxRecDepth 20000 in
theorem gX1_payloadDigest_X1_word : GoodIn wsX1_payloadDigest (wsV RX1 30 RX1 yX1_word wsX1_word) := goodIn_app (goodIn_of _ (by decide +kernel)) ggX1_payloadDigest_X1_word
theorem dX1_payloadDigest_0 : decode cX1_payloadDigest 0 = .ok (.aload_n 0, 1) := by decide +kernel
theorem dX1_payloadDigest_1 : decode cX1_payloadDigest 1 = .ok (.bipush 7, 2) := by decide +kernel
theorem dX1_payloadDigest_3 : decode cX1_payloadDigest 3 = .ok (.invokevirtual 30, 3) := by decide +kernel
theorem dX1_payloadDigest_6 : decode cX1_payloadDigest 6 = .ok (.ireturn, 1) := by decide +kernel
theorem dX1_imageLength_0 : decode cX1_imageLength 0 = .ok (.aload_n 0, 1) := by decide +kernel
theorem dX1_imageLength_1 : decode cX1_imageLength 1 = .ok (.getfield 11, 3) := by decide +kernel
theorem dX1_imageLength_4 : decode cX1_imageLength 4 = .ok (.bipush 11, 2) := by decide +kernel
theorem dX1_imageLength_6 : decode cX1_imageLength 6 = .ok (.iaload, 1) := by decide +kernel
theorem dX1_imageLength_7 : decode cX1_imageLength 7 = .ok (.ireturn, 1) := by decide +kernel
set_option maxRecDepth 20000 in
theorem ggX1_imageDigest_X1_word : GoodIn wsX1_imageDigest wsX1_word := goodIn_r _ [5, 6, 7] (by decide +kernel) (by decide +kernel)
set_option maxRecDepth 20000 in
theorem gX1_imageDigest_X1_word : GoodIn wsX1_imageDigest (wsV RX1 30 RX1 yX1_word wsX1_word) := goodIn_app (goodIn_of _ (by decide +kernel)) ggX1_imageDigest_X1_word
theorem dX1_imageDigest_0 : decode cX1_imageDigest 0 = .ok (.aload_n 0, 1) := by decide +kernel
theorem dX1_imageDigest_1 : decode cX1_imageDigest 1 = .ok (.bipush 12, 2) := by decide +kernel
theorem dX1_imageDigest_3 : decode cX1_imageDigest 3 = .ok (.invokevirtual 30, 3) := by decide +kernel
theorem dX1_imageDigest_6 : decode cX1_imageDigest 6 = .ok (.ireturn, 1) := by decide +kernel
set_option maxRecDepth 20000 in
theorem ggX1_isInRange_X1_sequence : GoodIn wsX1_isInRange wsX1_sequence := goodIn_r _ [5, 6, 20] (by decide +kernel) (by decide +kernel)
set_option maxRecDepth 20000 in
theorem gX1_isInRange_X1_sequence : GoodIn wsX1_isInRange (wsV RX1 33 RX1 yX1_sequence wsX1_sequence) := goodIn_app (goodIn_of _ (by decide +kernel)) ggX1_isInRange_X1_sequence
set_option maxRecDepth 20000 in
theorem ggX1_isInRange_X5_isSequence : GoodIn wsX1_isInRange wsX5_isSequence := goodIn_r _ [9] (by decide +kernel) (by decide +kernel)
set_option maxRecDepth 20000 in
theorem gX1_isInRange_X5_isSequence_n37 : GoodIn wsX1_isInRange (wsX5_isSequence) := ggX1_isInRange_X5_isSequence
set_option maxRecDepth 20000 in
theorem ggX1_isInRange_X1_payloadLength : GoodIn wsX1_isInRange wsX1_payloadLength := goodIn_r _ [13, 6, 20] (by decide +kernel) (by decide +kernel)
set_option maxRecDepth 20000 in
theorem gX1_isInRange_X1_payloadLength : GoodIn wsX1_isInRange (wsV RX1 41 RX1 yX1_payloadLength wsX1_payloadLength) := goodIn_app (goodIn_of _ (by decide +kernel)) ggX1_isInRange_X1_payloadLength
set_option maxRecDepth 20000 in
theorem ggX1_isInRange_X5_isLength : GoodIn wsX1_isInRange wsX5_isLength := goodIn_r _ [15] (by decide +kernel) (by decide +kernel)
set_option maxRecDepth 20000 in
theorem gX1_isInRange_X5_isLength_n44 : GoodIn wsX1_isInRange (wsX5_isLength) := ggX1_isInRange_X5_isLength
set_option maxRecDepth 20000 in
theorem ggX1_isInRange_X1_imageLength : GoodIn wsX1_isInRange wsX1_imageLength := goodIn_r _ [19, 6, 20] (by decide +kernel) (by decide +kernel)
set_option maxRecDepth 20000 in
theorem gX1_isInRange_X1_imageLength : GoodIn wsX1_isInRange (wsV RX1 47 RX1 yX1_imageLength wsX1_imageLength) := goodIn_app (goodIn_of _ (by decide +kernel)) ggX1_isInRange_X1_imageLength
theorem dX1_isInRange_0 : decode cX1_isInRange 0 = .ok (.aload_n 0, 1) := by decide +kernel
theorem dX1_isInRange_1 : decode cX1_isInRange 1 = .ok (.invokevirtual 33, 3) := by decide +kernel
theorem dX1_isInRange_4 : decode cX1_isInRange 4 = .ok (.invokestatic 37, 3) := by decide +kernel
theorem dX1_isInRange_7 : decode cX1_isInRange 7 = .ok (.ifCond .eq 27, 3) := by decide +kernel
theorem dX1_isInRange_10 : decode cX1_isInRange 10 = .ok (.aload_n 0, 1) := by decide +kernel
theorem dX1_isInRange_11 : decode cX1_isInRange 11 = .ok (.invokevirtual 41, 3) := by decide +kernel
theorem dX1_isInRange_14 : decode cX1_isInRange 14 = .ok (.invokestatic 44, 3) := by decide +kernel
theorem dX1_isInRange_17 : decode cX1_isInRange 17 = .ok (.ifCond .eq 17, 3) := by decide +kernel
theorem dX1_isInRange_20 : decode cX1_isInRange 20 = .ok (.aload_n 0, 1) := by decide +kernel
theorem dX1_isInRange_21 : decode cX1_isInRange 21 = .ok (.invokevirtual 47, 3) := by decide +kernel
theorem dX1_isInRange_24 : decode cX1_isInRange 24 = .ok (.invokestatic 44, 3) := by decide +kernel
theorem dX1_isInRange_27 : decode cX1_isInRange 27 = .ok (.ifCond .eq 7, 3) := by decide +kernel
theorem dX1_isInRange_30 : decode cX1_isInRange 30 = .ok (.iconst 1, 1) := by decide +kernel
theorem dX1_isInRange_31 : decode cX1_isInRange 31 = .ok (.goto 4, 3) := by decide +kernel
theorem dX1_isInRange_34 : decode cX1_isInRange 34 = .ok (.iconst 0, 1) := by decide +kernel
theorem dX1_isInRange_35 : decode cX1_isInRange 35 = .ok (.ireturn, 1) := by decide +kernel
set_option maxRecDepth 20000 in
theorem ggX1_isTagged_X5_digest : GoodIn wsX1_isTagged wsX5_digest := goodIn_r _ [4, 5, 6, 3, 7, 8] (by decide +kernel) (by decide +kernel)
set_option maxRecDepth 20000 in
theorem gX1_isTagged_X5_digest_n50 : GoodIn wsX1_isTagged (wsX5_digest) := ggX1_isTagged_X5_digest
set_option maxRecDepth 20000 in
theorem ggX1_isTagged_X1_word : GoodIn wsX1_isTagged wsX1_word := goodIn_r _ [13, 1, 14] (by decide +kernel) (by decide +kernel)
set_option maxRecDepth 20000 in
theorem gX1_isTagged_X1_word : GoodIn wsX1_isTagged (wsV RX1 30 RX1 yX1_word wsX1_word) := goodIn_app (goodIn_of _ (by decide +kernel)) ggX1_isTagged_X1_word
theorem dX1_isTagged_0 : decode cX1_isTagged 0 = .ok (.iconst 0, 1) := by decide +kernel
theorem dX1_isTagged_1 : decode cX1_isTagged 1 = .ok (.aload_n 1, 1) := by decide +kernel
theorem dX1_isTagged_2 : decode cX1_isTagged 2 = .ok (.aload_n 1, 1) := by decide +kernel
theorem dX1_isTagged_3 : decode cX1_isTagged 3 = .ok (.arraylength, 1) := by decide +kernel
theorem dX1_isTagged_4 : decode cX1_isTagged 4 = .ok (.invokestatic 50, 3) := by decide +kernel
theorem dX1_isTagged_7 : decode cX1_isTagged 7 = .ok (.aload_n 0, 1) := by decide +kernel
theorem dX1_isTagged_8 : decode cX1_isTagged 8 = .ok (.getfield 11, 3) := by decide +kernel
theorem dX1_isTagged_11 : decode cX1_isTagged 11 = .ok (.bipush 16, 2) := by decide +kernel
theorem dX1_isTagged_13 : decode cX1_isTagged 13 = .ok (.invokestatic 50, 3) := by decide +kernel
theorem dX1_isTagged_16 : decode cX1_isTagged 16 = .ok (.aload_n 0, 1) := by decide +kernel
theorem dX1_isTagged_17 : decode cX1_isTagged 17 = .ok (.bipush 16, 2) := by decide +kernel
theorem dX1_isTagged_19 : decode cX1_isTagged 19 = .ok (.invokevirtual 30, 3) := by decide +kernel
theorem dX1_isTagged_22 : decode cX1_isTagged 22 = .ok (.if_icmp .ne 7, 3) := by decide +kernel
theorem dX1_isTagged_25 : decode cX1_isTagged 25 = .ok (.iconst 1, 1) := by decide +kernel
theorem dX1_isTagged_26 : decode cX1_isTagged 26 = .ok (.goto 4, 3) := by decide +kernel
theorem dX1_isTagged_29 : decode cX1_isTagged 29 = .ok (.iconst 0, 1) := by decide +kernel
theorem dX1_isTagged_30 : decode cX1_isTagged 30 = .ok (.ireturn, 1) := by decide +kernel
theorem dX1_word_0 : decode cX1_word 0 = .ok (.iconst 0, 1) := by decide +kernel
theorem dX1_word_1 : decode cX1_word 1 = .ok (.istore_n 2, 1) := by decide +kernel
theorem dX1_word_2 : decode cX1_word 2 = .ok (.iload_n 1, 1) := by decide +kernel
theorem dX1_word_3 : decode cX1_word 3 = .ok (.istore_n 3, 1) := by decide +kernel
theorem dX1_word_4 : decode cX1_word 4 = .ok (.iload_n 3, 1) := by decide +kernel
theorem dX1_word_5 : decode cX1_word 5 = .ok (.iload_n 1, 1) := by decide +kernel
theorem dX1_word_6 : decode cX1_word 6 = .ok (.iconst 4, 1) := by decide +kernel
theorem dX1_word_7 : decode cX1_word 7 = .ok (.iadd, 1) := by decide +kernel
theorem dX1_word_8 : decode cX1_word 8 = .ok (.if_icmp .ge 27, 3) := by decide +kernel
theorem dX1_word_11 : decode cX1_word 11 = .ok (.iload_n 3, 1) := by decide +kernel
theorem dX1_word_12 : decode cX1_word 12 = .ok (.bipush 20, 2) := by decide +kernel
theorem dX1_word_14 : decode cX1_word 14 = .ok (.if_icmp .ge 21, 3) := by decide +kernel
theorem dX1_word_17 : decode cX1_word 17 = .ok (.iload_n 2, 1) := by decide +kernel
theorem dX1_word_18 : decode cX1_word 18 = .ok (.bipush 8, 2) := by decide +kernel
theorem dX1_word_20 : decode cX1_word 20 = .ok (.ishl, 1) := by decide +kernel
theorem dX1_word_21 : decode cX1_word 21 = .ok (.aload_n 0, 1) := by decide +kernel
theorem dX1_word_22 : decode cX1_word 22 = .ok (.getfield 11, 3) := by decide +kernel
theorem dX1_word_25 : decode cX1_word 25 = .ok (.iload_n 3, 1) := by decide +kernel
theorem dX1_word_26 : decode cX1_word 26 = .ok (.iaload, 1) := by decide +kernel
theorem dX1_word_27 : decode cX1_word 27 = .ok (.ior, 1) := by decide +kernel
theorem dX1_word_28 : decode cX1_word 28 = .ok (.istore_n 2, 1) := by decide +kernel
theorem dX1_word_29 : decode cX1_word 29 = .ok (.iinc 3 1, 3) := by decide +kernel
theorem dX1_word_32 : decode cX1_word 32 = .ok (.goto (-28), 3) := by decide +kernel
theorem dX1_word_35 : decode cX1_word 35 = .ok (.iload_n 2, 1) := by decide +kernel
theorem dX1_word_36 : decode cX1_word 36 = .ok (.ireturn, 1) := by decide +kernel
theorem dX2_init_0 : decode cX2_init 0 = .ok (.aload_n 0, 1) := by decide +kernel
theorem dX2_init_1 : decode cX2_init 1 = .ok (.invokespecial 3, 3) := by decide +kernel
theorem dX2_init_4 : decode cX2_init 4 = .ok (.aload_n 0, 1) := by decide +kernel
theorem dX2_init_5 : decode cX2_init 5 = .ok (.sipush 192, 3) := by decide +kernel
theorem dX2_init_8 : decode cX2_init 8 = .ok (.newarray .int, 2) := by decide +kernel
theorem dX2_init_10 : decode cX2_init 10 = .ok (.putfield 9, 3) := by decide +kernel
theorem dX2_init_13 : decode cX2_init 13 = .ok (.aload_n 0, 1) := by decide +kernel
theorem dX2_init_14 : decode cX2_init 14 = .ok (.iconst 0, 1) := by decide +kernel
theorem dX2_init_15 : decode cX2_init 15 = .ok (.putfield 15, 3) := by decide +kernel
theorem dX2_init_18 : decode cX2_init 18 = .ok (.return_, 1) := by decide +kernel
set_option maxRecDepth 20000 in
theorem ggX2_unfold_X0_at : GoodIn wsX2_unfold wsX0_at := goodIn_r _ [6, 7, 20, 21, 22, 23, 24, 25] (by decide +kernel) (by decide +kernel)
set_option maxRecDepth 20000 in
theorem gX2_unfold_X0_at : GoodIn wsX2_unfold (wsV RX2 19 RX0 yX0_at wsX0_at) := goodIn_app (goodIn_of _ (by decide +kernel)) ggX2_unfold_X0_at
set_option maxRecDepth 20000 in
theorem ggX2_unfold_X2_take : GoodIn wsX2_unfold wsX2_take := goodIn_r _ [12, 1, 13, 2, 3, 4, 5, 6, 7, 18, 19, 20, 21, 22, 23, 24, 25] (by decide +kernel) (by decide +kernel)
set_option maxRecDepth 20000 in
theorem gX2_unfold_X2_take : GoodIn wsX2_unfold (wsV RX2 25 RX2 yX2_take wsX2_take) := goodIn_app (goodIn_of _ (by decide +kernel)) ggX2_unfold_X2_take
set_option maxRecDepth 20000 in
theorem ggX2_unfold_X2_takeBase : GoodIn wsX2_unfold wsX2_takeBase := goodIn_r _ [17, 8, 9, 10, 11, 12, 1, 13, 2, 3, 4, 5, 6, 7, 18, 19, 20, 21, 22, 23, 24, 25] (by decide +kernel) (by decide +kernel)
set_option maxRecDepth 20000 in
theorem gX2_unfold_X2_takeBase : GoodIn wsX2_unfold (wsV RX2 29 RX2 yX2_takeBase wsX2_takeBase) := goodIn_app (goodIn_of _ (by decide +kernel)) ggX2_unfold_X2_takeBase
theorem dX2_unfold_0 : decode cX2_unfold 0 = .ok (.aload_n 0, 1) := by decide +kernel
theorem dX2_unfold_1 : decode cX2_unfold 1 = .ok (.iconst 0, 1) := by decide +kernel
theorem dX2_unfold_2 : decode cX2_unfold 2 = .ok (.putfield 15, 3) := by decide +kernel
theorem dX2_unfold_5 : decode cX2_unfold 5 = .ok (.iconst 0, 1) := by decide +kernel
theorem dX2_unfold_6 : decode cX2_unfold 6 = .ok (.istore 5, 2) := by decide +kernel
theorem dX2_unfold_8 : decode cX2_unfold 8 = .ok (.iload 5, 2) := by decide +kernel
theorem dX2_unfold_10 : decode cX2_unfold 10 = .ok (.iload_n 2, 1) := by decide +kernel
theorem dX2_unfold_11 : decode cX2_unfold 11 = .ok (.if_icmp .ge 114, 3) := by decide +kernel
theorem dX2_unfold_14 : decode cX2_unfold 14 = .ok (.aload_n 1, 1) := by decide +kernel
theorem dX2_unfold_15 : decode cX2_unfold 15 = .ok (.sipush 448, 3) := by decide +kernel
theorem dX2_unfold_18 : decode cX2_unfold 18 = .ok (.iload 5, 2) := by decide +kernel
theorem dX2_unfold_20 : decode cX2_unfold 20 = .ok (.iadd, 1) := by decide +kernel
theorem dX2_unfold_21 : decode cX2_unfold 21 = .ok (.invokevirtual 19, 3) := by decide +kernel
theorem dX2_unfold_24 : decode cX2_unfold 24 = .ok (.istore 6, 2) := by decide +kernel
theorem dX2_unfold_26 : decode cX2_unfold 26 = .ok (.sipush 448, 3) := by decide +kernel
theorem dX2_unfold_29 : decode cX2_unfold 29 = .ok (.iload 5, 2) := by decide +kernel
theorem dX2_unfold_31 : decode cX2_unfold 31 = .ok (.iadd, 1) := by decide +kernel
theorem dX2_unfold_32 : decode cX2_unfold 32 = .ok (.iconst 1, 1) := by decide +kernel
theorem dX2_unfold_33 : decode cX2_unfold 33 = .ok (.iadd, 1) := by decide +kernel
theorem dX2_unfold_34 : decode cX2_unfold 34 = .ok (.istore 7, 2) := by decide +kernel
theorem dX2_unfold_36 : decode cX2_unfold 36 = .ok (.iload 6, 2) := by decide +kernel
theorem dX2_unfold_38 : decode cX2_unfold 38 = .ok (.sipush 128, 3) := by decide +kernel
theorem dX2_unfold_41 : decode cX2_unfold 41 = .ok (.if_icmp .ge 41, 3) := by decide +kernel
theorem dX2_unfold_44 : decode cX2_unfold 44 = .ok (.iload 6, 2) := by decide +kernel
theorem dX2_unfold_46 : decode cX2_unfold 46 = .ok (.iconst 1, 1) := by decide +kernel
theorem dX2_unfold_47 : decode cX2_unfold 47 = .ok (.iadd, 1) := by decide +kernel
theorem dX2_unfold_48 : decode cX2_unfold 48 = .ok (.istore 8, 2) := by decide +kernel
theorem dX2_unfold_50 : decode cX2_unfold 50 = .ok (.iload 5, 2) := by decide +kernel
theorem dX2_unfold_52 : decode cX2_unfold 52 = .ok (.iconst 1, 1) := by decide +kernel
theorem dX2_unfold_53 : decode cX2_unfold 53 = .ok (.iload 8, 2) := by decide +kernel
theorem dX2_unfold_55 : decode cX2_unfold 55 = .ok (.iadd, 1) := by decide +kernel
theorem dX2_unfold_56 : decode cX2_unfold 56 = .ok (.iadd, 1) := by decide +kernel
theorem dX2_unfold_57 : decode cX2_unfold 57 = .ok (.istore 5, 2) := by decide +kernel
theorem dX2_unfold_59 : decode cX2_unfold 59 = .ok (.iload 5, 2) := by decide +kernel
theorem dX2_unfold_61 : decode cX2_unfold 61 = .ok (.iload_n 2, 1) := by decide +kernel
theorem dX2_unfold_62 : decode cX2_unfold 62 = .ok (.if_icmp .gt 15, 3) := by decide +kernel
theorem dX2_unfold_65 : decode cX2_unfold 65 = .ok (.aload_n 0, 1) := by decide +kernel
theorem dX2_unfold_66 : decode cX2_unfold 66 = .ok (.aload_n 1, 1) := by decide +kernel
theorem dX2_unfold_67 : decode cX2_unfold 67 = .ok (.iload 7, 2) := by decide +kernel
theorem dX2_unfold_69 : decode cX2_unfold 69 = .ok (.iload 8, 2) := by decide +kernel
theorem dX2_unfold_71 : decode cX2_unfold 71 = .ok (.invokevirtual 25, 3) := by decide +kernel
theorem dX2_unfold_74 : decode cX2_unfold 74 = .ok (.ifCond .ne 5, 3) := by decide +kernel
theorem dX2_unfold_77 : decode cX2_unfold 77 = .ok (.iconst 0, 1) := by decide +kernel
theorem dX2_unfold_78 : decode cX2_unfold 78 = .ok (.ireturn, 1) := by decide +kernel
theorem dX2_unfold_79 : decode cX2_unfold 79 = .ok (.goto 43, 3) := by decide +kernel
theorem dX2_unfold_82 : decode cX2_unfold 82 = .ok (.iload 6, 2) := by decide +kernel
theorem dX2_unfold_84 : decode cX2_unfold 84 = .ok (.sipush 128, 3) := by decide +kernel
theorem dX2_unfold_87 : decode cX2_unfold 87 = .ok (.isub, 1) := by decide +kernel
theorem dX2_unfold_88 : decode cX2_unfold 88 = .ok (.iconst 1, 1) := by decide +kernel
theorem dX2_unfold_89 : decode cX2_unfold 89 = .ok (.iadd, 1) := by decide +kernel
theorem dX2_unfold_90 : decode cX2_unfold 90 = .ok (.istore 8, 2) := by decide +kernel
theorem dX2_unfold_92 : decode cX2_unfold 92 = .ok (.iinc 5 2, 3) := by decide +kernel
theorem dX2_unfold_95 : decode cX2_unfold 95 = .ok (.iload 5, 2) := by decide +kernel
theorem dX2_unfold_97 : decode cX2_unfold 97 = .ok (.iload_n 2, 1) := by decide +kernel
theorem dX2_unfold_98 : decode cX2_unfold 98 = .ok (.if_icmp .gt 22, 3) := by decide +kernel
theorem dX2_unfold_101 : decode cX2_unfold 101 = .ok (.aload_n 0, 1) := by decide +kernel
theorem dX2_unfold_102 : decode cX2_unfold 102 = .ok (.aload_n 1, 1) := by decide +kernel
theorem dX2_unfold_103 : decode cX2_unfold 103 = .ok (.iload_n 3, 1) := by decide +kernel
theorem dX2_unfold_104 : decode cX2_unfold 104 = .ok (.iload 4, 2) := by decide +kernel
theorem dX2_unfold_106 : decode cX2_unfold 106 = .ok (.aload_n 1, 1) := by decide +kernel
theorem dX2_unfold_107 : decode cX2_unfold 107 = .ok (.iload 7, 2) := by decide +kernel
theorem dX2_unfold_109 : decode cX2_unfold 109 = .ok (.invokevirtual 19, 3) := by decide +kernel
theorem dX2_unfold_112 : decode cX2_unfold 112 = .ok (.iload 8, 2) := by decide +kernel
