theorem dX6_factory_0 : decode cX6_factory 0 = .ok (.aload_n 0, 1) := by decide +kernel
theorem dX6_factory_1 : decode cX6_factory 1 = .ok (.iconst 0, 1) := by decide +kernel
theorem dX6_factory_2 : decode cX6_factory 2 = .ok (.putfield 36, 3) := by decide +kernel
theorem dX6_factory_5 : decode cX6_factory 5 = .ok (.aload_n 0, 1) := by decide +kernel
theorem dX6_factory_6 : decode cX6_factory 6 = .ok (.getfield 19, 3) := by decide +kernel
theorem dX6_factory_9 : decode cX6_factory 9 = .ok (.ifCond .ne 6, 3) := by decide +kernel
theorem dX6_factory_12 : decode cX6_factory 12 = .ok (.bipush (-2), 2) := by decide +kernel
theorem dX6_factory_14 : decode cX6_factory 14 = .ok (.ireturn, 1) := by decide +kernel
theorem dX6_factory_15 : decode cX6_factory 15 = .ok (.iload_n 1, 1) := by decide +kernel
theorem dX6_factory_16 : decode cX6_factory 16 = .ok (.iconst 1, 1) := by decide +kernel
theorem dX6_factory_17 : decode cX6_factory 17 = .ok (.if_icmp .lt 18, 3) := by decide +kernel
theorem dX6_factory_20 : decode cX6_factory 20 = .ok (.iload_n 1, 1) := by decide +kernel
theorem dX6_factory_21 : decode cX6_factory 21 = .ok (.sipush 200, 3) := by decide +kernel
theorem dX6_factory_24 : decode cX6_factory 24 = .ok (.if_icmp .gt 11, 3) := by decide +kernel
theorem dX6_factory_27 : decode cX6_factory 27 = .ok (.aload_n 0, 1) := by decide +kernel
theorem dX6_factory_28 : decode cX6_factory 28 = .ok (.getfield 74, 3) := by decide +kernel
theorem dX6_factory_31 : decode cX6_factory 31 = .ok (.iconst 1, 1) := by decide +kernel
theorem dX6_factory_32 : decode cX6_factory 32 = .ok (.if_icmp .ge 5, 3) := by decide +kernel
theorem dX6_factory_35 : decode cX6_factory 35 = .ok (.iconst (-1), 1) := by decide +kernel
theorem dX6_factory_36 : decode cX6_factory 36 = .ok (.ireturn, 1) := by decide +kernel
theorem dX6_factory_37 : decode cX6_factory 37 = .ok (.aload_n 0, 1) := by decide +kernel
theorem dX6_factory_38 : decode cX6_factory 38 = .ok (.getfield 74, 3) := by decide +kernel
theorem dX6_factory_41 : decode cX6_factory 41 = .ok (.istore_n 2, 1) := by decide +kernel
theorem dX6_factory_42 : decode cX6_factory 42 = .ok (.aload_n 0, 1) := by decide +kernel
theorem dX6_factory_43 : decode cX6_factory 43 = .ok (.iconst 0, 1) := by decide +kernel
theorem dX6_factory_44 : decode cX6_factory 44 = .ok (.putfield 74, 3) := by decide +kernel
theorem dX6_factory_47 : decode cX6_factory 47 = .ok (.aload_n 0, 1) := by decide +kernel
theorem dX6_factory_48 : decode cX6_factory 48 = .ok (.bipush (-7), 2) := by decide +kernel
theorem dX6_factory_50 : decode cX6_factory 50 = .ok (.putfield 23, 3) := by decide +kernel
theorem dX6_factory_53 : decode cX6_factory 53 = .ok (.iconst 0, 1) := by decide +kernel
theorem dX6_factory_54 : decode cX6_factory 54 = .ok (.istore_n 3, 1) := by decide +kernel
theorem dX6_factory_55 : decode cX6_factory 55 = .ok (.iload_n 3, 1) := by decide +kernel
theorem dX6_factory_56 : decode cX6_factory 56 = .ok (.bipush 7, 2) := by decide +kernel
theorem dX6_factory_58 : decode cX6_factory 58 = .ok (.if_icmp .ge 14, 3) := by decide +kernel
theorem dX6_factory_61 : decode cX6_factory 61 = .ok (.aload_n 0, 1) := by decide +kernel
theorem dX6_factory_62 : decode cX6_factory 62 = .ok (.iload_n 3, 1) := by decide +kernel
theorem dX6_factory_63 : decode cX6_factory 63 = .ok (.invokevirtual 79, 3) := by decide +kernel
theorem dX6_factory_66 : decode cX6_factory 66 = .ok (.iinc 3 1, 3) := by decide +kernel
theorem dX6_factory_69 : decode cX6_factory 69 = .ok (.goto (-14), 3) := by decide +kernel
theorem dX6_factory_72 : decode cX6_factory 72 = .ok (.aload_n 0, 1) := by decide +kernel
theorem dX6_factory_73 : decode cX6_factory 73 = .ok (.bipush 22, 2) := by decide +kernel
theorem dX6_factory_75 : decode cX6_factory 75 = .ok (.invokevirtual 79, 3) := by decide +kernel
theorem dX6_factory_78 : decode cX6_factory 78 = .ok (.iconst 0, 1) := by decide +kernel
theorem dX6_factory_79 : decode cX6_factory 79 = .ok (.istore_n 3, 1) := by decide +kernel
theorem dX6_factory_80 : decode cX6_factory 80 = .ok (.iconst 0, 1) := by decide +kernel
theorem dX6_factory_81 : decode cX6_factory 81 = .ok (.istore 4, 2) := by decide +kernel
theorem dX6_factory_83 : decode cX6_factory 83 = .ok (.iload 4, 2) := by decide +kernel
theorem dX6_factory_85 : decode cX6_factory 85 = .ok (.iload_n 2, 1) := by decide +kernel
theorem dX6_factory_86 : decode cX6_factory 86 = .ok (.if_icmp .ge 34, 3) := by decide +kernel
theorem dX6_factory_89 : decode cX6_factory 89 = .ok (.aload_n 0, 1) := by decide +kernel
theorem dX6_factory_90 : decode cX6_factory 90 = .ok (.iload 4, 2) := by decide +kernel
theorem dX6_factory_92 : decode cX6_factory 92 = .ok (.aload_n 0, 1) := by decide +kernel
theorem dX6_factory_93 : decode cX6_factory 93 = .ok (.getfield 16, 3) := by decide +kernel
theorem dX6_factory_96 : decode cX6_factory 96 = .ok (.iload 4, 2) := by decide +kernel
theorem dX6_factory_98 : decode cX6_factory 98 = .ok (.iaload, 1) := by decide +kernel
theorem dX6_factory_99 : decode cX6_factory 99 = .ok (.invokevirtual 83, 3) := by decide +kernel
theorem dX6_factory_102 : decode cX6_factory 102 = .ok (.iload_n 3, 1) := by decide +kernel
theorem dX6_factory_103 : decode cX6_factory 103 = .ok (.aload_n 0, 1) := by decide +kernel
theorem dX6_factory_104 : decode cX6_factory 104 = .ok (.getfield 16, 3) := by decide +kernel
theorem dX6_factory_107 : decode cX6_factory 107 = .ok (.iload 4, 2) := by decide +kernel
theorem dX6_factory_109 : decode cX6_factory 109 = .ok (.iaload, 1) := by decide +kernel
theorem dX6_factory_110 : decode cX6_factory 110 = .ok (.invokestatic 50, 3) := by decide +kernel
theorem dX6_factory_113 : decode cX6_factory 113 = .ok (.istore_n 3, 1) := by decide +kernel
theorem dX6_factory_114 : decode cX6_factory 114 = .ok (.iinc 4 1, 3) := by decide +kernel
theorem dX6_factory_117 : decode cX6_factory 117 = .ok (.goto (-34), 3) := by decide +kernel
theorem dX6_factory_120 : decode cX6_factory 120 = .ok (.aload_n 0, 1) := by decide +kernel
theorem dX6_factory_121 : decode cX6_factory 121 = .ok (.iconst 0, 1) := by decide +kernel
theorem dX6_factory_122 : decode cX6_factory 122 = .ok (.iload_n 2, 1) := by decide +kernel
theorem dX6_factory_123 : decode cX6_factory 123 = .ok (.iload_n 1, 1) := by decide +kernel
theorem dX6_factory_124 : decode cX6_factory 124 = .ok (.iload_n 3, 1) := by decide +kernel
theorem dX6_factory_125 : decode cX6_factory 125 = .ok (.invokevirtual 87, 3) := by decide +kernel
theorem dX6_factory_128 : decode cX6_factory 128 = .ok (.aload_n 0, 1) := by decide +kernel
theorem dX6_factory_129 : decode cX6_factory 129 = .ok (.iconst 0, 1) := by decide +kernel
theorem dX6_factory_130 : decode cX6_factory 130 = .ok (.invokestatic 58, 3) := by decide +kernel
theorem dX6_factory_133 : decode cX6_factory 133 = .ok (.bipush 7, 2) := by decide +kernel
theorem dX6_factory_135 : decode cX6_factory 135 = .ok (.iadd, 1) := by decide +kernel
theorem dX6_factory_136 : decode cX6_factory 136 = .ok (.iconst 0, 1) := by decide +kernel
theorem dX6_factory_137 : decode cX6_factory 137 = .ok (.invokevirtual 83, 3) := by decide +kernel
theorem dX6_factory_140 : decode cX6_factory 140 = .ok (.aload_n 0, 1) := by decide +kernel
theorem dX6_factory_141 : decode cX6_factory 141 = .ok (.iconst 0, 1) := by decide +kernel
theorem dX6_factory_142 : decode cX6_factory 142 = .ok (.invokestatic 58, 3) := by decide +kernel
theorem dX6_factory_145 : decode cX6_factory 145 = .ok (.bipush 8, 2) := by decide +kernel
theorem dX6_factory_147 : decode cX6_factory 147 = .ok (.iadd, 1) := by decide +kernel
theorem dX6_factory_148 : decode cX6_factory 148 = .ok (.iconst 0, 1) := by decide +kernel
theorem dX6_factory_149 : decode cX6_factory 149 = .ok (.invokevirtual 83, 3) := by decide +kernel
theorem dX6_factory_152 : decode cX6_factory 152 = .ok (.aload_n 0, 1) := by decide +kernel
theorem dX6_factory_153 : decode cX6_factory 153 = .ok (.getfield 19, 3) := by decide +kernel
theorem dX6_factory_156 : decode cX6_factory 156 = .ok (.ifCond .eq 7, 3) := by decide +kernel
theorem dX6_factory_159 : decode cX6_factory 159 = .ok (.iconst 1, 1) := by decide +kernel
theorem dX6_factory_160 : decode cX6_factory 160 = .ok (.goto 5, 3) := by decide +kernel
theorem dX6_factory_163 : decode cX6_factory 163 = .ok (.bipush (-2), 2) := by decide +kernel
theorem dX6_factory_165 : decode cX6_factory 165 = .ok (.ireturn, 1) := by decide +kernel
set_option maxRecDepth 20000 in
theorem ggX6_writeHeader_X6_headerAt : GoodIn wsX6_writeHeader wsX6_headerAt := goodIn_r _ [4] (by decide +kernel) (by decide +kernel)
set_option maxRecDepth 20000 in
theorem gX6_writeHeader_X6_headerAt : GoodIn wsX6_writeHeader (va_wsS RX6 58 yX6_headerAt wsX6_headerAt) := goodIn_app (goodIn_of _ (by decide +kernel)) ggX6_writeHeader_X6_headerAt
set_option maxRecDepth 20000 in
theorem ggX6_writeHeader_X6_program : GoodIn wsX6_writeHeader wsX6_program := goodIn_r _ [8, 9, 10, 11, 12, 13, 14, 3, 15, 16, 17, 18, 22, 23, 24, 25, 26, 27, 28, 29, 30, 31, 32, 33, 34] (by decide +kernel) (by decide +kernel)
set_option maxRecDepth 20000 in
theorem gX6_writeHeader_X6_program : GoodIn wsX6_writeHeader (wsV RX6 83 RX6 yX6_program wsX6_program) := goodIn_app (goodIn_of _ (by decide +kernel)) ggX6_writeHeader_X6_program
set_option maxRecDepth 20000 in
theorem ggX6_writeHeader_X6_part : GoodIn wsX6_writeHeader wsX6_part := goodIn_r _ [21] (by decide +kernel) (by decide +kernel)
set_option maxRecDepth 20000 in
theorem gX6_writeHeader_X6_part : GoodIn wsX6_writeHeader (va_wsS RX6 91 yX6_part wsX6_part) := goodIn_app (goodIn_of _ (by decide +kernel)) ggX6_writeHeader_X6_part
theorem dX6_writeHeader_0 : decode cX6_writeHeader 0 = .ok (.iload_n 1, 1) := by decide +kernel
theorem dX6_writeHeader_1 : decode cX6_writeHeader 1 = .ok (.invokestatic 58, 3) := by decide +kernel
theorem dX6_writeHeader_4 : decode cX6_writeHeader 4 = .ok (.istore 5, 2) := by decide +kernel
theorem dX6_writeHeader_6 : decode cX6_writeHeader 6 = .ok (.aload_n 0, 1) := by decide +kernel
theorem dX6_writeHeader_7 : decode cX6_writeHeader 7 = .ok (.iload 5, 2) := by decide +kernel
theorem dX6_writeHeader_9 : decode cX6_writeHeader 9 = .ok (.iload_n 2, 1) := by decide +kernel
theorem dX6_writeHeader_10 : decode cX6_writeHeader 10 = .ok (.invokevirtual 83, 3) := by decide +kernel
theorem dX6_writeHeader_13 : decode cX6_writeHeader 13 = .ok (.aload_n 0, 1) := by decide +kernel
theorem dX6_writeHeader_14 : decode cX6_writeHeader 14 = .ok (.iload 5, 2) := by decide +kernel
theorem dX6_writeHeader_16 : decode cX6_writeHeader 16 = .ok (.iconst 1, 1) := by decide +kernel
theorem dX6_writeHeader_17 : decode cX6_writeHeader 17 = .ok (.iadd, 1) := by decide +kernel
theorem dX6_writeHeader_18 : decode cX6_writeHeader 18 = .ok (.iload_n 3, 1) := by decide +kernel
theorem dX6_writeHeader_19 : decode cX6_writeHeader 19 = .ok (.invokevirtual 83, 3) := by decide +kernel
theorem dX6_writeHeader_22 : decode cX6_writeHeader 22 = .ok (.iconst 0, 1) := by decide +kernel
theorem dX6_writeHeader_23 : decode cX6_writeHeader 23 = .ok (.istore 6, 2) := by decide +kernel
theorem dX6_writeHeader_25 : decode cX6_writeHeader 25 = .ok (.iload 6, 2) := by decide +kernel
theorem dX6_writeHeader_27 : decode cX6_writeHeader 27 = .ok (.iconst 4, 1) := by decide +kernel
theorem dX6_writeHeader_28 : decode cX6_writeHeader 28 = .ok (.if_icmp .ge 27, 3) := by decide +kernel
theorem dX6_writeHeader_31 : decode cX6_writeHeader 31 = .ok (.aload_n 0, 1) := by decide +kernel
theorem dX6_writeHeader_32 : decode cX6_writeHeader 32 = .ok (.iload 5, 2) := by decide +kernel
theorem dX6_writeHeader_34 : decode cX6_writeHeader 34 = .ok (.iconst 2, 1) := by decide +kernel
theorem dX6_writeHeader_35 : decode cX6_writeHeader 35 = .ok (.iadd, 1) := by decide +kernel
theorem dX6_writeHeader_36 : decode cX6_writeHeader 36 = .ok (.iload 6, 2) := by decide +kernel
theorem dX6_writeHeader_38 : decode cX6_writeHeader 38 = .ok (.iadd, 1) := by decide +kernel
theorem dX6_writeHeader_39 : decode cX6_writeHeader 39 = .ok (.iload 4, 2) := by decide +kernel
theorem dX6_writeHeader_41 : decode cX6_writeHeader 41 = .ok (.iload 6, 2) := by decide +kernel
theorem dX6_writeHeader_43 : decode cX6_writeHeader 43 = .ok (.invokestatic 91, 3) := by decide +kernel
theorem dX6_writeHeader_46 : decode cX6_writeHeader 46 = .ok (.invokevirtual 83, 3) := by decide +kernel
theorem dX6_writeHeader_49 : decode cX6_writeHeader 49 = .ok (.iinc 6 1, 3) := by decide +kernel
theorem dX6_writeHeader_52 : decode cX6_writeHeader 52 = .ok (.goto (-27), 3) := by decide +kernel
theorem dX6_writeHeader_55 : decode cX6_writeHeader 55 = .ok (.return_, 1) := by decide +kernel
theorem dX6_manifestByte_0 : decode cX6_manifestByte 0 = .ok (.iload_n 1, 1) := by decide +kernel
theorem dX6_manifestByte_1 : decode cX6_manifestByte 1 = .ok (.ifCond .eq 12, 3) := by decide +kernel
theorem dX6_manifestByte_4 : decode cX6_manifestByte 4 = .ok (.aload_n 0, 1) := by decide +kernel
theorem dX6_manifestByte_5 : decode cX6_manifestByte 5 = .ok (.getfield 16, 3) := by decide +kernel
theorem dX6_manifestByte_8 : decode cX6_manifestByte 8 = .ok (.iload_n 2, 1) := by decide +kernel
theorem dX6_manifestByte_9 : decode cX6_manifestByte 9 = .ok (.iaload, 1) := by decide +kernel
theorem dX6_manifestByte_10 : decode cX6_manifestByte 10 = .ok (.goto 13, 3) := by decide +kernel
theorem dX6_manifestByte_13 : decode cX6_manifestByte 13 = .ok (.aload_n 0, 1) := by decide +kernel
theorem dX6_manifestByte_14 : decode cX6_manifestByte 14 = .ok (.getfield 7, 3) := by decide +kernel
theorem dX6_manifestByte_17 : decode cX6_manifestByte 17 = .ok (.sipush 640, 3) := by decide +kernel
theorem dX6_manifestByte_20 : decode cX6_manifestByte 20 = .ok (.iload_n 2, 1) := by decide +kernel
theorem dX6_manifestByte_21 : decode cX6_manifestByte 21 = .ok (.iadd, 1) := by decide +kernel
theorem dX6_manifestByte_22 : decode cX6_manifestByte 22 = .ok (.iaload, 1) := by decide +kernel
theorem dX6_manifestByte_23 : decode cX6_manifestByte 23 = .ok (.ireturn, 1) := by decide +kernel
set_option maxRecDepth 20000 in
theorem ggX6_manifestFour_X6_manifestByte : GoodIn wsX6_manifestFour wsX6_manifestByte := goodIn_r _ [5, 6, 7, 8, 9, 10, 11, 12, 13, 14, 15, 16, 17, 18, 19, 20] (by decide +kernel) (by decide +kernel)
set_option maxRecDepth 20000 in
theorem gX6_manifestFour_X6_manifestByte : GoodIn wsX6_manifestFour (wsV RX6 94 RX6 yX6_manifestByte wsX6_manifestByte) := goodIn_app (goodIn_of _ (by decide +kernel)) ggX6_manifestFour_X6_manifestByte
theorem dX6_manifestFour_0 : decode cX6_manifestFour 0 = .ok (.iconst 0, 1) := by decide +kernel
theorem dX6_manifestFour_1 : decode cX6_manifestFour 1 = .ok (.istore_n 3, 1) := by decide +kernel
theorem dX6_manifestFour_2 : decode cX6_manifestFour 2 = .ok (.iconst 0, 1) := by decide +kernel
theorem dX6_manifestFour_3 : decode cX6_manifestFour 3 = .ok (.istore 4, 2) := by decide +kernel
theorem dX6_manifestFour_5 : decode cX6_manifestFour 5 = .ok (.iload 4, 2) := by decide +kernel
theorem dX6_manifestFour_7 : decode cX6_manifestFour 7 = .ok (.iconst 4, 1) := by decide +kernel
theorem dX6_manifestFour_8 : decode cX6_manifestFour 8 = .ok (.if_icmp .ge 24, 3) := by decide +kernel
theorem dX6_manifestFour_11 : decode cX6_manifestFour 11 = .ok (.iload_n 3, 1) := by decide +kernel
theorem dX6_manifestFour_12 : decode cX6_manifestFour 12 = .ok (.bipush 8, 2) := by decide +kernel
theorem dX6_manifestFour_14 : decode cX6_manifestFour 14 = .ok (.ishl, 1) := by decide +kernel
theorem dX6_manifestFour_15 : decode cX6_manifestFour 15 = .ok (.aload_n 0, 1) := by decide +kernel
theorem dX6_manifestFour_16 : decode cX6_manifestFour 16 = .ok (.iload_n 1, 1) := by decide +kernel
theorem dX6_manifestFour_17 : decode cX6_manifestFour 17 = .ok (.iload_n 2, 1) := by decide +kernel
theorem dX6_manifestFour_18 : decode cX6_manifestFour 18 = .ok (.iload 4, 2) := by decide +kernel
theorem dX6_manifestFour_20 : decode cX6_manifestFour 20 = .ok (.iadd, 1) := by decide +kernel
theorem dX6_manifestFour_21 : decode cX6_manifestFour 21 = .ok (.invokevirtual 94, 3) := by decide +kernel
theorem dX6_manifestFour_24 : decode cX6_manifestFour 24 = .ok (.ior, 1) := by decide +kernel
theorem dX6_manifestFour_25 : decode cX6_manifestFour 25 = .ok (.istore_n 3, 1) := by decide +kernel
theorem dX6_manifestFour_26 : decode cX6_manifestFour 26 = .ok (.iinc 4 1, 3) := by decide +kernel
theorem dX6_manifestFour_29 : decode cX6_manifestFour 29 = .ok (.goto (-24), 3) := by decide +kernel
theorem dX6_manifestFour_32 : decode cX6_manifestFour 32 = .ok (.iload_n 3, 1) := by decide +kernel
theorem dX6_manifestFour_33 : decode cX6_manifestFour 33 = .ok (.ireturn, 1) := by decide +kernel
theorem dX6_isIn_0 : decode cX6_isIn 0 = .ok (.iload_n 0, 1) := by decide +kernel
theorem dX6_isIn_1 : decode cX6_isIn 1 = .ok (.iload_n 1, 1) := by decide +kernel
theorem dX6_isIn_2 : decode cX6_isIn 2 = .ok (.if_icmp .lt 12, 3) := by decide +kernel
theorem dX6_isIn_5 : decode cX6_isIn 5 = .ok (.iload_n 0, 1) := by decide +kernel
theorem dX6_isIn_6 : decode cX6_isIn 6 = .ok (.iload_n 2, 1) := by decide +kernel
theorem dX6_isIn_7 : decode cX6_isIn 7 = .ok (.if_icmp .gt 7, 3) := by decide +kernel
theorem dX6_isIn_10 : decode cX6_isIn 10 = .ok (.iconst 1, 1) := by decide +kernel
theorem dX6_isIn_11 : decode cX6_isIn 11 = .ok (.goto 4, 3) := by decide +kernel
theorem dX6_isIn_14 : decode cX6_isIn 14 = .ok (.iconst 0, 1) := by decide +kernel
theorem dX6_isIn_15 : decode cX6_isIn 15 = .ok (.ireturn, 1) := by decide +kernel
set_option maxRecDepth 20000 in
theorem ggX6_isInRange_X6_manifestByte : GoodIn wsX6_isInRange wsX6_manifestByte := goodIn_r _ [5, 6, 7, 11, 12, 13, 14, 15, 16, 17, 18, 19, 20, 21, 22, 23] (by decide +kernel) (by decide +kernel)
set_option maxRecDepth 20000 in
theorem gX6_isInRange_X6_manifestByte : GoodIn wsX6_isInRange (wsV RX6 94 RX6 yX6_manifestByte wsX6_manifestByte) := goodIn_app (goodIn_of _ (by decide +kernel)) ggX6_isInRange_X6_manifestByte
set_option maxRecDepth 20000 in
theorem ggX6_isInRange_X6_isIn : GoodIn wsX6_isInRange wsX6_isIn := goodIn_r _ [10] (by decide +kernel) (by decide +kernel)
set_option maxRecDepth 20000 in
theorem gX6_isInRange_X6_isIn : GoodIn wsX6_isInRange (va_wsS RX6 98 yX6_isIn wsX6_isIn) := goodIn_app (goodIn_of _ (by decide +kernel)) ggX6_isInRange_X6_isIn
theorem dX6_isInRange_0 : decode cX6_isInRange 0 = .ok (.aload_n 0, 1) := by decide +kernel
theorem dX6_isInRange_1 : decode cX6_isInRange 1 = .ok (.iload_n 1, 1) := by decide +kernel
theorem dX6_isInRange_2 : decode cX6_isInRange 2 = .ok (.iconst 1, 1) := by decide +kernel
theorem dX6_isInRange_3 : decode cX6_isInRange 3 = .ok (.invokevirtual 94, 3) := by decide +kernel
theorem dX6_isInRange_6 : decode cX6_isInRange 6 = .ok (.iconst 1, 1) := by decide +kernel
theorem dX6_isInRange_7 : decode cX6_isInRange 7 = .ok (.sipush 200, 3) := by decide +kernel
theorem dX6_isInRange_10 : decode cX6_isInRange 10 = .ok (.invokestatic 98, 3) := by decide +kernel
theorem dX6_isInRange_13 : decode cX6_isInRange 13 = .ok (.ifCond .eq 41, 3) := by decide +kernel
theorem dX6_isInRange_16 : decode cX6_isInRange 16 = .ok (.aload_n 0, 1) := by decide +kernel
theorem dX6_isInRange_17 : decode cX6_isInRange 17 = .ok (.iload_n 1, 1) := by decide +kernel
theorem dX6_isInRange_18 : decode cX6_isInRange 18 = .ok (.bipush 6, 2) := by decide +kernel
theorem dX6_isInRange_20 : decode cX6_isInRange 20 = .ok (.invokevirtual 94, 3) := by decide +kernel
theorem dX6_isInRange_23 : decode cX6_isInRange 23 = .ok (.iconst 1, 1) := by decide +kernel
theorem dX6_isInRange_24 : decode cX6_isInRange 24 = .ok (.sipush 192, 3) := by decide +kernel
theorem dX6_isInRange_27 : decode cX6_isInRange 27 = .ok (.invokestatic 98, 3) := by decide +kernel
theorem dX6_isInRange_30 : decode cX6_isInRange 30 = .ok (.ifCond .eq 24, 3) := by decide +kernel
theorem dX6_isInRange_33 : decode cX6_isInRange 33 = .ok (.aload_n 0, 1) := by decide +kernel
theorem dX6_isInRange_34 : decode cX6_isInRange 34 = .ok (.iload_n 1, 1) := by decide +kernel
theorem dX6_isInRange_35 : decode cX6_isInRange 35 = .ok (.bipush 11, 2) := by decide +kernel
theorem dX6_isInRange_37 : decode cX6_isInRange 37 = .ok (.invokevirtual 94, 3) := by decide +kernel
theorem dX6_isInRange_40 : decode cX6_isInRange 40 = .ok (.iconst 1, 1) := by decide +kernel
theorem dX6_isInRange_41 : decode cX6_isInRange 41 = .ok (.sipush 192, 3) := by decide +kernel
theorem dX6_isInRange_44 : decode cX6_isInRange 44 = .ok (.invokestatic 98, 3) := by decide +kernel
theorem dX6_isInRange_47 : decode cX6_isInRange 47 = .ok (.ifCond .eq 7, 3) := by decide +kernel
theorem dX6_isInRange_50 : decode cX6_isInRange 50 = .ok (.iconst 1, 1) := by decide +kernel
theorem dX6_isInRange_51 : decode cX6_isInRange 51 = .ok (.goto 4, 3) := by decide +kernel
theorem dX6_isInRange_54 : decode cX6_isInRange 54 = .ok (.iconst 0, 1) := by decide +kernel
theorem dX6_isInRange_55 : decode cX6_isInRange 55 = .ok (.ireturn, 1) := by decide +kernel
set_option maxRecDepth 20000 in
theorem ggX6_isTagged_X6_digested : GoodIn wsX6_isTagged wsX6_digested := goodIn_r _ [6, 7] (by decide +kernel) (by decide +kernel)
set_option maxRecDepth 20000 in
theorem gX6_isTagged_X6_digested : GoodIn wsX6_isTagged (va_wsS RX6 50 yX6_digested wsX6_digested) := goodIn_app (goodIn_of _ (by decide +kernel)) ggX6_isTagged_X6_digested
set_option maxRecDepth 20000 in
theorem ggX6_isTagged_X6_manifestByte : GoodIn wsX6_isTagged wsX6_manifestByte := goodIn_r _ [11, 12, 13, 18, 19, 20, 21, 22, 23, 24, 25, 26, 27, 28, 29, 30] (by decide +kernel) (by decide +kernel)
set_option maxRecDepth 20000 in
theorem gX6_isTagged_X6_manifestByte : GoodIn wsX6_isTagged (wsV RX6 94 RX6 yX6_manifestByte wsX6_manifestByte) := goodIn_app (goodIn_of _ (by decide +kernel)) ggX6_isTagged_X6_manifestByte
set_option maxRecDepth 20000 in
theorem ggX6_isTagged_X6_manifestFour : GoodIn wsX6_isTagged wsX6_manifestFour := goodIn_r _ [17, 8, 9, 10, 5, 11, 12, 13, 18, 19, 20, 21, 22, 23, 24, 25, 26, 27, 28, 29, 30] (by decide +kernel) (by decide +kernel)
set_option maxRecDepth 20000 in
theorem gX6_isTagged_X6_manifestFour : GoodIn wsX6_isTagged (wsV RX6 102 RX6 yX6_manifestFour wsX6_manifestFour) := goodIn_app (goodIn_of _ (by decide +kernel)) ggX6_isTagged_X6_manifestFour
theorem dX6_isTagged_0 : decode cX6_isTagged 0 = .ok (.iconst 0, 1) := by decide +kernel
theorem dX6_isTagged_1 : decode cX6_isTagged 1 = .ok (.istore_n 2, 1) := by decide +kernel
theorem dX6_isTagged_2 : decode cX6_isTagged 2 = .ok (.iconst 0, 1) := by decide +kernel
theorem dX6_isTagged_3 : decode cX6_isTagged 3 = .ok (.istore_n 3, 1) := by decide +kernel
theorem dX6_isTagged_4 : decode cX6_isTagged 4 = .ok (.iload_n 3, 1) := by decide +kernel
theorem dX6_isTagged_5 : decode cX6_isTagged 5 = .ok (.bipush 8, 2) := by decide +kernel
theorem dX6_isTagged_7 : decode cX6_isTagged 7 = .ok (.if_icmp .ge 20, 3) := by decide +kernel
theorem dX6_isTagged_10 : decode cX6_isTagged 10 = .ok (.iload_n 2, 1) := by decide +kernel
theorem dX6_isTagged_11 : decode cX6_isTagged 11 = .ok (.aload_n 0, 1) := by decide +kernel
theorem dX6_isTagged_12 : decode cX6_isTagged 12 = .ok (.getfield 13, 3) := by decide +kernel
theorem dX6_isTagged_15 : decode cX6_isTagged 15 = .ok (.iload_n 3, 1) := by decide +kernel
theorem dX6_isTagged_16 : decode cX6_isTagged 16 = .ok (.iaload, 1) := by decide +kernel
theorem dX6_isTagged_17 : decode cX6_isTagged 17 = .ok (.invokestatic 50, 3) := by decide +kernel
theorem dX6_isTagged_20 : decode cX6_isTagged 20 = .ok (.istore_n 2, 1) := by decide +kernel
theorem dX6_isTagged_21 : decode cX6_isTagged 21 = .ok (.iinc 3 1, 3) := by decide +kernel
theorem dX6_isTagged_24 : decode cX6_isTagged 24 = .ok (.goto (-20), 3) := by decide +kernel
theorem dX6_isTagged_27 : decode cX6_isTagged 27 = .ok (.iconst 0, 1) := by decide +kernel
theorem dX6_isTagged_28 : decode cX6_isTagged 28 = .ok (.istore_n 3, 1) := by decide +kernel
theorem dX6_isTagged_29 : decode cX6_isTagged 29 = .ok (.iload_n 3, 1) := by decide +kernel
theorem dX6_isTagged_30 : decode cX6_isTagged 30 = .ok (.bipush 16, 2) := by decide +kernel
theorem dX6_isTagged_32 : decode cX6_isTagged 32 = .ok (.if_icmp .ge 20, 3) := by decide +kernel
theorem dX6_isTagged_35 : decode cX6_isTagged 35 = .ok (.iload_n 2, 1) := by decide +kernel
theorem dX6_isTagged_36 : decode cX6_isTagged 36 = .ok (.aload_n 0, 1) := by decide +kernel
theorem dX6_isTagged_37 : decode cX6_isTagged 37 = .ok (.iload_n 1, 1) := by decide +kernel
theorem dX6_isTagged_38 : decode cX6_isTagged 38 = .ok (.iload_n 3, 1) := by decide +kernel
theorem dX6_isTagged_39 : decode cX6_isTagged 39 = .ok (.invokevirtual 94, 3) := by decide +kernel
theorem dX6_isTagged_42 : decode cX6_isTagged 42 = .ok (.invokestatic 50, 3) := by decide +kernel
theorem dX6_isTagged_45 : decode cX6_isTagged 45 = .ok (.istore_n 2, 1) := by decide +kernel
theorem dX6_isTagged_46 : decode cX6_isTagged 46 = .ok (.iinc 3 1, 3) := by decide +kernel
theorem dX6_isTagged_49 : decode cX6_isTagged 49 = .ok (.goto (-20), 3) := by decide +kernel
theorem dX6_isTagged_52 : decode cX6_isTagged 52 = .ok (.iload_n 2, 1) := by decide +kernel
theorem dX6_isTagged_53 : decode cX6_isTagged 53 = .ok (.aload_n 0, 1) := by decide +kernel
theorem dX6_isTagged_54 : decode cX6_isTagged 54 = .ok (.iload_n 1, 1) := by decide +kernel
theorem dX6_isTagged_55 : decode cX6_isTagged 55 = .ok (.bipush 16, 2) := by decide +kernel
theorem dX6_isTagged_57 : decode cX6_isTagged 57 = .ok (.invokevirtual 102, 3) := by decide +kernel
theorem dX6_isTagged_60 : decode cX6_isTagged 60 = .ok (.if_icmp .ne 20, 3) := by decide +kernel
theorem dX6_isTagged_63 : decode cX6_isTagged 63 = .ok (.aload_n 0, 1) := by decide +kernel
theorem dX6_isTagged_64 : decode cX6_isTagged 64 = .ok (.iload_n 1, 1) := by decide +kernel
theorem dX6_isTagged_65 : decode cX6_isTagged 65 = .ok (.iconst 0, 1) := by decide +kernel
theorem dX6_isTagged_66 : decode cX6_isTagged 66 = .ok (.invokevirtual 94, 3) := by decide +kernel
theorem dX6_isTagged_69 : decode cX6_isTagged 69 = .ok (.aload_n 0, 1) := by decide +kernel
theorem dX6_isTagged_70 : decode cX6_isTagged 70 = .ok (.getfield 33, 3) := by decide +kernel
theorem dX6_isTagged_73 : decode cX6_isTagged 73 = .ok (.if_icmp .ne 7, 3) := by decide +kernel
theorem dX6_isTagged_76 : decode cX6_isTagged 76 = .ok (.iconst 1, 1) := by decide +kernel
theorem dX6_isTagged_77 : decode cX6_isTagged 77 = .ok (.goto 4, 3) := by decide +kernel
theorem dX6_isTagged_80 : decode cX6_isTagged 80 = .ok (.iconst 0, 1) := by decide +kernel
theorem dX6_isTagged_81 : decode cX6_isTagged 81 = .ok (.ireturn, 1) := by decide +kernel
set_option maxRecDepth 20000 in
theorem ggX6_isRight_X6_isInRange : GoodIn wsX6_isRight wsX6_isInRange := goodIn_r _ [5, 6, 7, 8, 4, 9, 10, 11, 12, 13, 14, 29, 30, 31, 32, 33, 34, 35, 36, 37, 38, 39, 40, 41] (by decide +kernel) (by decide +kernel)
set_option maxRecDepth 20000 in
theorem gX6_isRight_X6_isInRange : GoodIn wsX6_isRight (wsV RX6 105 RX6 yX6_isInRange wsX6_isInRange) := goodIn_app (goodIn_of _ (by decide +kernel)) ggX6_isRight_X6_isInRange
set_option maxRecDepth 20000 in
theorem ggX6_isRight_X6_isTagged : GoodIn wsX6_isRight wsX6_isTagged := goodIn_r _ [18, 19, 20, 21, 22, 4, 23, 24, 6, 7, 8, 9, 10, 11, 25, 26, 27, 28, 29, 30, 31, 32, 33, 34, 35, 36, 37, 38, 39, 40, 41] (by decide +kernel) (by decide +kernel)
set_option maxRecDepth 20000 in
theorem gX6_isRight_X6_isTagged : GoodIn wsX6_isRight (wsV RX6 109 RX6 yX6_isTagged wsX6_isTagged) := goodIn_app (goodIn_of _ (by decide +kernel)) ggX6_isRight_X6_isTagged
theorem dX6_isRight_0 : decode cX6_isRight 0 = .ok (.aload_n 0, 1) := by decide +kernel
theorem dX6_isRight_1 : decode cX6_isRight 1 = .ok (.iconst 0, 1) := by decide +kernel
theorem dX6_isRight_2 : decode cX6_isRight 2 = .ok (.invokevirtual 105, 3) := by decide +kernel
theorem dX6_isRight_5 : decode cX6_isRight 5 = .ok (.ifCond .eq 15, 3) := by decide +kernel
theorem dX6_isRight_8 : decode cX6_isRight 8 = .ok (.aload_n 0, 1) := by decide +kernel
theorem dX6_isRight_9 : decode cX6_isRight 9 = .ok (.iconst 0, 1) := by decide +kernel
theorem dX6_isRight_10 : decode cX6_isRight 10 = .ok (.invokevirtual 109, 3) := by decide +kernel
theorem dX6_isRight_13 : decode cX6_isRight 13 = .ok (.ifCond .eq 7, 3) := by decide +kernel
theorem dX6_isRight_16 : decode cX6_isRight 16 = .ok (.iconst 1, 1) := by decide +kernel
theorem dX6_isRight_17 : decode cX6_isRight 17 = .ok (.goto 4, 3) := by decide +kernel
theorem dX6_isRight_20 : decode cX6_isRight 20 = .ok (.iconst 0, 1) := by decide +kernel
theorem dX6_isRight_21 : decode cX6_isRight 21 = .ok (.ireturn, 1) := by decide +kernel
set_option maxRecDepth 20000 in
theorem ggX6_isOld_X6_manifestByte : GoodIn wsX6_isOld wsX6_manifestByte := goodIn_r _ [6, 7, 8, 23, 24, 25, 26, 27, 28, 29, 30, 31, 32, 33, 34, 35] (by decide +kernel) (by decide +kernel)
set_option maxRecDepth 20000 in
theorem gX6_isOld_X6_manifestByte : GoodIn wsX6_isOld (wsV RX6 94 RX6 yX6_manifestByte wsX6_manifestByte) := goodIn_app (goodIn_of _ (by decide +kernel)) ggX6_isOld_X6_manifestByte
set_option maxRecDepth 20000 in
theorem ggX6_isOld_X6_counterValue : GoodIn wsX6_isOld wsX6_counterValue := goodIn_r _ [12, 8, 13, 14, 5, 15, 23, 24, 25, 26, 27, 28, 29, 30, 31, 32, 33, 34, 35] (by decide +kernel) (by decide +kernel)
set_option maxRecDepth 20000 in
theorem gX6_isOld_X6_counterValue : GoodIn wsX6_isOld (wsV RX6 70 RX6 yX6_counterValue wsX6_counterValue) := goodIn_app (goodIn_of _ (by decide +kernel)) ggX6_isOld_X6_counterValue
set_option maxRecDepth 20000 in
theorem ggX6_isOld_X6_sequenceOf : GoodIn wsX6_isOld wsX6_sequenceOf := goodIn_r _ [19, 8, 20, 21, 5, 22, 23, 24, 25, 26, 27, 28, 29, 30, 31, 32, 33, 34, 35] (by decide +kernel) (by decide +kernel)
set_option maxRecDepth 20000 in
theorem gX6_isOld_X6_sequenceOf : GoodIn wsX6_isOld (wsV RX6 112 RX6 yX6_sequenceOf wsX6_sequenceOf) := goodIn_app (goodIn_of _ (by decide +kernel)) ggX6_isOld_X6_sequenceOf
theorem dX6_isOld_0 : decode cX6_isOld 0 = .ok (.aload_n 0, 1) := by decide +kernel
theorem dX6_isOld_1 : decode cX6_isOld 1 = .ok (.iload_n 1, 1) := by decide +kernel
theorem dX6_isOld_2 : decode cX6_isOld 2 = .ok (.iconst 1, 1) := by decide +kernel
theorem dX6_isOld_3 : decode cX6_isOld 3 = .ok (.invokevirtual 94, 3) := by decide +kernel
theorem dX6_isOld_6 : decode cX6_isOld 6 = .ok (.istore_n 2, 1) := by decide +kernel
theorem dX6_isOld_7 : decode cX6_isOld 7 = .ok (.iload_n 2, 1) := by decide +kernel
theorem dX6_isOld_8 : decode cX6_isOld 8 = .ok (.aload_n 0, 1) := by decide +kernel
theorem dX6_isOld_9 : decode cX6_isOld 9 = .ok (.invokevirtual 70, 3) := by decide +kernel
theorem dX6_isOld_12 : decode cX6_isOld 12 = .ok (.if_icmp .le 24, 3) := by decide +kernel
theorem dX6_isOld_15 : decode cX6_isOld 15 = .ok (.aload_n 0, 1) := by decide +kernel
theorem dX6_isOld_16 : decode cX6_isOld 16 = .ok (.getfield 23, 3) := by decide +kernel
theorem dX6_isOld_19 : decode cX6_isOld 19 = .ok (.bipush (-7), 2) := by decide +kernel
theorem dX6_isOld_21 : decode cX6_isOld 21 = .ok (.if_icmp .eq 15, 3) := by decide +kernel
theorem dX6_isOld_24 : decode cX6_isOld 24 = .ok (.aload_n 0, 1) := by decide +kernel
theorem dX6_isOld_25 : decode cX6_isOld 25 = .ok (.aload_n 0, 1) := by decide +kernel
theorem dX6_isOld_26 : decode cX6_isOld 26 = .ok (.getfield 23, 3) := by decide +kernel
theorem dX6_isOld_29 : decode cX6_isOld 29 = .ok (.invokevirtual 112, 3) := by decide +kernel
theorem dX6_isOld_32 : decode cX6_isOld 32 = .ok (.iload_n 2, 1) := by decide +kernel
theorem dX6_isOld_33 : decode cX6_isOld 33 = .ok (.if_icmp .lt 7, 3) := by decide +kernel
theorem dX6_isOld_36 : decode cX6_isOld 36 = .ok (.iconst 1, 1) := by decide +kernel
theorem dX6_isOld_37 : decode cX6_isOld 37 = .ok (.goto 4, 3) := by decide +kernel
theorem dX6_isOld_40 : decode cX6_isOld 40 = .ok (.iconst 0, 1) := by decide +kernel
theorem dX6_isOld_41 : decode cX6_isOld 41 = .ok (.ireturn, 1) := by decide +kernel
set_option maxRecDepth 20000 in
theorem ggX6_manifest_X6_isInRange : GoodIn wsX6_manifest wsX6_isInRange := goodIn_r _ [10, 11, 12, 13, 9, 14, 5, 4, 15, 16, 17, 66, 67, 68, 69, 70, 71, 72, 73, 74, 75, 76, 77, 78] (by decide +kernel) (by decide +kernel)
set_option maxRecDepth 20000 in
theorem gX6_manifest_X6_isInRange : GoodIn wsX6_manifest (wsV RX6 105 RX6 yX6_isInRange wsX6_isInRange) := goodIn_app (goodIn_of _ (by decide +kernel)) ggX6_manifest_X6_isInRange
set_option maxRecDepth 20000 in
theorem ggX6_manifest_X6_isTagged : GoodIn wsX6_manifest wsX6_isTagged := goodIn_r _ [21, 22, 23, 24, 25, 9, 26, 27, 11, 12, 13, 14, 5, 4, 28, 29, 30, 31, 66, 67, 68, 69, 70, 71, 72, 73, 74, 75, 76, 77, 78] (by decide +kernel) (by decide +kernel)
set_option maxRecDepth 20000 in
theorem gX6_manifest_X6_isTagged : GoodIn wsX6_manifest (wsV RX6 109 RX6 yX6_isTagged wsX6_isTagged) := goodIn_app (goodIn_of _ (by decide +kernel)) ggX6_manifest_X6_isTagged
set_option maxRecDepth 20000 in
theorem ggX6_manifest_X6_isOld : GoodIn wsX6_manifest wsX6_isOld := goodIn_r _ [35, 36, 11, 12, 13, 9, 14, 5, 4, 37, 38, 39, 40, 41, 42, 43, 44, 45, 46, 47, 48, 49, 50, 66, 67, 68, 69, 70, 71, 72, 73, 74, 75, 76, 77, 78] (by decide +kernel) (by decide +kernel)
set_option maxRecDepth 20000 in
theorem gX6_manifest_X6_isOld : GoodIn wsX6_manifest (wsV RX6 115 RX6 yX6_isOld wsX6_isOld) := goodIn_app (goodIn_of _ (by decide +kernel)) ggX6_manifest_X6_isOld
set_option maxRecDepth 20000 in
theorem ggX6_manifest_X6_erase : GoodIn wsX6_manifest wsX6_erase := goodIn_r _ [54, 2, 55, 4, 56, 57, 58, 9, 59, 60, 61, 36, 66, 67, 68, 69, 70, 71, 72, 73, 74, 75, 76, 77, 78] (by decide +kernel) (by decide +kernel)
set_option maxRecDepth 20000 in
theorem gX6_manifest_X6_erase : GoodIn wsX6_manifest (wsV RX6 79 RX6 yX6_erase wsX6_erase) := goodIn_app (goodIn_of _ (by decide +kernel)) ggX6_manifest_X6_erase
set_option maxRecDepth 20000 in
theorem ggX6_manifest_X6_program : GoodIn wsX6_manifest wsX6_program := goodIn_r _ [65, 2, 4, 55, 56, 57, 58, 9, 59, 60, 61, 36, 66, 67, 68, 69, 70, 71, 72, 73, 74, 75, 76, 77, 78] (by decide +kernel) (by decide +kernel)
set_option maxRecDepth 20000 in
theorem gX6_manifest_X6_program : GoodIn wsX6_manifest (wsV RX6 83 RX6 yX6_program wsX6_program) := goodIn_app (goodIn_of _ (by decide +kernel)) ggX6_manifest_X6_program
theorem dX6_manifest_0 : decode cX6_manifest 0 = .ok (.aload_n 0, 1) := by decide +kernel
theorem dX6_manifest_1 : decode cX6_manifest 1 = .ok (.iconst 0, 1) := by decide +kernel
theorem dX6_manifest_2 : decode cX6_manifest 2 = .ok (.putfield 36, 3) := by decide +kernel
theorem dX6_manifest_5 : decode cX6_manifest 5 = .ok (.aload_n 0, 1) := by decide +kernel
theorem dX6_manifest_6 : decode cX6_manifest 6 = .ok (.getfield 19, 3) := by decide +kernel
theorem dX6_manifest_9 : decode cX6_manifest 9 = .ok (.ifCond .ne 6, 3) := by decide +kernel
theorem dX6_manifest_12 : decode cX6_manifest 12 = .ok (.bipush (-2), 2) := by decide +kernel
theorem dX6_manifest_14 : decode cX6_manifest 14 = .ok (.ireturn, 1) := by decide +kernel
theorem dX6_manifest_15 : decode cX6_manifest 15 = .ok (.aload_n 0, 1) := by decide +kernel
theorem dX6_manifest_16 : decode cX6_manifest 16 = .ok (.getfield 74, 3) := by decide +kernel
theorem dX6_manifest_19 : decode cX6_manifest 19 = .ok (.istore_n 1, 1) := by decide +kernel
theorem dX6_manifest_20 : decode cX6_manifest 20 = .ok (.aload_n 0, 1) := by decide +kernel
theorem dX6_manifest_21 : decode cX6_manifest 21 = .ok (.iconst 0, 1) := by decide +kernel
theorem dX6_manifest_22 : decode cX6_manifest 22 = .ok (.putfield 74, 3) := by decide +kernel
theorem dX6_manifest_25 : decode cX6_manifest 25 = .ok (.iload_n 1, 1) := by decide +kernel
theorem dX6_manifest_26 : decode cX6_manifest 26 = .ok (.bipush 20, 2) := by decide +kernel
theorem dX6_manifest_28 : decode cX6_manifest 28 = .ok (.if_icmp .ne 11, 3) := by decide +kernel
theorem dX6_manifest_31 : decode cX6_manifest 31 = .ok (.aload_n 0, 1) := by decide +kernel
theorem dX6_manifest_32 : decode cX6_manifest 32 = .ok (.iconst 1, 1) := by decide +kernel
theorem dX6_manifest_33 : decode cX6_manifest 33 = .ok (.invokevirtual 105, 3) := by decide +kernel
theorem dX6_manifest_36 : decode cX6_manifest 36 = .ok (.ifCond .ne 5, 3) := by decide +kernel
theorem dX6_manifest_39 : decode cX6_manifest 39 = .ok (.iconst (-1), 1) := by decide +kernel
theorem dX6_manifest_40 : decode cX6_manifest 40 = .ok (.ireturn, 1) := by decide +kernel
theorem dX6_manifest_41 : decode cX6_manifest 41 = .ok (.aload_n 0, 1) := by decide +kernel
theorem dX6_manifest_42 : decode cX6_manifest 42 = .ok (.iconst 1, 1) := by decide +kernel
theorem dX6_manifest_43 : decode cX6_manifest 43 = .ok (.invokevirtual 109, 3) := by decide +kernel
theorem dX6_manifest_46 : decode cX6_manifest 46 = .ok (.ifCond .ne 6, 3) := by decide +kernel
theorem dX6_manifest_49 : decode cX6_manifest 49 = .ok (.bipush (-4), 2) := by decide +kernel
theorem dX6_manifest_51 : decode cX6_manifest 51 = .ok (.ireturn, 1) := by decide +kernel
theorem dX6_manifest_52 : decode cX6_manifest 52 = .ok (.aload_n 0, 1) := by decide +kernel
theorem dX6_manifest_53 : decode cX6_manifest 53 = .ok (.iconst 1, 1) := by decide +kernel
theorem dX6_manifest_54 : decode cX6_manifest 54 = .ok (.invokevirtual 115, 3) := by decide +kernel
theorem dX6_manifest_57 : decode cX6_manifest 57 = .ok (.ifCond .eq 6, 3) := by decide +kernel
theorem dX6_manifest_60 : decode cX6_manifest 60 = .ok (.bipush (-3), 2) := by decide +kernel
theorem dX6_manifest_62 : decode cX6_manifest 62 = .ok (.ireturn, 1) := by decide +kernel
theorem dX6_manifest_63 : decode cX6_manifest 63 = .ok (.iconst 1, 1) := by decide +kernel
theorem dX6_manifest_64 : decode cX6_manifest 64 = .ok (.istore_n 2, 1) := by decide +kernel
theorem dX6_manifest_65 : decode cX6_manifest 65 = .ok (.iconst 0, 1) := by decide +kernel
theorem dX6_manifest_66 : decode cX6_manifest 66 = .ok (.istore_n 3, 1) := by decide +kernel
theorem dX6_manifest_67 : decode cX6_manifest 67 = .ok (.iload_n 3, 1) := by decide +kernel
theorem dX6_manifest_68 : decode cX6_manifest 68 = .ok (.bipush 20, 2) := by decide +kernel
theorem dX6_manifest_70 : decode cX6_manifest 70 = .ok (.if_icmp .ge 38, 3) := by decide +kernel
theorem dX6_manifest_73 : decode cX6_manifest 73 = .ok (.iload_n 2, 1) := by decide +kernel
theorem dX6_manifest_74 : decode cX6_manifest 74 = .ok (.ifCond .eq 26, 3) := by decide +kernel
theorem dX6_manifest_77 : decode cX6_manifest 77 = .ok (.aload_n 0, 1) := by decide +kernel
theorem dX6_manifest_78 : decode cX6_manifest 78 = .ok (.getfield 7, 3) := by decide +kernel
theorem dX6_manifest_81 : decode cX6_manifest 81 = .ok (.sipush 640, 3) := by decide +kernel
theorem dX6_manifest_84 : decode cX6_manifest 84 = .ok (.iload_n 3, 1) := by decide +kernel
theorem dX6_manifest_85 : decode cX6_manifest 85 = .ok (.iadd, 1) := by decide +kernel
theorem dX6_manifest_86 : decode cX6_manifest 86 = .ok (.iaload, 1) := by decide +kernel
theorem dX6_manifest_87 : decode cX6_manifest 87 = .ok (.aload_n 0, 1) := by decide +kernel
theorem dX6_manifest_88 : decode cX6_manifest 88 = .ok (.getfield 16, 3) := by decide +kernel
theorem dX6_manifest_91 : decode cX6_manifest 91 = .ok (.iload_n 3, 1) := by decide +kernel
theorem dX6_manifest_92 : decode cX6_manifest 92 = .ok (.iaload, 1) := by decide +kernel
theorem dX6_manifest_93 : decode cX6_manifest 93 = .ok (.if_icmp .ne 7, 3) := by decide +kernel
theorem dX6_manifest_96 : decode cX6_manifest 96 = .ok (.iconst 1, 1) := by decide +kernel
theorem dX6_manifest_97 : decode cX6_manifest 97 = .ok (.goto 4, 3) := by decide +kernel
theorem dX6_manifest_100 : decode cX6_manifest 100 = .ok (.iconst 0, 1) := by decide +kernel
theorem dX6_manifest_101 : decode cX6_manifest 101 = .ok (.istore_n 2, 1) := by decide +kernel
theorem dX6_manifest_102 : decode cX6_manifest 102 = .ok (.iinc 3 1, 3) := by decide +kernel
theorem dX6_manifest_105 : decode cX6_manifest 105 = .ok (.goto (-38), 3) := by decide +kernel
theorem dX6_manifest_108 : decode cX6_manifest 108 = .ok (.iload_n 2, 1) := by decide +kernel
theorem dX6_manifest_109 : decode cX6_manifest 109 = .ok (.ifCond .eq 5, 3) := by decide +kernel
theorem dX6_manifest_112 : decode cX6_manifest 112 = .ok (.iconst 1, 1) := by decide +kernel
theorem dX6_manifest_113 : decode cX6_manifest 113 = .ok (.ireturn, 1) := by decide +kernel
theorem dX6_manifest_114 : decode cX6_manifest 114 = .ok (.aload_n 0, 1) := by decide +kernel
theorem dX6_manifest_115 : decode cX6_manifest 115 = .ok (.bipush 21, 2) := by decide +kernel
theorem dX6_manifest_117 : decode cX6_manifest 117 = .ok (.invokevirtual 79, 3) := by decide +kernel
theorem dX6_manifest_120 : decode cX6_manifest 120 = .ok (.aload_n 0, 1) := by decide +kernel
theorem dX6_manifest_121 : decode cX6_manifest 121 = .ok (.bipush 20, 2) := by decide +kernel
theorem dX6_manifest_123 : decode cX6_manifest 123 = .ok (.invokevirtual 79, 3) := by decide +kernel
theorem dX6_manifest_126 : decode cX6_manifest 126 = .ok (.bipush 14, 2) := by decide +kernel
theorem dX6_manifest_128 : decode cX6_manifest 128 = .ok (.istore_n 3, 1) := by decide +kernel
theorem dX6_manifest_129 : decode cX6_manifest 129 = .ok (.iload_n 3, 1) := by decide +kernel
theorem dX6_manifest_130 : decode cX6_manifest 130 = .ok (.bipush 20, 2) := by decide +kernel
theorem dX6_manifest_132 : decode cX6_manifest 132 = .ok (.if_icmp .ge 14, 3) := by decide +kernel
theorem dX6_manifest_135 : decode cX6_manifest 135 = .ok (.aload_n 0, 1) := by decide +kernel
theorem dX6_manifest_136 : decode cX6_manifest 136 = .ok (.iload_n 3, 1) := by decide +kernel
theorem dX6_manifest_137 : decode cX6_manifest 137 = .ok (.invokevirtual 79, 3) := by decide +kernel
theorem dX6_manifest_140 : decode cX6_manifest 140 = .ok (.iinc 3 1, 3) := by decide +kernel
theorem dX6_manifest_143 : decode cX6_manifest 143 = .ok (.goto (-14), 3) := by decide +kernel
theorem dX6_manifest_146 : decode cX6_manifest 146 = .ok (.iconst 0, 1) := by decide +kernel
theorem dX6_manifest_147 : decode cX6_manifest 147 = .ok (.istore_n 3, 1) := by decide +kernel
theorem dX6_manifest_148 : decode cX6_manifest 148 = .ok (.iload_n 3, 1) := by decide +kernel
theorem dX6_manifest_149 : decode cX6_manifest 149 = .ok (.bipush 20, 2) := by decide +kernel
theorem dX6_manifest_151 : decode cX6_manifest 151 = .ok (.if_icmp .ge 24, 3) := by decide +kernel
theorem dX6_manifest_154 : decode cX6_manifest 154 = .ok (.aload_n 0, 1) := by decide +kernel
theorem dX6_manifest_155 : decode cX6_manifest 155 = .ok (.sipush 640, 3) := by decide +kernel
theorem dX6_manifest_158 : decode cX6_manifest 158 = .ok (.iload_n 3, 1) := by decide +kernel
theorem dX6_manifest_159 : decode cX6_manifest 159 = .ok (.iadd, 1) := by decide +kernel
theorem dX6_manifest_160 : decode cX6_manifest 160 = .ok (.aload_n 0, 1) := by decide +kernel
theorem dX6_manifest_161 : decode cX6_manifest 161 = .ok (.getfield 16, 3) := by decide +kernel
theorem dX6_manifest_164 : decode cX6_manifest 164 = .ok (.iload_n 3, 1) := by decide +kernel
theorem dX6_manifest_165 : decode cX6_manifest 165 = .ok (.iaload, 1) := by decide +kernel
theorem dX6_manifest_166 : decode cX6_manifest 166 = .ok (.invokevirtual 83, 3) := by decide +kernel
theorem dX6_manifest_169 : decode cX6_manifest 169 = .ok (.iinc 3 1, 3) := by decide +kernel
theorem dX6_manifest_172 : decode cX6_manifest 172 = .ok (.goto (-24), 3) := by decide +kernel
theorem dX6_manifest_175 : decode cX6_manifest 175 = .ok (.aload_n 0, 1) := by decide +kernel
theorem dX6_manifest_176 : decode cX6_manifest 176 = .ok (.getfield 19, 3) := by decide +kernel
theorem dX6_manifest_179 : decode cX6_manifest 179 = .ok (.ifCond .eq 7, 3) := by decide +kernel
theorem dX6_manifest_182 : decode cX6_manifest 182 = .ok (.iconst 0, 1) := by decide +kernel
theorem dX6_manifest_183 : decode cX6_manifest 183 = .ok (.goto 5, 3) := by decide +kernel
theorem dX6_manifest_186 : decode cX6_manifest 186 = .ok (.bipush (-2), 2) := by decide +kernel
theorem dX6_manifest_188 : decode cX6_manifest 188 = .ok (.ireturn, 1) := by decide +kernel
theorem dX6_blocks_0 : decode cX6_blocks 0 = .ok (.aload_n 0, 1) := by decide +kernel
theorem dX6_blocks_1 : decode cX6_blocks 1 = .ok (.getfield 7, 3) := by decide +kernel
theorem dX6_blocks_4 : decode cX6_blocks 4 = .ok (.sipush 646, 3) := by decide +kernel
theorem dX6_blocks_7 : decode cX6_blocks 7 = .ok (.iaload, 1) := by decide +kernel
theorem dX6_blocks_8 : decode cX6_blocks 8 = .ok (.bipush 15, 2) := by decide +kernel
theorem dX6_blocks_10 : decode cX6_blocks 10 = .ok (.iadd, 1) := by decide +kernel
theorem dX6_blocks_11 : decode cX6_blocks 11 = .ok (.bipush 16, 2) := by decide +kernel
theorem dX6_blocks_13 : decode cX6_blocks 13 = .ok (.idiv, 1) := by decide +kernel
theorem dX6_blocks_14 : decode cX6_blocks 14 = .ok (.ireturn, 1) := by decide +kernel
set_option maxRecDepth 20000 in
theorem ggX6_block_X6_isRight : GoodIn wsX6_block wsX6_isRight := goodIn_r _ [10, 11, 12, 13, 9, 14, 15, 16, 17, 18, 5, 3, 19, 20, 21, 22, 23, 24, 25, 26, 27, 28, 29, 30, 31, 32, 33, 34, 35, 52, 53, 54, 55, 56, 57, 58, 59, 60, 61, 62, 63, 64] (by decide +kernel) (by decide +kernel)
set_option maxRecDepth 20000 in
theorem gX6_block_X6_isRight : GoodIn wsX6_block (wsV RX6 118 RX6 yX6_isRight wsX6_isRight) := goodIn_app (goodIn_of _ (by decide +kernel)) ggX6_block_X6_isRight
set_option maxRecDepth 20000 in
theorem ggX6_block_X6_blocks : GoodIn wsX6_block wsX6_blocks := goodIn_r _ [39, 3, 52, 53, 54, 55, 56, 57, 58, 59, 60, 61, 62, 63, 64] (by decide +kernel) (by decide +kernel)
set_option maxRecDepth 20000 in
theorem gX6_block_X6_blocks : GoodIn wsX6_block (wsV RX6 121 RX6 yX6_blocks wsX6_blocks) := goodIn_app (goodIn_of _ (by decide +kernel)) ggX6_block_X6_blocks
set_option maxRecDepth 20000 in
theorem ggX6_block_X6_program : GoodIn wsX6_block wsX6_program := goodIn_r _ [43, 2, 3, 44, 45, 46, 47, 9, 48, 49, 50, 51, 52, 53, 54, 55, 56, 57, 58, 59, 60, 61, 62, 63, 64] (by decide +kernel) (by decide +kernel)
set_option maxRecDepth 20000 in
theorem gX6_block_X6_program : GoodIn wsX6_block (wsV RX6 83 RX6 yX6_program wsX6_program) := goodIn_app (goodIn_of _ (by decide +kernel)) ggX6_block_X6_program
theorem dX6_block_0 : decode cX6_block 0 = .ok (.aload_n 0, 1) := by decide +kernel
theorem dX6_block_1 : decode cX6_block 1 = .ok (.iconst 0, 1) := by decide +kernel
theorem dX6_block_2 : decode cX6_block 2 = .ok (.putfield 36, 3) := by decide +kernel
theorem dX6_block_5 : decode cX6_block 5 = .ok (.aload_n 0, 1) := by decide +kernel
theorem dX6_block_6 : decode cX6_block 6 = .ok (.getfield 19, 3) := by decide +kernel
theorem dX6_block_9 : decode cX6_block 9 = .ok (.ifCond .ne 6, 3) := by decide +kernel
theorem dX6_block_12 : decode cX6_block 12 = .ok (.bipush (-2), 2) := by decide +kernel
theorem dX6_block_14 : decode cX6_block 14 = .ok (.ireturn, 1) := by decide +kernel
theorem dX6_block_15 : decode cX6_block 15 = .ok (.aload_n 0, 1) := by decide +kernel
theorem dX6_block_16 : decode cX6_block 16 = .ok (.invokevirtual 118, 3) := by decide +kernel
theorem dX6_block_19 : decode cX6_block 19 = .ok (.ifCond .eq 15, 3) := by decide +kernel
theorem dX6_block_22 : decode cX6_block 22 = .ok (.iload_n 1, 1) := by decide +kernel
theorem dX6_block_23 : decode cX6_block 23 = .ok (.ifCond .lt 11, 3) := by decide +kernel
theorem dX6_block_26 : decode cX6_block 26 = .ok (.iload_n 1, 1) := by decide +kernel
theorem dX6_block_27 : decode cX6_block 27 = .ok (.aload_n 0, 1) := by decide +kernel
theorem dX6_block_28 : decode cX6_block 28 = .ok (.invokevirtual 121, 3) := by decide +kernel
theorem dX6_block_31 : decode cX6_block 31 = .ok (.if_icmp .lt 5, 3) := by decide +kernel
theorem dX6_block_34 : decode cX6_block 34 = .ok (.iconst (-1), 1) := by decide +kernel
theorem dX6_block_35 : decode cX6_block 35 = .ok (.ireturn, 1) := by decide +kernel
theorem dX6_block_36 : decode cX6_block 36 = .ok (.iload_n 1, 1) := by decide +kernel
theorem dX6_block_37 : decode cX6_block 37 = .ok (.iconst 1, 1) := by decide +kernel
theorem dX6_block_38 : decode cX6_block 38 = .ok (.iadd, 1) := by decide +kernel
theorem dX6_block_39 : decode cX6_block 39 = .ok (.aload_n 0, 1) := by decide +kernel
theorem dX6_block_40 : decode cX6_block 40 = .ok (.invokevirtual 121, 3) := by decide +kernel
theorem dX6_block_43 : decode cX6_block 43 = .ok (.if_icmp .ge 8, 3) := by decide +kernel
theorem dX6_block_46 : decode cX6_block 46 = .ok (.bipush 16, 2) := by decide +kernel
theorem dX6_block_48 : decode cX6_block 48 = .ok (.goto 16, 3) := by decide +kernel
theorem dX6_block_51 : decode cX6_block 51 = .ok (.aload_n 0, 1) := by decide +kernel
theorem dX6_block_52 : decode cX6_block 52 = .ok (.getfield 7, 3) := by decide +kernel
theorem dX6_block_55 : decode cX6_block 55 = .ok (.sipush 646, 3) := by decide +kernel
theorem dX6_block_58 : decode cX6_block 58 = .ok (.iaload, 1) := by decide +kernel
theorem dX6_block_59 : decode cX6_block 59 = .ok (.bipush 16, 2) := by decide +kernel
theorem dX6_block_61 : decode cX6_block 61 = .ok (.iload_n 1, 1) := by decide +kernel
theorem dX6_block_62 : decode cX6_block 62 = .ok (.imul, 1) := by decide +kernel
theorem dX6_block_63 : decode cX6_block 63 = .ok (.isub, 1) := by decide +kernel
theorem dX6_block_64 : decode cX6_block 64 = .ok (.istore_n 2, 1) := by decide +kernel
theorem dX6_block_65 : decode cX6_block 65 = .ok (.aload_n 0, 1) := by decide +kernel
theorem dX6_block_66 : decode cX6_block 66 = .ok (.getfield 74, 3) := by decide +kernel
theorem dX6_block_69 : decode cX6_block 69 = .ok (.iload_n 2, 1) := by decide +kernel
theorem dX6_block_70 : decode cX6_block 70 = .ok (.if_icmp .eq 5, 3) := by decide +kernel
theorem dX6_block_73 : decode cX6_block 73 = .ok (.iconst (-1), 1) := by decide +kernel
theorem dX6_block_74 : decode cX6_block 74 = .ok (.ireturn, 1) := by decide +kernel
theorem dX6_block_75 : decode cX6_block 75 = .ok (.aload_n 0, 1) := by decide +kernel
theorem dX6_block_76 : decode cX6_block 76 = .ok (.iconst 0, 1) := by decide +kernel
theorem dX6_block_77 : decode cX6_block 77 = .ok (.putfield 74, 3) := by decide +kernel
theorem dX6_block_80 : decode cX6_block 80 = .ok (.aload_n 0, 1) := by decide +kernel
theorem dX6_block_81 : decode cX6_block 81 = .ok (.getfield 7, 3) := by decide +kernel
theorem dX6_block_84 : decode cX6_block 84 = .ok (.sipush 672, 3) := by decide +kernel
theorem dX6_block_87 : decode cX6_block 87 = .ok (.iload_n 1, 1) := by decide +kernel
theorem dX6_block_88 : decode cX6_block 88 = .ok (.iadd, 1) := by decide +kernel
theorem dX6_block_89 : decode cX6_block 89 = .ok (.iaload, 1) := by decide +kernel
theorem dX6_block_90 : decode cX6_block 90 = .ok (.ifCond .ne 5, 3) := by decide +kernel
theorem dX6_block_93 : decode cX6_block 93 = .ok (.iconst 0, 1) := by decide +kernel
theorem dX6_block_94 : decode cX6_block 94 = .ok (.ireturn, 1) := by decide +kernel
theorem dX6_block_95 : decode cX6_block 95 = .ok (.iconst 0, 1) := by decide +kernel
theorem dX6_block_96 : decode cX6_block 96 = .ok (.istore_n 3, 1) := by decide +kernel
theorem dX6_block_97 : decode cX6_block 97 = .ok (.iload_n 3, 1) := by decide +kernel
theorem dX6_block_98 : decode cX6_block 98 = .ok (.iload_n 2, 1) := by decide +kernel
theorem dX6_block_99 : decode cX6_block 99 = .ok (.if_icmp .ge 29, 3) := by decide +kernel
theorem dX6_block_102 : decode cX6_block 102 = .ok (.aload_n 0, 1) := by decide +kernel
theorem dX6_block_103 : decode cX6_block 103 = .ok (.sipush 448, 3) := by decide +kernel
theorem dX6_block_106 : decode cX6_block 106 = .ok (.bipush 16, 2) := by decide +kernel
theorem dX6_block_108 : decode cX6_block 108 = .ok (.iload_n 1, 1) := by decide +kernel
theorem dX6_block_109 : decode cX6_block 109 = .ok (.imul, 1) := by decide +kernel
theorem dX6_block_110 : decode cX6_block 110 = .ok (.iadd, 1) := by decide +kernel
theorem dX6_block_111 : decode cX6_block 111 = .ok (.iload_n 3, 1) := by decide +kernel
theorem dX6_block_112 : decode cX6_block 112 = .ok (.iadd, 1) := by decide +kernel
theorem dX6_block_113 : decode cX6_block 113 = .ok (.aload_n 0, 1) := by decide +kernel
theorem dX6_block_114 : decode cX6_block 114 = .ok (.getfield 16, 3) := by decide +kernel
theorem dX6_block_117 : decode cX6_block 117 = .ok (.iload_n 3, 1) := by decide +kernel
theorem dX6_block_118 : decode cX6_block 118 = .ok (.iaload, 1) := by decide +kernel
theorem dX6_block_119 : decode cX6_block 119 = .ok (.invokevirtual 83, 3) := by decide +kernel
theorem dX6_block_122 : decode cX6_block 122 = .ok (.iinc 3 1, 3) := by decide +kernel
theorem dX6_block_125 : decode cX6_block 125 = .ok (.goto (-28), 3) := by decide +kernel
theorem dX6_block_128 : decode cX6_block 128 = .ok (.aload_n 0, 1) := by decide +kernel
theorem dX6_block_129 : decode cX6_block 129 = .ok (.sipush 672, 3) := by decide +kernel
theorem dX6_block_132 : decode cX6_block 132 = .ok (.iload_n 1, 1) := by decide +kernel
theorem dX6_block_133 : decode cX6_block 133 = .ok (.iadd, 1) := by decide +kernel
theorem dX6_block_134 : decode cX6_block 134 = .ok (.iconst 0, 1) := by decide +kernel
theorem dX6_block_135 : decode cX6_block 135 = .ok (.invokevirtual 83, 3) := by decide +kernel
theorem dX6_block_138 : decode cX6_block 138 = .ok (.aload_n 0, 1) := by decide +kernel
theorem dX6_block_139 : decode cX6_block 139 = .ok (.getfield 19, 3) := by decide +kernel
theorem dX6_block_142 : decode cX6_block 142 = .ok (.ifCond .eq 7, 3) := by decide +kernel
theorem dX6_block_145 : decode cX6_block 145 = .ok (.iconst 1, 1) := by decide +kernel
