theorem dX5_factory_99 : decode cX5_factory 99 = .ok (.aload_n 0, 1) := by decide +kernel
theorem dX5_factory_100 : decode cX5_factory 100 = .ok (.getfield 12, 3) := by decide +kernel
theorem dX5_factory_103 : decode cX5_factory 103 = .ok (.aload_n 0, 1) := by decide +kernel
theorem dX5_factory_104 : decode cX5_factory 104 = .ok (.getfield 19, 3) := by decide +kernel
theorem dX5_factory_107 : decode cX5_factory 107 = .ok (.getfield 68, 3) := by decide +kernel
theorem dX5_factory_110 : decode cX5_factory 110 = .ok (.iload_n 1, 1) := by decide +kernel
theorem dX5_factory_111 : decode cX5_factory 111 = .ok (.iconst 0, 1) := by decide +kernel
theorem dX5_factory_112 : decode cX5_factory 112 = .ok (.aload_n 0, 1) := by decide +kernel
theorem dX5_factory_113 : decode cX5_factory 113 = .ok (.getfield 19, 3) := by decide +kernel
theorem dX5_factory_116 : decode cX5_factory 116 = .ok (.getfield 89, 3) := by decide +kernel
theorem dX5_factory_119 : decode cX5_factory 119 = .ok (.aload_n 0, 1) := by decide +kernel
theorem dX5_factory_120 : decode cX5_factory 120 = .ok (.getfield 19, 3) := by decide +kernel
theorem dX5_factory_123 : decode cX5_factory 123 = .ok (.getfield 68, 3) := by decide +kernel
theorem dX5_factory_126 : decode cX5_factory 126 = .ok (.invokestatic 96, 3) := by decide +kernel
theorem dX5_factory_129 : decode cX5_factory 129 = .ok (.invokevirtual 100, 3) := by decide +kernel
theorem dX5_factory_132 : decode cX5_factory 132 = .ok (.aload_n 0, 1) := by decide +kernel
theorem dX5_factory_133 : decode cX5_factory 133 = .ok (.getfield 28, 3) := by decide +kernel
theorem dX5_factory_136 : decode cX5_factory 136 = .ok (.aload_n 0, 1) := by decide +kernel
theorem dX5_factory_137 : decode cX5_factory 137 = .ok (.getfield 12, 3) := by decide +kernel
theorem dX5_factory_140 : decode cX5_factory 140 = .ok (.invokevirtual 104, 3) := by decide +kernel
theorem dX5_factory_143 : decode cX5_factory 143 = .ok (.aload_n 0, 1) := by decide +kernel
theorem dX5_factory_144 : decode cX5_factory 144 = .ok (.getfield 28, 3) := by decide +kernel
theorem dX5_factory_147 : decode cX5_factory 147 = .ok (.aload_n 0, 1) := by decide +kernel
theorem dX5_factory_148 : decode cX5_factory 148 = .ok (.getfield 12, 3) := by decide +kernel
theorem dX5_factory_151 : decode cX5_factory 151 = .ok (.invokevirtual 107, 3) := by decide +kernel
theorem dX5_factory_154 : decode cX5_factory 154 = .ok (.aload_n 0, 1) := by decide +kernel
theorem dX5_factory_155 : decode cX5_factory 155 = .ok (.getfield 19, 3) := by decide +kernel
theorem dX5_factory_158 : decode cX5_factory 158 = .ok (.iconst 0, 1) := by decide +kernel
theorem dX5_factory_159 : decode cX5_factory 159 = .ok (.putfield 68, 3) := by decide +kernel
theorem dX5_factory_162 : decode cX5_factory 162 = .ok (.aload_n 0, 1) := by decide +kernel
theorem dX5_factory_163 : decode cX5_factory 163 = .ok (.iconst 1, 1) := by decide +kernel
theorem dX5_factory_164 : decode cX5_factory 164 = .ok (.invokevirtual 110, 3) := by decide +kernel
theorem dX5_factory_167 : decode cX5_factory 167 = .ok (.ireturn, 1) := by decide +kernel
set_option maxRecDepth 20000 in
theorem ggX5_manifest_X5_judgeTape : GoodIn wsX5_manifest wsX5_judgeTape := goodIn_r _ [7, 2, 8, 1, 9, 10, 11, 12, 13, 14, 15, 16, 17, 18, 19, 20, 21, 22, 23, 24, 25, 26, 27, 6, 28, 29, 30, 31, 32, 33, 34, 35, 36, 37, 38, 39, 40, 41, 42, 43, 44, 45, 46, 47, 48, 49, 50, 51, 52, 53, 54, 55, 56, 57, 58, 59, 60, 61, 62, 63, 64, 65, 66, 67, 68, 69, 70, 71, 72, 73, 74, 75, 76, 77, 78, 79, 80, 81, 82, 83, 84, 85, 86, 87, 88, 89, 90, 91, 92, 93, 94, 95, 96, 97, 98, 99, 100, 101, 102, 103, 133, 134, 135, 136, 137, 138, 139, 140, 141, 148, 149, 150, 142, 143, 144, 145, 146, 147, 151, 152, 153] (by decide +kernel) (by decide +kernel)
set_option maxRecDepth 20000 in
theorem gX5_manifest_X5_judgeTape : GoodIn wsX5_manifest (wsV RX5 114 RX5 yX5_judgeTape wsX5_judgeTape) := goodIn_app (goodIn_of _ (by decide +kernel)) ggX5_manifest_X5_judgeTape
set_option maxRecDepth 20000 in
theorem ggX5_manifest_X5_stageAnew : GoodIn wsX5_manifest wsX5_stageAnew := goodIn_r _ [107, 1, 8, 108, 109, 110, 76, 111, 112, 113, 78, 114, 115, 116, 117, 118, 119, 120, 121, 122, 123, 124, 125, 126, 127, 128, 133, 134, 135, 136, 137, 138, 139, 140, 141, 150, 142, 143, 144, 145, 146, 147] (by decide +kernel) (by decide +kernel)
set_option maxRecDepth 20000 in
theorem gX5_manifest_X5_stageAnew : GoodIn wsX5_manifest (wsV RX5 118 RX5 yX5_stageAnew wsX5_stageAnew) := goodIn_app (goodIn_of _ (by decide +kernel)) ggX5_manifest_X5_stageAnew
set_option maxRecDepth 20000 in
theorem ggX5_manifest_X5_unlessTorn : GoodIn wsX5_manifest wsX5_unlessTorn := goodIn_r _ [132, 1, 68, 133, 134, 135, 136, 137, 138, 139, 140, 141, 142, 143, 144, 145, 146, 147] (by decide +kernel) (by decide +kernel)
set_option maxRecDepth 20000 in
theorem gX5_manifest_X5_unlessTorn : GoodIn wsX5_manifest (wsV RX5 110 RX5 yX5_unlessTorn wsX5_unlessTorn) := goodIn_app (goodIn_of _ (by decide +kernel)) ggX5_manifest_X5_unlessTorn
theorem dX5_manifest_0 : decode cX5_manifest 0 = .ok (.aload_n 0, 1) := by decide +kernel
theorem dX5_manifest_1 : decode cX5_manifest 1 = .ok (.getfield 12, 3) := by decide +kernel
theorem dX5_manifest_4 : decode cX5_manifest 4 = .ok (.getfield 71, 3) := by decide +kernel
theorem dX5_manifest_7 : decode cX5_manifest 7 = .ok (.ifCond .ne 6, 3) := by decide +kernel
theorem dX5_manifest_10 : decode cX5_manifest 10 = .ok (.bipush (-2), 2) := by decide +kernel
theorem dX5_manifest_12 : decode cX5_manifest 12 = .ok (.ireturn, 1) := by decide +kernel
theorem dX5_manifest_13 : decode cX5_manifest 13 = .ok (.aload_n 0, 1) := by decide +kernel
theorem dX5_manifest_14 : decode cX5_manifest 14 = .ok (.invokevirtual 114, 3) := by decide +kernel
theorem dX5_manifest_17 : decode cX5_manifest 17 = .ok (.istore_n 1, 1) := by decide +kernel
theorem dX5_manifest_18 : decode cX5_manifest 18 = .ok (.iload_n 1, 1) := by decide +kernel
theorem dX5_manifest_19 : decode cX5_manifest 19 = .ok (.ifCond .ne 7, 3) := by decide +kernel
theorem dX5_manifest_22 : decode cX5_manifest 22 = .ok (.aload_n 0, 1) := by decide +kernel
theorem dX5_manifest_23 : decode cX5_manifest 23 = .ok (.invokevirtual 118, 3) := by decide +kernel
theorem dX5_manifest_26 : decode cX5_manifest 26 = .ok (.aload_n 0, 1) := by decide +kernel
theorem dX5_manifest_27 : decode cX5_manifest 27 = .ok (.getfield 19, 3) := by decide +kernel
theorem dX5_manifest_30 : decode cX5_manifest 30 = .ok (.iconst 0, 1) := by decide +kernel
theorem dX5_manifest_31 : decode cX5_manifest 31 = .ok (.putfield 68, 3) := by decide +kernel
theorem dX5_manifest_34 : decode cX5_manifest 34 = .ok (.aload_n 0, 1) := by decide +kernel
theorem dX5_manifest_35 : decode cX5_manifest 35 = .ok (.iload_n 1, 1) := by decide +kernel
theorem dX5_manifest_36 : decode cX5_manifest 36 = .ok (.invokevirtual 110, 3) := by decide +kernel
theorem dX5_manifest_39 : decode cX5_manifest 39 = .ok (.ireturn, 1) := by decide +kernel
set_option maxRecDepth 20000 in
theorem ggX5_block_X5_readStagedManifest : GoodIn wsX5_block wsX5_readStagedManifest := goodIn_r _ [8, 2, 1, 9, 10, 11, 12, 13, 14, 15, 16, 17, 18, 19, 20, 21, 22, 23, 24, 25, 26, 27, 28, 29, 7, 30, 31, 32, 33, 34, 35, 36, 37, 38, 39, 40, 41, 42, 43, 44, 45, 46, 47, 48, 49, 50, 51, 52, 53, 54, 55, 56, 57, 58, 59, 60, 61, 62, 63, 64, 108, 109, 110, 111, 112, 113, 114, 115, 116, 125, 117, 118, 119, 120, 121, 122] (by decide +kernel) (by decide +kernel)
set_option maxRecDepth 20000 in
theorem gX5_block_X5_readStagedManifest : GoodIn wsX5_block (wsV RX5 121 RX5 yX5_readStagedManifest wsX5_readStagedManifest) := goodIn_app (goodIn_of _ (by decide +kernel)) ggX5_block_X5_readStagedManifest
set_option maxRecDepth 20000 in
theorem ggX5_block_X1_payloadLength : GoodIn wsX5_block wsX1_payloadLength := goodIn_r _ [34, 14, 125] (by decide +kernel) (by decide +kernel)
set_option maxRecDepth 20000 in
theorem gX5_block_X1_payloadLength : GoodIn wsX5_block (wsV RX5 125 RX1 yX1_payloadLength wsX1_payloadLength) := goodIn_app (goodIn_of _ (by decide +kernel)) ggX5_block_X1_payloadLength
set_option maxRecDepth 20000 in
theorem ggX5_block_X5_isBlockOf : GoodIn wsX5_block wsX5_isBlockOf := goodIn_r _ [68, 69, 70, 7, 71] (by decide +kernel) (by decide +kernel)
set_option maxRecDepth 20000 in
theorem gX5_block_X5_isBlockOf : GoodIn wsX5_block (va_wsS RX5 128 yX5_isBlockOf wsX5_isBlockOf) := goodIn_app (goodIn_of _ (by decide +kernel)) ggX5_block_X5_isBlockOf
set_option maxRecDepth 20000 in
theorem ggX5_block_X5_blockLength : GoodIn wsX5_block wsX5_blockLength := goodIn_r _ [75, 2, 76, 77, 78, 79, 65, 32, 33, 12, 34, 14, 108, 109, 110, 111, 112, 113, 114, 115, 116, 125] (by decide +kernel) (by decide +kernel)
set_option maxRecDepth 20000 in
theorem gX5_block_X5_blockLength : GoodIn wsX5_block (wsV RX5 132 RX5 yX5_blockLength wsX5_blockLength) := goodIn_app (goodIn_of _ (by decide +kernel)) ggX5_block_X5_blockLength
set_option maxRecDepth 20000 in
theorem ggX5_block_X5_isThere : GoodIn wsX5_block wsX5_isThere := goodIn_r _ [83, 1, 84, 16, 17, 18, 19, 20, 108, 109, 110, 111, 112, 113, 114, 115, 116, 117, 118, 119, 120, 121, 122] (by decide +kernel) (by decide +kernel)
set_option maxRecDepth 20000 in
theorem gX5_block_X5_isThere : GoodIn wsX5_block (wsV RX5 135 RX5 yX5_isThere wsX5_isThere) := goodIn_app (goodIn_of _ (by decide +kernel)) ggX5_block_X5_isThere
set_option maxRecDepth 20000 in
theorem ggX5_block_X0_programRow : GoodIn wsX5_block wsX0_programRow := goodIn_r _ [88, 89, 90, 91, 18, 92, 93, 94, 20, 95, 96, 97, 98, 99, 100, 101, 117, 118, 119, 120, 121, 122] (by decide +kernel) (by decide +kernel)
set_option maxRecDepth 20000 in
theorem gX5_block_X0_programRow : GoodIn wsX5_block (wsV RX5 138 RX0 yX0_programRow wsX0_programRow) := goodIn_app (goodIn_of _ (by decide +kernel)) ggX5_block_X0_programRow
set_option maxRecDepth 20000 in
theorem ggX5_block_X0_program : GoodIn wsX5_block wsX0_program := goodIn_r _ [92, 93, 94, 20, 95, 96, 97, 18, 98, 99, 100, 101, 117, 118, 119, 120, 121, 122] (by decide +kernel) (by decide +kernel)
set_option maxRecDepth 20000 in
theorem gX5_block_X0_program : GoodIn wsX5_block (wsV RX5 142 RX0 yX0_program wsX0_program) := goodIn_app (goodIn_of _ (by decide +kernel)) ggX5_block_X0_program
set_option maxRecDepth 20000 in
theorem ggX5_block_X5_unlessTorn : GoodIn wsX5_block wsX5_unlessTorn := goodIn_r _ [106, 1, 107, 108, 109, 110, 111, 112, 113, 114, 115, 116, 117, 118, 119, 120, 121, 122] (by decide +kernel) (by decide +kernel)
set_option maxRecDepth 20000 in
theorem gX5_block_X5_unlessTorn : GoodIn wsX5_block (wsV RX5 110 RX5 yX5_unlessTorn wsX5_unlessTorn) := goodIn_app (goodIn_of _ (by decide +kernel)) ggX5_block_X5_unlessTorn
theorem dX5_block_0 : decode cX5_block 0 = .ok (.aload_n 0, 1) := by decide +kernel
theorem dX5_block_1 : decode cX5_block 1 = .ok (.getfield 12, 3) := by decide +kernel
theorem dX5_block_4 : decode cX5_block 4 = .ok (.getfield 71, 3) := by decide +kernel
theorem dX5_block_7 : decode cX5_block 7 = .ok (.ifCond .ne 6, 3) := by decide +kernel
theorem dX5_block_10 : decode cX5_block 10 = .ok (.bipush (-2), 2) := by decide +kernel
theorem dX5_block_12 : decode cX5_block 12 = .ok (.ireturn, 1) := by decide +kernel
theorem dX5_block_13 : decode cX5_block 13 = .ok (.aload_n 0, 1) := by decide +kernel
theorem dX5_block_14 : decode cX5_block 14 = .ok (.invokevirtual 121, 3) := by decide +kernel
theorem dX5_block_17 : decode cX5_block 17 = .ok (.ifCond .eq 32, 3) := by decide +kernel
theorem dX5_block_20 : decode cX5_block 20 = .ok (.iload_n 1, 1) := by decide +kernel
theorem dX5_block_21 : decode cX5_block 21 = .ok (.aload_n 0, 1) := by decide +kernel
theorem dX5_block_22 : decode cX5_block 22 = .ok (.getfield 38, 3) := by decide +kernel
theorem dX5_block_25 : decode cX5_block 25 = .ok (.invokevirtual 125, 3) := by decide +kernel
theorem dX5_block_28 : decode cX5_block 28 = .ok (.invokestatic 128, 3) := by decide +kernel
theorem dX5_block_31 : decode cX5_block 31 = .ok (.ifCond .eq 18, 3) := by decide +kernel
theorem dX5_block_34 : decode cX5_block 34 = .ok (.aload_n 0, 1) := by decide +kernel
theorem dX5_block_35 : decode cX5_block 35 = .ok (.getfield 19, 3) := by decide +kernel
theorem dX5_block_38 : decode cX5_block 38 = .ok (.getfield 68, 3) := by decide +kernel
theorem dX5_block_41 : decode cX5_block 41 = .ok (.aload_n 0, 1) := by decide +kernel
theorem dX5_block_42 : decode cX5_block 42 = .ok (.iload_n 1, 1) := by decide +kernel
theorem dX5_block_43 : decode cX5_block 43 = .ok (.invokevirtual 132, 3) := by decide +kernel
theorem dX5_block_46 : decode cX5_block 46 = .ok (.if_icmp .eq 5, 3) := by decide +kernel
theorem dX5_block_49 : decode cX5_block 49 = .ok (.iconst (-1), 1) := by decide +kernel
theorem dX5_block_50 : decode cX5_block 50 = .ok (.ireturn, 1) := by decide +kernel
theorem dX5_block_51 : decode cX5_block 51 = .ok (.aload_n 0, 1) := by decide +kernel
theorem dX5_block_52 : decode cX5_block 52 = .ok (.iload_n 1, 1) := by decide +kernel
theorem dX5_block_53 : decode cX5_block 53 = .ok (.invokevirtual 135, 3) := by decide +kernel
theorem dX5_block_56 : decode cX5_block 56 = .ok (.ifCond .ne 7, 3) := by decide +kernel
theorem dX5_block_59 : decode cX5_block 59 = .ok (.iconst 1, 1) := by decide +kernel
theorem dX5_block_60 : decode cX5_block 60 = .ok (.goto 4, 3) := by decide +kernel
theorem dX5_block_63 : decode cX5_block 63 = .ok (.iconst 0, 1) := by decide +kernel
theorem dX5_block_64 : decode cX5_block 64 = .ok (.istore_n 2, 1) := by decide +kernel
theorem dX5_block_65 : decode cX5_block 65 = .ok (.iload_n 2, 1) := by decide +kernel
theorem dX5_block_66 : decode cX5_block 66 = .ok (.ifCond .eq 45, 3) := by decide +kernel
theorem dX5_block_69 : decode cX5_block 69 = .ok (.aload_n 0, 1) := by decide +kernel
theorem dX5_block_70 : decode cX5_block 70 = .ok (.getfield 12, 3) := by decide +kernel
theorem dX5_block_73 : decode cX5_block 73 = .ok (.sipush 448, 3) := by decide +kernel
theorem dX5_block_76 : decode cX5_block 76 = .ok (.bipush 16, 2) := by decide +kernel
theorem dX5_block_78 : decode cX5_block 78 = .ok (.iload_n 1, 1) := by decide +kernel
theorem dX5_block_79 : decode cX5_block 79 = .ok (.imul, 1) := by decide +kernel
theorem dX5_block_80 : decode cX5_block 80 = .ok (.iadd, 1) := by decide +kernel
theorem dX5_block_81 : decode cX5_block 81 = .ok (.aload_n 0, 1) := by decide +kernel
theorem dX5_block_82 : decode cX5_block 82 = .ok (.getfield 19, 3) := by decide +kernel
theorem dX5_block_85 : decode cX5_block 85 = .ok (.getfield 89, 3) := by decide +kernel
theorem dX5_block_88 : decode cX5_block 88 = .ok (.aload_n 0, 1) := by decide +kernel
theorem dX5_block_89 : decode cX5_block 89 = .ok (.getfield 19, 3) := by decide +kernel
theorem dX5_block_92 : decode cX5_block 92 = .ok (.getfield 68, 3) := by decide +kernel
theorem dX5_block_95 : decode cX5_block 95 = .ok (.invokevirtual 138, 3) := by decide +kernel
theorem dX5_block_98 : decode cX5_block 98 = .ok (.aload_n 0, 1) := by decide +kernel
theorem dX5_block_99 : decode cX5_block 99 = .ok (.getfield 12, 3) := by decide +kernel
theorem dX5_block_102 : decode cX5_block 102 = .ok (.sipush 672, 3) := by decide +kernel
theorem dX5_block_105 : decode cX5_block 105 = .ok (.iload_n 1, 1) := by decide +kernel
theorem dX5_block_106 : decode cX5_block 106 = .ok (.iadd, 1) := by decide +kernel
theorem dX5_block_107 : decode cX5_block 107 = .ok (.iconst 0, 1) := by decide +kernel
theorem dX5_block_108 : decode cX5_block 108 = .ok (.invokevirtual 142, 3) := by decide +kernel
theorem dX5_block_111 : decode cX5_block 111 = .ok (.aload_n 0, 1) := by decide +kernel
theorem dX5_block_112 : decode cX5_block 112 = .ok (.getfield 19, 3) := by decide +kernel
theorem dX5_block_115 : decode cX5_block 115 = .ok (.iconst 0, 1) := by decide +kernel
theorem dX5_block_116 : decode cX5_block 116 = .ok (.putfield 68, 3) := by decide +kernel
theorem dX5_block_119 : decode cX5_block 119 = .ok (.aload_n 0, 1) := by decide +kernel
theorem dX5_block_120 : decode cX5_block 120 = .ok (.iload_n 2, 1) := by decide +kernel
theorem dX5_block_121 : decode cX5_block 121 = .ok (.ifCond .eq 7, 3) := by decide +kernel
theorem dX5_block_124 : decode cX5_block 124 = .ok (.iconst 1, 1) := by decide +kernel
theorem dX5_block_125 : decode cX5_block 125 = .ok (.goto 4, 3) := by decide +kernel
theorem dX5_block_128 : decode cX5_block 128 = .ok (.iconst 0, 1) := by decide +kernel
theorem dX5_block_129 : decode cX5_block 129 = .ok (.invokevirtual 110, 3) := by decide +kernel
theorem dX5_block_132 : decode cX5_block 132 = .ok (.ireturn, 1) := by decide +kernel
set_option maxRecDepth 20000 in
theorem ggX5_install_X5_readStagedManifest : GoodIn wsX5_install wsX5_readStagedManifest := goodIn_r _ [8, 2, 1, 9, 10, 11, 12, 13, 14, 15, 16, 17, 18, 19, 20, 21, 22, 23, 24, 25, 26, 27, 28, 29, 7, 30, 31, 32, 33, 34, 35, 36, 37, 38, 39, 40, 41, 42, 43, 44, 45, 46, 47, 48, 49, 50, 51, 52, 53, 54, 55, 56, 57, 58, 59, 60, 61, 62, 63, 64, 222, 223, 224, 225, 226, 227, 228, 229, 230, 237, 231, 232, 233, 234, 235, 236] (by decide +kernel) (by decide +kernel)
set_option maxRecDepth 20000 in
theorem gX5_install_X5_readStagedManifest : GoodIn wsX5_install (wsV RX5 121 RX5 yX5_readStagedManifest wsX5_readStagedManifest) := goodIn_app (goodIn_of _ (by decide +kernel)) ggX5_install_X5_readStagedManifest
set_option maxRecDepth 20000 in
theorem ggX5_install_X1_sequence : GoodIn wsX5_install wsX1_sequence := goodIn_r _ [28, 14, 237] (by decide +kernel) (by decide +kernel)
set_option maxRecDepth 20000 in
theorem gX5_install_X1_sequence : GoodIn wsX5_install (wsV RX5 146 RX1 yX1_sequence wsX1_sequence) := goodIn_app (goodIn_of _ (by decide +kernel)) ggX5_install_X1_sequence
set_option maxRecDepth 20000 in
theorem ggX5_install_X5_isOld : GoodIn wsX5_install wsX5_isOld := goodIn_r _ [69, 3, 1, 70, 71, 72, 7, 73, 74, 16, 17, 18, 19, 20, 75, 76, 77, 78, 79, 80, 81, 82, 83, 84, 85, 86, 87, 88, 89, 90, 91, 92, 93, 94, 222, 223, 224, 225, 226, 227, 228, 229, 230, 231, 232, 233, 234, 235, 236, 238, 239, 240] (by decide +kernel) (by decide +kernel)
set_option maxRecDepth 20000 in
theorem gX5_install_X5_isOld : GoodIn wsX5_install (wsV RX5 149 RX5 yX5_isOld wsX5_isOld) := goodIn_app (goodIn_of _ (by decide +kernel)) ggX5_install_X5_isOld
set_option maxRecDepth 20000 in
theorem ggX5_install_X5_isWhollyStaged : GoodIn wsX5_install wsX5_isWhollyStaged := goodIn_r _ [98, 2, 99, 32, 33, 12, 34, 14, 100, 101, 7, 102, 103, 104, 105, 106, 1, 74, 16, 17, 18, 19, 20, 222, 223, 224, 225, 226, 227, 228, 229, 230, 237, 231, 232, 233, 234, 235, 236] (by decide +kernel) (by decide +kernel)
set_option maxRecDepth 20000 in
theorem gX5_install_X5_isWhollyStaged : GoodIn wsX5_install (wsV RX5 152 RX5 yX5_isWhollyStaged wsX5_isWhollyStaged) := goodIn_app (goodIn_of _ (by decide +kernel)) ggX5_install_X5_isWhollyStaged
set_option maxRecDepth 20000 in
theorem ggX5_install_X5_slot : GoodIn wsX5_install wsX5_slot := goodIn_r _ [85, 86, 87, 222, 223, 224, 225, 226, 227, 228, 229, 230] (by decide +kernel) (by decide +kernel)
set_option maxRecDepth 20000 in
theorem gX5_install_X5_slot : GoodIn wsX5_install (wsV RX5 155 RX5 yX5_slot wsX5_slot) := goodIn_app (goodIn_of _ (by decide +kernel)) ggX5_install_X5_slot
set_option maxRecDepth 20000 in
theorem ggX5_install_X5_makeImage : GoodIn wsX5_install wsX5_makeImage := goodIn_r _ [110, 1, 2, 111, 99, 32, 33, 12, 34, 14, 112, 113, 114, 18, 115, 116, 16, 17, 19, 20, 54, 7, 55, 56, 117, 118, 119, 120, 57, 58, 59, 60, 121, 122, 123, 124, 125, 126, 127, 91, 128, 93, 129, 130, 131, 132, 133, 134, 135, 136, 94, 137, 138, 139, 140, 141, 142, 143, 144, 145, 146, 147, 148, 149, 150, 151, 152, 153, 38, 39, 40, 154, 51, 52, 53, 155, 156, 157, 158, 222, 223, 224, 225, 226, 227, 228, 229, 230, 238, 239, 240, 241, 242, 237, 231, 232, 233, 234, 235, 236] (by decide +kernel) (by decide +kernel)
set_option maxRecDepth 20000 in
theorem gX5_install_X5_makeImage : GoodIn wsX5_install (wsV RX5 159 RX5 yX5_makeImage wsX5_makeImage) := goodIn_app (goodIn_of _ (by decide +kernel)) ggX5_install_X5_makeImage
set_option maxRecDepth 20000 in
theorem ggX5_install_X5_programUpdate : GoodIn wsX5_install wsX5_programUpdate := goodIn_r _ [162, 1, 111, 2, 163, 164, 165, 91, 166, 167, 168, 169, 170, 18, 171, 172, 173, 20, 174, 175, 176, 177, 178, 179, 180, 181, 182, 183, 184, 185, 186, 187, 188, 189, 190, 191, 192, 193, 194, 195, 196, 197, 153, 38, 39, 12, 40, 14, 65, 26, 27, 28, 155, 156, 157, 158, 57, 58, 59, 60, 198, 199, 200, 201, 93, 202, 203, 204, 205, 206, 207, 7, 208, 209, 210, 211, 212, 213, 214, 215, 216, 217, 222, 223, 224, 225, 226, 227, 228, 229, 230, 241, 242, 238, 239, 240, 231, 232, 233, 234, 235, 236, 237] (by decide +kernel) (by decide +kernel)
set_option maxRecDepth 20000 in
theorem gX5_install_X5_programUpdate : GoodIn wsX5_install (wsV RX5 163 RX5 yX5_programUpdate wsX5_programUpdate) := goodIn_app (goodIn_of _ (by decide +kernel)) ggX5_install_X5_programUpdate
set_option maxRecDepth 20000 in
theorem ggX5_install_X5_unlessTorn : GoodIn wsX5_install wsX5_unlessTorn := goodIn_r _ [221, 1, 3, 222, 223, 224, 225, 226, 227, 228, 229, 230, 231, 232, 233, 234, 235, 236] (by decide +kernel) (by decide +kernel)
set_option maxRecDepth 20000 in
theorem gX5_install_X5_unlessTorn : GoodIn wsX5_install (wsV RX5 110 RX5 yX5_unlessTorn wsX5_unlessTorn) := goodIn_app (goodIn_of _ (by decide +kernel)) ggX5_install_X5_unlessTorn
theorem dX5_install_0 : decode cX5_install 0 = .ok (.aload_n 0, 1) := by decide +kernel
theorem dX5_install_1 : decode cX5_install 1 = .ok (.getfield 12, 3) := by decide +kernel
theorem dX5_install_4 : decode cX5_install 4 = .ok (.getfield 71, 3) := by decide +kernel
theorem dX5_install_7 : decode cX5_install 7 = .ok (.ifCond .ne 6, 3) := by decide +kernel
theorem dX5_install_10 : decode cX5_install 10 = .ok (.bipush (-2), 2) := by decide +kernel
theorem dX5_install_12 : decode cX5_install 12 = .ok (.ireturn, 1) := by decide +kernel
theorem dX5_install_13 : decode cX5_install 13 = .ok (.aload_n 0, 1) := by decide +kernel
theorem dX5_install_14 : decode cX5_install 14 = .ok (.invokevirtual 121, 3) := by decide +kernel
theorem dX5_install_17 : decode cX5_install 17 = .ok (.ifCond .ne 6, 3) := by decide +kernel
theorem dX5_install_20 : decode cX5_install 20 = .ok (.bipush (-7), 2) := by decide +kernel
theorem dX5_install_22 : decode cX5_install 22 = .ok (.ireturn, 1) := by decide +kernel
theorem dX5_install_23 : decode cX5_install 23 = .ok (.aload_n 0, 1) := by decide +kernel
theorem dX5_install_24 : decode cX5_install 24 = .ok (.aload_n 0, 1) := by decide +kernel
theorem dX5_install_25 : decode cX5_install 25 = .ok (.getfield 38, 3) := by decide +kernel
theorem dX5_install_28 : decode cX5_install 28 = .ok (.invokevirtual 146, 3) := by decide +kernel
theorem dX5_install_31 : decode cX5_install 31 = .ok (.invokevirtual 149, 3) := by decide +kernel
theorem dX5_install_34 : decode cX5_install 34 = .ok (.ifCond .eq 6, 3) := by decide +kernel
theorem dX5_install_37 : decode cX5_install 37 = .ok (.bipush (-3), 2) := by decide +kernel
theorem dX5_install_39 : decode cX5_install 39 = .ok (.ireturn, 1) := by decide +kernel
theorem dX5_install_40 : decode cX5_install 40 = .ok (.aload_n 0, 1) := by decide +kernel
theorem dX5_install_41 : decode cX5_install 41 = .ok (.invokevirtual 152, 3) := by decide +kernel
theorem dX5_install_44 : decode cX5_install 44 = .ok (.ifCond .ne 6, 3) := by decide +kernel
theorem dX5_install_47 : decode cX5_install 47 = .ok (.bipush (-5), 2) := by decide +kernel
theorem dX5_install_49 : decode cX5_install 49 = .ok (.ireturn, 1) := by decide +kernel
theorem dX5_install_50 : decode cX5_install 50 = .ok (.aload_n 0, 1) := by decide +kernel
theorem dX5_install_51 : decode cX5_install 51 = .ok (.aload_n 0, 1) := by decide +kernel
theorem dX5_install_52 : decode cX5_install 52 = .ok (.aload_n 0, 1) := by decide +kernel
theorem dX5_install_53 : decode cX5_install 53 = .ok (.getfield 49, 3) := by decide +kernel
theorem dX5_install_56 : decode cX5_install 56 = .ok (.invokevirtual 155, 3) := by decide +kernel
theorem dX5_install_59 : decode cX5_install 59 = .ok (.invokevirtual 159, 3) := by decide +kernel
theorem dX5_install_62 : decode cX5_install 62 = .ok (.ifCond .ne 6, 3) := by decide +kernel
theorem dX5_install_65 : decode cX5_install 65 = .ok (.bipush (-6), 2) := by decide +kernel
theorem dX5_install_67 : decode cX5_install 67 = .ok (.ireturn, 1) := by decide +kernel
theorem dX5_install_68 : decode cX5_install 68 = .ok (.aload_n 0, 1) := by decide +kernel
theorem dX5_install_69 : decode cX5_install 69 = .ok (.aload_n 0, 1) := by decide +kernel
theorem dX5_install_70 : decode cX5_install 70 = .ok (.iconst 1, 1) := by decide +kernel
theorem dX5_install_71 : decode cX5_install 71 = .ok (.aload_n 0, 1) := by decide +kernel
theorem dX5_install_72 : decode cX5_install 72 = .ok (.getfield 49, 3) := by decide +kernel
theorem dX5_install_75 : decode cX5_install 75 = .ok (.isub, 1) := by decide +kernel
theorem dX5_install_76 : decode cX5_install 76 = .ok (.invokevirtual 155, 3) := by decide +kernel
theorem dX5_install_79 : decode cX5_install 79 = .ok (.invokevirtual 163, 3) := by decide +kernel
theorem dX5_install_82 : decode cX5_install 82 = .ok (.aload_n 0, 1) := by decide +kernel
theorem dX5_install_83 : decode cX5_install 83 = .ok (.iconst 1, 1) := by decide +kernel
theorem dX5_install_84 : decode cX5_install 84 = .ok (.invokevirtual 110, 3) := by decide +kernel
theorem dX5_install_87 : decode cX5_install 87 = .ok (.ireturn, 1) := by decide +kernel
set_option maxRecDepth 20000 in
theorem ggX5_boot_X5_slotOnTrial : GoodIn wsX5_boot wsX5_slotOnTrial := goodIn_r _ [7, 8, 1, 9, 10, 11, 12, 6, 13, 14, 15, 16, 17, 18, 19, 20, 21, 22, 23, 24, 25, 26, 27, 28, 29, 30, 31, 32, 33, 34, 35, 36, 37, 38, 39, 40, 41, 42, 43, 44, 45, 46, 47, 48, 49, 50, 51, 52, 53, 54, 55, 56, 57, 58, 59, 60, 61, 62, 63, 64, 65, 66, 67, 68, 69, 70, 71, 72, 73, 74, 75, 76, 77, 78, 79, 80, 81, 116, 117, 118, 119, 120, 121, 122, 123, 124, 125, 126, 127, 128, 129, 130, 131, 132, 133] (by decide +kernel) (by decide +kernel)
set_option maxRecDepth 20000 in
theorem gX5_boot_X5_slotOnTrial : GoodIn wsX5_boot (wsV RX5 167 RX5 yX5_slotOnTrial wsX5_slotOnTrial) := goodIn_app (goodIn_of _ (by decide +kernel)) ggX5_boot_X5_slotOnTrial
set_option maxRecDepth 20000 in
theorem ggX5_boot_X5_slotConfirmed : GoodIn wsX5_boot wsX5_slotConfirmed := goodIn_r _ [85, 8, 1, 9, 10, 11, 12, 6, 13, 14, 15, 16, 17, 18, 19, 20, 21, 22, 23, 24, 25, 26, 27, 28, 29, 30, 31, 32, 33, 34, 35, 36, 37, 38, 39, 40, 41, 42, 43, 44, 45, 46, 47, 48, 49, 50, 51, 52, 53, 54, 55, 56, 57, 58, 59, 60, 61, 62, 63, 64, 65, 66, 67, 68, 86, 74, 75, 76, 77, 78, 79, 80, 81, 116, 117, 118, 119, 120, 121, 122, 123, 124, 125, 126, 127, 128, 129, 130, 131, 132, 133] (by decide +kernel) (by decide +kernel)
set_option maxRecDepth 20000 in
theorem gX5_boot_X5_slotConfirmed : GoodIn wsX5_boot (wsV RX5 170 RX5 yX5_slotConfirmed wsX5_slotConfirmed) := goodIn_app (goodIn_of _ (by decide +kernel)) ggX5_boot_X5_slotConfirmed
set_option maxRecDepth 20000 in
theorem ggX5_boot_X5_slot : GoodIn wsX5_boot wsX5_slot := goodIn_r _ [90, 8, 9, 116, 117, 118, 119, 120, 121, 122, 123, 124] (by decide +kernel) (by decide +kernel)
set_option maxRecDepth 20000 in
theorem gX5_boot_X5_slot : GoodIn wsX5_boot (wsV RX5 155 RX5 yX5_slot wsX5_slot) := goodIn_app (goodIn_of _ (by decide +kernel)) ggX5_boot_X5_slot
set_option maxRecDepth 20000 in
theorem ggX5_boot_X3_useTrial : GoodIn wsX5_boot wsX3_useTrial := goodIn_r _ [94, 41, 95, 96, 97, 21, 98, 57, 19, 20, 22, 23, 99, 100, 101, 102, 103, 104, 105, 106, 107, 108, 109, 110, 111, 131, 132, 133, 125, 126, 127, 128, 129, 130] (by decide +kernel) (by decide +kernel)
set_option maxRecDepth 20000 in
theorem gX5_boot_X3_useTrial : GoodIn wsX5_boot (wsV RX5 173 RX3 yX3_useTrial wsX3_useTrial) := goodIn_app (goodIn_of _ (by decide +kernel)) ggX5_boot_X3_useTrial
set_option maxRecDepth 20000 in
theorem ggX5_boot_X5_unlessTorn : GoodIn wsX5_boot wsX5_unlessTorn := goodIn_r _ [115, 1, 2, 116, 117, 118, 119, 120, 121, 122, 123, 124, 125, 126, 127, 128, 129, 130] (by decide +kernel) (by decide +kernel)
set_option maxRecDepth 20000 in
theorem gX5_boot_X5_unlessTorn : GoodIn wsX5_boot (wsV RX5 110 RX5 yX5_unlessTorn wsX5_unlessTorn) := goodIn_app (goodIn_of _ (by decide +kernel)) ggX5_boot_X5_unlessTorn
theorem dX5_boot_0 : decode cX5_boot 0 = .ok (.aload_n 0, 1) := by decide +kernel
theorem dX5_boot_1 : decode cX5_boot 1 = .ok (.getfield 12, 3) := by decide +kernel
theorem dX5_boot_4 : decode cX5_boot 4 = .ok (.iconst 1, 1) := by decide +kernel
theorem dX5_boot_5 : decode cX5_boot 5 = .ok (.putfield 71, 3) := by decide +kernel
theorem dX5_boot_8 : decode cX5_boot 8 = .ok (.aload_n 0, 1) := by decide +kernel
theorem dX5_boot_9 : decode cX5_boot 9 = .ok (.aload_n 0, 1) := by decide +kernel
theorem dX5_boot_10 : decode cX5_boot 10 = .ok (.invokevirtual 167, 3) := by decide +kernel
theorem dX5_boot_13 : decode cX5_boot 13 = .ok (.putfield 49, 3) := by decide +kernel
theorem dX5_boot_16 : decode cX5_boot 16 = .ok (.aload_n 0, 1) := by decide +kernel
theorem dX5_boot_17 : decode cX5_boot 17 = .ok (.getfield 49, 3) := by decide +kernel
theorem dX5_boot_20 : decode cX5_boot 20 = .ok (.bipush (-7), 2) := by decide +kernel
theorem dX5_boot_22 : decode cX5_boot 22 = .ok (.if_icmp .ne 16, 3) := by decide +kernel
theorem dX5_boot_25 : decode cX5_boot 25 = .ok (.aload_n 0, 1) := by decide +kernel
theorem dX5_boot_26 : decode cX5_boot 26 = .ok (.aload_n 0, 1) := by decide +kernel
theorem dX5_boot_27 : decode cX5_boot 27 = .ok (.invokevirtual 170, 3) := by decide +kernel
theorem dX5_boot_30 : decode cX5_boot 30 = .ok (.putfield 49, 3) := by decide +kernel
theorem dX5_boot_33 : decode cX5_boot 33 = .ok (.aload_n 0, 1) := by decide +kernel
theorem dX5_boot_34 : decode cX5_boot 34 = .ok (.getfield 49, 3) := by decide +kernel
theorem dX5_boot_37 : decode cX5_boot 37 = .ok (.ireturn, 1) := by decide +kernel
theorem dX5_boot_38 : decode cX5_boot 38 = .ok (.aload_n 0, 1) := by decide +kernel
theorem dX5_boot_39 : decode cX5_boot 39 = .ok (.aload_n 0, 1) := by decide +kernel
theorem dX5_boot_40 : decode cX5_boot 40 = .ok (.getfield 49, 3) := by decide +kernel
theorem dX5_boot_43 : decode cX5_boot 43 = .ok (.invokevirtual 155, 3) := by decide +kernel
theorem dX5_boot_46 : decode cX5_boot 46 = .ok (.aload_n 0, 1) := by decide +kernel
theorem dX5_boot_47 : decode cX5_boot 47 = .ok (.getfield 12, 3) := by decide +kernel
theorem dX5_boot_50 : decode cX5_boot 50 = .ok (.invokevirtual 173, 3) := by decide +kernel
theorem dX5_boot_53 : decode cX5_boot 53 = .ok (.aload_n 0, 1) := by decide +kernel
theorem dX5_boot_54 : decode cX5_boot 54 = .ok (.aload_n 0, 1) := by decide +kernel
theorem dX5_boot_55 : decode cX5_boot 55 = .ok (.getfield 49, 3) := by decide +kernel
theorem dX5_boot_58 : decode cX5_boot 58 = .ok (.invokevirtual 110, 3) := by decide +kernel
theorem dX5_boot_61 : decode cX5_boot 61 = .ok (.ireturn, 1) := by decide +kernel
set_option maxRecDepth 20000 in
theorem ggX5_confirm_X5_slot : GoodIn wsX5_confirm wsX5_slot := goodIn_r _ [7, 8, 9, 73, 74, 75, 76, 77, 78, 79, 80, 81] (by decide +kernel) (by decide +kernel)
set_option maxRecDepth 20000 in
theorem gX5_confirm_X5_slot : GoodIn wsX5_confirm (wsV RX5 155 RX5 yX5_slot wsX5_slot) := goodIn_app (goodIn_of _ (by decide +kernel)) ggX5_confirm_X5_slot
set_option maxRecDepth 20000 in
theorem ggX5_confirm_X3_isConfirmed : GoodIn wsX5_confirm wsX3_isConfirmed := goodIn_r _ [14, 15, 16, 17, 18, 19, 20, 21, 88, 89, 90, 82, 83, 84, 85, 86, 87] (by decide +kernel) (by decide +kernel)
set_option maxRecDepth 20000 in
theorem gX5_confirm_X3_isConfirmed : GoodIn wsX5_confirm (wsV RX5 176 RX3 yX3_isConfirmed wsX3_isConfirmed) := goodIn_app (goodIn_of _ (by decide +kernel)) ggX5_confirm_X3_isConfirmed
set_option maxRecDepth 20000 in
theorem ggX5_confirm_X3_programConfirmed : GoodIn wsX5_confirm wsX3_programConfirmed := goodIn_r _ [25, 15, 26, 27, 28, 19, 29, 30, 31, 21, 32, 33, 34, 35, 36, 37, 38, 88, 89, 90, 82, 83, 84, 85, 86, 87] (by decide +kernel) (by decide +kernel)
set_option maxRecDepth 20000 in
theorem gX5_confirm_X3_programConfirmed : GoodIn wsX5_confirm (wsV RX5 104 RX3 yX3_programConfirmed wsX3_programConfirmed) := goodIn_app (goodIn_of _ (by decide +kernel)) ggX5_confirm_X3_programConfirmed
set_option maxRecDepth 20000 in
theorem ggX5_confirm_X3_sequence : GoodIn wsX5_confirm wsX3_sequence := goodIn_r _ [42, 15, 16, 17, 18, 19, 20, 21, 88, 89, 90, 82, 83, 84, 85, 86, 87] (by decide +kernel) (by decide +kernel)
set_option maxRecDepth 20000 in
theorem gX5_confirm_X3_sequence : GoodIn wsX5_confirm (wsV RX5 180 RX3 yX3_sequence wsX3_sequence) := goodIn_app (goodIn_of _ (by decide +kernel)) ggX5_confirm_X3_sequence
set_option maxRecDepth 20000 in
theorem ggX5_confirm_X5_raiseCounter : GoodIn wsX5_confirm wsX5_raiseCounter := goodIn_r _ [46, 47, 48, 49, 6, 50, 1, 51, 17, 18, 19, 20, 21, 52, 53, 54, 55, 56, 57, 58, 59, 60, 61, 62, 63, 64, 65, 66, 67, 68, 27, 28, 29, 30, 31, 32, 33, 34, 35, 36, 37, 38, 73, 74, 75, 76, 77, 78, 79, 80, 81, 82, 83, 84, 85, 86, 87] (by decide +kernel) (by decide +kernel)
set_option maxRecDepth 20000 in
theorem gX5_confirm_X5_raiseCounter : GoodIn wsX5_confirm (wsV RX5 183 RX5 yX5_raiseCounter wsX5_raiseCounter) := goodIn_app (goodIn_of _ (by decide +kernel)) ggX5_confirm_X5_raiseCounter
set_option maxRecDepth 20000 in
theorem ggX5_confirm_X5_unlessTorn : GoodIn wsX5_confirm wsX5_unlessTorn := goodIn_r _ [72, 1, 2, 73, 74, 75, 76, 77, 78, 79, 80, 81, 82, 83, 84, 85, 86, 87] (by decide +kernel) (by decide +kernel)
set_option maxRecDepth 20000 in
theorem gX5_confirm_X5_unlessTorn : GoodIn wsX5_confirm (wsV RX5 110 RX5 yX5_unlessTorn wsX5_unlessTorn) := goodIn_app (goodIn_of _ (by decide +kernel)) ggX5_confirm_X5_unlessTorn
theorem dX5_confirm_0 : decode cX5_confirm 0 = .ok (.aload_n 0, 1) := by decide +kernel
theorem dX5_confirm_1 : decode cX5_confirm 1 = .ok (.getfield 12, 3) := by decide +kernel
theorem dX5_confirm_4 : decode cX5_confirm 4 = .ok (.getfield 71, 3) := by decide +kernel
theorem dX5_confirm_7 : decode cX5_confirm 7 = .ok (.ifCond .ne 6, 3) := by decide +kernel
theorem dX5_confirm_10 : decode cX5_confirm 10 = .ok (.bipush (-2), 2) := by decide +kernel
theorem dX5_confirm_12 : decode cX5_confirm 12 = .ok (.ireturn, 1) := by decide +kernel
theorem dX5_confirm_13 : decode cX5_confirm 13 = .ok (.aload_n 0, 1) := by decide +kernel
theorem dX5_confirm_14 : decode cX5_confirm 14 = .ok (.getfield 49, 3) := by decide +kernel
theorem dX5_confirm_17 : decode cX5_confirm 17 = .ok (.bipush (-7), 2) := by decide +kernel
theorem dX5_confirm_19 : decode cX5_confirm 19 = .ok (.if_icmp .ne 6, 3) := by decide +kernel
theorem dX5_confirm_22 : decode cX5_confirm 22 = .ok (.bipush (-7), 2) := by decide +kernel
theorem dX5_confirm_24 : decode cX5_confirm 24 = .ok (.ireturn, 1) := by decide +kernel
theorem dX5_confirm_25 : decode cX5_confirm 25 = .ok (.aload_n 0, 1) := by decide +kernel
theorem dX5_confirm_26 : decode cX5_confirm 26 = .ok (.aload_n 0, 1) := by decide +kernel
theorem dX5_confirm_27 : decode cX5_confirm 27 = .ok (.getfield 49, 3) := by decide +kernel
theorem dX5_confirm_30 : decode cX5_confirm 30 = .ok (.invokevirtual 155, 3) := by decide +kernel
theorem dX5_confirm_33 : decode cX5_confirm 33 = .ok (.astore_n 1, 1) := by decide +kernel
theorem dX5_confirm_34 : decode cX5_confirm 34 = .ok (.aload_n 1, 1) := by decide +kernel
theorem dX5_confirm_35 : decode cX5_confirm 35 = .ok (.aload_n 0, 1) := by decide +kernel
theorem dX5_confirm_36 : decode cX5_confirm 36 = .ok (.getfield 12, 3) := by decide +kernel
theorem dX5_confirm_39 : decode cX5_confirm 39 = .ok (.invokevirtual 176, 3) := by decide +kernel
theorem dX5_confirm_42 : decode cX5_confirm 42 = .ok (.ifCond .eq 5, 3) := by decide +kernel
theorem dX5_confirm_45 : decode cX5_confirm 45 = .ok (.iconst 0, 1) := by decide +kernel
theorem dX5_confirm_46 : decode cX5_confirm 46 = .ok (.ireturn, 1) := by decide +kernel
theorem dX5_confirm_47 : decode cX5_confirm 47 = .ok (.aload_n 1, 1) := by decide +kernel
theorem dX5_confirm_48 : decode cX5_confirm 48 = .ok (.aload_n 0, 1) := by decide +kernel
theorem dX5_confirm_49 : decode cX5_confirm 49 = .ok (.getfield 12, 3) := by decide +kernel
theorem dX5_confirm_52 : decode cX5_confirm 52 = .ok (.invokevirtual 104, 3) := by decide +kernel
theorem dX5_confirm_55 : decode cX5_confirm 55 = .ok (.aload_n 0, 1) := by decide +kernel
theorem dX5_confirm_56 : decode cX5_confirm 56 = .ok (.aload_n 1, 1) := by decide +kernel
theorem dX5_confirm_57 : decode cX5_confirm 57 = .ok (.aload_n 0, 1) := by decide +kernel
theorem dX5_confirm_58 : decode cX5_confirm 58 = .ok (.getfield 12, 3) := by decide +kernel
theorem dX5_confirm_61 : decode cX5_confirm 61 = .ok (.invokevirtual 180, 3) := by decide +kernel
theorem dX5_confirm_64 : decode cX5_confirm 64 = .ok (.invokevirtual 183, 3) := by decide +kernel
theorem dX5_confirm_67 : decode cX5_confirm 67 = .ok (.aload_n 0, 1) := by decide +kernel
theorem dX5_confirm_68 : decode cX5_confirm 68 = .ok (.iconst 1, 1) := by decide +kernel
theorem dX5_confirm_69 : decode cX5_confirm 69 = .ok (.invokevirtual 110, 3) := by decide +kernel
theorem dX5_confirm_72 : decode cX5_confirm 72 = .ok (.ireturn, 1) := by decide +kernel
set_option maxRecDepth 20000 in
theorem ggX5_crash_X0_setCrash : GoodIn wsX5_crash wsX0_setCrash := goodIn_r _ [6, 7, 8, 9, 19, 20, 21, 22, 23, 24] (by decide +kernel) (by decide +kernel)
set_option maxRecDepth 20000 in
theorem gX5_crash_X0_setCrash : GoodIn wsX5_crash (wsV RX5 186 RX0 yX0_setCrash wsX0_setCrash) := goodIn_app (goodIn_of _ (by decide +kernel)) ggX5_crash_X0_setCrash
theorem dX5_crash_0 : decode cX5_crash 0 = .ok (.iload_n 2, 1) := by decide +kernel
theorem dX5_crash_1 : decode cX5_crash 1 = .ok (.ifCond .lt 10, 3) := by decide +kernel
theorem dX5_crash_4 : decode cX5_crash 4 = .ok (.iload_n 2, 1) := by decide +kernel
theorem dX5_crash_5 : decode cX5_crash 5 = .ok (.sipush 255, 3) := by decide +kernel
theorem dX5_crash_8 : decode cX5_crash 8 = .ok (.if_icmp .le 5, 3) := by decide +kernel
theorem dX5_crash_11 : decode cX5_crash 11 = .ok (.iconst (-1), 1) := by decide +kernel
theorem dX5_crash_12 : decode cX5_crash 12 = .ok (.ireturn, 1) := by decide +kernel
theorem dX5_crash_13 : decode cX5_crash 13 = .ok (.aload_n 0, 1) := by decide +kernel
theorem dX5_crash_14 : decode cX5_crash 14 = .ok (.getfield 12, 3) := by decide +kernel
theorem dX5_crash_17 : decode cX5_crash 17 = .ok (.iload_n 1, 1) := by decide +kernel
theorem dX5_crash_18 : decode cX5_crash 18 = .ok (.iload_n 2, 1) := by decide +kernel
theorem dX5_crash_19 : decode cX5_crash 19 = .ok (.invokevirtual 186, 3) := by decide +kernel
theorem dX5_crash_22 : decode cX5_crash 22 = .ok (.iconst 1, 1) := by decide +kernel
theorem dX5_crash_23 : decode cX5_crash 23 = .ok (.ireturn, 1) := by decide +kernel
theorem dX5_running_0 : decode cX5_running 0 = .ok (.aload_n 0, 1) := by decide +kernel
theorem dX5_running_1 : decode cX5_running 1 = .ok (.getfield 49, 3) := by decide +kernel
theorem dX5_running_4 : decode cX5_running 4 = .ok (.ireturn, 1) := by decide +kernel
set_option maxRecDepth 20000 in
theorem ggX5_counter_X0_at : GoodIn wsX5_counter wsX0_at := goodIn_r _ [6, 7, 24, 25, 26, 27, 28, 29] (by decide +kernel) (by decide +kernel)
set_option maxRecDepth 20000 in
theorem gX5_counter_X0_at : GoodIn wsX5_counter (wsV RX5 189 RX0 yX0_at wsX0_at) := goodIn_app (goodIn_of _ (by decide +kernel)) ggX5_counter_X0_at
set_option maxRecDepth 20000 in
theorem ggX5_counter_J6_bitCount_0f7a4 : GoodIn wsX5_counter wsJ6_bitCount_0f7a4 := goodIn_r _ [11, 12, 13, 14] (by decide +kernel) (by decide +kernel)
set_option maxRecDepth 20000 in
theorem gX5_counter_J6_bitCount_0f7a4 : GoodIn wsX5_counter (va_wsS RX5 192 yJ6_bitCount_0f7a4 wsJ6_bitCount_0f7a4) := goodIn_app (goodIn_of _ (by decide +kernel)) ggX5_counter_J6_bitCount_0f7a4
theorem dX5_counter_0 : decode cX5_counter 0 = .ok (.iconst 0, 1) := by decide +kernel
theorem dX5_counter_1 : decode cX5_counter 1 = .ok (.istore_n 1, 1) := by decide +kernel
theorem dX5_counter_2 : decode cX5_counter 2 = .ok (.iconst 0, 1) := by decide +kernel
theorem dX5_counter_3 : decode cX5_counter 3 = .ok (.istore_n 2, 1) := by decide +kernel
theorem dX5_counter_4 : decode cX5_counter 4 = .ok (.iload_n 2, 1) := by decide +kernel
theorem dX5_counter_5 : decode cX5_counter 5 = .ok (.bipush 32, 2) := by decide +kernel
theorem dX5_counter_7 : decode cX5_counter 7 = .ok (.if_icmp .ge 30, 3) := by decide +kernel
theorem dX5_counter_10 : decode cX5_counter 10 = .ok (.iload_n 1, 1) := by decide +kernel
theorem dX5_counter_11 : decode cX5_counter 11 = .ok (.bipush 8, 2) := by decide +kernel
theorem dX5_counter_13 : decode cX5_counter 13 = .ok (.aload_n 0, 1) := by decide +kernel
theorem dX5_counter_14 : decode cX5_counter 14 = .ok (.getfield 12, 3) := by decide +kernel
theorem dX5_counter_17 : decode cX5_counter 17 = .ok (.sipush 704, 3) := by decide +kernel
theorem dX5_counter_20 : decode cX5_counter 20 = .ok (.iload_n 2, 1) := by decide +kernel
theorem dX5_counter_21 : decode cX5_counter 21 = .ok (.iadd, 1) := by decide +kernel
theorem dX5_counter_22 : decode cX5_counter 22 = .ok (.invokevirtual 189, 3) := by decide +kernel
theorem dX5_counter_25 : decode cX5_counter 25 = .ok (.invokestatic 192, 3) := by decide +kernel
theorem dX5_counter_28 : decode cX5_counter 28 = .ok (.isub, 1) := by decide +kernel
theorem dX5_counter_29 : decode cX5_counter 29 = .ok (.iadd, 1) := by decide +kernel
theorem dX5_counter_30 : decode cX5_counter 30 = .ok (.istore_n 1, 1) := by decide +kernel
theorem dX5_counter_31 : decode cX5_counter 31 = .ok (.iinc 2 1, 3) := by decide +kernel
theorem dX5_counter_34 : decode cX5_counter 34 = .ok (.goto (-30), 3) := by decide +kernel
theorem dX5_counter_37 : decode cX5_counter 37 = .ok (.iload_n 1, 1) := by decide +kernel
theorem dX5_counter_38 : decode cX5_counter 38 = .ok (.ireturn, 1) := by decide +kernel
theorem dX5_acts_0 : decode cX5_acts 0 = .ok (.aload_n 0, 1) := by decide +kernel
theorem dX5_acts_1 : decode cX5_acts 1 = .ok (.getfield 12, 3) := by decide +kernel
theorem dX5_acts_4 : decode cX5_acts 4 = .ok (.getfield 197, 3) := by decide +kernel
theorem dX5_acts_7 : decode cX5_acts 7 = .ok (.ireturn, 1) := by decide +kernel
set_option maxRecDepth 20000 in
theorem ggX5_byteOf_X0_at : GoodIn wsX5_byteOf wsX0_at := goodIn_r _ [6, 7, 17, 18, 19, 20, 21, 22] (by decide +kernel) (by decide +kernel)
set_option maxRecDepth 20000 in
theorem gX5_byteOf_X0_at : GoodIn wsX5_byteOf (wsV RX5 189 RX0 yX0_at wsX0_at) := goodIn_app (goodIn_of _ (by decide +kernel)) ggX5_byteOf_X0_at
theorem dX5_byteOf_0 : decode cX5_byteOf 0 = .ok (.aload_n 0, 1) := by decide +kernel
theorem dX5_byteOf_1 : decode cX5_byteOf 1 = .ok (.getfield 12, 3) := by decide +kernel
theorem dX5_byteOf_4 : decode cX5_byteOf 4 = .ok (.iload_n 1, 1) := by decide +kernel
theorem dX5_byteOf_5 : decode cX5_byteOf 5 = .ok (.invokevirtual 189, 3) := by decide +kernel
theorem dX5_byteOf_8 : decode cX5_byteOf 8 = .ok (.ireturn, 1) := by decide +kernel
set_option maxRecDepth 20000 in
theorem ggX5_good_X5_slot : GoodIn wsX5_good wsX5_slot := goodIn_r _ [5, 6, 7, 68, 69, 70, 71, 72, 73, 74, 75, 76] (by decide +kernel) (by decide +kernel)
set_option maxRecDepth 20000 in
theorem gX5_good_X5_slot : GoodIn wsX5_good (wsV RX5 155 RX5 yX5_slot wsX5_slot) := goodIn_app (goodIn_of _ (by decide +kernel)) ggX5_good_X5_slot
set_option maxRecDepth 20000 in
theorem ggX5_good_X5_isGood : GoodIn wsX5_good wsX5_isGood := goodIn_r _ [11, 12, 13, 14, 15, 4, 16, 17, 18, 19, 20, 21, 22, 23, 24, 25, 26, 27, 28, 29, 30, 31, 32, 33, 34, 35, 36, 37, 38, 39, 40, 41, 42, 43, 44, 45, 46, 47, 48, 49, 50, 51, 52, 53, 54, 55, 56, 57, 58, 59, 60, 61, 62, 63, 64, 65, 66, 67, 68, 69, 70, 71, 72, 73, 74, 75, 76, 77, 78, 79, 80, 81, 82, 83, 84, 85] (by decide +kernel) (by decide +kernel)
set_option maxRecDepth 20000 in
theorem gX5_good_X5_isGood : GoodIn wsX5_good (wsV RX5 200 RX5 yX5_isGood wsX5_isGood) := goodIn_app (goodIn_of _ (by decide +kernel)) ggX5_good_X5_isGood
theorem dX5_good_0 : decode cX5_good 0 = .ok (.iload_n 1, 1) := by decide +kernel
theorem dX5_good_1 : decode cX5_good 1 = .ok (.ifCond .eq 10, 3) := by decide +kernel
theorem dX5_good_4 : decode cX5_good 4 = .ok (.iload_n 1, 1) := by decide +kernel
theorem dX5_good_5 : decode cX5_good 5 = .ok (.iconst 1, 1) := by decide +kernel
theorem dX5_good_6 : decode cX5_good 6 = .ok (.if_icmp .eq 5, 3) := by decide +kernel
theorem dX5_good_9 : decode cX5_good 9 = .ok (.iconst (-1), 1) := by decide +kernel
theorem dX5_good_10 : decode cX5_good 10 = .ok (.ireturn, 1) := by decide +kernel
theorem dX5_good_11 : decode cX5_good 11 = .ok (.aload_n 0, 1) := by decide +kernel
theorem dX5_good_12 : decode cX5_good 12 = .ok (.aload_n 0, 1) := by decide +kernel
theorem dX5_good_13 : decode cX5_good 13 = .ok (.iload_n 1, 1) := by decide +kernel
theorem dX5_good_14 : decode cX5_good 14 = .ok (.invokevirtual 155, 3) := by decide +kernel
theorem dX5_good_17 : decode cX5_good 17 = .ok (.invokevirtual 200, 3) := by decide +kernel
theorem dX5_good_20 : decode cX5_good 20 = .ok (.ifCond .eq 7, 3) := by decide +kernel
theorem dX5_good_23 : decode cX5_good 23 = .ok (.iconst 1, 1) := by decide +kernel
theorem dX5_good_24 : decode cX5_good 24 = .ok (.goto 4, 3) := by decide +kernel
theorem dX5_good_27 : decode cX5_good 27 = .ok (.iconst 0, 1) := by decide +kernel
theorem dX5_good_28 : decode cX5_good 28 = .ok (.ireturn, 1) := by decide +kernel
theorem dX5_slot_0 : decode cX5_slot 0 = .ok (.iload_n 1, 1) := by decide +kernel
theorem dX5_slot_1 : decode cX5_slot 1 = .ok (.ifCond .ne 10, 3) := by decide +kernel
theorem dX5_slot_4 : decode cX5_slot 4 = .ok (.aload_n 0, 1) := by decide +kernel
theorem dX5_slot_5 : decode cX5_slot 5 = .ok (.getfield 28, 3) := by decide +kernel
theorem dX5_slot_8 : decode cX5_slot 8 = .ok (.goto 7, 3) := by decide +kernel
theorem dX5_slot_11 : decode cX5_slot 11 = .ok (.aload_n 0, 1) := by decide +kernel
theorem dX5_slot_12 : decode cX5_slot 12 = .ok (.getfield 32, 3) := by decide +kernel
theorem dX5_slot_15 : decode cX5_slot 15 = .ok (.areturn, 1) := by decide +kernel
theorem dX5_unlessTorn_0 : decode cX5_unlessTorn 0 = .ok (.aload_n 0, 1) := by decide +kernel
theorem dX5_unlessTorn_1 : decode cX5_unlessTorn 1 = .ok (.getfield 12, 3) := by decide +kernel
theorem dX5_unlessTorn_4 : decode cX5_unlessTorn 4 = .ok (.getfield 71, 3) := by decide +kernel
theorem dX5_unlessTorn_7 : decode cX5_unlessTorn 7 = .ok (.ifCond .eq 5, 3) := by decide +kernel
theorem dX5_unlessTorn_10 : decode cX5_unlessTorn 10 = .ok (.iload_n 1, 1) := by decide +kernel
theorem dX5_unlessTorn_11 : decode cX5_unlessTorn 11 = .ok (.ireturn, 1) := by decide +kernel
theorem dX5_unlessTorn_12 : decode cX5_unlessTorn 12 = .ok (.aload_n 0, 1) := by decide +kernel
theorem dX5_unlessTorn_13 : decode cX5_unlessTorn 13 = .ok (.bipush (-7), 2) := by decide +kernel
theorem dX5_unlessTorn_15 : decode cX5_unlessTorn 15 = .ok (.putfield 49, 3) := by decide +kernel
theorem dX5_unlessTorn_18 : decode cX5_unlessTorn 18 = .ok (.bipush (-2), 2) := by decide +kernel
theorem dX5_unlessTorn_20 : decode cX5_unlessTorn 20 = .ok (.ireturn, 1) := by decide +kernel
theorem dX5_isSequence_0 : decode cX5_isSequence 0 = .ok (.iload_n 0, 1) := by decide +kernel
theorem dX5_isSequence_1 : decode cX5_isSequence 1 = .ok (.iconst 1, 1) := by decide +kernel
theorem dX5_isSequence_2 : decode cX5_isSequence 2 = .ok (.if_icmp .lt 14, 3) := by decide +kernel
theorem dX5_isSequence_5 : decode cX5_isSequence 5 = .ok (.iload_n 0, 1) := by decide +kernel
theorem dX5_isSequence_6 : decode cX5_isSequence 6 = .ok (.sipush 200, 3) := by decide +kernel
theorem dX5_isSequence_9 : decode cX5_isSequence 9 = .ok (.if_icmp .gt 7, 3) := by decide +kernel
theorem dX5_isSequence_12 : decode cX5_isSequence 12 = .ok (.iconst 1, 1) := by decide +kernel
theorem dX5_isSequence_13 : decode cX5_isSequence 13 = .ok (.goto 4, 3) := by decide +kernel
theorem dX5_isSequence_16 : decode cX5_isSequence 16 = .ok (.iconst 0, 1) := by decide +kernel
theorem dX5_isSequence_17 : decode cX5_isSequence 17 = .ok (.ireturn, 1) := by decide +kernel
theorem dX5_isLength_0 : decode cX5_isLength 0 = .ok (.iload_n 0, 1) := by decide +kernel
theorem dX5_isLength_1 : decode cX5_isLength 1 = .ok (.iconst 1, 1) := by decide +kernel
theorem dX5_isLength_2 : decode cX5_isLength 2 = .ok (.if_icmp .lt 14, 3) := by decide +kernel
theorem dX5_isLength_5 : decode cX5_isLength 5 = .ok (.iload_n 0, 1) := by decide +kernel
theorem dX5_isLength_6 : decode cX5_isLength 6 = .ok (.sipush 192, 3) := by decide +kernel
theorem dX5_isLength_9 : decode cX5_isLength 9 = .ok (.if_icmp .gt 7, 3) := by decide +kernel
theorem dX5_isLength_12 : decode cX5_isLength 12 = .ok (.iconst 1, 1) := by decide +kernel
theorem dX5_isLength_13 : decode cX5_isLength 13 = .ok (.goto 4, 3) := by decide +kernel
theorem dX5_isLength_16 : decode cX5_isLength 16 = .ok (.iconst 0, 1) := by decide +kernel
theorem dX5_isLength_17 : decode cX5_isLength 17 = .ok (.ireturn, 1) := by decide +kernel
set_option maxRecDepth 20000 in
theorem ggX5_judgeTape_X1_readTape : GoodIn wsX5_judgeTape wsX1_readTape := goodIn_r _ [8, 9, 10, 11, 12, 13, 109, 110, 111] (by decide +kernel) (by decide +kernel)
set_option maxRecDepth 20000 in
theorem gX5_judgeTape_X1_readTape : GoodIn wsX5_judgeTape (wsV RX5 203 RX1 yX1_readTape wsX1_readTape) := goodIn_app (goodIn_of _ (by decide +kernel)) ggX5_judgeTape_X1_readTape
set_option maxRecDepth 20000 in
theorem ggX5_judgeTape_X1_isInRange : GoodIn wsX5_judgeTape wsX1_isInRange := goodIn_r _ [17, 18, 19, 20, 7, 21, 9, 22, 23, 24, 25, 26, 27, 28, 29, 30, 31, 32, 33, 34, 111] (by decide +kernel) (by decide +kernel)
set_option maxRecDepth 20000 in
theorem gX5_judgeTape_X1_isInRange : GoodIn wsX5_judgeTape (wsV RX5 207 RX1 yX1_isInRange wsX1_isInRange) := goodIn_app (goodIn_of _ (by decide +kernel)) ggX5_judgeTape_X1_isInRange
set_option maxRecDepth 20000 in
theorem ggX5_judgeTape_X5_isOurs : GoodIn wsX5_judgeTape wsX5_isOurs := goodIn_r _ [38, 2, 39, 40, 41, 42, 43, 7, 44, 9, 45, 23, 46, 47, 48, 49, 50, 51, 52, 53, 54, 55, 56, 57, 58, 100, 101, 102, 103, 104, 105, 106, 107, 108, 111] (by decide +kernel) (by decide +kernel)
set_option maxRecDepth 20000 in
theorem gX5_judgeTape_X5_isOurs : GoodIn wsX5_judgeTape (wsV RX5 210 RX5 yX5_isOurs wsX5_isOurs) := goodIn_app (goodIn_of _ (by decide +kernel)) ggX5_judgeTape_X5_isOurs
set_option maxRecDepth 20000 in
theorem ggX5_judgeTape_X1_sequence : GoodIn wsX5_judgeTape wsX1_sequence := goodIn_r _ [21, 9, 111] (by decide +kernel) (by decide +kernel)
set_option maxRecDepth 20000 in
theorem gX5_judgeTape_X1_sequence : GoodIn wsX5_judgeTape (wsV RX5 146 RX1 yX1_sequence wsX1_sequence) := goodIn_app (goodIn_of _ (by decide +kernel)) ggX5_judgeTape_X1_sequence
set_option maxRecDepth 20000 in
theorem ggX5_judgeTape_X5_isOld : GoodIn wsX5_judgeTape wsX5_isOld := goodIn_r _ [63, 64, 3, 65, 66, 67, 23, 68, 69, 70, 71, 72, 73, 74, 75, 76, 77, 78, 79, 80, 81, 82, 83, 84, 85, 86, 87, 88, 89, 90, 91, 92, 93, 94, 100, 101, 102, 103, 104, 105, 106, 107, 108, 112, 113, 114, 115, 116, 117, 118, 119, 120] (by decide +kernel) (by decide +kernel)
set_option maxRecDepth 20000 in
theorem gX5_judgeTape_X5_isOld : GoodIn wsX5_judgeTape (wsV RX5 149 RX5 yX5_isOld wsX5_isOld) := goodIn_app (goodIn_of _ (by decide +kernel)) ggX5_judgeTape_X5_isOld
set_option maxRecDepth 20000 in
theorem ggX5_judgeTape_X1_standsIn : GoodIn wsX5_judgeTape wsX1_standsIn := goodIn_r _ [98, 9, 99, 70, 71, 72, 73, 74, 111, 112, 113, 114, 115, 116, 117] (by decide +kernel) (by decide +kernel)
set_option maxRecDepth 20000 in
theorem gX5_judgeTape_X1_standsIn : GoodIn wsX5_judgeTape (wsV RX5 213 RX1 yX1_standsIn wsX1_standsIn) := goodIn_app (goodIn_of _ (by decide +kernel)) ggX5_judgeTape_X1_standsIn
theorem dX5_judgeTape_0 : decode cX5_judgeTape 0 = .ok (.aload_n 0, 1) := by decide +kernel
theorem dX5_judgeTape_1 : decode cX5_judgeTape 1 = .ok (.getfield 19, 3) := by decide +kernel
theorem dX5_judgeTape_4 : decode cX5_judgeTape 4 = .ok (.getfield 68, 3) := by decide +kernel
theorem dX5_judgeTape_7 : decode cX5_judgeTape 7 = .ok (.bipush 20, 2) := by decide +kernel
theorem dX5_judgeTape_9 : decode cX5_judgeTape 9 = .ok (.if_icmp .eq 5, 3) := by decide +kernel
theorem dX5_judgeTape_12 : decode cX5_judgeTape 12 = .ok (.iconst (-1), 1) := by decide +kernel
theorem dX5_judgeTape_13 : decode cX5_judgeTape 13 = .ok (.ireturn, 1) := by decide +kernel
theorem dX5_judgeTape_14 : decode cX5_judgeTape 14 = .ok (.aload_n 0, 1) := by decide +kernel
theorem dX5_judgeTape_15 : decode cX5_judgeTape 15 = .ok (.getfield 38, 3) := by decide +kernel
theorem dX5_judgeTape_18 : decode cX5_judgeTape 18 = .ok (.aload_n 0, 1) := by decide +kernel
theorem dX5_judgeTape_19 : decode cX5_judgeTape 19 = .ok (.getfield 19, 3) := by decide +kernel
theorem dX5_judgeTape_22 : decode cX5_judgeTape 22 = .ok (.invokevirtual 203, 3) := by decide +kernel
theorem dX5_judgeTape_25 : decode cX5_judgeTape 25 = .ok (.aload_n 0, 1) := by decide +kernel
theorem dX5_judgeTape_26 : decode cX5_judgeTape 26 = .ok (.getfield 38, 3) := by decide +kernel
theorem dX5_judgeTape_29 : decode cX5_judgeTape 29 = .ok (.invokevirtual 207, 3) := by decide +kernel
theorem dX5_judgeTape_32 : decode cX5_judgeTape 32 = .ok (.ifCond .ne 5, 3) := by decide +kernel
theorem dX5_judgeTape_35 : decode cX5_judgeTape 35 = .ok (.iconst (-1), 1) := by decide +kernel
theorem dX5_judgeTape_36 : decode cX5_judgeTape 36 = .ok (.ireturn, 1) := by decide +kernel
theorem dX5_judgeTape_37 : decode cX5_judgeTape 37 = .ok (.aload_n 0, 1) := by decide +kernel
theorem dX5_judgeTape_38 : decode cX5_judgeTape 38 = .ok (.invokevirtual 210, 3) := by decide +kernel
theorem dX5_judgeTape_41 : decode cX5_judgeTape 41 = .ok (.ifCond .ne 6, 3) := by decide +kernel
theorem dX5_judgeTape_44 : decode cX5_judgeTape 44 = .ok (.bipush (-4), 2) := by decide +kernel
theorem dX5_judgeTape_46 : decode cX5_judgeTape 46 = .ok (.ireturn, 1) := by decide +kernel
theorem dX5_judgeTape_47 : decode cX5_judgeTape 47 = .ok (.aload_n 0, 1) := by decide +kernel
theorem dX5_judgeTape_48 : decode cX5_judgeTape 48 = .ok (.aload_n 0, 1) := by decide +kernel
theorem dX5_judgeTape_49 : decode cX5_judgeTape 49 = .ok (.getfield 38, 3) := by decide +kernel
theorem dX5_judgeTape_52 : decode cX5_judgeTape 52 = .ok (.invokevirtual 146, 3) := by decide +kernel
theorem dX5_judgeTape_55 : decode cX5_judgeTape 55 = .ok (.invokevirtual 149, 3) := by decide +kernel
theorem dX5_judgeTape_58 : decode cX5_judgeTape 58 = .ok (.ifCond .eq 6, 3) := by decide +kernel
theorem dX5_judgeTape_61 : decode cX5_judgeTape 61 = .ok (.bipush (-3), 2) := by decide +kernel
theorem dX5_judgeTape_63 : decode cX5_judgeTape 63 = .ok (.ireturn, 1) := by decide +kernel
theorem dX5_judgeTape_64 : decode cX5_judgeTape 64 = .ok (.aload_n 0, 1) := by decide +kernel
theorem dX5_judgeTape_65 : decode cX5_judgeTape 65 = .ok (.getfield 38, 3) := by decide +kernel
theorem dX5_judgeTape_68 : decode cX5_judgeTape 68 = .ok (.aload_n 0, 1) := by decide +kernel
theorem dX5_judgeTape_69 : decode cX5_judgeTape 69 = .ok (.getfield 12, 3) := by decide +kernel
theorem dX5_judgeTape_72 : decode cX5_judgeTape 72 = .ok (.invokevirtual 213, 3) := by decide +kernel
theorem dX5_judgeTape_75 : decode cX5_judgeTape 75 = .ok (.ifCond .eq 7, 3) := by decide +kernel
theorem dX5_judgeTape_78 : decode cX5_judgeTape 78 = .ok (.iconst 1, 1) := by decide +kernel
theorem dX5_judgeTape_79 : decode cX5_judgeTape 79 = .ok (.goto 4, 3) := by decide +kernel
theorem dX5_judgeTape_82 : decode cX5_judgeTape 82 = .ok (.iconst 0, 1) := by decide +kernel
theorem dX5_judgeTape_83 : decode cX5_judgeTape 83 = .ok (.ireturn, 1) := by decide +kernel
set_option maxRecDepth 20000 in
theorem ggX5_isOurs_X1_isTagged : GoodIn wsX5_isOurs wsX1_isTagged := goodIn_r _ [8, 9, 10, 11, 12, 13, 14, 15, 16, 17, 18, 19, 7, 20, 34] (by decide +kernel) (by decide +kernel)
set_option maxRecDepth 20000 in
theorem gX5_isOurs_X1_isTagged : GoodIn wsX5_isOurs (wsV RX5 216 RX1 yX1_isTagged wsX1_isTagged) := goodIn_app (goodIn_of _ (by decide +kernel)) ggX5_isOurs_X1_isTagged
set_option maxRecDepth 20000 in
theorem ggX5_isOurs_X1_vendor : GoodIn wsX5_isOurs wsX1_vendor := goodIn_r _ [24, 9, 34] (by decide +kernel) (by decide +kernel)
set_option maxRecDepth 20000 in
theorem gX5_isOurs_X1_vendor : GoodIn wsX5_isOurs (wsV RX5 220 RX1 yX1_vendor wsX1_vendor) := goodIn_app (goodIn_of _ (by decide +kernel)) ggX5_isOurs_X1_vendor
theorem dX5_isOurs_0 : decode cX5_isOurs 0 = .ok (.aload_n 0, 1) := by decide +kernel
theorem dX5_isOurs_1 : decode cX5_isOurs 1 = .ok (.getfield 38, 3) := by decide +kernel
theorem dX5_isOurs_4 : decode cX5_isOurs 4 = .ok (.aload_n 0, 1) := by decide +kernel
theorem dX5_isOurs_5 : decode cX5_isOurs 5 = .ok (.getfield 57, 3) := by decide +kernel
theorem dX5_isOurs_8 : decode cX5_isOurs 8 = .ok (.invokevirtual 216, 3) := by decide +kernel
theorem dX5_isOurs_11 : decode cX5_isOurs 11 = .ok (.ifCond .eq 21, 3) := by decide +kernel
theorem dX5_isOurs_14 : decode cX5_isOurs 14 = .ok (.aload_n 0, 1) := by decide +kernel
