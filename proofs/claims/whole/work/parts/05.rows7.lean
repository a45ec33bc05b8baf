theorem dX6_block_146 : decode cX6_block 146 = .ok (.goto 5, 3) := by decide +kernel
theorem dX6_block_149 : decode cX6_block 149 = .ok (.bipush (-2), 2) := by decide +kernel
theorem dX6_block_151 : decode cX6_block 151 = .ok (.ireturn, 1) := by decide +kernel
theorem dX6_add_0 : decode cX6_add 0 = .ok (.aload_n 0, 1) := by decide +kernel
theorem dX6_add_1 : decode cX6_add 1 = .ok (.getfield 124, 3) := by decide +kernel
theorem dX6_add_4 : decode cX6_add 4 = .ok (.sipush 192, 3) := by decide +kernel
theorem dX6_add_7 : decode cX6_add 7 = .ok (.if_icmp .ge 13, 3) := by decide +kernel
theorem dX6_add_10 : decode cX6_add 10 = .ok (.aload_n 0, 1) := by decide +kernel
theorem dX6_add_11 : decode cX6_add 11 = .ok (.getfield 30, 3) := by decide +kernel
theorem dX6_add_14 : decode cX6_add 14 = .ok (.aload_n 0, 1) := by decide +kernel
theorem dX6_add_15 : decode cX6_add 15 = .ok (.getfield 124, 3) := by decide +kernel
theorem dX6_add_18 : decode cX6_add 18 = .ok (.iload_n 1, 1) := by decide +kernel
theorem dX6_add_19 : decode cX6_add 19 = .ok (.iastore, 1) := by decide +kernel
theorem dX6_add_20 : decode cX6_add 20 = .ok (.aload_n 0, 1) := by decide +kernel
theorem dX6_add_21 : decode cX6_add 21 = .ok (.dup, 1) := by decide +kernel
theorem dX6_add_22 : decode cX6_add 22 = .ok (.getfield 124, 3) := by decide +kernel
theorem dX6_add_25 : decode cX6_add 25 = .ok (.iconst 1, 1) := by decide +kernel
theorem dX6_add_26 : decode cX6_add 26 = .ok (.iadd, 1) := by decide +kernel
theorem dX6_add_27 : decode cX6_add 27 = .ok (.putfield 124, 3) := by decide +kernel
theorem dX6_add_30 : decode cX6_add 30 = .ok (.return_, 1) := by decide +kernel
set_option maxRecDepth 20000 in
theorem ggX6_patches_X6_add : GoodIn wsX6_patches wsX6_add := goodIn_r _ [7, 2, 8, 9, 10, 11, 12, 13, 14, 15, 16, 17, 18, 19, 20, 21] (by decide +kernel) (by decide +kernel)
set_option maxRecDepth 20000 in
theorem gX6_patches_X6_add : GoodIn wsX6_patches (wsV RX6 127 RX6 yX6_add wsX6_add) := goodIn_app (goodIn_of _ (by decide +kernel)) ggX6_patches_X6_add
theorem dX6_patches_0 : decode cX6_patches 0 = .ok (.aload_n 0, 1) := by decide +kernel
theorem dX6_patches_1 : decode cX6_patches 1 = .ok (.getfield 7, 3) := by decide +kernel
theorem dX6_patches_4 : decode cX6_patches 4 = .ok (.sipush 646, 3) := by decide +kernel
theorem dX6_patches_7 : decode cX6_patches 7 = .ok (.iaload, 1) := by decide +kernel
theorem dX6_patches_8 : decode cX6_patches 8 = .ok (.istore_n 3, 1) := by decide +kernel
theorem dX6_patches_9 : decode cX6_patches 9 = .ok (.iconst 0, 1) := by decide +kernel
theorem dX6_patches_10 : decode cX6_patches 10 = .ok (.istore 4, 2) := by decide +kernel
theorem dX6_patches_12 : decode cX6_patches 12 = .ok (.aload_n 0, 1) := by decide +kernel
theorem dX6_patches_13 : decode cX6_patches 13 = .ok (.iconst 0, 1) := by decide +kernel
theorem dX6_patches_14 : decode cX6_patches 14 = .ok (.putfield 124, 3) := by decide +kernel
theorem dX6_patches_17 : decode cX6_patches 17 = .ok (.iload 4, 2) := by decide +kernel
theorem dX6_patches_19 : decode cX6_patches 19 = .ok (.iload_n 3, 1) := by decide +kernel
theorem dX6_patches_20 : decode cX6_patches 20 = .ok (.if_icmp .ge 170, 3) := by decide +kernel
theorem dX6_patches_23 : decode cX6_patches 23 = .ok (.aload_n 0, 1) := by decide +kernel
theorem dX6_patches_24 : decode cX6_patches 24 = .ok (.getfield 7, 3) := by decide +kernel
theorem dX6_patches_27 : decode cX6_patches 27 = .ok (.sipush 448, 3) := by decide +kernel
theorem dX6_patches_30 : decode cX6_patches 30 = .ok (.iload 4, 2) := by decide +kernel
theorem dX6_patches_32 : decode cX6_patches 32 = .ok (.iadd, 1) := by decide +kernel
theorem dX6_patches_33 : decode cX6_patches 33 = .ok (.iaload, 1) := by decide +kernel
theorem dX6_patches_34 : decode cX6_patches 34 = .ok (.istore 5, 2) := by decide +kernel
theorem dX6_patches_36 : decode cX6_patches 36 = .ok (.iload 5, 2) := by decide +kernel
theorem dX6_patches_38 : decode cX6_patches 38 = .ok (.sipush 128, 3) := by decide +kernel
theorem dX6_patches_41 : decode cX6_patches 41 = .ok (.if_icmp .ge 66, 3) := by decide +kernel
theorem dX6_patches_44 : decode cX6_patches 44 = .ok (.iload 4, 2) := by decide +kernel
theorem dX6_patches_46 : decode cX6_patches 46 = .ok (.iconst 1, 1) := by decide +kernel
theorem dX6_patches_47 : decode cX6_patches 47 = .ok (.iadd, 1) := by decide +kernel
theorem dX6_patches_48 : decode cX6_patches 48 = .ok (.iload 5, 2) := by decide +kernel
theorem dX6_patches_50 : decode cX6_patches 50 = .ok (.iadd, 1) := by decide +kernel
theorem dX6_patches_51 : decode cX6_patches 51 = .ok (.iconst 1, 1) := by decide +kernel
theorem dX6_patches_52 : decode cX6_patches 52 = .ok (.iadd, 1) := by decide +kernel
theorem dX6_patches_53 : decode cX6_patches 53 = .ok (.iload_n 3, 1) := by decide +kernel
theorem dX6_patches_54 : decode cX6_patches 54 = .ok (.if_icmp .le 5, 3) := by decide +kernel
theorem dX6_patches_57 : decode cX6_patches 57 = .ok (.iconst 0, 1) := by decide +kernel
theorem dX6_patches_58 : decode cX6_patches 58 = .ok (.ireturn, 1) := by decide +kernel
theorem dX6_patches_59 : decode cX6_patches 59 = .ok (.iconst 0, 1) := by decide +kernel
theorem dX6_patches_60 : decode cX6_patches 60 = .ok (.istore 6, 2) := by decide +kernel
theorem dX6_patches_62 : decode cX6_patches 62 = .ok (.iload 6, 2) := by decide +kernel
theorem dX6_patches_64 : decode cX6_patches 64 = .ok (.iload 5, 2) := by decide +kernel
theorem dX6_patches_66 : decode cX6_patches 66 = .ok (.if_icmp .gt 29, 3) := by decide +kernel
theorem dX6_patches_69 : decode cX6_patches 69 = .ok (.aload_n 0, 1) := by decide +kernel
theorem dX6_patches_70 : decode cX6_patches 70 = .ok (.aload_n 0, 1) := by decide +kernel
theorem dX6_patches_71 : decode cX6_patches 71 = .ok (.getfield 7, 3) := by decide +kernel
theorem dX6_patches_74 : decode cX6_patches 74 = .ok (.sipush 448, 3) := by decide +kernel
theorem dX6_patches_77 : decode cX6_patches 77 = .ok (.iload 4, 2) := by decide +kernel
theorem dX6_patches_79 : decode cX6_patches 79 = .ok (.iadd, 1) := by decide +kernel
theorem dX6_patches_80 : decode cX6_patches 80 = .ok (.iconst 1, 1) := by decide +kernel
theorem dX6_patches_81 : decode cX6_patches 81 = .ok (.iadd, 1) := by decide +kernel
theorem dX6_patches_82 : decode cX6_patches 82 = .ok (.iload 6, 2) := by decide +kernel
theorem dX6_patches_84 : decode cX6_patches 84 = .ok (.iadd, 1) := by decide +kernel
theorem dX6_patches_85 : decode cX6_patches 85 = .ok (.iaload, 1) := by decide +kernel
theorem dX6_patches_86 : decode cX6_patches 86 = .ok (.invokevirtual 127, 3) := by decide +kernel
theorem dX6_patches_89 : decode cX6_patches 89 = .ok (.iinc 6 1, 3) := by decide +kernel
theorem dX6_patches_92 : decode cX6_patches 92 = .ok (.goto (-30), 3) := by decide +kernel
theorem dX6_patches_95 : decode cX6_patches 95 = .ok (.iload 4, 2) := by decide +kernel
theorem dX6_patches_97 : decode cX6_patches 97 = .ok (.iload 5, 2) := by decide +kernel
theorem dX6_patches_99 : decode cX6_patches 99 = .ok (.iadd, 1) := by decide +kernel
theorem dX6_patches_100 : decode cX6_patches 100 = .ok (.iconst 2, 1) := by decide +kernel
theorem dX6_patches_101 : decode cX6_patches 101 = .ok (.iadd, 1) := by decide +kernel
theorem dX6_patches_102 : decode cX6_patches 102 = .ok (.istore 4, 2) := by decide +kernel
theorem dX6_patches_104 : decode cX6_patches 104 = .ok (.goto 83, 3) := by decide +kernel
theorem dX6_patches_107 : decode cX6_patches 107 = .ok (.iload 4, 2) := by decide +kernel
theorem dX6_patches_109 : decode cX6_patches 109 = .ok (.iconst 2, 1) := by decide +kernel
theorem dX6_patches_110 : decode cX6_patches 110 = .ok (.iadd, 1) := by decide +kernel
theorem dX6_patches_111 : decode cX6_patches 111 = .ok (.iload_n 3, 1) := by decide +kernel
theorem dX6_patches_112 : decode cX6_patches 112 = .ok (.if_icmp .le 5, 3) := by decide +kernel
theorem dX6_patches_115 : decode cX6_patches 115 = .ok (.iconst 0, 1) := by decide +kernel
theorem dX6_patches_116 : decode cX6_patches 116 = .ok (.ireturn, 1) := by decide +kernel
theorem dX6_patches_117 : decode cX6_patches 117 = .ok (.aload_n 0, 1) := by decide +kernel
theorem dX6_patches_118 : decode cX6_patches 118 = .ok (.getfield 7, 3) := by decide +kernel
theorem dX6_patches_121 : decode cX6_patches 121 = .ok (.sipush 448, 3) := by decide +kernel
theorem dX6_patches_124 : decode cX6_patches 124 = .ok (.iload 4, 2) := by decide +kernel
theorem dX6_patches_126 : decode cX6_patches 126 = .ok (.iadd, 1) := by decide +kernel
theorem dX6_patches_127 : decode cX6_patches 127 = .ok (.iconst 1, 1) := by decide +kernel
theorem dX6_patches_128 : decode cX6_patches 128 = .ok (.iadd, 1) := by decide +kernel
theorem dX6_patches_129 : decode cX6_patches 129 = .ok (.iaload, 1) := by decide +kernel
theorem dX6_patches_130 : decode cX6_patches 130 = .ok (.istore 6, 2) := by decide +kernel
theorem dX6_patches_132 : decode cX6_patches 132 = .ok (.iload 6, 2) := by decide +kernel
theorem dX6_patches_134 : decode cX6_patches 134 = .ok (.iload 5, 2) := by decide +kernel
theorem dX6_patches_136 : decode cX6_patches 136 = .ok (.iadd, 1) := by decide +kernel
theorem dX6_patches_137 : decode cX6_patches 137 = .ok (.bipush 127, 2) := by decide +kernel
theorem dX6_patches_139 : decode cX6_patches 139 = .ok (.isub, 1) := by decide +kernel
theorem dX6_patches_140 : decode cX6_patches 140 = .ok (.iload_n 2, 1) := by decide +kernel
theorem dX6_patches_141 : decode cX6_patches 141 = .ok (.if_icmp .le 5, 3) := by decide +kernel
theorem dX6_patches_144 : decode cX6_patches 144 = .ok (.iconst 0, 1) := by decide +kernel
theorem dX6_patches_145 : decode cX6_patches 145 = .ok (.ireturn, 1) := by decide +kernel
theorem dX6_patches_146 : decode cX6_patches 146 = .ok (.iconst 0, 1) := by decide +kernel
theorem dX6_patches_147 : decode cX6_patches 147 = .ok (.istore 7, 2) := by decide +kernel
theorem dX6_patches_149 : decode cX6_patches 149 = .ok (.iload 7, 2) := by decide +kernel
theorem dX6_patches_151 : decode cX6_patches 151 = .ok (.iload 5, 2) := by decide +kernel
theorem dX6_patches_153 : decode cX6_patches 153 = .ok (.bipush 127, 2) := by decide +kernel
theorem dX6_patches_155 : decode cX6_patches 155 = .ok (.isub, 1) := by decide +kernel
theorem dX6_patches_156 : decode cX6_patches 156 = .ok (.if_icmp .ge 25, 3) := by decide +kernel
theorem dX6_patches_159 : decode cX6_patches 159 = .ok (.aload_n 0, 1) := by decide +kernel
theorem dX6_patches_160 : decode cX6_patches 160 = .ok (.aload_n 0, 1) := by decide +kernel
theorem dX6_patches_161 : decode cX6_patches 161 = .ok (.getfield 7, 3) := by decide +kernel
theorem dX6_patches_164 : decode cX6_patches 164 = .ok (.iload_n 1, 1) := by decide +kernel
theorem dX6_patches_165 : decode cX6_patches 165 = .ok (.iload 6, 2) := by decide +kernel
theorem dX6_patches_167 : decode cX6_patches 167 = .ok (.iadd, 1) := by decide +kernel
theorem dX6_patches_168 : decode cX6_patches 168 = .ok (.iload 7, 2) := by decide +kernel
theorem dX6_patches_170 : decode cX6_patches 170 = .ok (.iadd, 1) := by decide +kernel
theorem dX6_patches_171 : decode cX6_patches 171 = .ok (.iaload, 1) := by decide +kernel
theorem dX6_patches_172 : decode cX6_patches 172 = .ok (.invokevirtual 127, 3) := by decide +kernel
theorem dX6_patches_175 : decode cX6_patches 175 = .ok (.iinc 7 1, 3) := by decide +kernel
theorem dX6_patches_178 : decode cX6_patches 178 = .ok (.goto (-29), 3) := by decide +kernel
theorem dX6_patches_181 : decode cX6_patches 181 = .ok (.iload 4, 2) := by decide +kernel
theorem dX6_patches_183 : decode cX6_patches 183 = .ok (.iconst 2, 1) := by decide +kernel
theorem dX6_patches_184 : decode cX6_patches 184 = .ok (.iadd, 1) := by decide +kernel
theorem dX6_patches_185 : decode cX6_patches 185 = .ok (.istore 4, 2) := by decide +kernel
theorem dX6_patches_187 : decode cX6_patches 187 = .ok (.goto (-170), 3) := by decide +kernel
theorem dX6_patches_190 : decode cX6_patches 190 = .ok (.aload_n 0, 1) := by decide +kernel
theorem dX6_patches_191 : decode cX6_patches 191 = .ok (.getfield 124, 3) := by decide +kernel
theorem dX6_patches_194 : decode cX6_patches 194 = .ok (.aload_n 0, 1) := by decide +kernel
theorem dX6_patches_195 : decode cX6_patches 195 = .ok (.getfield 7, 3) := by decide +kernel
theorem dX6_patches_198 : decode cX6_patches 198 = .ok (.sipush 651, 3) := by decide +kernel
theorem dX6_patches_201 : decode cX6_patches 201 = .ok (.iaload, 1) := by decide +kernel
theorem dX6_patches_202 : decode cX6_patches 202 = .ok (.if_icmp .ne 7, 3) := by decide +kernel
theorem dX6_patches_205 : decode cX6_patches 205 = .ok (.iconst 1, 1) := by decide +kernel
theorem dX6_patches_206 : decode cX6_patches 206 = .ok (.goto 4, 3) := by decide +kernel
theorem dX6_patches_209 : decode cX6_patches 209 = .ok (.iconst 0, 1) := by decide +kernel
theorem dX6_patches_210 : decode cX6_patches 210 = .ok (.ireturn, 1) := by decide +kernel
set_option maxRecDepth 20000 in
theorem ggX6_install_X6_isRight : GoodIn wsX6_install wsX6_isRight := goodIn_r _ [11, 12, 13, 14, 10, 15, 16, 17, 18, 19, 20, 3, 21, 22, 23, 24, 25, 26, 27, 28, 29, 30, 31, 32, 33, 34, 35, 36, 37, 101, 102, 103, 104, 105, 106, 107, 108, 109, 110, 111, 112, 113] (by decide +kernel) (by decide +kernel)
set_option maxRecDepth 20000 in
theorem gX6_install_X6_isRight : GoodIn wsX6_install (wsV RX6 118 RX6 yX6_isRight wsX6_isRight) := goodIn_app (goodIn_of _ (by decide +kernel)) ggX6_install_X6_isRight
set_option maxRecDepth 20000 in
theorem ggX6_install_X6_isOld : GoodIn wsX6_install wsX6_isOld := goodIn_r _ [41, 4, 16, 17, 18, 10, 19, 20, 3, 42, 43, 44, 45, 46, 47, 48, 49, 50, 51, 52, 53, 54, 55, 101, 102, 103, 104, 105, 106, 107, 108, 109, 110, 111, 112, 113] (by decide +kernel) (by decide +kernel)
set_option maxRecDepth 20000 in
theorem gX6_install_X6_isOld : GoodIn wsX6_install (wsV RX6 115 RX6 yX6_isOld wsX6_isOld) := goodIn_app (goodIn_of _ (by decide +kernel)) ggX6_install_X6_isOld
set_option maxRecDepth 20000 in
theorem ggX6_install_X6_blocks : GoodIn wsX6_install wsX6_blocks := goodIn_r _ [59, 3, 101, 102, 103, 104, 105, 106, 107, 108, 109, 110, 111, 112, 113] (by decide +kernel) (by decide +kernel)
set_option maxRecDepth 20000 in
theorem gX6_install_X6_blocks : GoodIn wsX6_install (wsV RX6 121 RX6 yX6_blocks wsX6_blocks) := goodIn_app (goodIn_of _ (by decide +kernel)) ggX6_install_X6_blocks
set_option maxRecDepth 20000 in
theorem ggX6_install_X6_headerAt : GoodIn wsX6_install wsX6_headerAt := goodIn_r _ [55] (by decide +kernel) (by decide +kernel)
set_option maxRecDepth 20000 in
theorem gX6_install_X6_headerAt : GoodIn wsX6_install (va_wsS RX6 58 yX6_headerAt wsX6_headerAt) := goodIn_app (goodIn_of _ (by decide +kernel)) ggX6_install_X6_headerAt
set_option maxRecDepth 20000 in
theorem ggX6_install_X6_four : GoodIn wsX6_install wsX6_four := goodIn_r _ [63, 3, 101, 102, 103, 104, 105, 106, 107, 108, 109, 110, 111, 112, 113] (by decide +kernel) (by decide +kernel)
set_option maxRecDepth 20000 in
theorem gX6_install_X6_four : GoodIn wsX6_install (wsV RX6 67 RX6 yX6_four wsX6_four) := goodIn_app (goodIn_of _ (by decide +kernel)) ggX6_install_X6_four
set_option maxRecDepth 20000 in
theorem ggX6_install_X6_digestOf : GoodIn wsX6_install wsX6_digestOf := goodIn_r _ [67, 3, 30, 31, 10, 32, 33, 101, 102, 103, 104, 105, 106, 107, 108, 109, 110, 111, 112, 113] (by decide +kernel) (by decide +kernel)
set_option maxRecDepth 20000 in
theorem gX6_install_X6_digestOf : GoodIn wsX6_install (wsV RX6 64 RX6 yX6_digestOf wsX6_digestOf) := goodIn_app (goodIn_of _ (by decide +kernel)) ggX6_install_X6_digestOf
set_option maxRecDepth 20000 in
theorem ggX6_install_X6_imageAt : GoodIn wsX6_install wsX6_imageAt := goodIn_r _ [70] (by decide +kernel) (by decide +kernel)
set_option maxRecDepth 20000 in
theorem gX6_install_X6_imageAt : GoodIn wsX6_install (va_wsS RX6 61 yX6_imageAt wsX6_imageAt) := goodIn_app (goodIn_of _ (by decide +kernel)) ggX6_install_X6_imageAt
set_option maxRecDepth 20000 in
theorem ggX6_install_X6_patches : GoodIn wsX6_install wsX6_patches := goodIn_r _ [74, 3, 5, 75, 76, 77, 10, 78, 6, 101, 102, 103, 104, 105, 106, 107, 108, 109, 110, 111, 112, 113] (by decide +kernel) (by decide +kernel)
set_option maxRecDepth 20000 in
theorem gX6_install_X6_patches : GoodIn wsX6_install (wsV RX6 130 RX6 yX6_patches wsX6_patches) := goodIn_app (goodIn_of _ (by decide +kernel)) ggX6_install_X6_patches
set_option maxRecDepth 20000 in
theorem ggX6_install_X6_digested : GoodIn wsX6_install wsX6_digested := goodIn_r _ [32, 33] (by decide +kernel) (by decide +kernel)
set_option maxRecDepth 20000 in
theorem gX6_install_X6_digested : GoodIn wsX6_install (va_wsS RX6 50 yX6_digested wsX6_digested) := goodIn_app (goodIn_of _ (by decide +kernel)) ggX6_install_X6_digested
set_option maxRecDepth 20000 in
theorem ggX6_install_X6_erase : GoodIn wsX6_install wsX6_erase := goodIn_r _ [82, 2, 83, 3, 84, 85, 86, 10, 87, 88, 89, 4, 101, 102, 103, 104, 105, 106, 107, 108, 109, 110, 111, 112, 113] (by decide +kernel) (by decide +kernel)
set_option maxRecDepth 20000 in
theorem gX6_install_X6_erase : GoodIn wsX6_install (wsV RX6 79 RX6 yX6_erase wsX6_erase) := goodIn_app (goodIn_of _ (by decide +kernel)) ggX6_install_X6_erase
set_option maxRecDepth 20000 in
theorem ggX6_install_X6_program : GoodIn wsX6_install wsX6_program := goodIn_r _ [93, 2, 3, 83, 84, 85, 86, 10, 87, 88, 89, 4, 101, 102, 103, 104, 105, 106, 107, 108, 109, 110, 111, 112, 113] (by decide +kernel) (by decide +kernel)
set_option maxRecDepth 20000 in
theorem gX6_install_X6_program : GoodIn wsX6_install (wsV RX6 83 RX6 yX6_program wsX6_program) := goodIn_app (goodIn_of _ (by decide +kernel)) ggX6_install_X6_program
set_option maxRecDepth 20000 in
theorem ggX6_install_X6_writeHeader : GoodIn wsX6_install wsX6_writeHeader := goodIn_r _ [97, 53, 54, 10, 55, 90, 91, 92, 93, 2, 3, 83, 84, 85, 86, 87, 88, 89, 4, 98, 99, 100, 101, 102, 103, 104, 105, 106, 107, 108, 109, 110, 111, 112, 113] (by decide +kernel) (by decide +kernel)
set_option maxRecDepth 20000 in
theorem gX6_install_X6_writeHeader : GoodIn wsX6_install (wsV RX6 87 RX6 yX6_writeHeader wsX6_writeHeader) := goodIn_app (goodIn_of _ (by decide +kernel)) ggX6_install_X6_writeHeader
theorem dX6_install_0 : decode cX6_install 0 = .ok (.aload_n 0, 1) := by decide +kernel
theorem dX6_install_1 : decode cX6_install 1 = .ok (.iconst 0, 1) := by decide +kernel
theorem dX6_install_2 : decode cX6_install 2 = .ok (.putfield 36, 3) := by decide +kernel
theorem dX6_install_5 : decode cX6_install 5 = .ok (.aload_n 0, 1) := by decide +kernel
theorem dX6_install_6 : decode cX6_install 6 = .ok (.getfield 19, 3) := by decide +kernel
theorem dX6_install_9 : decode cX6_install 9 = .ok (.ifCond .ne 6, 3) := by decide +kernel
theorem dX6_install_12 : decode cX6_install 12 = .ok (.bipush (-2), 2) := by decide +kernel
theorem dX6_install_14 : decode cX6_install 14 = .ok (.ireturn, 1) := by decide +kernel
theorem dX6_install_15 : decode cX6_install 15 = .ok (.aload_n 0, 1) := by decide +kernel
theorem dX6_install_16 : decode cX6_install 16 = .ok (.invokevirtual 118, 3) := by decide +kernel
theorem dX6_install_19 : decode cX6_install 19 = .ok (.ifCond .ne 6, 3) := by decide +kernel
theorem dX6_install_22 : decode cX6_install 22 = .ok (.bipush (-7), 2) := by decide +kernel
theorem dX6_install_24 : decode cX6_install 24 = .ok (.ireturn, 1) := by decide +kernel
theorem dX6_install_25 : decode cX6_install 25 = .ok (.aload_n 0, 1) := by decide +kernel
theorem dX6_install_26 : decode cX6_install 26 = .ok (.iconst 0, 1) := by decide +kernel
theorem dX6_install_27 : decode cX6_install 27 = .ok (.invokevirtual 115, 3) := by decide +kernel
theorem dX6_install_30 : decode cX6_install 30 = .ok (.ifCond .eq 6, 3) := by decide +kernel
theorem dX6_install_33 : decode cX6_install 33 = .ok (.bipush (-3), 2) := by decide +kernel
theorem dX6_install_35 : decode cX6_install 35 = .ok (.ireturn, 1) := by decide +kernel
theorem dX6_install_36 : decode cX6_install 36 = .ok (.iconst 0, 1) := by decide +kernel
theorem dX6_install_37 : decode cX6_install 37 = .ok (.istore_n 1, 1) := by decide +kernel
theorem dX6_install_38 : decode cX6_install 38 = .ok (.iload_n 1, 1) := by decide +kernel
theorem dX6_install_39 : decode cX6_install 39 = .ok (.aload_n 0, 1) := by decide +kernel
theorem dX6_install_40 : decode cX6_install 40 = .ok (.invokevirtual 121, 3) := by decide +kernel
theorem dX6_install_43 : decode cX6_install 43 = .ok (.if_icmp .ge 25, 3) := by decide +kernel
theorem dX6_install_46 : decode cX6_install 46 = .ok (.aload_n 0, 1) := by decide +kernel
theorem dX6_install_47 : decode cX6_install 47 = .ok (.getfield 7, 3) := by decide +kernel
theorem dX6_install_50 : decode cX6_install 50 = .ok (.sipush 672, 3) := by decide +kernel
theorem dX6_install_53 : decode cX6_install 53 = .ok (.iload_n 1, 1) := by decide +kernel
theorem dX6_install_54 : decode cX6_install 54 = .ok (.iadd, 1) := by decide +kernel
theorem dX6_install_55 : decode cX6_install 55 = .ok (.iaload, 1) := by decide +kernel
theorem dX6_install_56 : decode cX6_install 56 = .ok (.ifCond .eq 6, 3) := by decide +kernel
theorem dX6_install_59 : decode cX6_install 59 = .ok (.bipush (-5), 2) := by decide +kernel
theorem dX6_install_61 : decode cX6_install 61 = .ok (.ireturn, 1) := by decide +kernel
theorem dX6_install_62 : decode cX6_install 62 = .ok (.iinc 1 1, 3) := by decide +kernel
theorem dX6_install_65 : decode cX6_install 65 = .ok (.goto (-27), 3) := by decide +kernel
theorem dX6_install_68 : decode cX6_install 68 = .ok (.aload_n 0, 1) := by decide +kernel
theorem dX6_install_69 : decode cX6_install 69 = .ok (.getfield 23, 3) := by decide +kernel
theorem dX6_install_72 : decode cX6_install 72 = .ok (.invokestatic 58, 3) := by decide +kernel
theorem dX6_install_75 : decode cX6_install 75 = .ok (.istore_n 1, 1) := by decide +kernel
theorem dX6_install_76 : decode cX6_install 76 = .ok (.aload_n 0, 1) := by decide +kernel
theorem dX6_install_77 : decode cX6_install 77 = .ok (.sipush 642, 3) := by decide +kernel
theorem dX6_install_80 : decode cX6_install 80 = .ok (.invokevirtual 67, 3) := by decide +kernel
theorem dX6_install_83 : decode cX6_install 83 = .ok (.ifCond .eq 7, 3) := by decide +kernel
theorem dX6_install_86 : decode cX6_install 86 = .ok (.iconst 1, 1) := by decide +kernel
theorem dX6_install_87 : decode cX6_install 87 = .ok (.goto 4, 3) := by decide +kernel
theorem dX6_install_90 : decode cX6_install 90 = .ok (.iconst 0, 1) := by decide +kernel
theorem dX6_install_91 : decode cX6_install 91 = .ok (.istore_n 2, 1) := by decide +kernel
theorem dX6_install_92 : decode cX6_install 92 = .ok (.aload_n 0, 1) := by decide +kernel
theorem dX6_install_93 : decode cX6_install 93 = .ok (.sipush 448, 3) := by decide +kernel
theorem dX6_install_96 : decode cX6_install 96 = .ok (.aload_n 0, 1) := by decide +kernel
theorem dX6_install_97 : decode cX6_install 97 = .ok (.getfield 7, 3) := by decide +kernel
theorem dX6_install_100 : decode cX6_install 100 = .ok (.sipush 646, 3) := by decide +kernel
theorem dX6_install_103 : decode cX6_install 103 = .ok (.iaload, 1) := by decide +kernel
theorem dX6_install_104 : decode cX6_install 104 = .ok (.invokevirtual 64, 3) := by decide +kernel
theorem dX6_install_107 : decode cX6_install 107 = .ok (.aload_n 0, 1) := by decide +kernel
theorem dX6_install_108 : decode cX6_install 108 = .ok (.sipush 647, 3) := by decide +kernel
theorem dX6_install_111 : decode cX6_install 111 = .ok (.invokevirtual 67, 3) := by decide +kernel
theorem dX6_install_114 : decode cX6_install 114 = .ok (.if_icmp .ne 28, 3) := by decide +kernel
theorem dX6_install_117 : decode cX6_install 117 = .ok (.iload_n 2, 1) := by decide +kernel
theorem dX6_install_118 : decode cX6_install 118 = .ok (.ifCond .eq 20, 3) := by decide +kernel
theorem dX6_install_121 : decode cX6_install 121 = .ok (.aload_n 0, 1) := by decide +kernel
theorem dX6_install_122 : decode cX6_install 122 = .ok (.sipush 642, 3) := by decide +kernel
theorem dX6_install_125 : decode cX6_install 125 = .ok (.invokevirtual 67, 3) := by decide +kernel
theorem dX6_install_128 : decode cX6_install 128 = .ok (.aload_n 0, 1) := by decide +kernel
theorem dX6_install_129 : decode cX6_install 129 = .ok (.iload_n 1, 1) := by decide +kernel
theorem dX6_install_130 : decode cX6_install 130 = .ok (.iconst 2, 1) := by decide +kernel
theorem dX6_install_131 : decode cX6_install 131 = .ok (.iadd, 1) := by decide +kernel
theorem dX6_install_132 : decode cX6_install 132 = .ok (.invokevirtual 67, 3) := by decide +kernel
theorem dX6_install_135 : decode cX6_install 135 = .ok (.if_icmp .ne 7, 3) := by decide +kernel
theorem dX6_install_138 : decode cX6_install 138 = .ok (.iconst 1, 1) := by decide +kernel
theorem dX6_install_139 : decode cX6_install 139 = .ok (.goto 4, 3) := by decide +kernel
theorem dX6_install_142 : decode cX6_install 142 = .ok (.iconst 0, 1) := by decide +kernel
theorem dX6_install_143 : decode cX6_install 143 = .ok (.istore_n 3, 1) := by decide +kernel
theorem dX6_install_144 : decode cX6_install 144 = .ok (.iload_n 3, 1) := by decide +kernel
theorem dX6_install_145 : decode cX6_install 145 = .ok (.ifCond .eq 35, 3) := by decide +kernel
theorem dX6_install_148 : decode cX6_install 148 = .ok (.aload_n 0, 1) := by decide +kernel
theorem dX6_install_149 : decode cX6_install 149 = .ok (.aload_n 0, 1) := by decide +kernel
theorem dX6_install_150 : decode cX6_install 150 = .ok (.getfield 23, 3) := by decide +kernel
theorem dX6_install_153 : decode cX6_install 153 = .ok (.invokestatic 61, 3) := by decide +kernel
theorem dX6_install_156 : decode cX6_install 156 = .ok (.iload_n 2, 1) := by decide +kernel
theorem dX6_install_157 : decode cX6_install 157 = .ok (.ifCond .eq 12, 3) := by decide +kernel
theorem dX6_install_160 : decode cX6_install 160 = .ok (.aload_n 0, 1) := by decide +kernel
theorem dX6_install_161 : decode cX6_install 161 = .ok (.getfield 7, 3) := by decide +kernel
theorem dX6_install_164 : decode cX6_install 164 = .ok (.iload_n 1, 1) := by decide +kernel
theorem dX6_install_165 : decode cX6_install 165 = .ok (.iaload, 1) := by decide +kernel
theorem dX6_install_166 : decode cX6_install 166 = .ok (.goto 4, 3) := by decide +kernel
theorem dX6_install_169 : decode cX6_install 169 = .ok (.iconst 0, 1) := by decide +kernel
theorem dX6_install_170 : decode cX6_install 170 = .ok (.invokevirtual 130, 3) := by decide +kernel
theorem dX6_install_173 : decode cX6_install 173 = .ok (.ifCond .eq 7, 3) := by decide +kernel
theorem dX6_install_176 : decode cX6_install 176 = .ok (.iconst 1, 1) := by decide +kernel
theorem dX6_install_177 : decode cX6_install 177 = .ok (.goto 4, 3) := by decide +kernel
theorem dX6_install_180 : decode cX6_install 180 = .ok (.iconst 0, 1) := by decide +kernel
theorem dX6_install_181 : decode cX6_install 181 = .ok (.istore_n 3, 1) := by decide +kernel
theorem dX6_install_182 : decode cX6_install 182 = .ok (.iconst 0, 1) := by decide +kernel
theorem dX6_install_183 : decode cX6_install 183 = .ok (.istore 4, 2) := by decide +kernel
theorem dX6_install_185 : decode cX6_install 185 = .ok (.iconst 0, 1) := by decide +kernel
theorem dX6_install_186 : decode cX6_install 186 = .ok (.istore 5, 2) := by decide +kernel
theorem dX6_install_188 : decode cX6_install 188 = .ok (.iload 5, 2) := by decide +kernel
theorem dX6_install_190 : decode cX6_install 190 = .ok (.aload_n 0, 1) := by decide +kernel
theorem dX6_install_191 : decode cX6_install 191 = .ok (.getfield 124, 3) := by decide +kernel
theorem dX6_install_194 : decode cX6_install 194 = .ok (.if_icmp .ge 27, 3) := by decide +kernel
theorem dX6_install_197 : decode cX6_install 197 = .ok (.iload_n 3, 1) := by decide +kernel
theorem dX6_install_198 : decode cX6_install 198 = .ok (.ifCond .eq 23, 3) := by decide +kernel
theorem dX6_install_201 : decode cX6_install 201 = .ok (.iload 4, 2) := by decide +kernel
theorem dX6_install_203 : decode cX6_install 203 = .ok (.aload_n 0, 1) := by decide +kernel
theorem dX6_install_204 : decode cX6_install 204 = .ok (.getfield 30, 3) := by decide +kernel
theorem dX6_install_207 : decode cX6_install 207 = .ok (.iload 5, 2) := by decide +kernel
theorem dX6_install_209 : decode cX6_install 209 = .ok (.iaload, 1) := by decide +kernel
theorem dX6_install_210 : decode cX6_install 210 = .ok (.invokestatic 50, 3) := by decide +kernel
theorem dX6_install_213 : decode cX6_install 213 = .ok (.istore 4, 2) := by decide +kernel
theorem dX6_install_215 : decode cX6_install 215 = .ok (.iinc 5 1, 3) := by decide +kernel
theorem dX6_install_218 : decode cX6_install 218 = .ok (.goto (-30), 3) := by decide +kernel
theorem dX6_install_221 : decode cX6_install 221 = .ok (.iload_n 3, 1) := by decide +kernel
theorem dX6_install_222 : decode cX6_install 222 = .ok (.ifCond .eq 15, 3) := by decide +kernel
theorem dX6_install_225 : decode cX6_install 225 = .ok (.iload 4, 2) := by decide +kernel
theorem dX6_install_227 : decode cX6_install 227 = .ok (.aload_n 0, 1) := by decide +kernel
theorem dX6_install_228 : decode cX6_install 228 = .ok (.sipush 652, 3) := by decide +kernel
theorem dX6_install_231 : decode cX6_install 231 = .ok (.invokevirtual 67, 3) := by decide +kernel
theorem dX6_install_234 : decode cX6_install 234 = .ok (.if_icmp .eq 6, 3) := by decide +kernel
theorem dX6_install_237 : decode cX6_install 237 = .ok (.bipush (-6), 2) := by decide +kernel
theorem dX6_install_239 : decode cX6_install 239 = .ok (.ireturn, 1) := by decide +kernel
theorem dX6_install_240 : decode cX6_install 240 = .ok (.iconst 1, 1) := by decide +kernel
theorem dX6_install_241 : decode cX6_install 241 = .ok (.aload_n 0, 1) := by decide +kernel
theorem dX6_install_242 : decode cX6_install 242 = .ok (.getfield 23, 3) := by decide +kernel
theorem dX6_install_245 : decode cX6_install 245 = .ok (.isub, 1) := by decide +kernel
theorem dX6_install_246 : decode cX6_install 246 = .ok (.istore 5, 2) := by decide +kernel
theorem dX6_install_248 : decode cX6_install 248 = .ok (.aload_n 0, 1) := by decide +kernel
theorem dX6_install_249 : decode cX6_install 249 = .ok (.getfield 7, 3) := by decide +kernel
theorem dX6_install_252 : decode cX6_install 252 = .ok (.sipush 641, 3) := by decide +kernel
theorem dX6_install_255 : decode cX6_install 255 = .ok (.iaload, 1) := by decide +kernel
theorem dX6_install_256 : decode cX6_install 256 = .ok (.istore 6, 2) := by decide +kernel
theorem dX6_install_258 : decode cX6_install 258 = .ok (.aload_n 0, 1) := by decide +kernel
theorem dX6_install_259 : decode cX6_install 259 = .ok (.bipush 7, 2) := by decide +kernel
theorem dX6_install_261 : decode cX6_install 261 = .ok (.iload 5, 2) := by decide +kernel
theorem dX6_install_263 : decode cX6_install 263 = .ok (.imul, 1) := by decide +kernel
theorem dX6_install_264 : decode cX6_install 264 = .ok (.bipush 6, 2) := by decide +kernel
theorem dX6_install_266 : decode cX6_install 266 = .ok (.iadd, 1) := by decide +kernel
theorem dX6_install_267 : decode cX6_install 267 = .ok (.invokevirtual 79, 3) := by decide +kernel
theorem dX6_install_270 : decode cX6_install 270 = .ok (.iconst 0, 1) := by decide +kernel
theorem dX6_install_271 : decode cX6_install 271 = .ok (.istore 7, 2) := by decide +kernel
theorem dX6_install_273 : decode cX6_install 273 = .ok (.iload 7, 2) := by decide +kernel
theorem dX6_install_275 : decode cX6_install 275 = .ok (.bipush 6, 2) := by decide +kernel
theorem dX6_install_277 : decode cX6_install 277 = .ok (.if_icmp .ge 21, 3) := by decide +kernel
theorem dX6_install_280 : decode cX6_install 280 = .ok (.aload_n 0, 1) := by decide +kernel
theorem dX6_install_281 : decode cX6_install 281 = .ok (.bipush 7, 2) := by decide +kernel
theorem dX6_install_283 : decode cX6_install 283 = .ok (.iload 5, 2) := by decide +kernel
theorem dX6_install_285 : decode cX6_install 285 = .ok (.imul, 1) := by decide +kernel
theorem dX6_install_286 : decode cX6_install 286 = .ok (.iload 7, 2) := by decide +kernel
theorem dX6_install_288 : decode cX6_install 288 = .ok (.iadd, 1) := by decide +kernel
theorem dX6_install_289 : decode cX6_install 289 = .ok (.invokevirtual 79, 3) := by decide +kernel
theorem dX6_install_292 : decode cX6_install 292 = .ok (.iinc 7 1, 3) := by decide +kernel
theorem dX6_install_295 : decode cX6_install 295 = .ok (.goto (-22), 3) := by decide +kernel
theorem dX6_install_298 : decode cX6_install 298 = .ok (.aload_n 0, 1) := by decide +kernel
theorem dX6_install_299 : decode cX6_install 299 = .ok (.getfield 124, 3) := by decide +kernel
theorem dX6_install_302 : decode cX6_install 302 = .ok (.istore 7, 2) := by decide +kernel
theorem dX6_install_304 : decode cX6_install 304 = .ok (.iconst 0, 1) := by decide +kernel
theorem dX6_install_305 : decode cX6_install 305 = .ok (.istore 8, 2) := by decide +kernel
theorem dX6_install_307 : decode cX6_install 307 = .ok (.iload 8, 2) := by decide +kernel
theorem dX6_install_309 : decode cX6_install 309 = .ok (.iload 7, 2) := by decide +kernel
theorem dX6_install_311 : decode cX6_install 311 = .ok (.if_icmp .ge 28, 3) := by decide +kernel
theorem dX6_install_314 : decode cX6_install 314 = .ok (.aload_n 0, 1) := by decide +kernel
theorem dX6_install_315 : decode cX6_install 315 = .ok (.iload 5, 2) := by decide +kernel
theorem dX6_install_317 : decode cX6_install 317 = .ok (.invokestatic 61, 3) := by decide +kernel
theorem dX6_install_320 : decode cX6_install 320 = .ok (.iload 8, 2) := by decide +kernel
theorem dX6_install_322 : decode cX6_install 322 = .ok (.iadd, 1) := by decide +kernel
theorem dX6_install_323 : decode cX6_install 323 = .ok (.aload_n 0, 1) := by decide +kernel
theorem dX6_install_324 : decode cX6_install 324 = .ok (.getfield 30, 3) := by decide +kernel
theorem dX6_install_327 : decode cX6_install 327 = .ok (.iload 8, 2) := by decide +kernel
theorem dX6_install_329 : decode cX6_install 329 = .ok (.iaload, 1) := by decide +kernel
theorem dX6_install_330 : decode cX6_install 330 = .ok (.invokevirtual 83, 3) := by decide +kernel
theorem dX6_install_333 : decode cX6_install 333 = .ok (.iinc 8 1, 3) := by decide +kernel
theorem dX6_install_336 : decode cX6_install 336 = .ok (.goto (-29), 3) := by decide +kernel
theorem dX6_install_339 : decode cX6_install 339 = .ok (.aload_n 0, 1) := by decide +kernel
theorem dX6_install_340 : decode cX6_install 340 = .ok (.iload 5, 2) := by decide +kernel
theorem dX6_install_342 : decode cX6_install 342 = .ok (.iload 7, 2) := by decide +kernel
theorem dX6_install_344 : decode cX6_install 344 = .ok (.iload 6, 2) := by decide +kernel
theorem dX6_install_346 : decode cX6_install 346 = .ok (.iload 4, 2) := by decide +kernel
theorem dX6_install_348 : decode cX6_install 348 = .ok (.invokevirtual 87, 3) := by decide +kernel
theorem dX6_install_351 : decode cX6_install 351 = .ok (.aload_n 0, 1) := by decide +kernel
theorem dX6_install_352 : decode cX6_install 352 = .ok (.iload 5, 2) := by decide +kernel
theorem dX6_install_354 : decode cX6_install 354 = .ok (.invokestatic 58, 3) := by decide +kernel
theorem dX6_install_357 : decode cX6_install 357 = .ok (.bipush 6, 2) := by decide +kernel
theorem dX6_install_359 : decode cX6_install 359 = .ok (.iadd, 1) := by decide +kernel
theorem dX6_install_360 : decode cX6_install 360 = .ok (.bipush 15, 2) := by decide +kernel
theorem dX6_install_362 : decode cX6_install 362 = .ok (.invokevirtual 83, 3) := by decide +kernel
theorem dX6_install_365 : decode cX6_install 365 = .ok (.aload_n 0, 1) := by decide +kernel
theorem dX6_install_366 : decode cX6_install 366 = .ok (.iload 5, 2) := by decide +kernel
theorem dX6_install_368 : decode cX6_install 368 = .ok (.invokestatic 58, 3) := by decide +kernel
theorem dX6_install_371 : decode cX6_install 371 = .ok (.bipush 8, 2) := by decide +kernel
theorem dX6_install_373 : decode cX6_install 373 = .ok (.iadd, 1) := by decide +kernel
theorem dX6_install_374 : decode cX6_install 374 = .ok (.iconst 0, 1) := by decide +kernel
theorem dX6_install_375 : decode cX6_install 375 = .ok (.invokevirtual 83, 3) := by decide +kernel
theorem dX6_install_378 : decode cX6_install 378 = .ok (.aload_n 0, 1) := by decide +kernel
theorem dX6_install_379 : decode cX6_install 379 = .ok (.bipush 20, 2) := by decide +kernel
theorem dX6_install_381 : decode cX6_install 381 = .ok (.invokevirtual 79, 3) := by decide +kernel
theorem dX6_install_384 : decode cX6_install 384 = .ok (.aload_n 0, 1) := by decide +kernel
theorem dX6_install_385 : decode cX6_install 385 = .ok (.getfield 19, 3) := by decide +kernel
theorem dX6_install_388 : decode cX6_install 388 = .ok (.ifCond .eq 7, 3) := by decide +kernel
theorem dX6_install_391 : decode cX6_install 391 = .ok (.iconst 1, 1) := by decide +kernel
theorem dX6_install_392 : decode cX6_install 392 = .ok (.goto 5, 3) := by decide +kernel
theorem dX6_install_395 : decode cX6_install 395 = .ok (.bipush (-2), 2) := by decide +kernel
theorem dX6_install_397 : decode cX6_install 397 = .ok (.ireturn, 1) := by decide +kernel
set_option maxRecDepth 20000 in
theorem ggX6_best_X6_isGood : GoodIn wsX6_best wsX6_isGood := goodIn_r _ [6, 1, 7, 8, 5, 9, 10, 11, 12, 13, 14, 15, 16, 17, 18, 19, 20, 21, 22, 23, 24, 25, 26, 27, 28, 29, 30, 31, 40, 41, 42, 43, 44, 45, 46, 47, 48, 49, 50, 51, 52] (by decide +kernel) (by decide +kernel)
set_option maxRecDepth 20000 in
theorem gX6_best_X6_isGood : GoodIn wsX6_best (wsV RX6 134 RX6 yX6_isGood wsX6_isGood) := goodIn_app (goodIn_of _ (by decide +kernel)) ggX6_best_X6_isGood
set_option maxRecDepth 20000 in
theorem ggX6_best_X6_isConfirmed : GoodIn wsX6_best wsX6_isConfirmed := goodIn_r _ [35, 1, 7, 8, 5, 9, 40, 41, 42, 43, 44, 45, 46, 47, 48, 49, 50, 51, 52] (by decide +kernel) (by decide +kernel)
set_option maxRecDepth 20000 in
theorem gX6_best_X6_isConfirmed : GoodIn wsX6_best (wsV RX6 138 RX6 yX6_isConfirmed wsX6_isConfirmed) := goodIn_app (goodIn_of _ (by decide +kernel)) ggX6_best_X6_isConfirmed
set_option maxRecDepth 20000 in
theorem ggX6_best_X6_headerAt : GoodIn wsX6_best wsX6_headerAt := goodIn_r _ [9] (by decide +kernel) (by decide +kernel)
set_option maxRecDepth 20000 in
theorem gX6_best_X6_headerAt : GoodIn wsX6_best (va_wsS RX6 58 yX6_headerAt wsX6_headerAt) := goodIn_app (goodIn_of _ (by decide +kernel)) ggX6_best_X6_headerAt
set_option maxRecDepth 20000 in
theorem ggX6_best_X6_sequenceOf : GoodIn wsX6_best wsX6_sequenceOf := goodIn_r _ [39, 1, 7, 8, 5, 9, 40, 41, 42, 43, 44, 45, 46, 47, 48, 49, 50, 51, 52] (by decide +kernel) (by decide +kernel)
set_option maxRecDepth 20000 in
theorem gX6_best_X6_sequenceOf : GoodIn wsX6_best (wsV RX6 112 RX6 yX6_sequenceOf wsX6_sequenceOf) := goodIn_app (goodIn_of _ (by decide +kernel)) ggX6_best_X6_sequenceOf
theorem dX6_best_0 : decode cX6_best 0 = .ok (.bipush (-7), 2) := by decide +kernel
theorem dX6_best_2 : decode cX6_best 2 = .ok (.istore_n 2, 1) := by decide +kernel
theorem dX6_best_3 : decode cX6_best 3 = .ok (.iconst 0, 1) := by decide +kernel
theorem dX6_best_4 : decode cX6_best 4 = .ok (.istore_n 3, 1) := by decide +kernel
theorem dX6_best_5 : decode cX6_best 5 = .ok (.iload_n 3, 1) := by decide +kernel
theorem dX6_best_6 : decode cX6_best 6 = .ok (.iconst 2, 1) := by decide +kernel
theorem dX6_best_7 : decode cX6_best 7 = .ok (.if_icmp .ge 82, 3) := by decide +kernel
theorem dX6_best_10 : decode cX6_best 10 = .ok (.aload_n 0, 1) := by decide +kernel
theorem dX6_best_11 : decode cX6_best 11 = .ok (.iload_n 3, 1) := by decide +kernel
theorem dX6_best_12 : decode cX6_best 12 = .ok (.invokevirtual 134, 3) := by decide +kernel
theorem dX6_best_15 : decode cX6_best 15 = .ok (.ifCond .eq 35, 3) := by decide +kernel
theorem dX6_best_18 : decode cX6_best 18 = .ok (.aload_n 0, 1) := by decide +kernel
theorem dX6_best_19 : decode cX6_best 19 = .ok (.iload_n 3, 1) := by decide +kernel
theorem dX6_best_20 : decode cX6_best 20 = .ok (.invokevirtual 138, 3) := by decide +kernel
theorem dX6_best_23 : decode cX6_best 23 = .ok (.iload_n 1, 1) := by decide +kernel
theorem dX6_best_24 : decode cX6_best 24 = .ok (.if_icmp .ne 26, 3) := by decide +kernel
theorem dX6_best_27 : decode cX6_best 27 = .ok (.iload_n 1, 1) := by decide +kernel
theorem dX6_best_28 : decode cX6_best 28 = .ok (.ifCond .ne 18, 3) := by decide +kernel
theorem dX6_best_31 : decode cX6_best 31 = .ok (.aload_n 0, 1) := by decide +kernel
theorem dX6_best_32 : decode cX6_best 32 = .ok (.getfield 7, 3) := by decide +kernel
theorem dX6_best_35 : decode cX6_best 35 = .ok (.iload_n 3, 1) := by decide +kernel
theorem dX6_best_36 : decode cX6_best 36 = .ok (.invokestatic 58, 3) := by decide +kernel
theorem dX6_best_39 : decode cX6_best 39 = .ok (.bipush 6, 2) := by decide +kernel
theorem dX6_best_41 : decode cX6_best 41 = .ok (.iadd, 1) := by decide +kernel
theorem dX6_best_42 : decode cX6_best 42 = .ok (.iaload, 1) := by decide +kernel
theorem dX6_best_43 : decode cX6_best 43 = .ok (.ifCond .eq 7, 3) := by decide +kernel
theorem dX6_best_46 : decode cX6_best 46 = .ok (.iconst 1, 1) := by decide +kernel
theorem dX6_best_47 : decode cX6_best 47 = .ok (.goto 4, 3) := by decide +kernel
theorem dX6_best_50 : decode cX6_best 50 = .ok (.iconst 0, 1) := by decide +kernel
theorem dX6_best_51 : decode cX6_best 51 = .ok (.istore 4, 2) := by decide +kernel
theorem dX6_best_53 : decode cX6_best 53 = .ok (.iload 4, 2) := by decide +kernel
theorem dX6_best_55 : decode cX6_best 55 = .ok (.ifCond .eq 26, 3) := by decide +kernel
theorem dX6_best_58 : decode cX6_best 58 = .ok (.iload_n 2, 1) := by decide +kernel
theorem dX6_best_59 : decode cX6_best 59 = .ok (.bipush (-7), 2) := by decide +kernel
theorem dX6_best_61 : decode cX6_best 61 = .ok (.if_icmp .eq 16, 3) := by decide +kernel
theorem dX6_best_64 : decode cX6_best 64 = .ok (.aload_n 0, 1) := by decide +kernel
theorem dX6_best_65 : decode cX6_best 65 = .ok (.iload_n 3, 1) := by decide +kernel
theorem dX6_best_66 : decode cX6_best 66 = .ok (.invokevirtual 112, 3) := by decide +kernel
theorem dX6_best_69 : decode cX6_best 69 = .ok (.aload_n 0, 1) := by decide +kernel
theorem dX6_best_70 : decode cX6_best 70 = .ok (.iload_n 2, 1) := by decide +kernel
theorem dX6_best_71 : decode cX6_best 71 = .ok (.invokevirtual 112, 3) := by decide +kernel
theorem dX6_best_74 : decode cX6_best 74 = .ok (.if_icmp .le 7, 3) := by decide +kernel
theorem dX6_best_77 : decode cX6_best 77 = .ok (.iload_n 3, 1) := by decide +kernel
theorem dX6_best_78 : decode cX6_best 78 = .ok (.goto 4, 3) := by decide +kernel
theorem dX6_best_81 : decode cX6_best 81 = .ok (.iload_n 2, 1) := by decide +kernel
theorem dX6_best_82 : decode cX6_best 82 = .ok (.istore_n 2, 1) := by decide +kernel
theorem dX6_best_83 : decode cX6_best 83 = .ok (.iinc 3 1, 3) := by decide +kernel
theorem dX6_best_86 : decode cX6_best 86 = .ok (.goto (-81), 3) := by decide +kernel
theorem dX6_best_89 : decode cX6_best 89 = .ok (.iload_n 2, 1) := by decide +kernel
theorem dX6_best_90 : decode cX6_best 90 = .ok (.ireturn, 1) := by decide +kernel
set_option maxRecDepth 20000 in
theorem ggX6_boot_X6_best : GoodIn wsX6_boot wsX6_best := goodIn_r _ [9, 4, 10, 11, 12, 8, 13, 14, 15, 16, 17, 18, 19, 20, 21, 22, 23, 24, 25, 26, 27, 28, 29, 30, 31, 32, 33, 34, 35, 36, 37, 38, 39, 40, 41, 42, 43, 44, 45, 46, 61, 62, 63, 64, 65, 66, 67, 68, 69, 70, 71, 72, 73] (by decide +kernel) (by decide +kernel)
set_option maxRecDepth 20000 in
theorem gX6_boot_X6_best : GoodIn wsX6_boot (wsV RX6 141 RX6 yX6_best wsX6_best) := goodIn_app (goodIn_of _ (by decide +kernel)) ggX6_boot_X6_best
set_option maxRecDepth 20000 in
theorem ggX6_boot_X6_headerAt : GoodIn wsX6_boot wsX6_headerAt := goodIn_r _ [16] (by decide +kernel) (by decide +kernel)
set_option maxRecDepth 20000 in
theorem gX6_boot_X6_headerAt : GoodIn wsX6_boot (va_wsS RX6 58 yX6_headerAt wsX6_headerAt) := goodIn_app (goodIn_of _ (by decide +kernel)) ggX6_boot_X6_headerAt
set_option maxRecDepth 20000 in
theorem ggX6_boot_X6_lessOne : GoodIn wsX6_boot wsX6_lessOne := goodIn_r _ [49] (by decide +kernel) (by decide +kernel)
set_option maxRecDepth 20000 in
theorem gX6_boot_X6_lessOne : GoodIn wsX6_boot (va_wsS RX6 145 yX6_lessOne wsX6_lessOne) := goodIn_app (goodIn_of _ (by decide +kernel)) ggX6_boot_X6_lessOne
set_option maxRecDepth 20000 in
theorem ggX6_boot_X6_program : GoodIn wsX6_boot wsX6_program := goodIn_r _ [53, 2, 4, 54, 55, 56, 57, 8, 58, 59, 60, 3, 61, 62, 63, 64, 65, 66, 67, 68, 69, 70, 71, 72, 73] (by decide +kernel) (by decide +kernel)
set_option maxRecDepth 20000 in
theorem gX6_boot_X6_program : GoodIn wsX6_boot (wsV RX6 83 RX6 yX6_program wsX6_program) := goodIn_app (goodIn_of _ (by decide +kernel)) ggX6_boot_X6_program
theorem dX6_boot_0 : decode cX6_boot 0 = .ok (.aload_n 0, 1) := by decide +kernel
theorem dX6_boot_1 : decode cX6_boot 1 = .ok (.iconst 0, 1) := by decide +kernel
theorem dX6_boot_2 : decode cX6_boot 2 = .ok (.putfield 36, 3) := by decide +kernel
theorem dX6_boot_5 : decode cX6_boot 5 = .ok (.aload_n 0, 1) := by decide +kernel
theorem dX6_boot_6 : decode cX6_boot 6 = .ok (.iconst 1, 1) := by decide +kernel
theorem dX6_boot_7 : decode cX6_boot 7 = .ok (.putfield 19, 3) := by decide +kernel
theorem dX6_boot_10 : decode cX6_boot 10 = .ok (.aload_n 0, 1) := by decide +kernel
theorem dX6_boot_11 : decode cX6_boot 11 = .ok (.bipush (-7), 2) := by decide +kernel
theorem dX6_boot_13 : decode cX6_boot 13 = .ok (.putfield 23, 3) := by decide +kernel
theorem dX6_boot_16 : decode cX6_boot 16 = .ok (.aload_n 0, 1) := by decide +kernel
theorem dX6_boot_17 : decode cX6_boot 17 = .ok (.iconst 0, 1) := by decide +kernel
theorem dX6_boot_18 : decode cX6_boot 18 = .ok (.invokevirtual 141, 3) := by decide +kernel
theorem dX6_boot_21 : decode cX6_boot 21 = .ok (.istore_n 1, 1) := by decide +kernel
theorem dX6_boot_22 : decode cX6_boot 22 = .ok (.iload_n 1, 1) := by decide +kernel
theorem dX6_boot_23 : decode cX6_boot 23 = .ok (.bipush (-7), 2) := by decide +kernel
theorem dX6_boot_25 : decode cX6_boot 25 = .ok (.if_icmp .eq 56, 3) := by decide +kernel
theorem dX6_boot_28 : decode cX6_boot 28 = .ok (.iload_n 1, 1) := by decide +kernel
theorem dX6_boot_29 : decode cX6_boot 29 = .ok (.invokestatic 58, 3) := by decide +kernel
theorem dX6_boot_32 : decode cX6_boot 32 = .ok (.bipush 6, 2) := by decide +kernel
theorem dX6_boot_34 : decode cX6_boot 34 = .ok (.iadd, 1) := by decide +kernel
theorem dX6_boot_35 : decode cX6_boot 35 = .ok (.istore_n 2, 1) := by decide +kernel
theorem dX6_boot_36 : decode cX6_boot 36 = .ok (.aload_n 0, 1) := by decide +kernel
theorem dX6_boot_37 : decode cX6_boot 37 = .ok (.iload_n 2, 1) := by decide +kernel
theorem dX6_boot_38 : decode cX6_boot 38 = .ok (.aload_n 0, 1) := by decide +kernel
theorem dX6_boot_39 : decode cX6_boot 39 = .ok (.getfield 7, 3) := by decide +kernel
theorem dX6_boot_42 : decode cX6_boot 42 = .ok (.iload_n 2, 1) := by decide +kernel
theorem dX6_boot_43 : decode cX6_boot 43 = .ok (.iaload, 1) := by decide +kernel
theorem dX6_boot_44 : decode cX6_boot 44 = .ok (.invokestatic 145, 3) := by decide +kernel
theorem dX6_boot_47 : decode cX6_boot 47 = .ok (.invokevirtual 83, 3) := by decide +kernel
theorem dX6_boot_50 : decode cX6_boot 50 = .ok (.aload_n 0, 1) := by decide +kernel
theorem dX6_boot_51 : decode cX6_boot 51 = .ok (.aload_n 0, 1) := by decide +kernel
theorem dX6_boot_52 : decode cX6_boot 52 = .ok (.getfield 19, 3) := by decide +kernel
theorem dX6_boot_55 : decode cX6_boot 55 = .ok (.ifCond .eq 7, 3) := by decide +kernel
theorem dX6_boot_58 : decode cX6_boot 58 = .ok (.iload_n 1, 1) := by decide +kernel
theorem dX6_boot_59 : decode cX6_boot 59 = .ok (.goto 5, 3) := by decide +kernel
theorem dX6_boot_62 : decode cX6_boot 62 = .ok (.bipush (-7), 2) := by decide +kernel
theorem dX6_boot_64 : decode cX6_boot 64 = .ok (.putfield 23, 3) := by decide +kernel
theorem dX6_boot_67 : decode cX6_boot 67 = .ok (.aload_n 0, 1) := by decide +kernel
theorem dX6_boot_68 : decode cX6_boot 68 = .ok (.getfield 19, 3) := by decide +kernel
theorem dX6_boot_71 : decode cX6_boot 71 = .ok (.ifCond .eq 7, 3) := by decide +kernel
theorem dX6_boot_74 : decode cX6_boot 74 = .ok (.iload_n 1, 1) := by decide +kernel
theorem dX6_boot_75 : decode cX6_boot 75 = .ok (.goto 5, 3) := by decide +kernel
theorem dX6_boot_78 : decode cX6_boot 78 = .ok (.bipush (-2), 2) := by decide +kernel
theorem dX6_boot_80 : decode cX6_boot 80 = .ok (.ireturn, 1) := by decide +kernel
theorem dX6_boot_81 : decode cX6_boot 81 = .ok (.aload_n 0, 1) := by decide +kernel
theorem dX6_boot_82 : decode cX6_boot 82 = .ok (.aload_n 0, 1) := by decide +kernel
theorem dX6_boot_83 : decode cX6_boot 83 = .ok (.iconst 1, 1) := by decide +kernel
theorem dX6_boot_84 : decode cX6_boot 84 = .ok (.invokevirtual 141, 3) := by decide +kernel
theorem dX6_boot_87 : decode cX6_boot 87 = .ok (.putfield 23, 3) := by decide +kernel
theorem dX6_boot_90 : decode cX6_boot 90 = .ok (.aload_n 0, 1) := by decide +kernel
theorem dX6_boot_91 : decode cX6_boot 91 = .ok (.getfield 23, 3) := by decide +kernel
theorem dX6_boot_94 : decode cX6_boot 94 = .ok (.ireturn, 1) := by decide +kernel
set_option maxRecDepth 20000 in
theorem ggX6_confirm_X6_isConfirmed : GoodIn wsX6_confirm wsX6_isConfirmed := goodIn_r _ [9, 4, 10, 11, 8, 12, 38, 39, 40, 41, 42, 43, 44, 45, 46, 47, 48, 49, 50] (by decide +kernel) (by decide +kernel)
set_option maxRecDepth 20000 in
theorem gX6_confirm_X6_isConfirmed : GoodIn wsX6_confirm (wsV RX6 138 RX6 yX6_isConfirmed wsX6_isConfirmed) := goodIn_app (goodIn_of _ (by decide +kernel)) ggX6_confirm_X6_isConfirmed
set_option maxRecDepth 20000 in
theorem ggX6_confirm_X6_sequenceOf : GoodIn wsX6_confirm wsX6_sequenceOf := goodIn_r _ [16, 4, 10, 11, 8, 12, 38, 39, 40, 41, 42, 43, 44, 45, 46, 47, 48, 49, 50] (by decide +kernel) (by decide +kernel)
set_option maxRecDepth 20000 in
theorem gX6_confirm_X6_sequenceOf : GoodIn wsX6_confirm (wsV RX6 112 RX6 yX6_sequenceOf wsX6_sequenceOf) := goodIn_app (goodIn_of _ (by decide +kernel)) ggX6_confirm_X6_sequenceOf
set_option maxRecDepth 20000 in
theorem ggX6_confirm_X6_headerAt : GoodIn wsX6_confirm wsX6_headerAt := goodIn_r _ [12] (by decide +kernel) (by decide +kernel)
set_option maxRecDepth 20000 in
theorem gX6_confirm_X6_headerAt : GoodIn wsX6_confirm (va_wsS RX6 58 yX6_headerAt wsX6_headerAt) := goodIn_app (goodIn_of _ (by decide +kernel)) ggX6_confirm_X6_headerAt
set_option maxRecDepth 20000 in
theorem ggX6_confirm_X6_program : GoodIn wsX6_confirm wsX6_program := goodIn_r _ [20, 2, 4, 21, 22, 23, 24, 8, 25, 26, 27, 3, 38, 39, 40, 41, 42, 43, 44, 45, 46, 47, 48, 49, 50] (by decide +kernel) (by decide +kernel)
set_option maxRecDepth 20000 in
theorem gX6_confirm_X6_program : GoodIn wsX6_confirm (wsV RX6 83 RX6 yX6_program wsX6_program) := goodIn_app (goodIn_of _ (by decide +kernel)) ggX6_confirm_X6_program
set_option maxRecDepth 20000 in
theorem ggX6_confirm_X6_counterValue : GoodIn wsX6_confirm wsX6_counterValue := goodIn_r _ [31, 4, 32, 33, 8, 34, 38, 39, 40, 41, 42, 43, 44, 45, 46, 47, 48, 49, 50] (by decide +kernel) (by decide +kernel)
set_option maxRecDepth 20000 in
theorem gX6_confirm_X6_counterValue : GoodIn wsX6_confirm (wsV RX6 70 RX6 yX6_counterValue wsX6_counterValue) := goodIn_app (goodIn_of _ (by decide +kernel)) ggX6_confirm_X6_counterValue
set_option maxRecDepth 20000 in
theorem ggX6_confirm_X6_lessOne : GoodIn wsX6_confirm wsX6_lessOne := goodIn_r _ [37] (by decide +kernel) (by decide +kernel)
set_option maxRecDepth 20000 in
theorem gX6_confirm_X6_lessOne : GoodIn wsX6_confirm (va_wsS RX6 145 yX6_lessOne wsX6_lessOne) := goodIn_app (goodIn_of _ (by decide +kernel)) ggX6_confirm_X6_lessOne
theorem dX6_confirm_0 : decode cX6_confirm 0 = .ok (.aload_n 0, 1) := by decide +kernel
theorem dX6_confirm_1 : decode cX6_confirm 1 = .ok (.iconst 0, 1) := by decide +kernel
theorem dX6_confirm_2 : decode cX6_confirm 2 = .ok (.putfield 36, 3) := by decide +kernel
theorem dX6_confirm_5 : decode cX6_confirm 5 = .ok (.aload_n 0, 1) := by decide +kernel
theorem dX6_confirm_6 : decode cX6_confirm 6 = .ok (.getfield 19, 3) := by decide +kernel
theorem dX6_confirm_9 : decode cX6_confirm 9 = .ok (.ifCond .ne 6, 3) := by decide +kernel
theorem dX6_confirm_12 : decode cX6_confirm 12 = .ok (.bipush (-2), 2) := by decide +kernel
theorem dX6_confirm_14 : decode cX6_confirm 14 = .ok (.ireturn, 1) := by decide +kernel
theorem dX6_confirm_15 : decode cX6_confirm 15 = .ok (.aload_n 0, 1) := by decide +kernel
theorem dX6_confirm_16 : decode cX6_confirm 16 = .ok (.getfield 23, 3) := by decide +kernel
theorem dX6_confirm_19 : decode cX6_confirm 19 = .ok (.bipush (-7), 2) := by decide +kernel
