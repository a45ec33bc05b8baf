theorem dX5_digest_0 : decode cX5_digest 0 = .ok (.iload_n 0, 1) := by decide +kernel
theorem dX5_digest_1 : decode cX5_digest 1 = .ok (.istore_n 3, 1) := by decide +kernel
theorem dX5_digest_2 : decode cX5_digest 2 = .ok (.iconst 0, 1) := by decide +kernel
theorem dX5_digest_3 : decode cX5_digest 3 = .ok (.istore 4, 2) := by decide +kernel
theorem dX5_digest_5 : decode cX5_digest 5 = .ok (.iload 4, 2) := by decide +kernel
theorem dX5_digest_7 : decode cX5_digest 7 = .ok (.iload_n 2, 1) := by decide +kernel
theorem dX5_digest_8 : decode cX5_digest 8 = .ok (.if_icmp .ge 25, 3) := by decide +kernel
theorem dX5_digest_11 : decode cX5_digest 11 = .ok (.iload 4, 2) := by decide +kernel
theorem dX5_digest_13 : decode cX5_digest 13 = .ok (.aload_n 1, 1) := by decide +kernel
theorem dX5_digest_14 : decode cX5_digest 14 = .ok (.arraylength, 1) := by decide +kernel
theorem dX5_digest_15 : decode cX5_digest 15 = .ok (.if_icmp .ge 18, 3) := by decide +kernel
theorem dX5_digest_18 : decode cX5_digest 18 = .ok (.iload_n 3, 1) := by decide +kernel
theorem dX5_digest_19 : decode cX5_digest 19 = .ok (.aload_n 1, 1) := by decide +kernel
theorem dX5_digest_20 : decode cX5_digest 20 = .ok (.iload 4, 2) := by decide +kernel
theorem dX5_digest_22 : decode cX5_digest 22 = .ok (.iaload, 1) := by decide +kernel
theorem dX5_digest_23 : decode cX5_digest 23 = .ok (.invokestatic 290, 3) := by decide +kernel
theorem dX5_digest_26 : decode cX5_digest 26 = .ok (.istore_n 3, 1) := by decide +kernel
theorem dX5_digest_27 : decode cX5_digest 27 = .ok (.iinc 4 1, 3) := by decide +kernel
theorem dX5_digest_30 : decode cX5_digest 30 = .ok (.goto (-25), 3) := by decide +kernel
theorem dX5_digest_33 : decode cX5_digest 33 = .ok (.iload_n 3, 1) := by decide +kernel
theorem dX5_digest_34 : decode cX5_digest 34 = .ok (.ireturn, 1) := by decide +kernel
theorem dX5_digestByte_0 : decode cX5_digestByte 0 = .ok (.iload_n 0, 1) := by decide +kernel
theorem dX5_digestByte_1 : decode cX5_digestByte 1 = .ok (.iload_n 1, 1) := by decide +kernel
theorem dX5_digestByte_2 : decode cX5_digestByte 2 = .ok (.ixor, 1) := by decide +kernel
theorem dX5_digestByte_3 : decode cX5_digestByte 3 = .ok (.ldc_w 293, 3) := by decide +kernel
theorem dX5_digestByte_6 : decode cX5_digestByte 6 = .ok (.imul, 1) := by decide +kernel
theorem dX5_digestByte_7 : decode cX5_digestByte 7 = .ok (.istore_n 2, 1) := by decide +kernel
theorem dX5_digestByte_8 : decode cX5_digestByte 8 = .ok (.iload_n 2, 1) := by decide +kernel
theorem dX5_digestByte_9 : decode cX5_digestByte 9 = .ok (.bipush 7, 2) := by decide +kernel
theorem dX5_digestByte_11 : decode cX5_digestByte 11 = .ok (.ishl, 1) := by decide +kernel
theorem dX5_digestByte_12 : decode cX5_digestByte 12 = .ok (.iload_n 2, 1) := by decide +kernel
theorem dX5_digestByte_13 : decode cX5_digestByte 13 = .ok (.bipush 25, 2) := by decide +kernel
theorem dX5_digestByte_15 : decode cX5_digestByte 15 = .ok (.iushr, 1) := by decide +kernel
theorem dX5_digestByte_16 : decode cX5_digestByte 16 = .ok (.ior, 1) := by decide +kernel
theorem dX5_digestByte_17 : decode cX5_digestByte 17 = .ok (.bipush 97, 2) := by decide +kernel
theorem dX5_digestByte_19 : decode cX5_digestByte 19 = .ok (.iadd, 1) := by decide +kernel
theorem dX5_digestByte_20 : decode cX5_digestByte 20 = .ok (.ireturn, 1) := by decide +kernel
theorem dX5_byteOfWord_0 : decode cX5_byteOfWord 0 = .ok (.iload_n 0, 1) := by decide +kernel
theorem dX5_byteOfWord_1 : decode cX5_byteOfWord 1 = .ok (.bipush 24, 2) := by decide +kernel
theorem dX5_byteOfWord_3 : decode cX5_byteOfWord 3 = .ok (.bipush 8, 2) := by decide +kernel
theorem dX5_byteOfWord_5 : decode cX5_byteOfWord 5 = .ok (.iload_n 1, 1) := by decide +kernel
theorem dX5_byteOfWord_6 : decode cX5_byteOfWord 6 = .ok (.imul, 1) := by decide +kernel
theorem dX5_byteOfWord_7 : decode cX5_byteOfWord 7 = .ok (.isub, 1) := by decide +kernel
theorem dX5_byteOfWord_8 : decode cX5_byteOfWord 8 = .ok (.iushr, 1) := by decide +kernel
theorem dX5_byteOfWord_9 : decode cX5_byteOfWord 9 = .ok (.sipush 255, 3) := by decide +kernel
theorem dX5_byteOfWord_12 : decode cX5_byteOfWord 12 = .ok (.iand, 1) := by decide +kernel
theorem dX5_byteOfWord_13 : decode cX5_byteOfWord 13 = .ok (.ireturn, 1) := by decide +kernel
set_option maxRecDepth 20000 in
theorem ggX5_rowOfWords_X5_byteOfWord : GoodIn wsX5_rowOfWords wsX5_byteOfWord := goodIn_r _ [5] (by decide +kernel) (by decide +kernel)
set_option maxRecDepth 20000 in
theorem gX5_rowOfWords_X5_byteOfWord : GoodIn wsX5_rowOfWords (va_wsS RX5 294 yX5_byteOfWord wsX5_byteOfWord) := goodIn_app (goodIn_of _ (by decide +kernel)) ggX5_rowOfWords_X5_byteOfWord
theorem dX5_rowOfWords_0 : decode cX5_rowOfWords 0 = .ok (.bipush 8, 2) := by decide +kernel
theorem dX5_rowOfWords_2 : decode cX5_rowOfWords 2 = .ok (.newarray .int, 2) := by decide +kernel
theorem dX5_rowOfWords_4 : decode cX5_rowOfWords 4 = .ok (.astore_n 2, 1) := by decide +kernel
theorem dX5_rowOfWords_5 : decode cX5_rowOfWords 5 = .ok (.iconst 0, 1) := by decide +kernel
theorem dX5_rowOfWords_6 : decode cX5_rowOfWords 6 = .ok (.istore_n 3, 1) := by decide +kernel
theorem dX5_rowOfWords_7 : decode cX5_rowOfWords 7 = .ok (.iload_n 3, 1) := by decide +kernel
theorem dX5_rowOfWords_8 : decode cX5_rowOfWords 8 = .ok (.iconst 4, 1) := by decide +kernel
theorem dX5_rowOfWords_9 : decode cX5_rowOfWords 9 = .ok (.if_icmp .ge 27, 3) := by decide +kernel
theorem dX5_rowOfWords_12 : decode cX5_rowOfWords 12 = .ok (.aload_n 2, 1) := by decide +kernel
theorem dX5_rowOfWords_13 : decode cX5_rowOfWords 13 = .ok (.iload_n 3, 1) := by decide +kernel
theorem dX5_rowOfWords_14 : decode cX5_rowOfWords 14 = .ok (.iload_n 0, 1) := by decide +kernel
theorem dX5_rowOfWords_15 : decode cX5_rowOfWords 15 = .ok (.iload_n 3, 1) := by decide +kernel
theorem dX5_rowOfWords_16 : decode cX5_rowOfWords 16 = .ok (.invokestatic 294, 3) := by decide +kernel
theorem dX5_rowOfWords_19 : decode cX5_rowOfWords 19 = .ok (.iastore, 1) := by decide +kernel
theorem dX5_rowOfWords_20 : decode cX5_rowOfWords 20 = .ok (.aload_n 2, 1) := by decide +kernel
theorem dX5_rowOfWords_21 : decode cX5_rowOfWords 21 = .ok (.iload_n 3, 1) := by decide +kernel
theorem dX5_rowOfWords_22 : decode cX5_rowOfWords 22 = .ok (.iconst 4, 1) := by decide +kernel
theorem dX5_rowOfWords_23 : decode cX5_rowOfWords 23 = .ok (.iadd, 1) := by decide +kernel
theorem dX5_rowOfWords_24 : decode cX5_rowOfWords 24 = .ok (.iload_n 1, 1) := by decide +kernel
theorem dX5_rowOfWords_25 : decode cX5_rowOfWords 25 = .ok (.iload_n 3, 1) := by decide +kernel
theorem dX5_rowOfWords_26 : decode cX5_rowOfWords 26 = .ok (.invokestatic 294, 3) := by decide +kernel
theorem dX5_rowOfWords_29 : decode cX5_rowOfWords 29 = .ok (.iastore, 1) := by decide +kernel
theorem dX5_rowOfWords_30 : decode cX5_rowOfWords 30 = .ok (.iinc 3 1, 3) := by decide +kernel
theorem dX5_rowOfWords_33 : decode cX5_rowOfWords 33 = .ok (.goto (-26), 3) := by decide +kernel
theorem dX5_rowOfWords_36 : decode cX5_rowOfWords 36 = .ok (.aload_n 2, 1) := by decide +kernel
theorem dX5_rowOfWords_37 : decode cX5_rowOfWords 37 = .ok (.areturn, 1) := by decide +kernel
theorem dX6_init_0 : decode cX6_init 0 = .ok (.aload_n 0, 1) := by decide +kernel
theorem dX6_init_1 : decode cX6_init 1 = .ok (.invokespecial 1, 3) := by decide +kernel
theorem dX6_init_4 : decode cX6_init 4 = .ok (.aload_n 0, 1) := by decide +kernel
theorem dX6_init_5 : decode cX6_init 5 = .ok (.sipush 768, 3) := by decide +kernel
theorem dX6_init_8 : decode cX6_init 8 = .ok (.newarray .int, 2) := by decide +kernel
theorem dX6_init_10 : decode cX6_init 10 = .ok (.putfield 7, 3) := by decide +kernel
theorem dX6_init_13 : decode cX6_init 13 = .ok (.aload_n 0, 1) := by decide +kernel
theorem dX6_init_14 : decode cX6_init 14 = .ok (.bipush 8, 2) := by decide +kernel
theorem dX6_init_16 : decode cX6_init 16 = .ok (.newarray .int, 2) := by decide +kernel
theorem dX6_init_18 : decode cX6_init 18 = .ok (.putfield 13, 3) := by decide +kernel
theorem dX6_init_21 : decode cX6_init 21 = .ok (.aload_n 0, 1) := by decide +kernel
theorem dX6_init_22 : decode cX6_init 22 = .ok (.sipush 192, 3) := by decide +kernel
theorem dX6_init_25 : decode cX6_init 25 = .ok (.newarray .int, 2) := by decide +kernel
theorem dX6_init_27 : decode cX6_init 27 = .ok (.putfield 16, 3) := by decide +kernel
theorem dX6_init_30 : decode cX6_init 30 = .ok (.aload_n 0, 1) := by decide +kernel
theorem dX6_init_31 : decode cX6_init 31 = .ok (.iconst 1, 1) := by decide +kernel
theorem dX6_init_32 : decode cX6_init 32 = .ok (.putfield 19, 3) := by decide +kernel
theorem dX6_init_35 : decode cX6_init 35 = .ok (.aload_n 0, 1) := by decide +kernel
theorem dX6_init_36 : decode cX6_init 36 = .ok (.bipush (-7), 2) := by decide +kernel
theorem dX6_init_38 : decode cX6_init 38 = .ok (.putfield 23, 3) := by decide +kernel
theorem dX6_init_41 : decode cX6_init 41 = .ok (.aload_n 0, 1) := by decide +kernel
theorem dX6_init_42 : decode cX6_init 42 = .ok (.iconst (-1), 1) := by decide +kernel
theorem dX6_init_43 : decode cX6_init 43 = .ok (.putfield 27, 3) := by decide +kernel
theorem dX6_init_46 : decode cX6_init 46 = .ok (.aload_n 0, 1) := by decide +kernel
theorem dX6_init_47 : decode cX6_init 47 = .ok (.sipush 192, 3) := by decide +kernel
theorem dX6_init_50 : decode cX6_init 50 = .ok (.newarray .int, 2) := by decide +kernel
theorem dX6_init_52 : decode cX6_init 52 = .ok (.putfield 30, 3) := by decide +kernel
theorem dX6_init_55 : decode cX6_init 55 = .ok (.iconst 0, 1) := by decide +kernel
theorem dX6_init_56 : decode cX6_init 56 = .ok (.istore 4, 2) := by decide +kernel
theorem dX6_init_58 : decode cX6_init 58 = .ok (.iload 4, 2) := by decide +kernel
theorem dX6_init_60 : decode cX6_init 60 = .ok (.iconst 4, 1) := by decide +kernel
theorem dX6_init_61 : decode cX6_init 61 = .ok (.if_icmp .ge 53, 3) := by decide +kernel
theorem dX6_init_64 : decode cX6_init 64 = .ok (.aload_n 0, 1) := by decide +kernel
theorem dX6_init_65 : decode cX6_init 65 = .ok (.getfield 13, 3) := by decide +kernel
theorem dX6_init_68 : decode cX6_init 68 = .ok (.iload 4, 2) := by decide +kernel
theorem dX6_init_70 : decode cX6_init 70 = .ok (.iload_n 1, 1) := by decide +kernel
theorem dX6_init_71 : decode cX6_init 71 = .ok (.bipush 24, 2) := by decide +kernel
theorem dX6_init_73 : decode cX6_init 73 = .ok (.bipush 8, 2) := by decide +kernel
theorem dX6_init_75 : decode cX6_init 75 = .ok (.iload 4, 2) := by decide +kernel
theorem dX6_init_77 : decode cX6_init 77 = .ok (.imul, 1) := by decide +kernel
theorem dX6_init_78 : decode cX6_init 78 = .ok (.isub, 1) := by decide +kernel
theorem dX6_init_79 : decode cX6_init 79 = .ok (.ishr, 1) := by decide +kernel
theorem dX6_init_80 : decode cX6_init 80 = .ok (.sipush 255, 3) := by decide +kernel
theorem dX6_init_83 : decode cX6_init 83 = .ok (.iand, 1) := by decide +kernel
theorem dX6_init_84 : decode cX6_init 84 = .ok (.iastore, 1) := by decide +kernel
theorem dX6_init_85 : decode cX6_init 85 = .ok (.aload_n 0, 1) := by decide +kernel
theorem dX6_init_86 : decode cX6_init 86 = .ok (.getfield 13, 3) := by decide +kernel
theorem dX6_init_89 : decode cX6_init 89 = .ok (.iconst 4, 1) := by decide +kernel
theorem dX6_init_90 : decode cX6_init 90 = .ok (.iload 4, 2) := by decide +kernel
theorem dX6_init_92 : decode cX6_init 92 = .ok (.iadd, 1) := by decide +kernel
theorem dX6_init_93 : decode cX6_init 93 = .ok (.iload_n 2, 1) := by decide +kernel
theorem dX6_init_94 : decode cX6_init 94 = .ok (.bipush 24, 2) := by decide +kernel
theorem dX6_init_96 : decode cX6_init 96 = .ok (.bipush 8, 2) := by decide +kernel
theorem dX6_init_98 : decode cX6_init 98 = .ok (.iload 4, 2) := by decide +kernel
theorem dX6_init_100 : decode cX6_init 100 = .ok (.imul, 1) := by decide +kernel
theorem dX6_init_101 : decode cX6_init 101 = .ok (.isub, 1) := by decide +kernel
theorem dX6_init_102 : decode cX6_init 102 = .ok (.ishr, 1) := by decide +kernel
theorem dX6_init_103 : decode cX6_init 103 = .ok (.sipush 255, 3) := by decide +kernel
theorem dX6_init_106 : decode cX6_init 106 = .ok (.iand, 1) := by decide +kernel
theorem dX6_init_107 : decode cX6_init 107 = .ok (.iastore, 1) := by decide +kernel
theorem dX6_init_108 : decode cX6_init 108 = .ok (.iinc 4 1, 3) := by decide +kernel
theorem dX6_init_111 : decode cX6_init 111 = .ok (.goto (-53), 3) := by decide +kernel
theorem dX6_init_114 : decode cX6_init 114 = .ok (.aload_n 0, 1) := by decide +kernel
theorem dX6_init_115 : decode cX6_init 115 = .ok (.iload_n 3, 1) := by decide +kernel
theorem dX6_init_116 : decode cX6_init 116 = .ok (.sipush 255, 3) := by decide +kernel
theorem dX6_init_119 : decode cX6_init 119 = .ok (.iand, 1) := by decide +kernel
theorem dX6_init_120 : decode cX6_init 120 = .ok (.putfield 33, 3) := by decide +kernel
theorem dX6_init_123 : decode cX6_init 123 = .ok (.iconst 0, 1) := by decide +kernel
theorem dX6_init_124 : decode cX6_init 124 = .ok (.istore 4, 2) := by decide +kernel
theorem dX6_init_126 : decode cX6_init 126 = .ok (.iload 4, 2) := by decide +kernel
theorem dX6_init_128 : decode cX6_init 128 = .ok (.sipush 768, 3) := by decide +kernel
theorem dX6_init_131 : decode cX6_init 131 = .ok (.if_icmp .ge 19, 3) := by decide +kernel
theorem dX6_init_134 : decode cX6_init 134 = .ok (.aload_n 0, 1) := by decide +kernel
theorem dX6_init_135 : decode cX6_init 135 = .ok (.getfield 7, 3) := by decide +kernel
theorem dX6_init_138 : decode cX6_init 138 = .ok (.iload 4, 2) := by decide +kernel
theorem dX6_init_140 : decode cX6_init 140 = .ok (.sipush 255, 3) := by decide +kernel
theorem dX6_init_143 : decode cX6_init 143 = .ok (.iastore, 1) := by decide +kernel
theorem dX6_init_144 : decode cX6_init 144 = .ok (.iinc 4 1, 3) := by decide +kernel
theorem dX6_init_147 : decode cX6_init 147 = .ok (.goto (-21), 3) := by decide +kernel
theorem dX6_init_150 : decode cX6_init 150 = .ok (.return_, 1) := by decide +kernel
theorem dX6_isWhole_0 : decode cX6_isWhole 0 = .ok (.aload_n 0, 1) := by decide +kernel
theorem dX6_isWhole_1 : decode cX6_isWhole 1 = .ok (.dup, 1) := by decide +kernel
theorem dX6_isWhole_2 : decode cX6_isWhole 2 = .ok (.getfield 39, 3) := by decide +kernel
theorem dX6_isWhole_5 : decode cX6_isWhole 5 = .ok (.iconst 1, 1) := by decide +kernel
theorem dX6_isWhole_6 : decode cX6_isWhole 6 = .ok (.iadd, 1) := by decide +kernel
theorem dX6_isWhole_7 : decode cX6_isWhole 7 = .ok (.putfield 39, 3) := by decide +kernel
theorem dX6_isWhole_10 : decode cX6_isWhole 10 = .ok (.aload_n 0, 1) := by decide +kernel
theorem dX6_isWhole_11 : decode cX6_isWhole 11 = .ok (.getfield 27, 3) := by decide +kernel
theorem dX6_isWhole_14 : decode cX6_isWhole 14 = .ok (.ifCond .eq 29, 3) := by decide +kernel
theorem dX6_isWhole_17 : decode cX6_isWhole 17 = .ok (.aload_n 0, 1) := by decide +kernel
theorem dX6_isWhole_18 : decode cX6_isWhole 18 = .ok (.aload_n 0, 1) := by decide +kernel
theorem dX6_isWhole_19 : decode cX6_isWhole 19 = .ok (.getfield 27, 3) := by decide +kernel
theorem dX6_isWhole_22 : decode cX6_isWhole 22 = .ok (.ifCond .le 12, 3) := by decide +kernel
theorem dX6_isWhole_25 : decode cX6_isWhole 25 = .ok (.aload_n 0, 1) := by decide +kernel
theorem dX6_isWhole_26 : decode cX6_isWhole 26 = .ok (.getfield 27, 3) := by decide +kernel
theorem dX6_isWhole_29 : decode cX6_isWhole 29 = .ok (.iconst 1, 1) := by decide +kernel
theorem dX6_isWhole_30 : decode cX6_isWhole 30 = .ok (.isub, 1) := by decide +kernel
theorem dX6_isWhole_31 : decode cX6_isWhole 31 = .ok (.goto 7, 3) := by decide +kernel
theorem dX6_isWhole_34 : decode cX6_isWhole 34 = .ok (.aload_n 0, 1) := by decide +kernel
theorem dX6_isWhole_35 : decode cX6_isWhole 35 = .ok (.getfield 27, 3) := by decide +kernel
theorem dX6_isWhole_38 : decode cX6_isWhole 38 = .ok (.putfield 27, 3) := by decide +kernel
theorem dX6_isWhole_41 : decode cX6_isWhole 41 = .ok (.iconst 1, 1) := by decide +kernel
theorem dX6_isWhole_42 : decode cX6_isWhole 42 = .ok (.ireturn, 1) := by decide +kernel
theorem dX6_isWhole_43 : decode cX6_isWhole 43 = .ok (.aload_n 0, 1) := by decide +kernel
theorem dX6_isWhole_44 : decode cX6_isWhole 44 = .ok (.iconst (-1), 1) := by decide +kernel
theorem dX6_isWhole_45 : decode cX6_isWhole 45 = .ok (.putfield 27, 3) := by decide +kernel
theorem dX6_isWhole_48 : decode cX6_isWhole 48 = .ok (.aload_n 0, 1) := by decide +kernel
theorem dX6_isWhole_49 : decode cX6_isWhole 49 = .ok (.iconst 0, 1) := by decide +kernel
theorem dX6_isWhole_50 : decode cX6_isWhole 50 = .ok (.putfield 19, 3) := by decide +kernel
theorem dX6_isWhole_53 : decode cX6_isWhole 53 = .ok (.aload_n 0, 1) := by decide +kernel
theorem dX6_isWhole_54 : decode cX6_isWhole 54 = .ok (.bipush (-7), 2) := by decide +kernel
theorem dX6_isWhole_56 : decode cX6_isWhole 56 = .ok (.putfield 23, 3) := by decide +kernel
theorem dX6_isWhole_59 : decode cX6_isWhole 59 = .ok (.iconst 0, 1) := by decide +kernel
theorem dX6_isWhole_60 : decode cX6_isWhole 60 = .ok (.ireturn, 1) := by decide +kernel
set_option maxRecDepth 20000 in
theorem ggX6_erase_X6_isWhole : GoodIn wsX6_erase wsX6_isWhole := goodIn_r _ [8, 9, 10, 1, 11, 12, 13, 14, 15, 16, 17, 18, 19, 20, 21, 22, 23, 24] (by decide +kernel) (by decide +kernel)
set_option maxRecDepth 20000 in
theorem gX6_erase_X6_isWhole : GoodIn wsX6_erase (wsV RX6 42 RX6 yX6_isWhole wsX6_isWhole) := goodIn_app (goodIn_of _ (by decide +kernel)) ggX6_erase_X6_isWhole
theorem dX6_erase_0 : decode cX6_erase 0 = .ok (.aload_n 0, 1) := by decide +kernel
theorem dX6_erase_1 : decode cX6_erase 1 = .ok (.getfield 19, 3) := by decide +kernel
theorem dX6_erase_4 : decode cX6_erase 4 = .ok (.ifCond .eq 50, 3) := by decide +kernel
theorem dX6_erase_7 : decode cX6_erase 7 = .ok (.aload_n 0, 1) := by decide +kernel
theorem dX6_erase_8 : decode cX6_erase 8 = .ok (.invokevirtual 42, 3) := by decide +kernel
theorem dX6_erase_11 : decode cX6_erase 11 = .ok (.ifCond .eq 8, 3) := by decide +kernel
theorem dX6_erase_14 : decode cX6_erase 14 = .ok (.bipush 32, 2) := by decide +kernel
theorem dX6_erase_16 : decode cX6_erase 16 = .ok (.goto 10, 3) := by decide +kernel
theorem dX6_erase_19 : decode cX6_erase 19 = .ok (.aload_n 0, 1) := by decide +kernel
theorem dX6_erase_20 : decode cX6_erase 20 = .ok (.getfield 46, 3) := by decide +kernel
theorem dX6_erase_23 : decode cX6_erase 23 = .ok (.bipush 32, 2) := by decide +kernel
theorem dX6_erase_25 : decode cX6_erase 25 = .ok (.irem, 1) := by decide +kernel
theorem dX6_erase_26 : decode cX6_erase 26 = .ok (.istore_n 2, 1) := by decide +kernel
theorem dX6_erase_27 : decode cX6_erase 27 = .ok (.iconst 0, 1) := by decide +kernel
theorem dX6_erase_28 : decode cX6_erase 28 = .ok (.istore_n 3, 1) := by decide +kernel
theorem dX6_erase_29 : decode cX6_erase 29 = .ok (.iload_n 3, 1) := by decide +kernel
theorem dX6_erase_30 : decode cX6_erase 30 = .ok (.iload_n 2, 1) := by decide +kernel
theorem dX6_erase_31 : decode cX6_erase 31 = .ok (.if_icmp .ge 23, 3) := by decide +kernel
theorem dX6_erase_34 : decode cX6_erase 34 = .ok (.aload_n 0, 1) := by decide +kernel
theorem dX6_erase_35 : decode cX6_erase 35 = .ok (.getfield 7, 3) := by decide +kernel
theorem dX6_erase_38 : decode cX6_erase 38 = .ok (.bipush 32, 2) := by decide +kernel
theorem dX6_erase_40 : decode cX6_erase 40 = .ok (.iload_n 1, 1) := by decide +kernel
theorem dX6_erase_41 : decode cX6_erase 41 = .ok (.imul, 1) := by decide +kernel
theorem dX6_erase_42 : decode cX6_erase 42 = .ok (.iload_n 3, 1) := by decide +kernel
theorem dX6_erase_43 : decode cX6_erase 43 = .ok (.iadd, 1) := by decide +kernel
theorem dX6_erase_44 : decode cX6_erase 44 = .ok (.sipush 255, 3) := by decide +kernel
theorem dX6_erase_47 : decode cX6_erase 47 = .ok (.iastore, 1) := by decide +kernel
theorem dX6_erase_48 : decode cX6_erase 48 = .ok (.iinc 3 1, 3) := by decide +kernel
theorem dX6_erase_51 : decode cX6_erase 51 = .ok (.goto (-22), 3) := by decide +kernel
theorem dX6_erase_54 : decode cX6_erase 54 = .ok (.return_, 1) := by decide +kernel
set_option maxRecDepth 20000 in
theorem ggX6_program_X6_isWhole : GoodIn wsX6_program wsX6_isWhole := goodIn_r _ [8, 9, 10, 1, 11, 12, 13, 14, 15, 16, 17, 18, 19, 20, 21, 22, 23, 24] (by decide +kernel) (by decide +kernel)
set_option maxRecDepth 20000 in
theorem gX6_program_X6_isWhole : GoodIn wsX6_program (wsV RX6 42 RX6 yX6_isWhole wsX6_isWhole) := goodIn_app (goodIn_of _ (by decide +kernel)) ggX6_program_X6_isWhole
theorem dX6_program_0 : decode cX6_program 0 = .ok (.aload_n 0, 1) := by decide +kernel
theorem dX6_program_1 : decode cX6_program 1 = .ok (.getfield 19, 3) := by decide +kernel
theorem dX6_program_4 : decode cX6_program 4 = .ok (.ifCond .eq 33, 3) := by decide +kernel
theorem dX6_program_7 : decode cX6_program 7 = .ok (.aload_n 0, 1) := by decide +kernel
theorem dX6_program_8 : decode cX6_program 8 = .ok (.getfield 7, 3) := by decide +kernel
theorem dX6_program_11 : decode cX6_program 11 = .ok (.iload_n 1, 1) := by decide +kernel
theorem dX6_program_12 : decode cX6_program 12 = .ok (.aload_n 0, 1) := by decide +kernel
theorem dX6_program_13 : decode cX6_program 13 = .ok (.getfield 7, 3) := by decide +kernel
theorem dX6_program_16 : decode cX6_program 16 = .ok (.iload_n 1, 1) := by decide +kernel
theorem dX6_program_17 : decode cX6_program 17 = .ok (.iaload, 1) := by decide +kernel
theorem dX6_program_18 : decode cX6_program 18 = .ok (.aload_n 0, 1) := by decide +kernel
theorem dX6_program_19 : decode cX6_program 19 = .ok (.invokevirtual 42, 3) := by decide +kernel
theorem dX6_program_22 : decode cX6_program 22 = .ok (.ifCond .eq 7, 3) := by decide +kernel
theorem dX6_program_25 : decode cX6_program 25 = .ok (.iload_n 2, 1) := by decide +kernel
theorem dX6_program_26 : decode cX6_program 26 = .ok (.goto 9, 3) := by decide +kernel
theorem dX6_program_29 : decode cX6_program 29 = .ok (.iload_n 2, 1) := by decide +kernel
theorem dX6_program_30 : decode cX6_program 30 = .ok (.aload_n 0, 1) := by decide +kernel
theorem dX6_program_31 : decode cX6_program 31 = .ok (.getfield 46, 3) := by decide +kernel
theorem dX6_program_34 : decode cX6_program 34 = .ok (.ior, 1) := by decide +kernel
theorem dX6_program_35 : decode cX6_program 35 = .ok (.iand, 1) := by decide +kernel
theorem dX6_program_36 : decode cX6_program 36 = .ok (.iastore, 1) := by decide +kernel
theorem dX6_program_37 : decode cX6_program 37 = .ok (.return_, 1) := by decide +kernel
theorem dX6_digested_0 : decode cX6_digested 0 = .ok (.iload_n 0, 1) := by decide +kernel
theorem dX6_digested_1 : decode cX6_digested 1 = .ok (.iload_n 1, 1) := by decide +kernel
theorem dX6_digested_2 : decode cX6_digested 2 = .ok (.ixor, 1) := by decide +kernel
theorem dX6_digested_3 : decode cX6_digested 3 = .ok (.ldc 49, 2) := by decide +kernel
theorem dX6_digested_5 : decode cX6_digested 5 = .ok (.imul, 1) := by decide +kernel
theorem dX6_digested_6 : decode cX6_digested 6 = .ok (.istore_n 2, 1) := by decide +kernel
theorem dX6_digested_7 : decode cX6_digested 7 = .ok (.iload_n 2, 1) := by decide +kernel
theorem dX6_digested_8 : decode cX6_digested 8 = .ok (.bipush 7, 2) := by decide +kernel
theorem dX6_digested_10 : decode cX6_digested 10 = .ok (.ishl, 1) := by decide +kernel
theorem dX6_digested_11 : decode cX6_digested 11 = .ok (.iload_n 2, 1) := by decide +kernel
theorem dX6_digested_12 : decode cX6_digested 12 = .ok (.bipush 25, 2) := by decide +kernel
theorem dX6_digested_14 : decode cX6_digested 14 = .ok (.iushr, 1) := by decide +kernel
theorem dX6_digested_15 : decode cX6_digested 15 = .ok (.ior, 1) := by decide +kernel
theorem dX6_digested_16 : decode cX6_digested 16 = .ok (.bipush 97, 2) := by decide +kernel
theorem dX6_digested_18 : decode cX6_digested 18 = .ok (.iadd, 1) := by decide +kernel
theorem dX6_digested_19 : decode cX6_digested 19 = .ok (.ireturn, 1) := by decide +kernel
set_option maxRecDepth 20000 in
theorem ggX6_digestOf_X6_digested : GoodIn wsX6_digestOf wsX6_digested := goodIn_r _ [5, 6] (by decide +kernel) (by decide +kernel)
set_option maxRecDepth 20000 in
theorem gX6_digestOf_X6_digested : GoodIn wsX6_digestOf (va_wsS RX6 50 yX6_digested wsX6_digested) := goodIn_app (goodIn_of _ (by decide +kernel)) ggX6_digestOf_X6_digested
theorem dX6_digestOf_0 : decode cX6_digestOf 0 = .ok (.iconst 0, 1) := by decide +kernel
theorem dX6_digestOf_1 : decode cX6_digestOf 1 = .ok (.istore_n 3, 1) := by decide +kernel
theorem dX6_digestOf_2 : decode cX6_digestOf 2 = .ok (.iconst 0, 1) := by decide +kernel
theorem dX6_digestOf_3 : decode cX6_digestOf 3 = .ok (.istore 4, 2) := by decide +kernel
theorem dX6_digestOf_5 : decode cX6_digestOf 5 = .ok (.iload 4, 2) := by decide +kernel
theorem dX6_digestOf_7 : decode cX6_digestOf 7 = .ok (.iload_n 2, 1) := by decide +kernel
theorem dX6_digestOf_8 : decode cX6_digestOf 8 = .ok (.if_icmp .ge 23, 3) := by decide +kernel
theorem dX6_digestOf_11 : decode cX6_digestOf 11 = .ok (.iload_n 3, 1) := by decide +kernel
theorem dX6_digestOf_12 : decode cX6_digestOf 12 = .ok (.aload_n 0, 1) := by decide +kernel
theorem dX6_digestOf_13 : decode cX6_digestOf 13 = .ok (.getfield 7, 3) := by decide +kernel
theorem dX6_digestOf_16 : decode cX6_digestOf 16 = .ok (.iload_n 1, 1) := by decide +kernel
theorem dX6_digestOf_17 : decode cX6_digestOf 17 = .ok (.iload 4, 2) := by decide +kernel
theorem dX6_digestOf_19 : decode cX6_digestOf 19 = .ok (.iadd, 1) := by decide +kernel
theorem dX6_digestOf_20 : decode cX6_digestOf 20 = .ok (.iaload, 1) := by decide +kernel
theorem dX6_digestOf_21 : decode cX6_digestOf 21 = .ok (.invokestatic 50, 3) := by decide +kernel
theorem dX6_digestOf_24 : decode cX6_digestOf 24 = .ok (.istore_n 3, 1) := by decide +kernel
theorem dX6_digestOf_25 : decode cX6_digestOf 25 = .ok (.iinc 4 1, 3) := by decide +kernel
theorem dX6_digestOf_28 : decode cX6_digestOf 28 = .ok (.goto (-23), 3) := by decide +kernel
theorem dX6_digestOf_31 : decode cX6_digestOf 31 = .ok (.iload_n 3, 1) := by decide +kernel
theorem dX6_digestOf_32 : decode cX6_digestOf 32 = .ok (.ireturn, 1) := by decide +kernel
theorem dX6_four_0 : decode cX6_four 0 = .ok (.aload_n 0, 1) := by decide +kernel
theorem dX6_four_1 : decode cX6_four 1 = .ok (.getfield 7, 3) := by decide +kernel
theorem dX6_four_4 : decode cX6_four 4 = .ok (.iload_n 1, 1) := by decide +kernel
theorem dX6_four_5 : decode cX6_four 5 = .ok (.iaload, 1) := by decide +kernel
theorem dX6_four_6 : decode cX6_four 6 = .ok (.bipush 24, 2) := by decide +kernel
theorem dX6_four_8 : decode cX6_four 8 = .ok (.ishl, 1) := by decide +kernel
theorem dX6_four_9 : decode cX6_four 9 = .ok (.aload_n 0, 1) := by decide +kernel
theorem dX6_four_10 : decode cX6_four 10 = .ok (.getfield 7, 3) := by decide +kernel
theorem dX6_four_13 : decode cX6_four 13 = .ok (.iload_n 1, 1) := by decide +kernel
theorem dX6_four_14 : decode cX6_four 14 = .ok (.iconst 1, 1) := by decide +kernel
theorem dX6_four_15 : decode cX6_four 15 = .ok (.iadd, 1) := by decide +kernel
theorem dX6_four_16 : decode cX6_four 16 = .ok (.iaload, 1) := by decide +kernel
theorem dX6_four_17 : decode cX6_four 17 = .ok (.bipush 16, 2) := by decide +kernel
theorem dX6_four_19 : decode cX6_four 19 = .ok (.ishl, 1) := by decide +kernel
theorem dX6_four_20 : decode cX6_four 20 = .ok (.ior, 1) := by decide +kernel
theorem dX6_four_21 : decode cX6_four 21 = .ok (.aload_n 0, 1) := by decide +kernel
theorem dX6_four_22 : decode cX6_four 22 = .ok (.getfield 7, 3) := by decide +kernel
theorem dX6_four_25 : decode cX6_four 25 = .ok (.iload_n 1, 1) := by decide +kernel
theorem dX6_four_26 : decode cX6_four 26 = .ok (.iconst 2, 1) := by decide +kernel
theorem dX6_four_27 : decode cX6_four 27 = .ok (.iadd, 1) := by decide +kernel
theorem dX6_four_28 : decode cX6_four 28 = .ok (.iaload, 1) := by decide +kernel
theorem dX6_four_29 : decode cX6_four 29 = .ok (.bipush 8, 2) := by decide +kernel
theorem dX6_four_31 : decode cX6_four 31 = .ok (.ishl, 1) := by decide +kernel
theorem dX6_four_32 : decode cX6_four 32 = .ok (.ior, 1) := by decide +kernel
theorem dX6_four_33 : decode cX6_four 33 = .ok (.aload_n 0, 1) := by decide +kernel
theorem dX6_four_34 : decode cX6_four 34 = .ok (.getfield 7, 3) := by decide +kernel
theorem dX6_four_37 : decode cX6_four 37 = .ok (.iload_n 1, 1) := by decide +kernel
theorem dX6_four_38 : decode cX6_four 38 = .ok (.iconst 3, 1) := by decide +kernel
theorem dX6_four_39 : decode cX6_four 39 = .ok (.iadd, 1) := by decide +kernel
theorem dX6_four_40 : decode cX6_four 40 = .ok (.iaload, 1) := by decide +kernel
theorem dX6_four_41 : decode cX6_four 41 = .ok (.ior, 1) := by decide +kernel
theorem dX6_four_42 : decode cX6_four 42 = .ok (.ireturn, 1) := by decide +kernel
theorem dX6_part_0 : decode cX6_part 0 = .ok (.iload_n 0, 1) := by decide +kernel
theorem dX6_part_1 : decode cX6_part 1 = .ok (.bipush 24, 2) := by decide +kernel
theorem dX6_part_3 : decode cX6_part 3 = .ok (.bipush 8, 2) := by decide +kernel
theorem dX6_part_5 : decode cX6_part 5 = .ok (.iload_n 1, 1) := by decide +kernel
theorem dX6_part_6 : decode cX6_part 6 = .ok (.imul, 1) := by decide +kernel
theorem dX6_part_7 : decode cX6_part 7 = .ok (.isub, 1) := by decide +kernel
theorem dX6_part_8 : decode cX6_part 8 = .ok (.ishr, 1) := by decide +kernel
theorem dX6_part_9 : decode cX6_part 9 = .ok (.sipush 255, 3) := by decide +kernel
theorem dX6_part_12 : decode cX6_part 12 = .ok (.iand, 1) := by decide +kernel
theorem dX6_part_13 : decode cX6_part 13 = .ok (.ireturn, 1) := by decide +kernel
theorem dX6_imageAt_0 : decode cX6_imageAt 0 = .ok (.sipush 224, 3) := by decide +kernel
theorem dX6_imageAt_3 : decode cX6_imageAt 3 = .ok (.iload_n 0, 1) := by decide +kernel
theorem dX6_imageAt_4 : decode cX6_imageAt 4 = .ok (.imul, 1) := by decide +kernel
theorem dX6_imageAt_5 : decode cX6_imageAt 5 = .ok (.ireturn, 1) := by decide +kernel
theorem dX6_headerAt_0 : decode cX6_headerAt 0 = .ok (.sipush 224, 3) := by decide +kernel
theorem dX6_headerAt_3 : decode cX6_headerAt 3 = .ok (.iload_n 0, 1) := by decide +kernel
theorem dX6_headerAt_4 : decode cX6_headerAt 4 = .ok (.imul, 1) := by decide +kernel
theorem dX6_headerAt_5 : decode cX6_headerAt 5 = .ok (.sipush 192, 3) := by decide +kernel
theorem dX6_headerAt_8 : decode cX6_headerAt 8 = .ok (.iadd, 1) := by decide +kernel
theorem dX6_headerAt_9 : decode cX6_headerAt 9 = .ok (.ireturn, 1) := by decide +kernel
theorem dX6_ones_0 : decode cX6_ones 0 = .ok (.iconst 0, 1) := by decide +kernel
theorem dX6_ones_1 : decode cX6_ones 1 = .ok (.istore_n 1, 1) := by decide +kernel
theorem dX6_ones_2 : decode cX6_ones 2 = .ok (.iconst 0, 1) := by decide +kernel
theorem dX6_ones_3 : decode cX6_ones 3 = .ok (.istore_n 2, 1) := by decide +kernel
theorem dX6_ones_4 : decode cX6_ones 4 = .ok (.iload_n 2, 1) := by decide +kernel
theorem dX6_ones_5 : decode cX6_ones 5 = .ok (.bipush 8, 2) := by decide +kernel
theorem dX6_ones_7 : decode cX6_ones 7 = .ok (.if_icmp .ge 17, 3) := by decide +kernel
theorem dX6_ones_10 : decode cX6_ones 10 = .ok (.iload_n 1, 1) := by decide +kernel
theorem dX6_ones_11 : decode cX6_ones 11 = .ok (.iload_n 0, 1) := by decide +kernel
theorem dX6_ones_12 : decode cX6_ones 12 = .ok (.iload_n 2, 1) := by decide +kernel
theorem dX6_ones_13 : decode cX6_ones 13 = .ok (.ishr, 1) := by decide +kernel
theorem dX6_ones_14 : decode cX6_ones 14 = .ok (.iconst 1, 1) := by decide +kernel
theorem dX6_ones_15 : decode cX6_ones 15 = .ok (.iand, 1) := by decide +kernel
theorem dX6_ones_16 : decode cX6_ones 16 = .ok (.iadd, 1) := by decide +kernel
theorem dX6_ones_17 : decode cX6_ones 17 = .ok (.istore_n 1, 1) := by decide +kernel
theorem dX6_ones_18 : decode cX6_ones 18 = .ok (.iinc 2 1, 3) := by decide +kernel
theorem dX6_ones_21 : decode cX6_ones 21 = .ok (.goto (-17), 3) := by decide +kernel
theorem dX6_ones_24 : decode cX6_ones 24 = .ok (.iload_n 1, 1) := by decide +kernel
theorem dX6_ones_25 : decode cX6_ones 25 = .ok (.ireturn, 1) := by decide +kernel
set_option maxRecDepth 20000 in
theorem ggX6_counterValue_X6_ones : GoodIn wsX6_counterValue wsX6_ones := goodIn_r _ [5] (by decide +kernel) (by decide +kernel)
set_option maxRecDepth 20000 in
theorem gX6_counterValue_X6_ones : GoodIn wsX6_counterValue (va_wsS RX6 54 yX6_ones wsX6_ones) := goodIn_app (goodIn_of _ (by decide +kernel)) ggX6_counterValue_X6_ones
theorem dX6_counterValue_0 : decode cX6_counterValue 0 = .ok (.sipush 256, 3) := by decide +kernel
theorem dX6_counterValue_3 : decode cX6_counterValue 3 = .ok (.istore_n 1, 1) := by decide +kernel
theorem dX6_counterValue_4 : decode cX6_counterValue 4 = .ok (.iconst 0, 1) := by decide +kernel
theorem dX6_counterValue_5 : decode cX6_counterValue 5 = .ok (.istore_n 2, 1) := by decide +kernel
theorem dX6_counterValue_6 : decode cX6_counterValue 6 = .ok (.iload_n 2, 1) := by decide +kernel
theorem dX6_counterValue_7 : decode cX6_counterValue 7 = .ok (.bipush 32, 2) := by decide +kernel
theorem dX6_counterValue_9 : decode cX6_counterValue 9 = .ok (.if_icmp .ge 25, 3) := by decide +kernel
theorem dX6_counterValue_12 : decode cX6_counterValue 12 = .ok (.iload_n 1, 1) := by decide +kernel
theorem dX6_counterValue_13 : decode cX6_counterValue 13 = .ok (.aload_n 0, 1) := by decide +kernel
theorem dX6_counterValue_14 : decode cX6_counterValue 14 = .ok (.getfield 7, 3) := by decide +kernel
theorem dX6_counterValue_17 : decode cX6_counterValue 17 = .ok (.sipush 704, 3) := by decide +kernel
theorem dX6_counterValue_20 : decode cX6_counterValue 20 = .ok (.iload_n 2, 1) := by decide +kernel
theorem dX6_counterValue_21 : decode cX6_counterValue 21 = .ok (.iadd, 1) := by decide +kernel
theorem dX6_counterValue_22 : decode cX6_counterValue 22 = .ok (.iaload, 1) := by decide +kernel
theorem dX6_counterValue_23 : decode cX6_counterValue 23 = .ok (.invokestatic 54, 3) := by decide +kernel
theorem dX6_counterValue_26 : decode cX6_counterValue 26 = .ok (.isub, 1) := by decide +kernel
theorem dX6_counterValue_27 : decode cX6_counterValue 27 = .ok (.istore_n 1, 1) := by decide +kernel
theorem dX6_counterValue_28 : decode cX6_counterValue 28 = .ok (.iinc 2 1, 3) := by decide +kernel
theorem dX6_counterValue_31 : decode cX6_counterValue 31 = .ok (.goto (-25), 3) := by decide +kernel
theorem dX6_counterValue_34 : decode cX6_counterValue 34 = .ok (.iload_n 1, 1) := by decide +kernel
theorem dX6_counterValue_35 : decode cX6_counterValue 35 = .ok (.ireturn, 1) := by decide +kernel
set_option maxRecDepth 20000 in
theorem ggX6_sequenceOf_X6_headerAt : GoodIn wsX6_sequenceOf wsX6_headerAt := goodIn_r _ [5] (by decide +kernel) (by decide +kernel)
set_option maxRecDepth 20000 in
theorem gX6_sequenceOf_X6_headerAt : GoodIn wsX6_sequenceOf (va_wsS RX6 58 yX6_headerAt wsX6_headerAt) := goodIn_app (goodIn_of _ (by decide +kernel)) ggX6_sequenceOf_X6_headerAt
theorem dX6_sequenceOf_0 : decode cX6_sequenceOf 0 = .ok (.aload_n 0, 1) := by decide +kernel
theorem dX6_sequenceOf_1 : decode cX6_sequenceOf 1 = .ok (.getfield 7, 3) := by decide +kernel
theorem dX6_sequenceOf_4 : decode cX6_sequenceOf 4 = .ok (.iload_n 1, 1) := by decide +kernel
theorem dX6_sequenceOf_5 : decode cX6_sequenceOf 5 = .ok (.invokestatic 58, 3) := by decide +kernel
theorem dX6_sequenceOf_8 : decode cX6_sequenceOf 8 = .ok (.iconst 1, 1) := by decide +kernel
theorem dX6_sequenceOf_9 : decode cX6_sequenceOf 9 = .ok (.iadd, 1) := by decide +kernel
theorem dX6_sequenceOf_10 : decode cX6_sequenceOf 10 = .ok (.iaload, 1) := by decide +kernel
theorem dX6_sequenceOf_11 : decode cX6_sequenceOf 11 = .ok (.ireturn, 1) := by decide +kernel
set_option maxRecDepth 20000 in
theorem ggX6_isGood_X6_headerAt : GoodIn wsX6_isGood wsX6_headerAt := goodIn_r _ [5] (by decide +kernel) (by decide +kernel)
set_option maxRecDepth 20000 in
theorem gX6_isGood_X6_headerAt : GoodIn wsX6_isGood (va_wsS RX6 58 yX6_headerAt wsX6_headerAt) := goodIn_app (goodIn_of _ (by decide +kernel)) ggX6_isGood_X6_headerAt
set_option maxRecDepth 20000 in
theorem ggX6_isGood_X6_imageAt : GoodIn wsX6_isGood wsX6_imageAt := goodIn_r _ [8] (by decide +kernel) (by decide +kernel)
set_option maxRecDepth 20000 in
theorem gX6_isGood_X6_imageAt : GoodIn wsX6_isGood (va_wsS RX6 61 yX6_imageAt wsX6_imageAt) := goodIn_app (goodIn_of _ (by decide +kernel)) ggX6_isGood_X6_imageAt
set_option maxRecDepth 20000 in
theorem ggX6_isGood_X6_digestOf : GoodIn wsX6_isGood wsX6_digestOf := goodIn_r _ [12, 1, 13, 14, 4, 15, 16, 28, 29, 30, 31, 32, 33, 34, 35, 36, 37, 38, 39, 40] (by decide +kernel) (by decide +kernel)
set_option maxRecDepth 20000 in
theorem gX6_isGood_X6_digestOf : GoodIn wsX6_isGood (wsV RX6 64 RX6 yX6_digestOf wsX6_digestOf) := goodIn_app (goodIn_of _ (by decide +kernel)) ggX6_isGood_X6_digestOf
set_option maxRecDepth 20000 in
theorem ggX6_isGood_X6_four : GoodIn wsX6_isGood wsX6_four := goodIn_r _ [20, 1, 28, 29, 30, 31, 32, 33, 34, 35, 36, 37, 38, 39, 40] (by decide +kernel) (by decide +kernel)
set_option maxRecDepth 20000 in
theorem gX6_isGood_X6_four : GoodIn wsX6_isGood (wsV RX6 67 RX6 yX6_four wsX6_four) := goodIn_app (goodIn_of _ (by decide +kernel)) ggX6_isGood_X6_four
set_option maxRecDepth 20000 in
theorem ggX6_isGood_X6_counterValue : GoodIn wsX6_isGood wsX6_counterValue := goodIn_r _ [24, 1, 25, 26, 4, 27, 28, 29, 30, 31, 32, 33, 34, 35, 36, 37, 38, 39, 40] (by decide +kernel) (by decide +kernel)
set_option maxRecDepth 20000 in
theorem gX6_isGood_X6_counterValue : GoodIn wsX6_isGood (wsV RX6 70 RX6 yX6_counterValue wsX6_counterValue) := goodIn_app (goodIn_of _ (by decide +kernel)) ggX6_isGood_X6_counterValue
theorem dX6_isGood_0 : decode cX6_isGood 0 = .ok (.iload_n 1, 1) := by decide +kernel
theorem dX6_isGood_1 : decode cX6_isGood 1 = .ok (.invokestatic 58, 3) := by decide +kernel
theorem dX6_isGood_4 : decode cX6_isGood 4 = .ok (.istore_n 2, 1) := by decide +kernel
theorem dX6_isGood_5 : decode cX6_isGood 5 = .ok (.aload_n 0, 1) := by decide +kernel
theorem dX6_isGood_6 : decode cX6_isGood 6 = .ok (.getfield 7, 3) := by decide +kernel
theorem dX6_isGood_9 : decode cX6_isGood 9 = .ok (.iload_n 2, 1) := by decide +kernel
theorem dX6_isGood_10 : decode cX6_isGood 10 = .ok (.iaload, 1) := by decide +kernel
theorem dX6_isGood_11 : decode cX6_isGood 11 = .ok (.istore_n 3, 1) := by decide +kernel
theorem dX6_isGood_12 : decode cX6_isGood 12 = .ok (.aload_n 0, 1) := by decide +kernel
theorem dX6_isGood_13 : decode cX6_isGood 13 = .ok (.getfield 7, 3) := by decide +kernel
theorem dX6_isGood_16 : decode cX6_isGood 16 = .ok (.iload_n 2, 1) := by decide +kernel
theorem dX6_isGood_17 : decode cX6_isGood 17 = .ok (.bipush 8, 2) := by decide +kernel
theorem dX6_isGood_19 : decode cX6_isGood 19 = .ok (.iadd, 1) := by decide +kernel
theorem dX6_isGood_20 : decode cX6_isGood 20 = .ok (.iaload, 1) := by decide +kernel
theorem dX6_isGood_21 : decode cX6_isGood 21 = .ok (.ifCond .ne 53, 3) := by decide +kernel
theorem dX6_isGood_24 : decode cX6_isGood 24 = .ok (.iload_n 3, 1) := by decide +kernel
theorem dX6_isGood_25 : decode cX6_isGood 25 = .ok (.iconst 1, 1) := by decide +kernel
theorem dX6_isGood_26 : decode cX6_isGood 26 = .ok (.if_icmp .lt 48, 3) := by decide +kernel
theorem dX6_isGood_29 : decode cX6_isGood 29 = .ok (.iload_n 3, 1) := by decide +kernel
theorem dX6_isGood_30 : decode cX6_isGood 30 = .ok (.sipush 192, 3) := by decide +kernel
theorem dX6_isGood_33 : decode cX6_isGood 33 = .ok (.if_icmp .gt 41, 3) := by decide +kernel
theorem dX6_isGood_36 : decode cX6_isGood 36 = .ok (.aload_n 0, 1) := by decide +kernel
theorem dX6_isGood_37 : decode cX6_isGood 37 = .ok (.iload_n 1, 1) := by decide +kernel
theorem dX6_isGood_38 : decode cX6_isGood 38 = .ok (.invokestatic 61, 3) := by decide +kernel
theorem dX6_isGood_41 : decode cX6_isGood 41 = .ok (.iload_n 3, 1) := by decide +kernel
theorem dX6_isGood_42 : decode cX6_isGood 42 = .ok (.invokevirtual 64, 3) := by decide +kernel
theorem dX6_isGood_45 : decode cX6_isGood 45 = .ok (.aload_n 0, 1) := by decide +kernel
theorem dX6_isGood_46 : decode cX6_isGood 46 = .ok (.iload_n 2, 1) := by decide +kernel
theorem dX6_isGood_47 : decode cX6_isGood 47 = .ok (.iconst 2, 1) := by decide +kernel
theorem dX6_isGood_48 : decode cX6_isGood 48 = .ok (.iadd, 1) := by decide +kernel
theorem dX6_isGood_49 : decode cX6_isGood 49 = .ok (.invokevirtual 67, 3) := by decide +kernel
theorem dX6_isGood_52 : decode cX6_isGood 52 = .ok (.if_icmp .ne 22, 3) := by decide +kernel
theorem dX6_isGood_55 : decode cX6_isGood 55 = .ok (.aload_n 0, 1) := by decide +kernel
theorem dX6_isGood_56 : decode cX6_isGood 56 = .ok (.getfield 7, 3) := by decide +kernel
theorem dX6_isGood_59 : decode cX6_isGood 59 = .ok (.iload_n 2, 1) := by decide +kernel
theorem dX6_isGood_60 : decode cX6_isGood 60 = .ok (.iconst 1, 1) := by decide +kernel
theorem dX6_isGood_61 : decode cX6_isGood 61 = .ok (.iadd, 1) := by decide +kernel
theorem dX6_isGood_62 : decode cX6_isGood 62 = .ok (.iaload, 1) := by decide +kernel
theorem dX6_isGood_63 : decode cX6_isGood 63 = .ok (.aload_n 0, 1) := by decide +kernel
theorem dX6_isGood_64 : decode cX6_isGood 64 = .ok (.invokevirtual 70, 3) := by decide +kernel
theorem dX6_isGood_67 : decode cX6_isGood 67 = .ok (.if_icmp .lt 7, 3) := by decide +kernel
theorem dX6_isGood_70 : decode cX6_isGood 70 = .ok (.iconst 1, 1) := by decide +kernel
theorem dX6_isGood_71 : decode cX6_isGood 71 = .ok (.goto 4, 3) := by decide +kernel
theorem dX6_isGood_74 : decode cX6_isGood 74 = .ok (.iconst 0, 1) := by decide +kernel
theorem dX6_isGood_75 : decode cX6_isGood 75 = .ok (.ireturn, 1) := by decide +kernel
set_option maxRecDepth 20000 in
theorem ggX6_isConfirmed_X6_headerAt : GoodIn wsX6_isConfirmed wsX6_headerAt := goodIn_r _ [5] (by decide +kernel) (by decide +kernel)
set_option maxRecDepth 20000 in
theorem gX6_isConfirmed_X6_headerAt : GoodIn wsX6_isConfirmed (va_wsS RX6 58 yX6_headerAt wsX6_headerAt) := goodIn_app (goodIn_of _ (by decide +kernel)) ggX6_isConfirmed_X6_headerAt
theorem dX6_isConfirmed_0 : decode cX6_isConfirmed 0 = .ok (.aload_n 0, 1) := by decide +kernel
theorem dX6_isConfirmed_1 : decode cX6_isConfirmed 1 = .ok (.getfield 7, 3) := by decide +kernel
theorem dX6_isConfirmed_4 : decode cX6_isConfirmed 4 = .ok (.iload_n 1, 1) := by decide +kernel
theorem dX6_isConfirmed_5 : decode cX6_isConfirmed 5 = .ok (.invokestatic 58, 3) := by decide +kernel
theorem dX6_isConfirmed_8 : decode cX6_isConfirmed 8 = .ok (.bipush 7, 2) := by decide +kernel
theorem dX6_isConfirmed_10 : decode cX6_isConfirmed 10 = .ok (.iadd, 1) := by decide +kernel
theorem dX6_isConfirmed_11 : decode cX6_isConfirmed 11 = .ok (.iaload, 1) := by decide +kernel
theorem dX6_isConfirmed_12 : decode cX6_isConfirmed 12 = .ok (.ifCond .ne 7, 3) := by decide +kernel
theorem dX6_isConfirmed_15 : decode cX6_isConfirmed 15 = .ok (.iconst 1, 1) := by decide +kernel
theorem dX6_isConfirmed_16 : decode cX6_isConfirmed 16 = .ok (.goto 4, 3) := by decide +kernel
theorem dX6_isConfirmed_19 : decode cX6_isConfirmed 19 = .ok (.iconst 0, 1) := by decide +kernel
theorem dX6_isConfirmed_20 : decode cX6_isConfirmed 20 = .ok (.ireturn, 1) := by decide +kernel
theorem dX6_lessOne_0 : decode cX6_lessOne 0 = .ok (.iconst 1, 1) := by decide +kernel
theorem dX6_lessOne_1 : decode cX6_lessOne 1 = .ok (.istore_n 1, 1) := by decide +kernel
theorem dX6_lessOne_2 : decode cX6_lessOne 2 = .ok (.iload_n 1, 1) := by decide +kernel
theorem dX6_lessOne_3 : decode cX6_lessOne 3 = .ok (.sipush 256, 3) := by decide +kernel
theorem dX6_lessOne_6 : decode cX6_lessOne 6 = .ok (.if_icmp .ge 16, 3) := by decide +kernel
theorem dX6_lessOne_9 : decode cX6_lessOne 9 = .ok (.iload_n 0, 1) := by decide +kernel
theorem dX6_lessOne_10 : decode cX6_lessOne 10 = .ok (.iload_n 1, 1) := by decide +kernel
theorem dX6_lessOne_11 : decode cX6_lessOne 11 = .ok (.iand, 1) := by decide +kernel
theorem dX6_lessOne_12 : decode cX6_lessOne 12 = .ok (.ifCond .ne 10, 3) := by decide +kernel
theorem dX6_lessOne_15 : decode cX6_lessOne 15 = .ok (.iconst 2, 1) := by decide +kernel
theorem dX6_lessOne_16 : decode cX6_lessOne 16 = .ok (.iload_n 1, 1) := by decide +kernel
theorem dX6_lessOne_17 : decode cX6_lessOne 17 = .ok (.imul, 1) := by decide +kernel
theorem dX6_lessOne_18 : decode cX6_lessOne 18 = .ok (.istore_n 1, 1) := by decide +kernel
theorem dX6_lessOne_19 : decode cX6_lessOne 19 = .ok (.goto (-17), 3) := by decide +kernel
theorem dX6_lessOne_22 : decode cX6_lessOne 22 = .ok (.iload_n 0, 1) := by decide +kernel
theorem dX6_lessOne_23 : decode cX6_lessOne 23 = .ok (.iload_n 1, 1) := by decide +kernel
theorem dX6_lessOne_24 : decode cX6_lessOne 24 = .ok (.iconst (-1), 1) := by decide +kernel
theorem dX6_lessOne_25 : decode cX6_lessOne 25 = .ok (.ixor, 1) := by decide +kernel
theorem dX6_lessOne_26 : decode cX6_lessOne 26 = .ok (.iand, 1) := by decide +kernel
theorem dX6_lessOne_27 : decode cX6_lessOne 27 = .ok (.sipush 255, 3) := by decide +kernel
theorem dX6_lessOne_30 : decode cX6_lessOne 30 = .ok (.iand, 1) := by decide +kernel
theorem dX6_lessOne_31 : decode cX6_lessOne 31 = .ok (.ireturn, 1) := by decide +kernel
theorem dX6_type_0 : decode cX6_type 0 = .ok (.aload_n 0, 1) := by decide +kernel
theorem dX6_type_1 : decode cX6_type 1 = .ok (.iconst 0, 1) := by decide +kernel
theorem dX6_type_2 : decode cX6_type 2 = .ok (.putfield 36, 3) := by decide +kernel
theorem dX6_type_5 : decode cX6_type 5 = .ok (.iload_n 3, 1) := by decide +kernel
theorem dX6_type_6 : decode cX6_type 6 = .ok (.iconst 1, 1) := by decide +kernel
theorem dX6_type_7 : decode cX6_type 7 = .ok (.if_icmp .lt 9, 3) := by decide +kernel
theorem dX6_type_10 : decode cX6_type 10 = .ok (.iload_n 3, 1) := by decide +kernel
theorem dX6_type_11 : decode cX6_type 11 = .ok (.bipush 8, 2) := by decide +kernel
theorem dX6_type_13 : decode cX6_type 13 = .ok (.if_icmp .le 5, 3) := by decide +kernel
theorem dX6_type_16 : decode cX6_type 16 = .ok (.iconst (-1), 1) := by decide +kernel
theorem dX6_type_17 : decode cX6_type 17 = .ok (.ireturn, 1) := by decide +kernel
theorem dX6_type_18 : decode cX6_type 18 = .ok (.aload_n 0, 1) := by decide +kernel
theorem dX6_type_19 : decode cX6_type 19 = .ok (.getfield 74, 3) := by decide +kernel
theorem dX6_type_22 : decode cX6_type 22 = .ok (.iload_n 3, 1) := by decide +kernel
theorem dX6_type_23 : decode cX6_type 23 = .ok (.iadd, 1) := by decide +kernel
theorem dX6_type_24 : decode cX6_type 24 = .ok (.sipush 192, 3) := by decide +kernel
theorem dX6_type_27 : decode cX6_type 27 = .ok (.if_icmp .le 6, 3) := by decide +kernel
theorem dX6_type_30 : decode cX6_type 30 = .ok (.bipush (-8), 2) := by decide +kernel
theorem dX6_type_32 : decode cX6_type 32 = .ok (.ireturn, 1) := by decide +kernel
theorem dX6_type_33 : decode cX6_type 33 = .ok (.bipush 8, 2) := by decide +kernel
theorem dX6_type_35 : decode cX6_type 35 = .ok (.iload_n 3, 1) := by decide +kernel
theorem dX6_type_36 : decode cX6_type 36 = .ok (.imul, 1) := by decide +kernel
theorem dX6_type_37 : decode cX6_type 37 = .ok (.bipush 8, 2) := by decide +kernel
theorem dX6_type_39 : decode cX6_type 39 = .ok (.isub, 1) := by decide +kernel
theorem dX6_type_40 : decode cX6_type 40 = .ok (.istore 4, 2) := by decide +kernel
theorem dX6_type_42 : decode cX6_type 42 = .ok (.iload 4, 2) := by decide +kernel
theorem dX6_type_44 : decode cX6_type 44 = .ok (.ifCond .lt 41, 3) := by decide +kernel
theorem dX6_type_47 : decode cX6_type 47 = .ok (.aload_n 0, 1) := by decide +kernel
theorem dX6_type_48 : decode cX6_type 48 = .ok (.getfield 16, 3) := by decide +kernel
theorem dX6_type_51 : decode cX6_type 51 = .ok (.aload_n 0, 1) := by decide +kernel
theorem dX6_type_52 : decode cX6_type 52 = .ok (.getfield 74, 3) := by decide +kernel
theorem dX6_type_55 : decode cX6_type 55 = .ok (.lload_n 1, 1) := by decide +kernel
theorem dX6_type_56 : decode cX6_type 56 = .ok (.iload 4, 2) := by decide +kernel
theorem dX6_type_58 : decode cX6_type 58 = .ok (.lshr, 1) := by decide +kernel
theorem dX6_type_59 : decode cX6_type 59 = .ok (.ldc2_w 77, 3) := by decide +kernel
theorem dX6_type_62 : decode cX6_type 62 = .ok (.land, 1) := by decide +kernel
theorem dX6_type_63 : decode cX6_type 63 = .ok (.l2i, 1) := by decide +kernel
theorem dX6_type_64 : decode cX6_type 64 = .ok (.iastore, 1) := by decide +kernel
theorem dX6_type_65 : decode cX6_type 65 = .ok (.aload_n 0, 1) := by decide +kernel
theorem dX6_type_66 : decode cX6_type 66 = .ok (.dup, 1) := by decide +kernel
theorem dX6_type_67 : decode cX6_type 67 = .ok (.getfield 74, 3) := by decide +kernel
theorem dX6_type_70 : decode cX6_type 70 = .ok (.iconst 1, 1) := by decide +kernel
theorem dX6_type_71 : decode cX6_type 71 = .ok (.iadd, 1) := by decide +kernel
theorem dX6_type_72 : decode cX6_type 72 = .ok (.putfield 74, 3) := by decide +kernel
theorem dX6_type_75 : decode cX6_type 75 = .ok (.iload 4, 2) := by decide +kernel
theorem dX6_type_77 : decode cX6_type 77 = .ok (.bipush 8, 2) := by decide +kernel
theorem dX6_type_79 : decode cX6_type 79 = .ok (.isub, 1) := by decide +kernel
theorem dX6_type_80 : decode cX6_type 80 = .ok (.istore 4, 2) := by decide +kernel
theorem dX6_type_82 : decode cX6_type 82 = .ok (.goto (-40), 3) := by decide +kernel
theorem dX6_type_85 : decode cX6_type 85 = .ok (.aload_n 0, 1) := by decide +kernel
theorem dX6_type_86 : decode cX6_type 86 = .ok (.getfield 74, 3) := by decide +kernel
theorem dX6_type_89 : decode cX6_type 89 = .ok (.ireturn, 1) := by decide +kernel
set_option maxRecDepth 20000 in
theorem ggX6_factory_X6_erase : GoodIn wsX6_factory wsX6_erase := goodIn_r _ [10, 2, 11, 12, 13, 14, 15, 9, 16, 17, 18, 4, 37, 38, 39, 40, 41, 42, 43, 44, 45, 46, 47, 48, 49] (by decide +kernel) (by decide +kernel)
set_option maxRecDepth 20000 in
theorem gX6_factory_X6_erase : GoodIn wsX6_factory (wsV RX6 79 RX6 yX6_erase wsX6_erase) := goodIn_app (goodIn_of _ (by decide +kernel)) ggX6_factory_X6_erase
set_option maxRecDepth 20000 in
theorem ggX6_factory_X6_program : GoodIn wsX6_factory wsX6_program := goodIn_r _ [22, 2, 12, 11, 13, 14, 15, 9, 16, 17, 18, 4, 37, 38, 39, 40, 41, 42, 43, 44, 45, 46, 47, 48, 49] (by decide +kernel) (by decide +kernel)
set_option maxRecDepth 20000 in
theorem gX6_factory_X6_program : GoodIn wsX6_factory (wsV RX6 83 RX6 yX6_program wsX6_program) := goodIn_app (goodIn_of _ (by decide +kernel)) ggX6_factory_X6_program
set_option maxRecDepth 20000 in
theorem ggX6_factory_X6_digested : GoodIn wsX6_factory wsX6_digested := goodIn_r _ [25, 26] (by decide +kernel) (by decide +kernel)
set_option maxRecDepth 20000 in
theorem gX6_factory_X6_digested : GoodIn wsX6_factory (va_wsS RX6 50 yX6_digested wsX6_digested) := goodIn_app (goodIn_of _ (by decide +kernel)) ggX6_factory_X6_digested
set_option maxRecDepth 20000 in
theorem ggX6_factory_X6_writeHeader : GoodIn wsX6_factory wsX6_writeHeader := goodIn_r _ [30, 31, 32, 9, 33, 19, 20, 21, 22, 2, 12, 11, 13, 14, 15, 16, 17, 18, 4, 34, 35, 36, 37, 38, 39, 40, 41, 42, 43, 44, 45, 46, 47, 48, 49] (by decide +kernel) (by decide +kernel)
set_option maxRecDepth 20000 in
theorem gX6_factory_X6_writeHeader : GoodIn wsX6_factory (wsV RX6 87 RX6 yX6_writeHeader wsX6_writeHeader) := goodIn_app (goodIn_of _ (by decide +kernel)) ggX6_factory_X6_writeHeader
set_option maxRecDepth 20000 in
theorem ggX6_factory_X6_headerAt : GoodIn wsX6_factory wsX6_headerAt := goodIn_r _ [33] (by decide +kernel) (by decide +kernel)
set_option maxRecDepth 20000 in
theorem gX6_factory_X6_headerAt : GoodIn wsX6_factory (va_wsS RX6 58 yX6_headerAt wsX6_headerAt) := goodIn_app (goodIn_of _ (by decide +kernel)) ggX6_factory_X6_headerAt
