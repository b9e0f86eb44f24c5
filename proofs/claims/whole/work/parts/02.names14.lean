theorem dX11_readItem_180 : decode cX11_readItem 180 = .ok (.aload_n 0, 1) := by decide +kernel
theorem dX11_readItem_181 : decode cX11_readItem 181 = .ok (.invokevirtual 127, 3) := by decide +kernel
theorem dX11_readItem_184 : decode cX11_readItem 184 = .ok (.aload_n 0, 1) := by decide +kernel
theorem dX11_readItem_185 : decode cX11_readItem 185 = .ok (.iconst 5, 1) := by decide +kernel
theorem dX11_readItem_186 : decode cX11_readItem 186 = .ok (.iconst (-1), 1) := by decide +kernel
theorem dX11_readItem_187 : decode cX11_readItem 187 = .ok (.invokevirtual 132, 3) := by decide +kernel
theorem dX11_readItem_190 : decode cX11_readItem 190 = .ok (.istore_n 2, 1) := by decide +kernel
theorem dX11_readItem_191 : decode cX11_readItem 191 = .ok (.aload_n 0, 1) := by decide +kernel
theorem dX11_readItem_192 : decode cX11_readItem 192 = .ok (.bipush 7, 2) := by decide +kernel
theorem dX11_readItem_194 : decode cX11_readItem 194 = .ok (.iconst (-1), 1) := by decide +kernel
theorem dX11_readItem_195 : decode cX11_readItem 195 = .ok (.invokevirtual 132, 3) := by decide +kernel
theorem dX11_readItem_198 : decode cX11_readItem 198 = .ok (.istore_n 3, 1) := by decide +kernel
theorem dX11_readItem_199 : decode cX11_readItem 199 = .ok (.aload_n 0, 1) := by decide +kernel
theorem dX11_readItem_200 : decode cX11_readItem 200 = .ok (.invokevirtual 135, 3) := by decide +kernel
theorem dX11_readItem_203 : decode cX11_readItem 203 = .ok (.aload_n 0, 1) := by decide +kernel
theorem dX11_readItem_204 : decode cX11_readItem 204 = .ok (.getfield 121, 3) := by decide +kernel
theorem dX11_readItem_207 : decode cX11_readItem 207 = .ok (.iconst (-1), 1) := by decide +kernel
theorem dX11_readItem_208 : decode cX11_readItem 208 = .ok (.if_icmp .ne 12, 3) := by decide +kernel
theorem dX11_readItem_211 : decode cX11_readItem 211 = .ok (.aload_n 0, 1) := by decide +kernel
theorem dX11_readItem_212 : decode cX11_readItem 212 = .ok (.getfield 16, 3) := by decide +kernel
theorem dX11_readItem_215 : decode cX11_readItem 215 = .ok (.iload_n 2, 1) := by decide +kernel
theorem dX11_readItem_216 : decode cX11_readItem 216 = .ok (.iload_n 3, 1) := by decide +kernel
theorem dX11_readItem_217 : decode cX11_readItem 217 = .ok (.invokestatic 77, 3) := by decide +kernel
theorem dX11_readItem_220 : decode cX11_readItem 220 = .ok (.goto 7, 3) := by decide +kernel
theorem dX11_readItem_223 : decode cX11_readItem 223 = .ok (.aload_n 0, 1) := by decide +kernel
theorem dX11_readItem_224 : decode cX11_readItem 224 = .ok (.invokevirtual 124, 3) := by decide +kernel
theorem dX11_readItem_227 : decode cX11_readItem 227 = .ok (.return_, 1) := by decide +kernel
set_option maxRecDepth 20000 in
theorem ggX11_read_X11_next : GoodIn wsX11_read wsX11_next := goodIn_r _ [13, 3, 14, 15, 16, 6, 5, 17, 18, 19, 20, 21, 22, 23, 24, 12, 25, 26, 27, 28, 29, 30, 31, 32, 33, 34, 35, 64, 65, 66, 67, 68, 69, 70, 71, 72, 73, 74, 75, 76, 77, 78, 79, 80, 81, 82, 83] (by decide +kernel) (by decide +kernel)
set_option maxRecDepth 20000 in
theorem gX11_read_X11_next : GoodIn wsX11_read (wsV RX11 127 RX11 yX11_next wsX11_next) := goodIn_app (goodIn_of _ (by decide +kernel)) ggX11_read_X11_next
set_option maxRecDepth 20000 in
theorem ggX11_read_X11_faultHere : GoodIn wsX11_read wsX11_faultHere := goodIn_r _ [39, 4, 5, 14, 16, 64, 65, 66, 67, 68, 69, 70, 71, 72, 73, 74, 75, 76, 77, 78, 79, 80, 81, 82, 83] (by decide +kernel) (by decide +kernel)
set_option maxRecDepth 20000 in
theorem gX11_read_X11_faultHere : GoodIn wsX11_read (wsV RX11 124 RX11 yX11_faultHere wsX11_faultHere) := goodIn_app (goodIn_of _ (by decide +kernel)) ggX11_read_X11_faultHere
set_option maxRecDepth 20000 in
theorem ggX11_read_X11_sign : GoodIn wsX11_read wsX11_sign := goodIn_r _ [43, 4, 5, 36, 37, 38, 12, 39, 14, 16, 9, 10, 11, 13, 3, 15, 6, 17, 18, 19, 20, 21, 22, 23, 24, 25, 26, 27, 28, 29, 30, 31, 32, 33, 34, 35, 64, 65, 66, 67, 68, 69, 70, 71, 72, 73, 74, 75, 76, 77, 78, 79, 80, 81, 82, 83] (by decide +kernel) (by decide +kernel)
set_option maxRecDepth 20000 in
theorem gX11_read_X11_sign : GoodIn wsX11_read (wsV RX11 135 RX11 yX11_sign wsX11_sign) := goodIn_app (goodIn_of _ (by decide +kernel)) ggX11_read_X11_sign
set_option maxRecDepth 20000 in
theorem ggX11_read_X11_readItem : GoodIn wsX11_read wsX11_readItem := goodIn_r _ [47, 5, 6, 48, 2, 4, 49, 50, 9, 10, 11, 12, 13, 3, 14, 15, 16, 17, 18, 19, 20, 21, 22, 23, 24, 25, 26, 27, 28, 29, 30, 31, 32, 33, 34, 35, 51, 52, 53, 54, 36, 37, 38, 39, 40, 41, 42, 43, 55, 56, 57, 58, 59, 60, 61, 62, 63, 64, 65, 66, 67, 68, 69, 70, 71, 72, 73, 74, 75, 76, 77, 78, 79, 80, 81, 82, 83] (by decide +kernel) (by decide +kernel)
set_option maxRecDepth 20000 in
theorem gX11_read_X11_readItem : GoodIn wsX11_read (wsV RX11 144 RX11 yX11_readItem wsX11_readItem) := goodIn_app (goodIn_of _ (by decide +kernel)) ggX11_read_X11_readItem
theorem dX11_read_0 : decode cX11_read 0 = .ok (.aload_n 0, 1) := by decide +kernel
theorem dX11_read_1 : decode cX11_read 1 = .ok (.iconst 0, 1) := by decide +kernel
theorem dX11_read_2 : decode cX11_read 2 = .ok (.putfield 39, 3) := by decide +kernel
theorem dX11_read_5 : decode cX11_read 5 = .ok (.iconst 0, 1) := by decide +kernel
theorem dX11_read_6 : decode cX11_read 6 = .ok (.istore_n 1, 1) := by decide +kernel
theorem dX11_read_7 : decode cX11_read 7 = .ok (.iload_n 1, 1) := by decide +kernel
theorem dX11_read_8 : decode cX11_read 8 = .ok (.bipush 73, 2) := by decide +kernel
theorem dX11_read_10 : decode cX11_read 10 = .ok (.if_icmp .ge 16, 3) := by decide +kernel
theorem dX11_read_13 : decode cX11_read 13 = .ok (.aload_n 0, 1) := by decide +kernel
theorem dX11_read_14 : decode cX11_read 14 = .ok (.getfield 16, 3) := by decide +kernel
theorem dX11_read_17 : decode cX11_read 17 = .ok (.iload_n 1, 1) := by decide +kernel
theorem dX11_read_18 : decode cX11_read 18 = .ok (.iconst 0, 1) := by decide +kernel
theorem dX11_read_19 : decode cX11_read 19 = .ok (.iastore, 1) := by decide +kernel
theorem dX11_read_20 : decode cX11_read 20 = .ok (.iinc 1 1, 3) := by decide +kernel
theorem dX11_read_23 : decode cX11_read 23 = .ok (.goto (-16), 3) := by decide +kernel
theorem dX11_read_26 : decode cX11_read 26 = .ok (.aload_n 0, 1) := by decide +kernel
theorem dX11_read_27 : decode cX11_read 27 = .ok (.iconst 0, 1) := by decide +kernel
theorem dX11_read_28 : decode cX11_read 28 = .ok (.putfield 86, 3) := by decide +kernel
theorem dX11_read_31 : decode cX11_read 31 = .ok (.aload_n 0, 1) := by decide +kernel
theorem dX11_read_32 : decode cX11_read 32 = .ok (.iconst (-1), 1) := by decide +kernel
theorem dX11_read_33 : decode cX11_read 33 = .ok (.putfield 121, 3) := by decide +kernel
theorem dX11_read_36 : decode cX11_read 36 = .ok (.iconst 0, 1) := by decide +kernel
theorem dX11_read_37 : decode cX11_read 37 = .ok (.istore_n 1, 1) := by decide +kernel
theorem dX11_read_38 : decode cX11_read 38 = .ok (.aload_n 0, 1) := by decide +kernel
theorem dX11_read_39 : decode cX11_read 39 = .ok (.invokevirtual 127, 3) := by decide +kernel
theorem dX11_read_42 : decode cX11_read 42 = .ok (.aload_n 0, 1) := by decide +kernel
theorem dX11_read_43 : decode cX11_read 43 = .ok (.getfield 103, 3) := by decide +kernel
theorem dX11_read_46 : decode cX11_read 46 = .ok (.iconst 2, 1) := by decide +kernel
theorem dX11_read_47 : decode cX11_read 47 = .ok (.if_icmp .ne 14, 3) := by decide +kernel
theorem dX11_read_50 : decode cX11_read 50 = .ok (.aload_n 0, 1) := by decide +kernel
theorem dX11_read_51 : decode cX11_read 51 = .ok (.getfield 100, 3) := by decide +kernel
theorem dX11_read_54 : decode cX11_read 54 = .ok (.ldc2_w 142, 3) := by decide +kernel
theorem dX11_read_57 : decode cX11_read 57 = .ok (.lcmp, 1) := by decide +kernel
theorem dX11_read_58 : decode cX11_read 58 = .ok (.ifCond .eq 10, 3) := by decide +kernel
theorem dX11_read_61 : decode cX11_read 61 = .ok (.aload_n 0, 1) := by decide +kernel
theorem dX11_read_62 : decode cX11_read 62 = .ok (.invokevirtual 124, 3) := by decide +kernel
theorem dX11_read_65 : decode cX11_read 65 = .ok (.goto 14, 3) := by decide +kernel
theorem dX11_read_68 : decode cX11_read 68 = .ok (.aload_n 0, 1) := by decide +kernel
theorem dX11_read_69 : decode cX11_read 69 = .ok (.invokevirtual 127, 3) := by decide +kernel
theorem dX11_read_72 : decode cX11_read 72 = .ok (.aload_n 0, 1) := by decide +kernel
theorem dX11_read_73 : decode cX11_read 73 = .ok (.invokevirtual 135, 3) := by decide +kernel
theorem dX11_read_76 : decode cX11_read 76 = .ok (.iinc 1 1, 3) := by decide +kernel
theorem dX11_read_79 : decode cX11_read 79 = .ok (.aload_n 0, 1) := by decide +kernel
theorem dX11_read_80 : decode cX11_read 80 = .ok (.getfield 121, 3) := by decide +kernel
theorem dX11_read_83 : decode cX11_read 83 = .ok (.iconst (-1), 1) := by decide +kernel
theorem dX11_read_84 : decode cX11_read 84 = .ok (.if_icmp .ne 21, 3) := by decide +kernel
theorem dX11_read_87 : decode cX11_read 87 = .ok (.aload_n 0, 1) := by decide +kernel
theorem dX11_read_88 : decode cX11_read 88 = .ok (.getfield 103, 3) := by decide +kernel
theorem dX11_read_91 : decode cX11_read 91 = .ok (.iconst 1, 1) := by decide +kernel
theorem dX11_read_92 : decode cX11_read 92 = .ok (.if_icmp .eq 13, 3) := by decide +kernel
theorem dX11_read_95 : decode cX11_read 95 = .ok (.aload_n 0, 1) := by decide +kernel
theorem dX11_read_96 : decode cX11_read 96 = .ok (.invokevirtual 144, 3) := by decide +kernel
theorem dX11_read_99 : decode cX11_read 99 = .ok (.iinc 1 1, 3) := by decide +kernel
theorem dX11_read_102 : decode cX11_read 102 = .ok (.goto (-23), 3) := by decide +kernel
theorem dX11_read_105 : decode cX11_read 105 = .ok (.aload_n 0, 1) := by decide +kernel
theorem dX11_read_106 : decode cX11_read 106 = .ok (.getfield 121, 3) := by decide +kernel
theorem dX11_read_109 : decode cX11_read 109 = .ok (.iconst (-1), 1) := by decide +kernel
theorem dX11_read_110 : decode cX11_read 110 = .ok (.if_icmp .eq 11, 3) := by decide +kernel
theorem dX11_read_113 : decode cX11_read 113 = .ok (.bipush (-10), 2) := by decide +kernel
theorem dX11_read_115 : decode cX11_read 115 = .ok (.aload_n 0, 1) := by decide +kernel
theorem dX11_read_116 : decode cX11_read 116 = .ok (.getfield 121, 3) := by decide +kernel
theorem dX11_read_119 : decode cX11_read 119 = .ok (.isub, 1) := by decide +kernel
theorem dX11_read_120 : decode cX11_read 120 = .ok (.ireturn, 1) := by decide +kernel
theorem dX11_read_121 : decode cX11_read 121 = .ok (.iconst 0, 1) := by decide +kernel
theorem dX11_read_122 : decode cX11_read 122 = .ok (.istore_n 2, 1) := by decide +kernel
theorem dX11_read_123 : decode cX11_read 123 = .ok (.iload_n 2, 1) := by decide +kernel
theorem dX11_read_124 : decode cX11_read 124 = .ok (.bipush 73, 2) := by decide +kernel
theorem dX11_read_126 : decode cX11_read 126 = .ok (.if_icmp .ge 21, 3) := by decide +kernel
theorem dX11_read_129 : decode cX11_read 129 = .ok (.aload_n 0, 1) := by decide +kernel
theorem dX11_read_130 : decode cX11_read 130 = .ok (.getfield 13, 3) := by decide +kernel
theorem dX11_read_133 : decode cX11_read 133 = .ok (.iload_n 2, 1) := by decide +kernel
theorem dX11_read_134 : decode cX11_read 134 = .ok (.aload_n 0, 1) := by decide +kernel
theorem dX11_read_135 : decode cX11_read 135 = .ok (.getfield 16, 3) := by decide +kernel
theorem dX11_read_138 : decode cX11_read 138 = .ok (.iload_n 2, 1) := by decide +kernel
theorem dX11_read_139 : decode cX11_read 139 = .ok (.iaload, 1) := by decide +kernel
theorem dX11_read_140 : decode cX11_read 140 = .ok (.iastore, 1) := by decide +kernel
theorem dX11_read_141 : decode cX11_read 141 = .ok (.iinc 2 1, 3) := by decide +kernel
theorem dX11_read_144 : decode cX11_read 144 = .ok (.goto (-21), 3) := by decide +kernel
theorem dX11_read_147 : decode cX11_read 147 = .ok (.iload_n 1, 1) := by decide +kernel
theorem dX11_read_148 : decode cX11_read 148 = .ok (.ireturn, 1) := by decide +kernel
set_option maxRecDepth 20000 in
theorem ggX11_rhymes_X11_ending : GoodIn wsX11_rhymes wsX11_ending := goodIn_r _ [5, 6, 7, 8, 9, 10, 11, 12, 13, 14, 15, 16, 17, 18, 19, 20, 21, 22, 23, 24, 25, 26] (by decide +kernel) (by decide +kernel)
set_option maxRecDepth 20000 in
theorem gX11_rhymes_X11_ending : GoodIn wsX11_rhymes (wsV RX11 147 RX11 yX11_ending wsX11_ending) := goodIn_app (goodIn_of _ (by decide +kernel)) ggX11_rhymes_X11_ending
theorem dX11_rhymes_0 : decode cX11_rhymes 0 = .ok (.aload_n 0, 1) := by decide +kernel
theorem dX11_rhymes_1 : decode cX11_rhymes 1 = .ok (.iload_n 1, 1) := by decide +kernel
theorem dX11_rhymes_2 : decode cX11_rhymes 2 = .ok (.invokevirtual 147, 3) := by decide +kernel
theorem dX11_rhymes_5 : decode cX11_rhymes 5 = .ok (.aload_n 0, 1) := by decide +kernel
theorem dX11_rhymes_6 : decode cX11_rhymes 6 = .ok (.iload_n 2, 1) := by decide +kernel
theorem dX11_rhymes_7 : decode cX11_rhymes 7 = .ok (.invokevirtual 147, 3) := by decide +kernel
theorem dX11_rhymes_10 : decode cX11_rhymes 10 = .ok (.if_icmp .ne 12, 3) := by decide +kernel
theorem dX11_rhymes_13 : decode cX11_rhymes 13 = .ok (.iload_n 1, 1) := by decide +kernel
theorem dX11_rhymes_14 : decode cX11_rhymes 14 = .ok (.iload_n 2, 1) := by decide +kernel
theorem dX11_rhymes_15 : decode cX11_rhymes 15 = .ok (.if_icmp .eq 7, 3) := by decide +kernel
theorem dX11_rhymes_18 : decode cX11_rhymes 18 = .ok (.iconst 1, 1) := by decide +kernel
theorem dX11_rhymes_19 : decode cX11_rhymes 19 = .ok (.goto 4, 3) := by decide +kernel
theorem dX11_rhymes_22 : decode cX11_rhymes 22 = .ok (.iconst 0, 1) := by decide +kernel
theorem dX11_rhymes_23 : decode cX11_rhymes 23 = .ok (.ireturn, 1) := by decide +kernel
set_option maxRecDepth 20000 in
theorem ggX11_isHalf_X11_rhymes : GoodIn wsX11_isHalf wsX11_rhymes := goodIn_r _ [6, 7, 8, 9, 5, 10, 1, 14, 15, 16, 17, 18, 19, 20, 21, 22, 23, 24, 25, 26, 27, 28, 29, 30, 31, 32, 33] (by decide +kernel) (by decide +kernel)
set_option maxRecDepth 20000 in
theorem gX11_isHalf_X11_rhymes : GoodIn wsX11_isHalf (wsV RX11 151 RX11 yX11_rhymes wsX11_rhymes) := goodIn_app (goodIn_of _ (by decide +kernel)) ggX11_isHalf_X11_rhymes
set_option maxRecDepth 20000 in
theorem ggX11_isHalf_X11_ending : GoodIn wsX11_isHalf wsX11_ending := goodIn_r _ [10, 1, 14, 15, 16, 17, 18, 19, 20, 21, 22, 23, 24, 25, 26, 27, 28, 29, 30, 31, 32, 33] (by decide +kernel) (by decide +kernel)
set_option maxRecDepth 20000 in
theorem gX11_isHalf_X11_ending : GoodIn wsX11_isHalf (wsV RX11 147 RX11 yX11_ending wsX11_ending) := goodIn_app (goodIn_of _ (by decide +kernel)) ggX11_isHalf_X11_ending
set_option maxRecDepth 20000 in
theorem ggX11_isHalf_X11_has : GoodIn wsX11_isHalf wsX11_has := goodIn_r _ [13] (by decide +kernel) (by decide +kernel)
set_option maxRecDepth 20000 in
theorem gX11_isHalf_X11_has : GoodIn wsX11_isHalf (va_wsS RX11 155 yX11_has wsX11_has) := goodIn_app (goodIn_of _ (by decide +kernel)) ggX11_isHalf_X11_has
theorem dX11_isHalf_0 : decode cX11_isHalf 0 = .ok (.aload_n 0, 1) := by decide +kernel
theorem dX11_isHalf_1 : decode cX11_isHalf 1 = .ok (.iload_n 1, 1) := by decide +kernel
theorem dX11_isHalf_2 : decode cX11_isHalf 2 = .ok (.iload_n 2, 1) := by decide +kernel
theorem dX11_isHalf_3 : decode cX11_isHalf 3 = .ok (.invokevirtual 151, 3) := by decide +kernel
theorem dX11_isHalf_6 : decode cX11_isHalf 6 = .ok (.ifCond .ne 27, 3) := by decide +kernel
theorem dX11_isHalf_9 : decode cX11_isHalf 9 = .ok (.aload_n 0, 1) := by decide +kernel
theorem dX11_isHalf_10 : decode cX11_isHalf 10 = .ok (.getfield 13, 3) := by decide +kernel
theorem dX11_isHalf_13 : decode cX11_isHalf 13 = .ok (.bipush 45, 2) := by decide +kernel
theorem dX11_isHalf_15 : decode cX11_isHalf 15 = .ok (.aload_n 0, 1) := by decide +kernel
theorem dX11_isHalf_16 : decode cX11_isHalf 16 = .ok (.iload_n 1, 1) := by decide +kernel
theorem dX11_isHalf_17 : decode cX11_isHalf 17 = .ok (.invokevirtual 147, 3) := by decide +kernel
theorem dX11_isHalf_20 : decode cX11_isHalf 20 = .ok (.iadd, 1) := by decide +kernel
theorem dX11_isHalf_21 : decode cX11_isHalf 21 = .ok (.iaload, 1) := by decide +kernel
theorem dX11_isHalf_22 : decode cX11_isHalf 22 = .ok (.aload_n 0, 1) := by decide +kernel
theorem dX11_isHalf_23 : decode cX11_isHalf 23 = .ok (.iload_n 2, 1) := by decide +kernel
theorem dX11_isHalf_24 : decode cX11_isHalf 24 = .ok (.invokevirtual 147, 3) := by decide +kernel
theorem dX11_isHalf_27 : decode cX11_isHalf 27 = .ok (.invokestatic 155, 3) := by decide +kernel
theorem dX11_isHalf_30 : decode cX11_isHalf 30 = .ok (.ifCond .eq 7, 3) := by decide +kernel
theorem dX11_isHalf_33 : decode cX11_isHalf 33 = .ok (.iconst 1, 1) := by decide +kernel
theorem dX11_isHalf_34 : decode cX11_isHalf 34 = .ok (.goto 4, 3) := by decide +kernel
theorem dX11_isHalf_37 : decode cX11_isHalf 37 = .ok (.iconst 0, 1) := by decide +kernel
theorem dX11_isHalf_38 : decode cX11_isHalf 38 = .ok (.ireturn, 1) := by decide +kernel
set_option maxRecDepth 20000 in
theorem ggX11_isEcho_X11_rhymes : GoodIn wsX11_isEcho wsX11_rhymes := goodIn_r _ [5, 6, 7, 8, 4, 9, 10, 11, 12, 13, 14, 15, 16, 17, 18, 19, 20, 21, 22, 23, 24, 25, 26, 27, 28, 29, 30] (by decide +kernel) (by decide +kernel)
set_option maxRecDepth 20000 in
theorem gX11_isEcho_X11_rhymes : GoodIn wsX11_isEcho (wsV RX11 151 RX11 yX11_rhymes wsX11_rhymes) := goodIn_app (goodIn_of _ (by decide +kernel)) ggX11_isEcho_X11_rhymes
theorem dX11_isEcho_0 : decode cX11_isEcho 0 = .ok (.aload_n 0, 1) := by decide +kernel
theorem dX11_isEcho_1 : decode cX11_isEcho 1 = .ok (.iload_n 1, 1) := by decide +kernel
theorem dX11_isEcho_2 : decode cX11_isEcho 2 = .ok (.iload_n 2, 1) := by decide +kernel
theorem dX11_isEcho_3 : decode cX11_isEcho 3 = .ok (.invokevirtual 151, 3) := by decide +kernel
theorem dX11_isEcho_6 : decode cX11_isEcho 6 = .ok (.ifCond .ne 8, 3) := by decide +kernel
theorem dX11_isEcho_9 : decode cX11_isEcho 9 = .ok (.iload_n 1, 1) := by decide +kernel
theorem dX11_isEcho_10 : decode cX11_isEcho 10 = .ok (.iload_n 2, 1) := by decide +kernel
theorem dX11_isEcho_11 : decode cX11_isEcho 11 = .ok (.if_icmp .ne 7, 3) := by decide +kernel
theorem dX11_isEcho_14 : decode cX11_isEcho 14 = .ok (.iconst 1, 1) := by decide +kernel
theorem dX11_isEcho_15 : decode cX11_isEcho 15 = .ok (.goto 4, 3) := by decide +kernel
theorem dX11_isEcho_18 : decode cX11_isEcho 18 = .ok (.iconst 0, 1) := by decide +kernel
theorem dX11_isEcho_19 : decode cX11_isEcho 19 = .ok (.ireturn, 1) := by decide +kernel
set_option maxRecDepth 20000 in
theorem ggX11_chimes_X11_rhymes : GoodIn wsX11_chimes wsX11_rhymes := goodIn_r _ [5, 6, 7, 8, 4, 9, 10, 26, 27, 28, 29, 30, 31, 32, 33, 34, 35, 36, 37, 38, 39, 40, 41, 42, 43, 44, 45] (by decide +kernel) (by decide +kernel)
set_option maxRecDepth 20000 in
theorem gX11_chimes_X11_rhymes : GoodIn wsX11_chimes (wsV RX11 151 RX11 yX11_rhymes wsX11_rhymes) := goodIn_app (goodIn_of _ (by decide +kernel)) ggX11_chimes_X11_rhymes
set_option maxRecDepth 20000 in
theorem ggX11_chimes_X11_isHalf : GoodIn wsX11_chimes wsX11_isHalf := goodIn_r _ [14, 10, 1, 2, 3, 4, 5, 6, 7, 8, 9, 15, 16, 17, 26, 27, 28, 29, 30, 31, 32, 33, 34, 35, 36, 37, 38, 39, 40, 41, 42, 43, 44, 45] (by decide +kernel) (by decide +kernel)
set_option maxRecDepth 20000 in
theorem gX11_chimes_X11_isHalf : GoodIn wsX11_chimes (wsV RX11 158 RX11 yX11_isHalf wsX11_isHalf) := goodIn_app (goodIn_of _ (by decide +kernel)) ggX11_chimes_X11_isHalf
set_option maxRecDepth 20000 in
theorem ggX11_chimes_X11_isEcho : GoodIn wsX11_chimes wsX11_isEcho := goodIn_r _ [21, 1, 2, 3, 4, 5, 6, 7, 8, 9, 10, 26, 27, 28, 29, 30, 31, 32, 33, 34, 35, 36, 37, 38, 39, 40, 41, 42, 43, 44, 45] (by decide +kernel) (by decide +kernel)
set_option maxRecDepth 20000 in
theorem gX11_chimes_X11_isEcho : GoodIn wsX11_chimes (wsV RX11 161 RX11 yX11_isEcho wsX11_isEcho) := goodIn_app (goodIn_of _ (by decide +kernel)) ggX11_chimes_X11_isEcho
set_option maxRecDepth 20000 in
theorem ggX11_chimes_X11_meaning : GoodIn wsX11_chimes wsX11_meaning := goodIn_r _ [25, 10, 26, 27, 28, 29, 30, 31, 32, 33, 34, 35, 36, 37, 38, 39, 40, 41, 42, 43, 44, 45] (by decide +kernel) (by decide +kernel)
set_option maxRecDepth 20000 in
theorem gX11_chimes_X11_meaning : GoodIn wsX11_chimes (wsV RX11 164 RX11 yX11_meaning wsX11_meaning) := goodIn_app (goodIn_of _ (by decide +kernel)) ggX11_chimes_X11_meaning
theorem dX11_chimes_0 : decode cX11_chimes 0 = .ok (.iload_n 1, 1) := by decide +kernel
theorem dX11_chimes_1 : decode cX11_chimes 1 = .ok (.tableswitch 111 0 4 #[35, 43, 51, 59, 81], 35) := by decide +kernel
theorem dX11_chimes_36 : decode cX11_chimes 36 = .ok (.aload_n 0, 1) := by decide +kernel
theorem dX11_chimes_37 : decode cX11_chimes 37 = .ok (.iload_n 3, 1) := by decide +kernel
theorem dX11_chimes_38 : decode cX11_chimes 38 = .ok (.iload 4, 2) := by decide +kernel
theorem dX11_chimes_40 : decode cX11_chimes 40 = .ok (.invokevirtual 151, 3) := by decide +kernel
theorem dX11_chimes_43 : decode cX11_chimes 43 = .ok (.ireturn, 1) := by decide +kernel
theorem dX11_chimes_44 : decode cX11_chimes 44 = .ok (.aload_n 0, 1) := by decide +kernel
theorem dX11_chimes_45 : decode cX11_chimes 45 = .ok (.iload_n 3, 1) := by decide +kernel
theorem dX11_chimes_46 : decode cX11_chimes 46 = .ok (.iload 4, 2) := by decide +kernel
theorem dX11_chimes_48 : decode cX11_chimes 48 = .ok (.invokevirtual 158, 3) := by decide +kernel
theorem dX11_chimes_51 : decode cX11_chimes 51 = .ok (.ireturn, 1) := by decide +kernel
theorem dX11_chimes_52 : decode cX11_chimes 52 = .ok (.aload_n 0, 1) := by decide +kernel
theorem dX11_chimes_53 : decode cX11_chimes 53 = .ok (.iload_n 3, 1) := by decide +kernel
theorem dX11_chimes_54 : decode cX11_chimes 54 = .ok (.iload 4, 2) := by decide +kernel
theorem dX11_chimes_56 : decode cX11_chimes 56 = .ok (.invokevirtual 161, 3) := by decide +kernel
theorem dX11_chimes_59 : decode cX11_chimes 59 = .ok (.ireturn, 1) := by decide +kernel
theorem dX11_chimes_60 : decode cX11_chimes 60 = .ok (.aload_n 0, 1) := by decide +kernel
theorem dX11_chimes_61 : decode cX11_chimes 61 = .ok (.iload_n 3, 1) := by decide +kernel
theorem dX11_chimes_62 : decode cX11_chimes 62 = .ok (.iload 4, 2) := by decide +kernel
theorem dX11_chimes_64 : decode cX11_chimes 64 = .ok (.invokevirtual 161, 3) := by decide +kernel
theorem dX11_chimes_67 : decode cX11_chimes 67 = .ok (.ifCond .eq 13, 3) := by decide +kernel
theorem dX11_chimes_70 : decode cX11_chimes 70 = .ok (.iload_n 3, 1) := by decide +kernel
theorem dX11_chimes_71 : decode cX11_chimes 71 = .ok (.iload 4, 2) := by decide +kernel
theorem dX11_chimes_73 : decode cX11_chimes 73 = .ok (.if_icmp .lt 7, 3) := by decide +kernel
theorem dX11_chimes_76 : decode cX11_chimes 76 = .ok (.iconst 1, 1) := by decide +kernel
theorem dX11_chimes_77 : decode cX11_chimes 77 = .ok (.goto 4, 3) := by decide +kernel
theorem dX11_chimes_80 : decode cX11_chimes 80 = .ok (.iconst 0, 1) := by decide +kernel
theorem dX11_chimes_81 : decode cX11_chimes 81 = .ok (.ireturn, 1) := by decide +kernel
theorem dX11_chimes_82 : decode cX11_chimes 82 = .ok (.aload_n 0, 1) := by decide +kernel
theorem dX11_chimes_83 : decode cX11_chimes 83 = .ok (.iload_n 3, 1) := by decide +kernel
theorem dX11_chimes_84 : decode cX11_chimes 84 = .ok (.iload 4, 2) := by decide +kernel
theorem dX11_chimes_86 : decode cX11_chimes 86 = .ok (.invokevirtual 158, 3) := by decide +kernel
theorem dX11_chimes_89 : decode cX11_chimes 89 = .ok (.ifCond .eq 21, 3) := by decide +kernel
theorem dX11_chimes_92 : decode cX11_chimes 92 = .ok (.aload_n 0, 1) := by decide +kernel
theorem dX11_chimes_93 : decode cX11_chimes 93 = .ok (.iload_n 3, 1) := by decide +kernel
theorem dX11_chimes_94 : decode cX11_chimes 94 = .ok (.invokevirtual 164, 3) := by decide +kernel
theorem dX11_chimes_97 : decode cX11_chimes 97 = .ok (.aload_n 0, 1) := by decide +kernel
theorem dX11_chimes_98 : decode cX11_chimes 98 = .ok (.iload 4, 2) := by decide +kernel
theorem dX11_chimes_100 : decode cX11_chimes 100 = .ok (.invokevirtual 164, 3) := by decide +kernel
theorem dX11_chimes_103 : decode cX11_chimes 103 = .ok (.if_icmp .eq 7, 3) := by decide +kernel
theorem dX11_chimes_106 : decode cX11_chimes 106 = .ok (.iconst 1, 1) := by decide +kernel
theorem dX11_chimes_107 : decode cX11_chimes 107 = .ok (.goto 4, 3) := by decide +kernel
theorem dX11_chimes_110 : decode cX11_chimes 110 = .ok (.iconst 0, 1) := by decide +kernel
theorem dX11_chimes_111 : decode cX11_chimes 111 = .ok (.ireturn, 1) := by decide +kernel
theorem dX11_chimes_112 : decode cX11_chimes 112 = .ok (.aload_n 0, 1) := by decide +kernel
theorem dX11_chimes_113 : decode cX11_chimes 113 = .ok (.iload_n 3, 1) := by decide +kernel
theorem dX11_chimes_114 : decode cX11_chimes 114 = .ok (.iload 4, 2) := by decide +kernel
theorem dX11_chimes_116 : decode cX11_chimes 116 = .ok (.invokevirtual 158, 3) := by decide +kernel
theorem dX11_chimes_119 : decode cX11_chimes 119 = .ok (.ifCond .ne 12, 3) := by decide +kernel
theorem dX11_chimes_122 : decode cX11_chimes 122 = .ok (.aload_n 0, 1) := by decide +kernel
theorem dX11_chimes_123 : decode cX11_chimes 123 = .ok (.iload_n 3, 1) := by decide +kernel
theorem dX11_chimes_124 : decode cX11_chimes 124 = .ok (.invokevirtual 164, 3) := by decide +kernel
theorem dX11_chimes_127 : decode cX11_chimes 127 = .ok (.iload_n 2, 1) := by decide +kernel
theorem dX11_chimes_128 : decode cX11_chimes 128 = .ok (.if_icmp .ne 7, 3) := by decide +kernel
theorem dX11_chimes_131 : decode cX11_chimes 131 = .ok (.iconst 1, 1) := by decide +kernel
theorem dX11_chimes_132 : decode cX11_chimes 132 = .ok (.goto 4, 3) := by decide +kernel
theorem dX11_chimes_135 : decode cX11_chimes 135 = .ok (.iconst 0, 1) := by decide +kernel
theorem dX11_chimes_136 : decode cX11_chimes 136 = .ok (.ireturn, 1) := by decide +kernel
set_option maxRecDepth 20000 in
theorem ggX11_chimesWith_X11_kind : GoodIn wsX11_chimesWith wsX11_kind := goodIn_r _ [6, 1, 38, 39, 40, 41, 42, 43, 44, 45, 46, 47, 48, 49, 50, 51, 52, 53, 54, 55, 56, 57] (by decide +kernel) (by decide +kernel)
set_option maxRecDepth 20000 in
theorem gX11_chimesWith_X11_kind : GoodIn wsX11_chimesWith (wsV RX11 167 RX11 yX11_kind wsX11_kind) := goodIn_app (goodIn_of _ (by decide +kernel)) ggX11_chimesWith_X11_kind
set_option maxRecDepth 20000 in
theorem ggX11_chimesWith_X11_want : GoodIn wsX11_chimesWith wsX11_want := goodIn_r _ [10, 1, 38, 39, 40, 41, 42, 43, 44, 45, 46, 47, 48, 49, 50, 51, 52, 53, 54, 55, 56, 57] (by decide +kernel) (by decide +kernel)
set_option maxRecDepth 20000 in
theorem gX11_chimesWith_X11_want : GoodIn wsX11_chimesWith (wsV RX11 170 RX11 yX11_want wsX11_want) := goodIn_app (goodIn_of _ (by decide +kernel)) ggX11_chimesWith_X11_want
set_option maxRecDepth 20000 in
theorem ggX11_chimesWith_X11_chimes : GoodIn wsX11_chimesWith wsX11_chimes := goodIn_r _ [14, 15, 16, 17, 5, 18, 19, 20, 21, 22, 1, 23, 24, 25, 26, 27, 28, 29, 30, 31, 32, 33, 34, 35, 36, 37, 38, 39, 40, 41, 42, 43, 44, 45, 46, 47, 48, 49, 50, 51, 52, 53, 54, 55, 56, 57] (by decide +kernel) (by decide +kernel)
set_option maxRecDepth 20000 in
theorem gX11_chimesWith_X11_chimes : GoodIn wsX11_chimesWith (wsV RX11 173 RX11 yX11_chimes wsX11_chimes) := goodIn_app (goodIn_of _ (by decide +kernel)) ggX11_chimesWith_X11_chimes
theorem dX11_chimesWith_0 : decode cX11_chimesWith 0 = .ok (.iconst 0, 1) := by decide +kernel
theorem dX11_chimesWith_1 : decode cX11_chimesWith 1 = .ok (.istore_n 3, 1) := by decide +kernel
theorem dX11_chimesWith_2 : decode cX11_chimesWith 2 = .ok (.iconst 0, 1) := by decide +kernel
theorem dX11_chimesWith_3 : decode cX11_chimesWith 3 = .ok (.istore 4, 2) := by decide +kernel
theorem dX11_chimesWith_5 : decode cX11_chimesWith 5 = .ok (.iload 4, 2) := by decide +kernel
theorem dX11_chimesWith_7 : decode cX11_chimesWith 7 = .ok (.aload_n 0, 1) := by decide +kernel
theorem dX11_chimesWith_8 : decode cX11_chimesWith 8 = .ok (.getfield 13, 3) := by decide +kernel
theorem dX11_chimesWith_11 : decode cX11_chimesWith 11 = .ok (.iconst 0, 1) := by decide +kernel
theorem dX11_chimesWith_12 : decode cX11_chimesWith 12 = .ok (.iaload, 1) := by decide +kernel
theorem dX11_chimesWith_13 : decode cX11_chimesWith 13 = .ok (.if_icmp .ge 40, 3) := by decide +kernel
theorem dX11_chimesWith_16 : decode cX11_chimesWith 16 = .ok (.iload_n 3, 1) := by decide +kernel
theorem dX11_chimesWith_17 : decode cX11_chimesWith 17 = .ok (.aload_n 0, 1) := by decide +kernel
theorem dX11_chimesWith_18 : decode cX11_chimesWith 18 = .ok (.aload_n 0, 1) := by decide +kernel
theorem dX11_chimesWith_19 : decode cX11_chimesWith 19 = .ok (.iload_n 1, 1) := by decide +kernel
theorem dX11_chimesWith_20 : decode cX11_chimesWith 20 = .ok (.invokevirtual 167, 3) := by decide +kernel
theorem dX11_chimesWith_23 : decode cX11_chimesWith 23 = .ok (.aload_n 0, 1) := by decide +kernel
theorem dX11_chimesWith_24 : decode cX11_chimesWith 24 = .ok (.iload_n 1, 1) := by decide +kernel
theorem dX11_chimesWith_25 : decode cX11_chimesWith 25 = .ok (.invokevirtual 170, 3) := by decide +kernel
theorem dX11_chimesWith_28 : decode cX11_chimesWith 28 = .ok (.iload 4, 2) := by decide +kernel
theorem dX11_chimesWith_30 : decode cX11_chimesWith 30 = .ok (.iload_n 2, 1) := by decide +kernel
theorem dX11_chimesWith_31 : decode cX11_chimesWith 31 = .ok (.invokevirtual 173, 3) := by decide +kernel
theorem dX11_chimesWith_34 : decode cX11_chimesWith 34 = .ok (.ifCond .eq 10, 3) := by decide +kernel
theorem dX11_chimesWith_37 : decode cX11_chimesWith 37 = .ok (.iconst 1, 1) := by decide +kernel
theorem dX11_chimesWith_38 : decode cX11_chimesWith 38 = .ok (.iload 4, 2) := by decide +kernel
theorem dX11_chimesWith_40 : decode cX11_chimesWith 40 = .ok (.ishl, 1) := by decide +kernel
theorem dX11_chimesWith_41 : decode cX11_chimesWith 41 = .ok (.goto 4, 3) := by decide +kernel
theorem dX11_chimesWith_44 : decode cX11_chimesWith 44 = .ok (.iconst 0, 1) := by decide +kernel
theorem dX11_chimesWith_45 : decode cX11_chimesWith 45 = .ok (.ior, 1) := by decide +kernel
theorem dX11_chimesWith_46 : decode cX11_chimesWith 46 = .ok (.istore_n 3, 1) := by decide +kernel
theorem dX11_chimesWith_47 : decode cX11_chimesWith 47 = .ok (.iinc 4 1, 3) := by decide +kernel
theorem dX11_chimesWith_50 : decode cX11_chimesWith 50 = .ok (.goto (-45), 3) := by decide +kernel
theorem dX11_chimesWith_53 : decode cX11_chimesWith 53 = .ok (.iload_n 3, 1) := by decide +kernel
theorem dX11_chimesWith_54 : decode cX11_chimesWith 54 = .ok (.ireturn, 1) := by decide +kernel
set_option maxRecDepth 20000 in
theorem ggX11_answersTo_X11_chimesWith : GoodIn wsX11_answersTo wsX11_chimesWith := goodIn_r _ [6, 1, 7, 8, 9, 5, 10, 11, 12, 13, 14, 15, 16, 17, 18, 19, 20, 21, 22, 23, 24, 25, 26, 27, 28, 29, 30, 31, 32, 33, 34, 35, 36, 37, 38, 39, 40, 41, 42, 43, 44, 45, 46, 47, 48, 49, 50, 51, 52, 53, 54, 55, 56, 57, 58, 59, 60, 61] (by decide +kernel) (by decide +kernel)
set_option maxRecDepth 20000 in
theorem gX11_answersTo_X11_chimesWith : GoodIn wsX11_answersTo (wsV RX11 177 RX11 yX11_chimesWith wsX11_chimesWith) := goodIn_app (goodIn_of _ (by decide +kernel)) ggX11_answersTo_X11_chimesWith
theorem dX11_answersTo_0 : decode cX11_answersTo 0 = .ok (.aload_n 0, 1) := by decide +kernel
theorem dX11_answersTo_1 : decode cX11_answersTo 1 = .ok (.iload_n 1, 1) := by decide +kernel
theorem dX11_answersTo_2 : decode cX11_answersTo 2 = .ok (.iload_n 2, 1) := by decide +kernel
theorem dX11_answersTo_3 : decode cX11_answersTo 3 = .ok (.invokevirtual 177, 3) := by decide +kernel
theorem dX11_answersTo_6 : decode cX11_answersTo 6 = .ok (.aload_n 0, 1) := by decide +kernel
theorem dX11_answersTo_7 : decode cX11_answersTo 7 = .ok (.getfield 13, 3) := by decide +kernel
theorem dX11_answersTo_10 : decode cX11_answersTo 10 = .ok (.iconst 2, 1) := by decide +kernel
theorem dX11_answersTo_11 : decode cX11_answersTo 11 = .ok (.iaload, 1) := by decide +kernel
theorem dX11_answersTo_12 : decode cX11_answersTo 12 = .ok (.iconst (-1), 1) := by decide +kernel
theorem dX11_answersTo_13 : decode cX11_answersTo 13 = .ok (.ixor, 1) := by decide +kernel
theorem dX11_answersTo_14 : decode cX11_answersTo 14 = .ok (.iand, 1) := by decide +kernel
theorem dX11_answersTo_15 : decode cX11_answersTo 15 = .ok (.ireturn, 1) := by decide +kernel
set_option maxRecDepth 20000 in
theorem ggX11_meaningsOf_X11_has : GoodIn wsX11_meaningsOf wsX11_has := goodIn_r _ [5] (by decide +kernel) (by decide +kernel)
set_option maxRecDepth 20000 in
theorem gX11_meaningsOf_X11_has : GoodIn wsX11_meaningsOf (va_wsS RX11 155 yX11_has wsX11_has) := goodIn_app (goodIn_of _ (by decide +kernel)) ggX11_meaningsOf_X11_has
set_option maxRecDepth 20000 in
theorem ggX11_meaningsOf_X11_meaning : GoodIn wsX11_meaningsOf wsX11_meaning := goodIn_r _ [9, 1, 10, 11, 12, 13, 14, 15, 16, 17, 18, 19, 20, 21, 22, 23, 24, 25, 26, 27, 28, 29] (by decide +kernel) (by decide +kernel)
set_option maxRecDepth 20000 in
theorem gX11_meaningsOf_X11_meaning : GoodIn wsX11_meaningsOf (wsV RX11 164 RX11 yX11_meaning wsX11_meaning) := goodIn_app (goodIn_of _ (by decide +kernel)) ggX11_meaningsOf_X11_meaning
theorem dX11_meaningsOf_0 : decode cX11_meaningsOf 0 = .ok (.iconst 0, 1) := by decide +kernel
theorem dX11_meaningsOf_1 : decode cX11_meaningsOf 1 = .ok (.istore_n 2, 1) := by decide +kernel
theorem dX11_meaningsOf_2 : decode cX11_meaningsOf 2 = .ok (.iconst 0, 1) := by decide +kernel
theorem dX11_meaningsOf_3 : decode cX11_meaningsOf 3 = .ok (.istore_n 3, 1) := by decide +kernel
theorem dX11_meaningsOf_4 : decode cX11_meaningsOf 4 = .ok (.iload_n 3, 1) := by decide +kernel
theorem dX11_meaningsOf_5 : decode cX11_meaningsOf 5 = .ok (.aload_n 0, 1) := by decide +kernel
theorem dX11_meaningsOf_6 : decode cX11_meaningsOf 6 = .ok (.getfield 13, 3) := by decide +kernel
theorem dX11_meaningsOf_9 : decode cX11_meaningsOf 9 = .ok (.iconst 0, 1) := by decide +kernel
theorem dX11_meaningsOf_10 : decode cX11_meaningsOf 10 = .ok (.iaload, 1) := by decide +kernel
theorem dX11_meaningsOf_11 : decode cX11_meaningsOf 11 = .ok (.if_icmp .ge 31, 3) := by decide +kernel
theorem dX11_meaningsOf_14 : decode cX11_meaningsOf 14 = .ok (.iload_n 2, 1) := by decide +kernel
theorem dX11_meaningsOf_15 : decode cX11_meaningsOf 15 = .ok (.iload_n 1, 1) := by decide +kernel
theorem dX11_meaningsOf_16 : decode cX11_meaningsOf 16 = .ok (.iload_n 3, 1) := by decide +kernel
theorem dX11_meaningsOf_17 : decode cX11_meaningsOf 17 = .ok (.invokestatic 155, 3) := by decide +kernel
theorem dX11_meaningsOf_20 : decode cX11_meaningsOf 20 = .ok (.ifCond .eq 13, 3) := by decide +kernel
theorem dX11_meaningsOf_23 : decode cX11_meaningsOf 23 = .ok (.iconst 1, 1) := by decide +kernel
theorem dX11_meaningsOf_24 : decode cX11_meaningsOf 24 = .ok (.aload_n 0, 1) := by decide +kernel
theorem dX11_meaningsOf_25 : decode cX11_meaningsOf 25 = .ok (.iload_n 3, 1) := by decide +kernel
theorem dX11_meaningsOf_26 : decode cX11_meaningsOf 26 = .ok (.invokevirtual 164, 3) := by decide +kernel
theorem dX11_meaningsOf_29 : decode cX11_meaningsOf 29 = .ok (.ishl, 1) := by decide +kernel
theorem dX11_meaningsOf_30 : decode cX11_meaningsOf 30 = .ok (.goto 4, 3) := by decide +kernel
theorem dX11_meaningsOf_33 : decode cX11_meaningsOf 33 = .ok (.iconst 0, 1) := by decide +kernel
theorem dX11_meaningsOf_34 : decode cX11_meaningsOf 34 = .ok (.ior, 1) := by decide +kernel
theorem dX11_meaningsOf_35 : decode cX11_meaningsOf 35 = .ok (.istore_n 2, 1) := by decide +kernel
theorem dX11_meaningsOf_36 : decode cX11_meaningsOf 36 = .ok (.iinc 3 1, 3) := by decide +kernel
theorem dX11_meaningsOf_39 : decode cX11_meaningsOf 39 = .ok (.goto (-35), 3) := by decide +kernel
theorem dX11_meaningsOf_42 : decode cX11_meaningsOf 42 = .ok (.iload_n 2, 1) := by decide +kernel
theorem dX11_meaningsOf_43 : decode cX11_meaningsOf 43 = .ok (.ireturn, 1) := by decide +kernel
set_option maxRecDepth 20000 in
theorem ggX11_canSay_X11_answersTo : GoodIn wsX11_canSay wsX11_answersTo := goodIn_r _ [5, 6, 7, 8, 9, 4, 10, 11, 12, 13, 14, 15, 16, 17, 18, 19, 20, 21, 22, 23, 24, 25, 26, 27, 28, 29, 30, 31, 32, 33, 34, 35, 36, 37, 38, 39, 40, 41, 42, 43, 44, 45, 50, 51, 52, 53, 54, 55, 56, 57, 58, 59, 60, 61, 62, 63, 64, 65, 66, 67, 68, 69] (by decide +kernel) (by decide +kernel)
set_option maxRecDepth 20000 in
theorem gX11_canSay_X11_answersTo : GoodIn wsX11_canSay (wsV RX11 180 RX11 yX11_answersTo wsX11_answersTo) := goodIn_app (goodIn_of _ (by decide +kernel)) ggX11_canSay_X11_answersTo
set_option maxRecDepth 20000 in
theorem ggX11_canSay_X11_meaningsOf : GoodIn wsX11_canSay wsX11_meaningsOf := goodIn_r _ [49, 6, 35, 36, 4, 37, 42, 43, 44, 45, 50, 51, 52, 53, 54, 55, 56, 57, 58, 59, 60, 61, 62, 63, 64, 65, 66, 67, 68, 69] (by decide +kernel) (by decide +kernel)
set_option maxRecDepth 20000 in
theorem gX11_canSay_X11_meaningsOf : GoodIn wsX11_canSay (wsV RX11 183 RX11 yX11_meaningsOf wsX11_meaningsOf) := goodIn_app (goodIn_of _ (by decide +kernel)) ggX11_canSay_X11_meaningsOf
theorem dX11_canSay_0 : decode cX11_canSay 0 = .ok (.aload_n 0, 1) := by decide +kernel
theorem dX11_canSay_1 : decode cX11_canSay 1 = .ok (.aload_n 0, 1) := by decide +kernel
theorem dX11_canSay_2 : decode cX11_canSay 2 = .ok (.iload_n 1, 1) := by decide +kernel
theorem dX11_canSay_3 : decode cX11_canSay 3 = .ok (.iload_n 2, 1) := by decide +kernel
theorem dX11_canSay_4 : decode cX11_canSay 4 = .ok (.invokevirtual 180, 3) := by decide +kernel
theorem dX11_canSay_7 : decode cX11_canSay 7 = .ok (.invokevirtual 183, 3) := by decide +kernel
theorem dX11_canSay_10 : decode cX11_canSay 10 = .ok (.ireturn, 1) := by decide +kernel
set_option maxRecDepth 20000 in
theorem ggX11_ask_X11_noPerson : GoodIn wsX11_ask wsX11_noPerson := goodIn_r _ [7, 2, 8, 9, 6, 10, 71, 72, 73, 74, 75, 76, 77, 78, 79, 80, 81, 82, 83, 84, 85, 86, 87, 88, 89, 90] (by decide +kernel) (by decide +kernel)
set_option maxRecDepth 20000 in
theorem gX11_ask_X11_noPerson : GoodIn wsX11_ask (wsV RX11 186 RX11 yX11_noPerson wsX11_noPerson) := goodIn_app (goodIn_of _ (by decide +kernel)) ggX11_ask_X11_noPerson
set_option maxRecDepth 20000 in
theorem ggX11_ask_X11_noWord : GoodIn wsX11_ask wsX11_noWord := goodIn_r _ [14, 2, 8, 9, 6, 10, 71, 72, 73, 74, 75, 76, 77, 78, 79, 80, 81, 82, 83, 84, 85, 86, 87, 88, 89, 90] (by decide +kernel) (by decide +kernel)
set_option maxRecDepth 20000 in
theorem gX11_ask_X11_noWord : GoodIn wsX11_ask (wsV RX11 189 RX11 yX11_noWord wsX11_noWord) := goodIn_app (goodIn_of _ (by decide +kernel)) ggX11_ask_X11_noWord
set_option maxRecDepth 20000 in
theorem ggX11_ask_X11_bad : GoodIn wsX11_ask wsX11_bad := goodIn_r _ [18, 19, 20, 21, 6, 22, 23, 71, 72, 73, 74, 75, 76, 77, 78, 79, 80, 81, 82, 83, 84, 85, 86, 87, 88, 89, 90] (by decide +kernel) (by decide +kernel)
set_option maxRecDepth 20000 in
theorem gX11_ask_X11_bad : GoodIn wsX11_ask (wsV RX11 61 RX11 yX11_bad wsX11_bad) := goodIn_app (goodIn_of _ (by decide +kernel)) ggX11_ask_X11_bad
set_option maxRecDepth 20000 in
theorem ggX11_ask_X11_answersTo : GoodIn wsX11_ask wsX11_answersTo := goodIn_r _ [27, 2, 28, 29, 30, 6, 31, 32, 33, 34, 35, 36, 37, 38, 39, 40, 41, 42, 43, 44, 45, 46, 47, 48, 49, 50, 51, 52, 53, 54, 55, 56, 57, 58, 59, 60, 61, 62, 63, 64, 65, 66, 71, 72, 73, 74, 75, 76, 77, 78, 79, 80, 81, 82, 83, 84, 85, 86, 87, 88, 89, 90] (by decide +kernel) (by decide +kernel)
set_option maxRecDepth 20000 in
theorem gX11_ask_X11_answersTo : GoodIn wsX11_ask (wsV RX11 180 RX11 yX11_answersTo wsX11_answersTo) := goodIn_app (goodIn_of _ (by decide +kernel)) ggX11_ask_X11_answersTo
set_option maxRecDepth 20000 in
theorem ggX11_ask_X11_has : GoodIn wsX11_ask wsX11_has := goodIn_r _ [58] (by decide +kernel) (by decide +kernel)
set_option maxRecDepth 20000 in
theorem gX11_ask_X11_has : GoodIn wsX11_ask (va_wsS RX11 155 yX11_has wsX11_has) := goodIn_app (goodIn_of _ (by decide +kernel)) ggX11_ask_X11_has
set_option maxRecDepth 20000 in
theorem ggX11_ask_X11_no : GoodIn wsX11_ask wsX11_no := goodIn_r _ [70, 19, 20, 21, 6, 22, 23, 71, 72, 73, 74, 75, 76, 77, 78, 79, 80, 81, 82, 83, 84, 85, 86, 87, 88, 89, 90] (by decide +kernel) (by decide +kernel)
set_option maxRecDepth 20000 in
theorem gX11_ask_X11_no : GoodIn wsX11_ask (wsV RX11 192 RX11 yX11_no wsX11_no) := goodIn_app (goodIn_of _ (by decide +kernel)) ggX11_ask_X11_no
set_option maxRecDepth 20000 in
theorem ggX11_ask_X11_meaning : GoodIn wsX11_ask wsX11_meaning := goodIn_r _ [66, 2, 71, 72, 73, 74, 75, 76, 77, 78, 79, 80, 81, 82, 83, 84, 85, 86, 87, 88, 89, 90] (by decide +kernel) (by decide +kernel)
set_option maxRecDepth 20000 in
theorem gX11_ask_X11_meaning : GoodIn wsX11_ask (wsV RX11 164 RX11 yX11_meaning wsX11_meaning) := goodIn_app (goodIn_of _ (by decide +kernel)) ggX11_ask_X11_meaning
theorem dX11_ask_0 : decode cX11_ask 0 = .ok (.aload_n 0, 1) := by decide +kernel
theorem dX11_ask_1 : decode cX11_ask 1 = .ok (.iconst 0, 1) := by decide +kernel
theorem dX11_ask_2 : decode cX11_ask 2 = .ok (.putfield 39, 3) := by decide +kernel
theorem dX11_ask_5 : decode cX11_ask 5 = .ok (.aload_n 0, 1) := by decide +kernel
theorem dX11_ask_6 : decode cX11_ask 6 = .ok (.iload_n 1, 1) := by decide +kernel
theorem dX11_ask_7 : decode cX11_ask 7 = .ok (.invokevirtual 186, 3) := by decide +kernel
theorem dX11_ask_10 : decode cX11_ask 10 = .ok (.ifCond .ne 19, 3) := by decide +kernel
theorem dX11_ask_13 : decode cX11_ask 13 = .ok (.aload_n 0, 1) := by decide +kernel
theorem dX11_ask_14 : decode cX11_ask 14 = .ok (.iload_n 2, 1) := by decide +kernel
theorem dX11_ask_15 : decode cX11_ask 15 = .ok (.invokevirtual 189, 3) := by decide +kernel
theorem dX11_ask_18 : decode cX11_ask 18 = .ok (.ifCond .ne 11, 3) := by decide +kernel
theorem dX11_ask_21 : decode cX11_ask 21 = .ok (.aload_n 0, 1) := by decide +kernel
theorem dX11_ask_22 : decode cX11_ask 22 = .ok (.iload_n 3, 1) := by decide +kernel
theorem dX11_ask_23 : decode cX11_ask 23 = .ok (.invokevirtual 189, 3) := by decide +kernel
theorem dX11_ask_26 : decode cX11_ask 26 = .ok (.ifCond .eq 8, 3) := by decide +kernel
theorem dX11_ask_29 : decode cX11_ask 29 = .ok (.aload_n 0, 1) := by decide +kernel
theorem dX11_ask_30 : decode cX11_ask 30 = .ok (.invokevirtual 61, 3) := by decide +kernel
theorem dX11_ask_33 : decode cX11_ask 33 = .ok (.ireturn, 1) := by decide +kernel
theorem dX11_ask_34 : decode cX11_ask 34 = .ok (.aload_n 0, 1) := by decide +kernel
theorem dX11_ask_35 : decode cX11_ask 35 = .ok (.iload_n 1, 1) := by decide +kernel
theorem dX11_ask_36 : decode cX11_ask 36 = .ok (.iload_n 2, 1) := by decide +kernel
theorem dX11_ask_37 : decode cX11_ask 37 = .ok (.invokevirtual 180, 3) := by decide +kernel
theorem dX11_ask_40 : decode cX11_ask 40 = .ok (.iload_n 3, 1) := by decide +kernel
theorem dX11_ask_41 : decode cX11_ask 41 = .ok (.invokestatic 155, 3) := by decide +kernel
theorem dX11_ask_44 : decode cX11_ask 44 = .ok (.ifCond .ne 8, 3) := by decide +kernel
theorem dX11_ask_47 : decode cX11_ask 47 = .ok (.aload_n 0, 1) := by decide +kernel
theorem dX11_ask_48 : decode cX11_ask 48 = .ok (.invokevirtual 192, 3) := by decide +kernel
theorem dX11_ask_51 : decode cX11_ask 51 = .ok (.ireturn, 1) := by decide +kernel
theorem dX11_ask_52 : decode cX11_ask 52 = .ok (.aload_n 0, 1) := by decide +kernel
theorem dX11_ask_53 : decode cX11_ask 53 = .ok (.getfield 13, 3) := by decide +kernel
theorem dX11_ask_56 : decode cX11_ask 56 = .ok (.iconst 4, 1) := by decide +kernel
theorem dX11_ask_57 : decode cX11_ask 57 = .ok (.iaload, 1) := by decide +kernel
theorem dX11_ask_58 : decode cX11_ask 58 = .ok (.bipush 8, 2) := by decide +kernel
theorem dX11_ask_60 : decode cX11_ask 60 = .ok (.if_icmp .ne 51, 3) := by decide +kernel
theorem dX11_ask_63 : decode cX11_ask 63 = .ok (.iconst 0, 1) := by decide +kernel
theorem dX11_ask_64 : decode cX11_ask 64 = .ok (.istore 4, 2) := by decide +kernel
theorem dX11_ask_66 : decode cX11_ask 66 = .ok (.iload 4, 2) := by decide +kernel
theorem dX11_ask_68 : decode cX11_ask 68 = .ok (.bipush 7, 2) := by decide +kernel
theorem dX11_ask_70 : decode cX11_ask 70 = .ok (.if_icmp .ge 31, 3) := by decide +kernel
theorem dX11_ask_73 : decode cX11_ask 73 = .ok (.aload_n 0, 1) := by decide +kernel
theorem dX11_ask_74 : decode cX11_ask 74 = .ok (.getfield 13, 3) := by decide +kernel
theorem dX11_ask_77 : decode cX11_ask 77 = .ok (.bipush 65, 2) := by decide +kernel
theorem dX11_ask_79 : decode cX11_ask 79 = .ok (.iload 4, 2) := by decide +kernel
theorem dX11_ask_81 : decode cX11_ask 81 = .ok (.iadd, 1) := by decide +kernel
