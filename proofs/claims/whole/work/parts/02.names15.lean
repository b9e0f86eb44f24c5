theorem dX11_ask_82 : decode cX11_ask 82 = .ok (.aload_n 0, 1) := by decide +kernel
theorem dX11_ask_83 : decode cX11_ask 83 = .ok (.getfield 13, 3) := by decide +kernel
theorem dX11_ask_86 : decode cX11_ask 86 = .ok (.bipush 65, 2) := by decide +kernel
theorem dX11_ask_88 : decode cX11_ask 88 = .ok (.iload 4, 2) := by decide +kernel
theorem dX11_ask_90 : decode cX11_ask 90 = .ok (.iadd, 1) := by decide +kernel
theorem dX11_ask_91 : decode cX11_ask 91 = .ok (.iconst 1, 1) := by decide +kernel
theorem dX11_ask_92 : decode cX11_ask 92 = .ok (.iadd, 1) := by decide +kernel
theorem dX11_ask_93 : decode cX11_ask 93 = .ok (.iaload, 1) := by decide +kernel
theorem dX11_ask_94 : decode cX11_ask 94 = .ok (.iastore, 1) := by decide +kernel
theorem dX11_ask_95 : decode cX11_ask 95 = .ok (.iinc 4 1, 3) := by decide +kernel
theorem dX11_ask_98 : decode cX11_ask 98 = .ok (.goto (-32), 3) := by decide +kernel
theorem dX11_ask_101 : decode cX11_ask 101 = .ok (.aload_n 0, 1) := by decide +kernel
theorem dX11_ask_102 : decode cX11_ask 102 = .ok (.getfield 13, 3) := by decide +kernel
theorem dX11_ask_105 : decode cX11_ask 105 = .ok (.iconst 4, 1) := by decide +kernel
theorem dX11_ask_106 : decode cX11_ask 106 = .ok (.dup2, 1) := by decide +kernel
theorem dX11_ask_107 : decode cX11_ask 107 = .ok (.iaload, 1) := by decide +kernel
theorem dX11_ask_108 : decode cX11_ask 108 = .ok (.iconst 1, 1) := by decide +kernel
theorem dX11_ask_109 : decode cX11_ask 109 = .ok (.isub, 1) := by decide +kernel
theorem dX11_ask_110 : decode cX11_ask 110 = .ok (.iastore, 1) := by decide +kernel
theorem dX11_ask_111 : decode cX11_ask 111 = .ok (.aload_n 0, 1) := by decide +kernel
theorem dX11_ask_112 : decode cX11_ask 112 = .ok (.getfield 13, 3) := by decide +kernel
theorem dX11_ask_115 : decode cX11_ask 115 = .ok (.bipush 65, 2) := by decide +kernel
theorem dX11_ask_117 : decode cX11_ask 117 = .ok (.aload_n 0, 1) := by decide +kernel
theorem dX11_ask_118 : decode cX11_ask 118 = .ok (.getfield 13, 3) := by decide +kernel
theorem dX11_ask_121 : decode cX11_ask 121 = .ok (.iconst 4, 1) := by decide +kernel
theorem dX11_ask_122 : decode cX11_ask 122 = .ok (.iaload, 1) := by decide +kernel
theorem dX11_ask_123 : decode cX11_ask 123 = .ok (.iadd, 1) := by decide +kernel
theorem dX11_ask_124 : decode cX11_ask 124 = .ok (.aload_n 0, 1) := by decide +kernel
theorem dX11_ask_125 : decode cX11_ask 125 = .ok (.getfield 13, 3) := by decide +kernel
theorem dX11_ask_128 : decode cX11_ask 128 = .ok (.iconst 2, 1) := by decide +kernel
theorem dX11_ask_129 : decode cX11_ask 129 = .ok (.iaload, 1) := by decide +kernel
theorem dX11_ask_130 : decode cX11_ask 130 = .ok (.iastore, 1) := by decide +kernel
theorem dX11_ask_131 : decode cX11_ask 131 = .ok (.aload_n 0, 1) := by decide +kernel
theorem dX11_ask_132 : decode cX11_ask 132 = .ok (.getfield 13, 3) := by decide +kernel
theorem dX11_ask_135 : decode cX11_ask 135 = .ok (.iconst 4, 1) := by decide +kernel
theorem dX11_ask_136 : decode cX11_ask 136 = .ok (.dup2, 1) := by decide +kernel
theorem dX11_ask_137 : decode cX11_ask 137 = .ok (.iaload, 1) := by decide +kernel
theorem dX11_ask_138 : decode cX11_ask 138 = .ok (.iconst 1, 1) := by decide +kernel
theorem dX11_ask_139 : decode cX11_ask 139 = .ok (.iadd, 1) := by decide +kernel
theorem dX11_ask_140 : decode cX11_ask 140 = .ok (.iastore, 1) := by decide +kernel
theorem dX11_ask_141 : decode cX11_ask 141 = .ok (.aload_n 0, 1) := by decide +kernel
theorem dX11_ask_142 : decode cX11_ask 142 = .ok (.getfield 13, 3) := by decide +kernel
theorem dX11_ask_145 : decode cX11_ask 145 = .ok (.iconst 2, 1) := by decide +kernel
theorem dX11_ask_146 : decode cX11_ask 146 = .ok (.dup2, 1) := by decide +kernel
theorem dX11_ask_147 : decode cX11_ask 147 = .ok (.iaload, 1) := by decide +kernel
theorem dX11_ask_148 : decode cX11_ask 148 = .ok (.iconst 1, 1) := by decide +kernel
theorem dX11_ask_149 : decode cX11_ask 149 = .ok (.iload_n 3, 1) := by decide +kernel
theorem dX11_ask_150 : decode cX11_ask 150 = .ok (.ishl, 1) := by decide +kernel
theorem dX11_ask_151 : decode cX11_ask 151 = .ok (.ior, 1) := by decide +kernel
theorem dX11_ask_152 : decode cX11_ask 152 = .ok (.iastore, 1) := by decide +kernel
theorem dX11_ask_153 : decode cX11_ask 153 = .ok (.aload_n 0, 1) := by decide +kernel
theorem dX11_ask_154 : decode cX11_ask 154 = .ok (.iload_n 3, 1) := by decide +kernel
theorem dX11_ask_155 : decode cX11_ask 155 = .ok (.invokevirtual 164, 3) := by decide +kernel
theorem dX11_ask_158 : decode cX11_ask 158 = .ok (.ireturn, 1) := by decide +kernel
set_option maxRecDepth 20000 in
theorem ggX11_rest_X11_bits : GoodIn wsX11_rest wsX11_bits := goodIn_r _ [6] (by decide +kernel) (by decide +kernel)
set_option maxRecDepth 20000 in
theorem gX11_rest_X11_bits : GoodIn wsX11_rest (va_wsS RX11 195 yX11_bits wsX11_bits) := goodIn_app (goodIn_of _ (by decide +kernel)) ggX11_rest_X11_bits
theorem dX11_rest_0 : decode cX11_rest 0 = .ok (.aload_n 0, 1) := by decide +kernel
theorem dX11_rest_1 : decode cX11_rest 1 = .ok (.iconst 0, 1) := by decide +kernel
theorem dX11_rest_2 : decode cX11_rest 2 = .ok (.putfield 39, 3) := by decide +kernel
theorem dX11_rest_5 : decode cX11_rest 5 = .ok (.aload_n 0, 1) := by decide +kernel
theorem dX11_rest_6 : decode cX11_rest 6 = .ok (.getfield 13, 3) := by decide +kernel
theorem dX11_rest_9 : decode cX11_rest 9 = .ok (.iconst 2, 1) := by decide +kernel
theorem dX11_rest_10 : decode cX11_rest 10 = .ok (.iaload, 1) := by decide +kernel
theorem dX11_rest_11 : decode cX11_rest 11 = .ok (.invokestatic 195, 3) := by decide +kernel
theorem dX11_rest_14 : decode cX11_rest 14 = .ok (.istore_n 1, 1) := by decide +kernel
theorem dX11_rest_15 : decode cX11_rest 15 = .ok (.aload_n 0, 1) := by decide +kernel
theorem dX11_rest_16 : decode cX11_rest 16 = .ok (.getfield 13, 3) := by decide +kernel
theorem dX11_rest_19 : decode cX11_rest 19 = .ok (.iconst 2, 1) := by decide +kernel
theorem dX11_rest_20 : decode cX11_rest 20 = .ok (.iconst 0, 1) := by decide +kernel
theorem dX11_rest_21 : decode cX11_rest 21 = .ok (.iastore, 1) := by decide +kernel
theorem dX11_rest_22 : decode cX11_rest 22 = .ok (.aload_n 0, 1) := by decide +kernel
theorem dX11_rest_23 : decode cX11_rest 23 = .ok (.getfield 13, 3) := by decide +kernel
theorem dX11_rest_26 : decode cX11_rest 26 = .ok (.iconst 4, 1) := by decide +kernel
theorem dX11_rest_27 : decode cX11_rest 27 = .ok (.iconst 0, 1) := by decide +kernel
theorem dX11_rest_28 : decode cX11_rest 28 = .ok (.iastore, 1) := by decide +kernel
theorem dX11_rest_29 : decode cX11_rest 29 = .ok (.iload_n 1, 1) := by decide +kernel
theorem dX11_rest_30 : decode cX11_rest 30 = .ok (.ireturn, 1) := by decide +kernel
set_option maxRecDepth 20000 in
theorem ggX11_undo_X11_no : GoodIn wsX11_undo wsX11_no := goodIn_r _ [7, 8, 9, 10, 6, 11, 12, 16, 17, 18, 19, 20, 21, 22, 23, 24, 25, 26, 27, 28, 29, 30, 31, 32, 33, 34, 35] (by decide +kernel) (by decide +kernel)
set_option maxRecDepth 20000 in
theorem gX11_undo_X11_no : GoodIn wsX11_undo (wsV RX11 192 RX11 yX11_no wsX11_no) := goodIn_app (goodIn_of _ (by decide +kernel)) ggX11_undo_X11_no
set_option maxRecDepth 20000 in
theorem ggX11_undo_X11_bits : GoodIn wsX11_undo wsX11_bits := goodIn_r _ [15] (by decide +kernel) (by decide +kernel)
set_option maxRecDepth 20000 in
theorem gX11_undo_X11_bits : GoodIn wsX11_undo (va_wsS RX11 195 yX11_bits wsX11_bits) := goodIn_app (goodIn_of _ (by decide +kernel)) ggX11_undo_X11_bits
theorem dX11_undo_0 : decode cX11_undo 0 = .ok (.aload_n 0, 1) := by decide +kernel
theorem dX11_undo_1 : decode cX11_undo 1 = .ok (.iconst 0, 1) := by decide +kernel
theorem dX11_undo_2 : decode cX11_undo 2 = .ok (.putfield 39, 3) := by decide +kernel
theorem dX11_undo_5 : decode cX11_undo 5 = .ok (.aload_n 0, 1) := by decide +kernel
theorem dX11_undo_6 : decode cX11_undo 6 = .ok (.getfield 13, 3) := by decide +kernel
theorem dX11_undo_9 : decode cX11_undo 9 = .ok (.iconst 4, 1) := by decide +kernel
theorem dX11_undo_10 : decode cX11_undo 10 = .ok (.iaload, 1) := by decide +kernel
theorem dX11_undo_11 : decode cX11_undo 11 = .ok (.ifCond .ne 8, 3) := by decide +kernel
theorem dX11_undo_14 : decode cX11_undo 14 = .ok (.aload_n 0, 1) := by decide +kernel
theorem dX11_undo_15 : decode cX11_undo 15 = .ok (.invokevirtual 192, 3) := by decide +kernel
theorem dX11_undo_18 : decode cX11_undo 18 = .ok (.ireturn, 1) := by decide +kernel
theorem dX11_undo_19 : decode cX11_undo 19 = .ok (.aload_n 0, 1) := by decide +kernel
theorem dX11_undo_20 : decode cX11_undo 20 = .ok (.getfield 13, 3) := by decide +kernel
theorem dX11_undo_23 : decode cX11_undo 23 = .ok (.iconst 4, 1) := by decide +kernel
theorem dX11_undo_24 : decode cX11_undo 24 = .ok (.dup2, 1) := by decide +kernel
theorem dX11_undo_25 : decode cX11_undo 25 = .ok (.iaload, 1) := by decide +kernel
theorem dX11_undo_26 : decode cX11_undo 26 = .ok (.iconst 1, 1) := by decide +kernel
theorem dX11_undo_27 : decode cX11_undo 27 = .ok (.isub, 1) := by decide +kernel
theorem dX11_undo_28 : decode cX11_undo 28 = .ok (.iastore, 1) := by decide +kernel
theorem dX11_undo_29 : decode cX11_undo 29 = .ok (.aload_n 0, 1) := by decide +kernel
theorem dX11_undo_30 : decode cX11_undo 30 = .ok (.getfield 13, 3) := by decide +kernel
theorem dX11_undo_33 : decode cX11_undo 33 = .ok (.iconst 2, 1) := by decide +kernel
theorem dX11_undo_34 : decode cX11_undo 34 = .ok (.aload_n 0, 1) := by decide +kernel
theorem dX11_undo_35 : decode cX11_undo 35 = .ok (.getfield 13, 3) := by decide +kernel
theorem dX11_undo_38 : decode cX11_undo 38 = .ok (.bipush 65, 2) := by decide +kernel
theorem dX11_undo_40 : decode cX11_undo 40 = .ok (.aload_n 0, 1) := by decide +kernel
theorem dX11_undo_41 : decode cX11_undo 41 = .ok (.getfield 13, 3) := by decide +kernel
theorem dX11_undo_44 : decode cX11_undo 44 = .ok (.iconst 4, 1) := by decide +kernel
theorem dX11_undo_45 : decode cX11_undo 45 = .ok (.iaload, 1) := by decide +kernel
theorem dX11_undo_46 : decode cX11_undo 46 = .ok (.iadd, 1) := by decide +kernel
theorem dX11_undo_47 : decode cX11_undo 47 = .ok (.iaload, 1) := by decide +kernel
theorem dX11_undo_48 : decode cX11_undo 48 = .ok (.iastore, 1) := by decide +kernel
theorem dX11_undo_49 : decode cX11_undo 49 = .ok (.aload_n 0, 1) := by decide +kernel
theorem dX11_undo_50 : decode cX11_undo 50 = .ok (.getfield 13, 3) := by decide +kernel
theorem dX11_undo_53 : decode cX11_undo 53 = .ok (.iconst 2, 1) := by decide +kernel
theorem dX11_undo_54 : decode cX11_undo 54 = .ok (.iaload, 1) := by decide +kernel
theorem dX11_undo_55 : decode cX11_undo 55 = .ok (.invokestatic 195, 3) := by decide +kernel
theorem dX11_undo_58 : decode cX11_undo 58 = .ok (.ireturn, 1) := by decide +kernel
set_option maxRecDepth 20000 in
theorem ggX11_of_X11_noWord : GoodIn wsX11_of wsX11_noWord := goodIn_r _ [8, 3, 9, 10, 7, 11, 21, 22, 23, 24, 25, 26, 27, 28, 29, 30, 31, 32, 33, 34, 35, 36, 37, 38, 39, 40] (by decide +kernel) (by decide +kernel)
set_option maxRecDepth 20000 in
theorem gX11_of_X11_noWord : GoodIn wsX11_of (wsV RX11 189 RX11 yX11_noWord wsX11_noWord) := goodIn_app (goodIn_of _ (by decide +kernel)) ggX11_of_X11_noWord
set_option maxRecDepth 20000 in
theorem ggX11_of_X11_in : GoodIn wsX11_of wsX11_in := goodIn_r _ [11] (by decide +kernel) (by decide +kernel)
set_option maxRecDepth 20000 in
theorem gX11_of_X11_in : GoodIn wsX11_of (va_wsS RX11 47 yX11_in wsX11_in) := goodIn_app (goodIn_of _ (by decide +kernel)) ggX11_of_X11_in
set_option maxRecDepth 20000 in
theorem ggX11_of_X11_bad : GoodIn wsX11_of wsX11_bad := goodIn_r _ [15, 16, 17, 18, 7, 19, 20, 21, 22, 23, 24, 25, 26, 27, 28, 29, 30, 31, 32, 33, 34, 35, 36, 37, 38, 39, 40] (by decide +kernel) (by decide +kernel)
set_option maxRecDepth 20000 in
theorem gX11_of_X11_bad : GoodIn wsX11_of (wsV RX11 61 RX11 yX11_bad wsX11_bad) := goodIn_app (goodIn_of _ (by decide +kernel)) ggX11_of_X11_bad
theorem dX11_of_0 : decode cX11_of 0 = .ok (.aload_n 0, 1) := by decide +kernel
theorem dX11_of_1 : decode cX11_of 1 = .ok (.iconst 0, 1) := by decide +kernel
theorem dX11_of_2 : decode cX11_of 2 = .ok (.putfield 39, 3) := by decide +kernel
theorem dX11_of_5 : decode cX11_of 5 = .ok (.aload_n 0, 1) := by decide +kernel
theorem dX11_of_6 : decode cX11_of 6 = .ok (.iload_n 1, 1) := by decide +kernel
theorem dX11_of_7 : decode cX11_of 7 = .ok (.invokevirtual 189, 3) := by decide +kernel
theorem dX11_of_10 : decode cX11_of 10 = .ok (.ifCond .ne 15, 3) := by decide +kernel
theorem dX11_of_13 : decode cX11_of 13 = .ok (.iload_n 2, 1) := by decide +kernel
theorem dX11_of_14 : decode cX11_of 14 = .ok (.i2l, 1) := by decide +kernel
theorem dX11_of_15 : decode cX11_of 15 = .ok (.lconst 0, 1) := by decide +kernel
theorem dX11_of_16 : decode cX11_of 16 = .ok (.ldc2_w 198, 3) := by decide +kernel
theorem dX11_of_19 : decode cX11_of 19 = .ok (.invokestatic 47, 3) := by decide +kernel
theorem dX11_of_22 : decode cX11_of 22 = .ok (.ifCond .ne 8, 3) := by decide +kernel
theorem dX11_of_25 : decode cX11_of 25 = .ok (.aload_n 0, 1) := by decide +kernel
theorem dX11_of_26 : decode cX11_of 26 = .ok (.invokevirtual 61, 3) := by decide +kernel
theorem dX11_of_29 : decode cX11_of 29 = .ok (.ireturn, 1) := by decide +kernel
theorem dX11_of_30 : decode cX11_of 30 = .ok (.iload_n 2, 1) := by decide +kernel
theorem dX11_of_31 : decode cX11_of 31 = .ok (.iconst 3, 1) := by decide +kernel
theorem dX11_of_32 : decode cX11_of 32 = .ok (.if_icmp .ne 16, 3) := by decide +kernel
theorem dX11_of_35 : decode cX11_of 35 = .ok (.aload_n 0, 1) := by decide +kernel
theorem dX11_of_36 : decode cX11_of 36 = .ok (.getfield 13, 3) := by decide +kernel
theorem dX11_of_39 : decode cX11_of 39 = .ok (.iconst 2, 1) := by decide +kernel
theorem dX11_of_40 : decode cX11_of 40 = .ok (.iaload, 1) := by decide +kernel
theorem dX11_of_41 : decode cX11_of 41 = .ok (.iload_n 1, 1) := by decide +kernel
theorem dX11_of_42 : decode cX11_of 42 = .ok (.ishr, 1) := by decide +kernel
theorem dX11_of_43 : decode cX11_of 43 = .ok (.iconst 1, 1) := by decide +kernel
theorem dX11_of_44 : decode cX11_of 44 = .ok (.iand, 1) := by decide +kernel
theorem dX11_of_45 : decode cX11_of 45 = .ok (.goto 15, 3) := by decide +kernel
theorem dX11_of_48 : decode cX11_of 48 = .ok (.aload_n 0, 1) := by decide +kernel
theorem dX11_of_49 : decode cX11_of 49 = .ok (.getfield 13, 3) := by decide +kernel
theorem dX11_of_52 : decode cX11_of 52 = .ok (.iconst 5, 1) := by decide +kernel
theorem dX11_of_53 : decode cX11_of 53 = .ok (.iconst 3, 1) := by decide +kernel
theorem dX11_of_54 : decode cX11_of 54 = .ok (.iload_n 1, 1) := by decide +kernel
theorem dX11_of_55 : decode cX11_of 55 = .ok (.imul, 1) := by decide +kernel
theorem dX11_of_56 : decode cX11_of 56 = .ok (.iadd, 1) := by decide +kernel
theorem dX11_of_57 : decode cX11_of 57 = .ok (.iload_n 2, 1) := by decide +kernel
theorem dX11_of_58 : decode cX11_of 58 = .ok (.iadd, 1) := by decide +kernel
theorem dX11_of_59 : decode cX11_of 59 = .ok (.iaload, 1) := by decide +kernel
theorem dX11_of_60 : decode cX11_of 60 = .ok (.ireturn, 1) := by decide +kernel
set_option maxRecDepth 20000 in
theorem ggX11_about_X11_noPerson : GoodIn wsX11_about wsX11_noPerson := goodIn_r _ [7, 2, 8, 9, 6, 10, 20, 21, 22, 23, 24, 25, 26, 27, 28, 29, 30, 31, 32, 33, 34, 35, 36, 37, 38, 39] (by decide +kernel) (by decide +kernel)
set_option maxRecDepth 20000 in
theorem gX11_about_X11_noPerson : GoodIn wsX11_about (wsV RX11 186 RX11 yX11_noPerson wsX11_noPerson) := goodIn_app (goodIn_of _ (by decide +kernel)) ggX11_about_X11_noPerson
set_option maxRecDepth 20000 in
theorem ggX11_about_X11_in : GoodIn wsX11_about wsX11_in := goodIn_r _ [10] (by decide +kernel) (by decide +kernel)
set_option maxRecDepth 20000 in
theorem gX11_about_X11_in : GoodIn wsX11_about (va_wsS RX11 47 yX11_in wsX11_in) := goodIn_app (goodIn_of _ (by decide +kernel)) ggX11_about_X11_in
set_option maxRecDepth 20000 in
theorem ggX11_about_X11_bad : GoodIn wsX11_about wsX11_bad := goodIn_r _ [14, 15, 16, 17, 6, 18, 19, 20, 21, 22, 23, 24, 25, 26, 27, 28, 29, 30, 31, 32, 33, 34, 35, 36, 37, 38, 39] (by decide +kernel) (by decide +kernel)
set_option maxRecDepth 20000 in
theorem gX11_about_X11_bad : GoodIn wsX11_about (wsV RX11 61 RX11 yX11_bad wsX11_bad) := goodIn_app (goodIn_of _ (by decide +kernel)) ggX11_about_X11_bad
theorem dX11_about_0 : decode cX11_about 0 = .ok (.aload_n 0, 1) := by decide +kernel
theorem dX11_about_1 : decode cX11_about 1 = .ok (.iconst 0, 1) := by decide +kernel
theorem dX11_about_2 : decode cX11_about 2 = .ok (.putfield 39, 3) := by decide +kernel
theorem dX11_about_5 : decode cX11_about 5 = .ok (.aload_n 0, 1) := by decide +kernel
theorem dX11_about_6 : decode cX11_about 6 = .ok (.iload_n 1, 1) := by decide +kernel
theorem dX11_about_7 : decode cX11_about 7 = .ok (.invokevirtual 186, 3) := by decide +kernel
theorem dX11_about_10 : decode cX11_about 10 = .ok (.ifCond .ne 13, 3) := by decide +kernel
theorem dX11_about_13 : decode cX11_about 13 = .ok (.iload_n 2, 1) := by decide +kernel
theorem dX11_about_14 : decode cX11_about 14 = .ok (.i2l, 1) := by decide +kernel
theorem dX11_about_15 : decode cX11_about 15 = .ok (.lconst 0, 1) := by decide +kernel
theorem dX11_about_16 : decode cX11_about 16 = .ok (.lconst 1, 1) := by decide +kernel
theorem dX11_about_17 : decode cX11_about 17 = .ok (.invokestatic 47, 3) := by decide +kernel
theorem dX11_about_20 : decode cX11_about 20 = .ok (.ifCond .ne 10, 3) := by decide +kernel
theorem dX11_about_23 : decode cX11_about 23 = .ok (.aload_n 0, 1) := by decide +kernel
theorem dX11_about_24 : decode cX11_about 24 = .ok (.invokevirtual 61, 3) := by decide +kernel
theorem dX11_about_27 : decode cX11_about 27 = .ok (.goto 16, 3) := by decide +kernel
theorem dX11_about_30 : decode cX11_about 30 = .ok (.aload_n 0, 1) := by decide +kernel
theorem dX11_about_31 : decode cX11_about 31 = .ok (.getfield 13, 3) := by decide +kernel
theorem dX11_about_34 : decode cX11_about 34 = .ok (.bipush 35, 2) := by decide +kernel
theorem dX11_about_36 : decode cX11_about 36 = .ok (.iconst 2, 1) := by decide +kernel
theorem dX11_about_37 : decode cX11_about 37 = .ok (.iload_n 1, 1) := by decide +kernel
theorem dX11_about_38 : decode cX11_about 38 = .ok (.imul, 1) := by decide +kernel
theorem dX11_about_39 : decode cX11_about 39 = .ok (.iadd, 1) := by decide +kernel
theorem dX11_about_40 : decode cX11_about 40 = .ok (.iload_n 2, 1) := by decide +kernel
theorem dX11_about_41 : decode cX11_about 41 = .ok (.iadd, 1) := by decide +kernel
theorem dX11_about_42 : decode cX11_about 42 = .ok (.iaload, 1) := by decide +kernel
theorem dX11_about_43 : decode cX11_about 43 = .ok (.ireturn, 1) := by decide +kernel
set_option maxRecDepth 20000 in
theorem ggX11_answers_X11_noPerson : GoodIn wsX11_answers wsX11_noPerson := goodIn_r _ [7, 8, 9, 10, 6, 11, 76, 77, 78, 79, 80, 81, 82, 83, 84, 85, 86, 87, 88, 89, 90, 91, 92, 93, 94, 95] (by decide +kernel) (by decide +kernel)
set_option maxRecDepth 20000 in
theorem gX11_answers_X11_noPerson : GoodIn wsX11_answers (wsV RX11 186 RX11 yX11_noPerson wsX11_noPerson) := goodIn_app (goodIn_of _ (by decide +kernel)) ggX11_answers_X11_noPerson
set_option maxRecDepth 20000 in
theorem ggX11_answers_X11_noWord : GoodIn wsX11_answers wsX11_noWord := goodIn_r _ [15, 8, 9, 10, 6, 11, 76, 77, 78, 79, 80, 81, 82, 83, 84, 85, 86, 87, 88, 89, 90, 91, 92, 93, 94, 95] (by decide +kernel) (by decide +kernel)
set_option maxRecDepth 20000 in
theorem gX11_answers_X11_noWord : GoodIn wsX11_answers (wsV RX11 189 RX11 yX11_noWord wsX11_noWord) := goodIn_app (goodIn_of _ (by decide +kernel)) ggX11_answers_X11_noWord
set_option maxRecDepth 20000 in
theorem ggX11_answers_X11_in : GoodIn wsX11_answers wsX11_in := goodIn_r _ [11] (by decide +kernel) (by decide +kernel)
set_option maxRecDepth 20000 in
theorem gX11_answers_X11_in : GoodIn wsX11_answers (va_wsS RX11 47 yX11_in wsX11_in) := goodIn_app (goodIn_of _ (by decide +kernel)) ggX11_answers_X11_in
set_option maxRecDepth 20000 in
theorem ggX11_answers_X11_bad : GoodIn wsX11_answers wsX11_bad := goodIn_r _ [19, 20, 21, 22, 6, 23, 24, 76, 77, 78, 79, 80, 81, 82, 83, 84, 85, 86, 87, 88, 89, 90, 91, 92, 93, 94, 95] (by decide +kernel) (by decide +kernel)
set_option maxRecDepth 20000 in
theorem gX11_answers_X11_bad : GoodIn wsX11_answers (wsV RX11 61 RX11 yX11_bad wsX11_bad) := goodIn_app (goodIn_of _ (by decide +kernel)) ggX11_answers_X11_bad
set_option maxRecDepth 20000 in
theorem ggX11_answers_X11_chimesWith : GoodIn wsX11_answers wsX11_chimesWith := goodIn_r _ [28, 8, 29, 30, 31, 6, 32, 33, 34, 35, 36, 37, 38, 39, 40, 41, 42, 43, 44, 45, 46, 47, 48, 49, 50, 51, 52, 53, 54, 55, 56, 57, 58, 59, 60, 61, 62, 63, 76, 77, 78, 79, 80, 81, 82, 83, 84, 85, 86, 87, 88, 89, 90, 91, 92, 93, 94, 95] (by decide +kernel) (by decide +kernel)
set_option maxRecDepth 20000 in
theorem gX11_answers_X11_chimesWith : GoodIn wsX11_answers (wsV RX11 177 RX11 yX11_chimesWith wsX11_chimesWith) := goodIn_app (goodIn_of _ (by decide +kernel)) ggX11_answers_X11_chimesWith
set_option maxRecDepth 20000 in
theorem ggX11_answers_X11_answersTo : GoodIn wsX11_answers wsX11_answersTo := goodIn_r _ [67, 8, 25, 26, 27, 6, 28, 29, 30, 31, 32, 33, 34, 35, 36, 37, 38, 39, 40, 41, 42, 43, 44, 45, 46, 47, 48, 49, 50, 51, 52, 53, 54, 55, 56, 57, 58, 59, 60, 61, 62, 63, 76, 77, 78, 79, 80, 81, 82, 83, 84, 85, 86, 87, 88, 89, 90, 91, 92, 93, 94, 95] (by decide +kernel) (by decide +kernel)
set_option maxRecDepth 20000 in
theorem gX11_answers_X11_answersTo : GoodIn wsX11_answers (wsV RX11 180 RX11 yX11_answersTo wsX11_answersTo) := goodIn_app (goodIn_of _ (by decide +kernel)) ggX11_answers_X11_answersTo
set_option maxRecDepth 20000 in
theorem ggX11_answers_X11_canSay : GoodIn wsX11_answers wsX11_canSay := goodIn_r _ [71, 64, 65, 66, 6, 67, 8, 25, 26, 27, 28, 29, 30, 31, 32, 33, 34, 35, 36, 37, 38, 39, 40, 41, 42, 43, 44, 45, 46, 47, 48, 49, 50, 51, 52, 53, 54, 55, 56, 57, 58, 59, 60, 61, 62, 63, 72, 73, 74, 75, 76, 77, 78, 79, 80, 81, 82, 83, 84, 85, 86, 87, 88, 89, 90, 91, 92, 93, 94, 95] (by decide +kernel) (by decide +kernel)
set_option maxRecDepth 20000 in
theorem gX11_answers_X11_canSay : GoodIn wsX11_answers (wsV RX11 202 RX11 yX11_canSay wsX11_canSay) := goodIn_app (goodIn_of _ (by decide +kernel)) ggX11_answers_X11_canSay
theorem dX11_answers_0 : decode cX11_answers 0 = .ok (.aload_n 0, 1) := by decide +kernel
theorem dX11_answers_1 : decode cX11_answers 1 = .ok (.iconst 0, 1) := by decide +kernel
theorem dX11_answers_2 : decode cX11_answers 2 = .ok (.putfield 39, 3) := by decide +kernel
theorem dX11_answers_5 : decode cX11_answers 5 = .ok (.aload_n 0, 1) := by decide +kernel
theorem dX11_answers_6 : decode cX11_answers 6 = .ok (.iload_n 1, 1) := by decide +kernel
theorem dX11_answers_7 : decode cX11_answers 7 = .ok (.invokevirtual 186, 3) := by decide +kernel
theorem dX11_answers_10 : decode cX11_answers 10 = .ok (.ifCond .ne 23, 3) := by decide +kernel
theorem dX11_answers_13 : decode cX11_answers 13 = .ok (.aload_n 0, 1) := by decide +kernel
theorem dX11_answers_14 : decode cX11_answers 14 = .ok (.iload_n 2, 1) := by decide +kernel
theorem dX11_answers_15 : decode cX11_answers 15 = .ok (.invokevirtual 189, 3) := by decide +kernel
theorem dX11_answers_18 : decode cX11_answers 18 = .ok (.ifCond .ne 15, 3) := by decide +kernel
theorem dX11_answers_21 : decode cX11_answers 21 = .ok (.iload_n 3, 1) := by decide +kernel
theorem dX11_answers_22 : decode cX11_answers 22 = .ok (.i2l, 1) := by decide +kernel
theorem dX11_answers_23 : decode cX11_answers 23 = .ok (.lconst 0, 1) := by decide +kernel
theorem dX11_answers_24 : decode cX11_answers 24 = .ok (.ldc2_w 200, 3) := by decide +kernel
theorem dX11_answers_27 : decode cX11_answers 27 = .ok (.invokestatic 47, 3) := by decide +kernel
theorem dX11_answers_30 : decode cX11_answers 30 = .ok (.ifCond .ne 8, 3) := by decide +kernel
theorem dX11_answers_33 : decode cX11_answers 33 = .ok (.aload_n 0, 1) := by decide +kernel
theorem dX11_answers_34 : decode cX11_answers 34 = .ok (.invokevirtual 61, 3) := by decide +kernel
theorem dX11_answers_37 : decode cX11_answers 37 = .ok (.ireturn, 1) := by decide +kernel
theorem dX11_answers_38 : decode cX11_answers 38 = .ok (.iload_n 3, 1) := by decide +kernel
theorem dX11_answers_39 : decode cX11_answers 39 = .ok (.ifCond .ne 12, 3) := by decide +kernel
theorem dX11_answers_42 : decode cX11_answers 42 = .ok (.aload_n 0, 1) := by decide +kernel
theorem dX11_answers_43 : decode cX11_answers 43 = .ok (.iload_n 1, 1) := by decide +kernel
theorem dX11_answers_44 : decode cX11_answers 44 = .ok (.iload_n 2, 1) := by decide +kernel
theorem dX11_answers_45 : decode cX11_answers 45 = .ok (.invokevirtual 177, 3) := by decide +kernel
theorem dX11_answers_48 : decode cX11_answers 48 = .ok (.goto 23, 3) := by decide +kernel
theorem dX11_answers_51 : decode cX11_answers 51 = .ok (.iload_n 3, 1) := by decide +kernel
theorem dX11_answers_52 : decode cX11_answers 52 = .ok (.iconst 1, 1) := by decide +kernel
theorem dX11_answers_53 : decode cX11_answers 53 = .ok (.if_icmp .ne 12, 3) := by decide +kernel
theorem dX11_answers_56 : decode cX11_answers 56 = .ok (.aload_n 0, 1) := by decide +kernel
theorem dX11_answers_57 : decode cX11_answers 57 = .ok (.iload_n 1, 1) := by decide +kernel
theorem dX11_answers_58 : decode cX11_answers 58 = .ok (.iload_n 2, 1) := by decide +kernel
theorem dX11_answers_59 : decode cX11_answers 59 = .ok (.invokevirtual 180, 3) := by decide +kernel
theorem dX11_answers_62 : decode cX11_answers 62 = .ok (.goto 9, 3) := by decide +kernel
theorem dX11_answers_65 : decode cX11_answers 65 = .ok (.aload_n 0, 1) := by decide +kernel
theorem dX11_answers_66 : decode cX11_answers 66 = .ok (.iload_n 1, 1) := by decide +kernel
theorem dX11_answers_67 : decode cX11_answers 67 = .ok (.iload_n 2, 1) := by decide +kernel
theorem dX11_answers_68 : decode cX11_answers 68 = .ok (.invokevirtual 202, 3) := by decide +kernel
theorem dX11_answers_71 : decode cX11_answers 71 = .ok (.ireturn, 1) := by decide +kernel
set_option maxRecDepth 20000 in
theorem ggX11_asks_X11_noPerson : GoodIn wsX11_asks wsX11_noPerson := goodIn_r _ [8, 3, 9, 10, 7, 11, 72, 73, 74, 75, 76, 77, 78, 79, 80, 81, 82, 83, 84, 85, 86, 87, 88, 89, 90, 91] (by decide +kernel) (by decide +kernel)
set_option maxRecDepth 20000 in
theorem gX11_asks_X11_noPerson : GoodIn wsX11_asks (wsV RX11 186 RX11 yX11_noPerson wsX11_noPerson) := goodIn_app (goodIn_of _ (by decide +kernel)) ggX11_asks_X11_noPerson
set_option maxRecDepth 20000 in
theorem ggX11_asks_X11_in : GoodIn wsX11_asks wsX11_in := goodIn_r _ [11] (by decide +kernel) (by decide +kernel)
set_option maxRecDepth 20000 in
theorem gX11_asks_X11_in : GoodIn wsX11_asks (va_wsS RX11 47 yX11_in wsX11_in) := goodIn_app (goodIn_of _ (by decide +kernel)) ggX11_asks_X11_in
set_option maxRecDepth 20000 in
theorem ggX11_asks_X11_bad : GoodIn wsX11_asks wsX11_bad := goodIn_r _ [15, 16, 17, 18, 7, 19, 20, 72, 73, 74, 75, 76, 77, 78, 79, 80, 81, 82, 83, 84, 85, 86, 87, 88, 89, 90, 91] (by decide +kernel) (by decide +kernel)
set_option maxRecDepth 20000 in
theorem gX11_asks_X11_bad : GoodIn wsX11_asks (wsV RX11 61 RX11 yX11_bad wsX11_bad) := goodIn_app (goodIn_of _ (by decide +kernel)) ggX11_asks_X11_bad
set_option maxRecDepth 20000 in
theorem ggX11_asks_X11_canSay : GoodIn wsX11_asks wsX11_canSay := goodIn_r _ [24, 25, 26, 27, 7, 28, 3, 29, 30, 31, 32, 33, 34, 35, 36, 37, 38, 39, 40, 41, 42, 43, 44, 45, 46, 47, 48, 49, 50, 51, 52, 53, 54, 55, 56, 57, 58, 59, 60, 61, 62, 63, 64, 65, 66, 67, 68, 69, 70, 71, 72, 73, 74, 75, 76, 77, 78, 79, 80, 81, 82, 83, 84, 85, 86, 87, 88, 89, 90, 91] (by decide +kernel) (by decide +kernel)
set_option maxRecDepth 20000 in
theorem gX11_asks_X11_canSay : GoodIn wsX11_asks (wsV RX11 202 RX11 yX11_canSay wsX11_canSay) := goodIn_app (goodIn_of _ (by decide +kernel)) ggX11_asks_X11_canSay
set_option maxRecDepth 20000 in
theorem ggX11_asks_X11_has : GoodIn wsX11_asks wsX11_has := goodIn_r _ [59] (by decide +kernel) (by decide +kernel)
set_option maxRecDepth 20000 in
theorem gX11_asks_X11_has : GoodIn wsX11_asks (va_wsS RX11 155 yX11_has wsX11_has) := goodIn_app (goodIn_of _ (by decide +kernel)) ggX11_asks_X11_has
theorem dX11_asks_0 : decode cX11_asks 0 = .ok (.aload_n 0, 1) := by decide +kernel
theorem dX11_asks_1 : decode cX11_asks 1 = .ok (.iconst 0, 1) := by decide +kernel
theorem dX11_asks_2 : decode cX11_asks 2 = .ok (.putfield 39, 3) := by decide +kernel
theorem dX11_asks_5 : decode cX11_asks 5 = .ok (.aload_n 0, 1) := by decide +kernel
theorem dX11_asks_6 : decode cX11_asks 6 = .ok (.iload_n 1, 1) := by decide +kernel
theorem dX11_asks_7 : decode cX11_asks 7 = .ok (.invokevirtual 186, 3) := by decide +kernel
theorem dX11_asks_10 : decode cX11_asks 10 = .ok (.ifCond .ne 15, 3) := by decide +kernel
theorem dX11_asks_13 : decode cX11_asks 13 = .ok (.iload_n 2, 1) := by decide +kernel
theorem dX11_asks_14 : decode cX11_asks 14 = .ok (.i2l, 1) := by decide +kernel
theorem dX11_asks_15 : decode cX11_asks 15 = .ok (.lconst 0, 1) := by decide +kernel
theorem dX11_asks_16 : decode cX11_asks 16 = .ok (.ldc2_w 51, 3) := by decide +kernel
theorem dX11_asks_19 : decode cX11_asks 19 = .ok (.invokestatic 47, 3) := by decide +kernel
theorem dX11_asks_22 : decode cX11_asks 22 = .ok (.ifCond .ne 8, 3) := by decide +kernel
theorem dX11_asks_25 : decode cX11_asks 25 = .ok (.aload_n 0, 1) := by decide +kernel
theorem dX11_asks_26 : decode cX11_asks 26 = .ok (.invokevirtual 61, 3) := by decide +kernel
theorem dX11_asks_29 : decode cX11_asks 29 = .ok (.ireturn, 1) := by decide +kernel
theorem dX11_asks_30 : decode cX11_asks 30 = .ok (.iconst 0, 1) := by decide +kernel
theorem dX11_asks_31 : decode cX11_asks 31 = .ok (.istore_n 3, 1) := by decide +kernel
theorem dX11_asks_32 : decode cX11_asks 32 = .ok (.iconst 0, 1) := by decide +kernel
theorem dX11_asks_33 : decode cX11_asks 33 = .ok (.istore 4, 2) := by decide +kernel
theorem dX11_asks_35 : decode cX11_asks 35 = .ok (.iload 4, 2) := by decide +kernel
theorem dX11_asks_37 : decode cX11_asks 37 = .ok (.aload_n 0, 1) := by decide +kernel
theorem dX11_asks_38 : decode cX11_asks 38 = .ok (.getfield 13, 3) := by decide +kernel
theorem dX11_asks_41 : decode cX11_asks 41 = .ok (.iconst 0, 1) := by decide +kernel
theorem dX11_asks_42 : decode cX11_asks 42 = .ok (.iaload, 1) := by decide +kernel
theorem dX11_asks_43 : decode cX11_asks 43 = .ok (.if_icmp .ge 34, 3) := by decide +kernel
theorem dX11_asks_46 : decode cX11_asks 46 = .ok (.iload_n 3, 1) := by decide +kernel
theorem dX11_asks_47 : decode cX11_asks 47 = .ok (.aload_n 0, 1) := by decide +kernel
theorem dX11_asks_48 : decode cX11_asks 48 = .ok (.iload_n 1, 1) := by decide +kernel
theorem dX11_asks_49 : decode cX11_asks 49 = .ok (.iload 4, 2) := by decide +kernel
theorem dX11_asks_51 : decode cX11_asks 51 = .ok (.invokevirtual 202, 3) := by decide +kernel
theorem dX11_asks_54 : decode cX11_asks 54 = .ok (.iload_n 2, 1) := by decide +kernel
theorem dX11_asks_55 : decode cX11_asks 55 = .ok (.invokestatic 155, 3) := by decide +kernel
theorem dX11_asks_58 : decode cX11_asks 58 = .ok (.ifCond .eq 10, 3) := by decide +kernel
theorem dX11_asks_61 : decode cX11_asks 61 = .ok (.iconst 1, 1) := by decide +kernel
theorem dX11_asks_62 : decode cX11_asks 62 = .ok (.iload 4, 2) := by decide +kernel
theorem dX11_asks_64 : decode cX11_asks 64 = .ok (.ishl, 1) := by decide +kernel
theorem dX11_asks_65 : decode cX11_asks 65 = .ok (.goto 4, 3) := by decide +kernel
theorem dX11_asks_68 : decode cX11_asks 68 = .ok (.iconst 0, 1) := by decide +kernel
theorem dX11_asks_69 : decode cX11_asks 69 = .ok (.ior, 1) := by decide +kernel
theorem dX11_asks_70 : decode cX11_asks 70 = .ok (.istore_n 3, 1) := by decide +kernel
theorem dX11_asks_71 : decode cX11_asks 71 = .ok (.iinc 4 1, 3) := by decide +kernel
theorem dX11_asks_74 : decode cX11_asks 74 = .ok (.goto (-39), 3) := by decide +kernel
theorem dX11_asks_77 : decode cX11_asks 77 = .ok (.iload_n 3, 1) := by decide +kernel
theorem dX11_asks_78 : decode cX11_asks 78 = .ok (.ireturn, 1) := by decide +kernel
set_option maxRecDepth 20000 in
theorem ggX11_saidBy_X11_has : GoodIn wsX11_saidBy wsX11_has := goodIn_r _ [6] (by decide +kernel) (by decide +kernel)
set_option maxRecDepth 20000 in
theorem gX11_saidBy_X11_has : GoodIn wsX11_saidBy (va_wsS RX11 155 yX11_has wsX11_has) := goodIn_app (goodIn_of _ (by decide +kernel)) ggX11_saidBy_X11_has
theorem dX11_saidBy_0 : decode cX11_saidBy 0 = .ok (.iconst 0, 1) := by decide +kernel
theorem dX11_saidBy_1 : decode cX11_saidBy 1 = .ok (.istore_n 2, 1) := by decide +kernel
theorem dX11_saidBy_2 : decode cX11_saidBy 2 = .ok (.iconst 0, 1) := by decide +kernel
theorem dX11_saidBy_3 : decode cX11_saidBy 3 = .ok (.istore_n 3, 1) := by decide +kernel
theorem dX11_saidBy_4 : decode cX11_saidBy 4 = .ok (.iload_n 3, 1) := by decide +kernel
theorem dX11_saidBy_5 : decode cX11_saidBy 5 = .ok (.aload_n 0, 1) := by decide +kernel
theorem dX11_saidBy_6 : decode cX11_saidBy 6 = .ok (.getfield 13, 3) := by decide +kernel
theorem dX11_saidBy_9 : decode cX11_saidBy 9 = .ok (.iconst 0, 1) := by decide +kernel
theorem dX11_saidBy_10 : decode cX11_saidBy 10 = .ok (.iaload, 1) := by decide +kernel
theorem dX11_saidBy_11 : decode cX11_saidBy 11 = .ok (.if_icmp .ge 30, 3) := by decide +kernel
theorem dX11_saidBy_14 : decode cX11_saidBy 14 = .ok (.iload_n 2, 1) := by decide +kernel
theorem dX11_saidBy_15 : decode cX11_saidBy 15 = .ok (.iload_n 1, 1) := by decide +kernel
theorem dX11_saidBy_16 : decode cX11_saidBy 16 = .ok (.iload_n 3, 1) := by decide +kernel
theorem dX11_saidBy_17 : decode cX11_saidBy 17 = .ok (.invokestatic 155, 3) := by decide +kernel
theorem dX11_saidBy_20 : decode cX11_saidBy 20 = .ok (.ifCond .eq 12, 3) := by decide +kernel
theorem dX11_saidBy_23 : decode cX11_saidBy 23 = .ok (.aload_n 0, 1) := by decide +kernel
theorem dX11_saidBy_24 : decode cX11_saidBy 24 = .ok (.getfield 29, 3) := by decide +kernel
theorem dX11_saidBy_27 : decode cX11_saidBy 27 = .ok (.iload_n 3, 1) := by decide +kernel
theorem dX11_saidBy_28 : decode cX11_saidBy 28 = .ok (.iaload, 1) := by decide +kernel
theorem dX11_saidBy_29 : decode cX11_saidBy 29 = .ok (.goto 4, 3) := by decide +kernel
theorem dX11_saidBy_32 : decode cX11_saidBy 32 = .ok (.iconst 0, 1) := by decide +kernel
theorem dX11_saidBy_33 : decode cX11_saidBy 33 = .ok (.ior, 1) := by decide +kernel
theorem dX11_saidBy_34 : decode cX11_saidBy 34 = .ok (.istore_n 2, 1) := by decide +kernel
theorem dX11_saidBy_35 : decode cX11_saidBy 35 = .ok (.iinc 3 1, 3) := by decide +kernel
theorem dX11_saidBy_38 : decode cX11_saidBy 38 = .ok (.goto (-34), 3) := by decide +kernel
theorem dX11_saidBy_41 : decode cX11_saidBy 41 = .ok (.iload_n 2, 1) := by decide +kernel
theorem dX11_saidBy_42 : decode cX11_saidBy 42 = .ok (.ireturn, 1) := by decide +kernel
set_option maxRecDepth 20000 in
theorem ggX11_fewest_X11_noPerson : GoodIn wsX11_fewest wsX11_noPerson := goodIn_r _ [8, 2, 9, 10, 7, 11, 83, 84, 85, 86, 87, 88, 89, 90, 91, 92, 93, 94, 95, 96, 97, 98, 99, 100, 101, 102] (by decide +kernel) (by decide +kernel)
set_option maxRecDepth 20000 in
theorem gX11_fewest_X11_noPerson : GoodIn wsX11_fewest (wsV RX11 186 RX11 yX11_noPerson wsX11_noPerson) := goodIn_app (goodIn_of _ (by decide +kernel)) ggX11_fewest_X11_noPerson
set_option maxRecDepth 20000 in
theorem ggX11_fewest_X11_areMeanings : GoodIn wsX11_fewest wsX11_areMeanings := goodIn_r _ [14, 15, 9, 10, 7, 11] (by decide +kernel) (by decide +kernel)
set_option maxRecDepth 20000 in
theorem gX11_fewest_X11_areMeanings : GoodIn wsX11_fewest (va_wsS RX11 205 yX11_areMeanings wsX11_areMeanings) := goodIn_app (goodIn_of _ (by decide +kernel)) ggX11_fewest_X11_areMeanings
set_option maxRecDepth 20000 in
theorem ggX11_fewest_X11_bad : GoodIn wsX11_fewest wsX11_bad := goodIn_r _ [19, 20, 21, 22, 7, 23, 24, 83, 84, 85, 86, 87, 88, 89, 90, 91, 92, 93, 94, 95, 96, 97, 98, 99, 100, 101, 102] (by decide +kernel) (by decide +kernel)
set_option maxRecDepth 20000 in
theorem gX11_fewest_X11_bad : GoodIn wsX11_fewest (wsV RX11 61 RX11 yX11_bad wsX11_bad) := goodIn_app (goodIn_of _ (by decide +kernel)) ggX11_fewest_X11_bad
set_option maxRecDepth 20000 in
theorem ggX11_fewest_X11_canSay : GoodIn wsX11_fewest wsX11_canSay := goodIn_r _ [28, 29, 30, 31, 7, 32, 2, 33, 34, 35, 36, 37, 38, 39, 40, 41, 42, 43, 44, 45, 46, 47, 48, 49, 50, 51, 52, 53, 54, 55, 56, 57, 58, 59, 60, 61, 62, 63, 64, 65, 66, 67, 68, 69, 70, 71, 72, 73, 74, 75, 83, 84, 85, 86, 87, 88, 89, 90, 91, 92, 93, 94, 95, 96, 97, 98, 99, 100, 101, 102] (by decide +kernel) (by decide +kernel)
set_option maxRecDepth 20000 in
theorem gX11_fewest_X11_canSay : GoodIn wsX11_fewest (wsV RX11 202 RX11 yX11_canSay wsX11_canSay) := goodIn_app (goodIn_of _ (by decide +kernel)) ggX11_fewest_X11_canSay
set_option maxRecDepth 20000 in
theorem ggX11_fewest_X11_saidBy : GoodIn wsX11_fewest wsX11_saidBy := goodIn_r _ [79, 2, 3, 61, 62, 7, 63, 83, 84, 85, 86, 87, 88, 89, 90, 91, 92, 93, 94, 95, 96, 97, 98, 99, 100, 101, 102] (by decide +kernel) (by decide +kernel)
set_option maxRecDepth 20000 in
theorem gX11_fewest_X11_saidBy : GoodIn wsX11_fewest (wsV RX11 208 RX11 yX11_saidBy wsX11_saidBy) := goodIn_app (goodIn_of _ (by decide +kernel)) ggX11_fewest_X11_saidBy
set_option maxRecDepth 20000 in
theorem ggX11_fewest_X11_bits : GoodIn wsX11_fewest wsX11_bits := goodIn_r _ [82] (by decide +kernel) (by decide +kernel)
set_option maxRecDepth 20000 in
theorem gX11_fewest_X11_bits : GoodIn wsX11_fewest (va_wsS RX11 195 yX11_bits wsX11_bits) := goodIn_app (goodIn_of _ (by decide +kernel)) ggX11_fewest_X11_bits
theorem dX11_fewest_0 : decode cX11_fewest 0 = .ok (.aload_n 0, 1) := by decide +kernel
theorem dX11_fewest_1 : decode cX11_fewest 1 = .ok (.iconst 0, 1) := by decide +kernel
theorem dX11_fewest_2 : decode cX11_fewest 2 = .ok (.putfield 39, 3) := by decide +kernel
theorem dX11_fewest_5 : decode cX11_fewest 5 = .ok (.aload_n 0, 1) := by decide +kernel
theorem dX11_fewest_6 : decode cX11_fewest 6 = .ok (.iload_n 1, 1) := by decide +kernel
theorem dX11_fewest_7 : decode cX11_fewest 7 = .ok (.invokevirtual 186, 3) := by decide +kernel
theorem dX11_fewest_10 : decode cX11_fewest 10 = .ok (.ifCond .ne 10, 3) := by decide +kernel
theorem dX11_fewest_13 : decode cX11_fewest 13 = .ok (.iload_n 2, 1) := by decide +kernel
theorem dX11_fewest_14 : decode cX11_fewest 14 = .ok (.invokestatic 205, 3) := by decide +kernel
theorem dX11_fewest_17 : decode cX11_fewest 17 = .ok (.ifCond .ne 8, 3) := by decide +kernel
theorem dX11_fewest_20 : decode cX11_fewest 20 = .ok (.aload_n 0, 1) := by decide +kernel
theorem dX11_fewest_21 : decode cX11_fewest 21 = .ok (.invokevirtual 61, 3) := by decide +kernel
theorem dX11_fewest_24 : decode cX11_fewest 24 = .ok (.ireturn, 1) := by decide +kernel
theorem dX11_fewest_25 : decode cX11_fewest 25 = .ok (.iconst 0, 1) := by decide +kernel
theorem dX11_fewest_26 : decode cX11_fewest 26 = .ok (.istore_n 3, 1) := by decide +kernel
theorem dX11_fewest_27 : decode cX11_fewest 27 = .ok (.iload_n 3, 1) := by decide +kernel
theorem dX11_fewest_28 : decode cX11_fewest 28 = .ok (.aload_n 0, 1) := by decide +kernel
theorem dX11_fewest_29 : decode cX11_fewest 29 = .ok (.getfield 13, 3) := by decide +kernel
theorem dX11_fewest_32 : decode cX11_fewest 32 = .ok (.iconst 0, 1) := by decide +kernel
theorem dX11_fewest_33 : decode cX11_fewest 33 = .ok (.iaload, 1) := by decide +kernel
theorem dX11_fewest_34 : decode cX11_fewest 34 = .ok (.if_icmp .ge 21, 3) := by decide +kernel
theorem dX11_fewest_37 : decode cX11_fewest 37 = .ok (.aload_n 0, 1) := by decide +kernel
theorem dX11_fewest_38 : decode cX11_fewest 38 = .ok (.getfield 29, 3) := by decide +kernel
theorem dX11_fewest_41 : decode cX11_fewest 41 = .ok (.iload_n 3, 1) := by decide +kernel
theorem dX11_fewest_42 : decode cX11_fewest 42 = .ok (.aload_n 0, 1) := by decide +kernel
theorem dX11_fewest_43 : decode cX11_fewest 43 = .ok (.iload_n 1, 1) := by decide +kernel
theorem dX11_fewest_44 : decode cX11_fewest 44 = .ok (.iload_n 3, 1) := by decide +kernel
theorem dX11_fewest_45 : decode cX11_fewest 45 = .ok (.invokevirtual 202, 3) := by decide +kernel
theorem dX11_fewest_48 : decode cX11_fewest 48 = .ok (.iastore, 1) := by decide +kernel
theorem dX11_fewest_49 : decode cX11_fewest 49 = .ok (.iinc 3 1, 3) := by decide +kernel
theorem dX11_fewest_52 : decode cX11_fewest 52 = .ok (.goto (-25), 3) := by decide +kernel
theorem dX11_fewest_55 : decode cX11_fewest 55 = .ok (.iconst (-1), 1) := by decide +kernel
theorem dX11_fewest_56 : decode cX11_fewest 56 = .ok (.istore_n 3, 1) := by decide +kernel
theorem dX11_fewest_57 : decode cX11_fewest 57 = .ok (.iconst 0, 1) := by decide +kernel
theorem dX11_fewest_58 : decode cX11_fewest 58 = .ok (.istore 4, 2) := by decide +kernel
theorem dX11_fewest_60 : decode cX11_fewest 60 = .ok (.iload 4, 2) := by decide +kernel
theorem dX11_fewest_62 : decode cX11_fewest 62 = .ok (.iconst 1, 1) := by decide +kernel
theorem dX11_fewest_63 : decode cX11_fewest 63 = .ok (.aload_n 0, 1) := by decide +kernel
theorem dX11_fewest_64 : decode cX11_fewest 64 = .ok (.getfield 13, 3) := by decide +kernel
theorem dX11_fewest_67 : decode cX11_fewest 67 = .ok (.iconst 0, 1) := by decide +kernel
theorem dX11_fewest_68 : decode cX11_fewest 68 = .ok (.iaload, 1) := by decide +kernel
theorem dX11_fewest_69 : decode cX11_fewest 69 = .ok (.ishl, 1) := by decide +kernel
theorem dX11_fewest_70 : decode cX11_fewest 70 = .ok (.if_icmp .ge 58, 3) := by decide +kernel
theorem dX11_fewest_73 : decode cX11_fewest 73 = .ok (.iload_n 2, 1) := by decide +kernel
theorem dX11_fewest_74 : decode cX11_fewest 74 = .ok (.aload_n 0, 1) := by decide +kernel
theorem dX11_fewest_75 : decode cX11_fewest 75 = .ok (.iload 4, 2) := by decide +kernel
theorem dX11_fewest_77 : decode cX11_fewest 77 = .ok (.invokevirtual 208, 3) := by decide +kernel
