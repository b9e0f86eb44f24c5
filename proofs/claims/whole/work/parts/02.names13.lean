set_option maxRecDepth 20000 in
theorem ggX11_type_X11_in : GoodIn wsX11_type wsX11_in := goodIn_r _ [8] (by decide +kernel) (by decide +kernel)
set_option maxRecDepth 20000 in
theorem gX11_type_X11_in : GoodIn wsX11_type (va_wsS RX11 47 yX11_in wsX11_in) := goodIn_app (goodIn_of _ (by decide +kernel)) ggX11_type_X11_in
set_option maxRecDepth 20000 in
theorem ggX11_type_X11_bad : GoodIn wsX11_type wsX11_bad := goodIn_r _ [12, 13, 14, 15, 7, 16, 17, 22, 23, 24, 25, 26, 27, 28, 29, 30, 31, 32, 33, 34, 35, 36, 37, 38, 39, 40, 41] (by decide +kernel) (by decide +kernel)
set_option maxRecDepth 20000 in
theorem gX11_type_X11_bad : GoodIn wsX11_type (wsV RX11 61 RX11 yX11_bad wsX11_bad) := goodIn_app (goodIn_of _ (by decide +kernel)) ggX11_type_X11_bad
set_option maxRecDepth 20000 in
theorem ggX11_type_X11_full : GoodIn wsX11_type wsX11_full := goodIn_r _ [21, 13, 14, 15, 7, 16, 17, 22, 23, 24, 25, 26, 27, 28, 29, 30, 31, 32, 33, 34, 35, 36, 37, 38, 39, 40, 41] (by decide +kernel) (by decide +kernel)
set_option maxRecDepth 20000 in
theorem gX11_type_X11_full : GoodIn wsX11_type (wsV RX11 65 RX11 yX11_full wsX11_full) := goodIn_app (goodIn_of _ (by decide +kernel)) ggX11_type_X11_full
theorem dX11_type_0 : decode cX11_type 0 = .ok (.aload_n 0, 1) := by decide +kernel
theorem dX11_type_1 : decode cX11_type 1 = .ok (.iconst 0, 1) := by decide +kernel
theorem dX11_type_2 : decode cX11_type 2 = .ok (.putfield 39, 3) := by decide +kernel
theorem dX11_type_5 : decode cX11_type 5 = .ok (.iload_n 1, 1) := by decide +kernel
theorem dX11_type_6 : decode cX11_type 6 = .ok (.i2l, 1) := by decide +kernel
theorem dX11_type_7 : decode cX11_type 7 = .ok (.lconst 0, 1) := by decide +kernel
theorem dX11_type_8 : decode cX11_type 8 = .ok (.ldc2_w 81, 3) := by decide +kernel
theorem dX11_type_11 : decode cX11_type 11 = .ok (.invokestatic 47, 3) := by decide +kernel
theorem dX11_type_14 : decode cX11_type 14 = .ok (.ifCond .ne 8, 3) := by decide +kernel
theorem dX11_type_17 : decode cX11_type 17 = .ok (.aload_n 0, 1) := by decide +kernel
theorem dX11_type_18 : decode cX11_type 18 = .ok (.invokevirtual 61, 3) := by decide +kernel
theorem dX11_type_21 : decode cX11_type 21 = .ok (.ireturn, 1) := by decide +kernel
theorem dX11_type_22 : decode cX11_type 22 = .ok (.aload_n 0, 1) := by decide +kernel
theorem dX11_type_23 : decode cX11_type 23 = .ok (.getfield 83, 3) := by decide +kernel
theorem dX11_type_26 : decode cX11_type 26 = .ok (.sipush 150, 3) := by decide +kernel
theorem dX11_type_29 : decode cX11_type 29 = .ok (.if_icmp .ne 8, 3) := by decide +kernel
theorem dX11_type_32 : decode cX11_type 32 = .ok (.aload_n 0, 1) := by decide +kernel
theorem dX11_type_33 : decode cX11_type 33 = .ok (.invokevirtual 65, 3) := by decide +kernel
theorem dX11_type_36 : decode cX11_type 36 = .ok (.ireturn, 1) := by decide +kernel
theorem dX11_type_37 : decode cX11_type 37 = .ok (.aload_n 0, 1) := by decide +kernel
theorem dX11_type_38 : decode cX11_type 38 = .ok (.getfield 26, 3) := by decide +kernel
theorem dX11_type_41 : decode cX11_type 41 = .ok (.aload_n 0, 1) := by decide +kernel
theorem dX11_type_42 : decode cX11_type 42 = .ok (.getfield 83, 3) := by decide +kernel
theorem dX11_type_45 : decode cX11_type 45 = .ok (.iload_n 1, 1) := by decide +kernel
theorem dX11_type_46 : decode cX11_type 46 = .ok (.iastore, 1) := by decide +kernel
theorem dX11_type_47 : decode cX11_type 47 = .ok (.aload_n 0, 1) := by decide +kernel
theorem dX11_type_48 : decode cX11_type 48 = .ok (.dup, 1) := by decide +kernel
theorem dX11_type_49 : decode cX11_type 49 = .ok (.getfield 83, 3) := by decide +kernel
theorem dX11_type_52 : decode cX11_type 52 = .ok (.iconst 1, 1) := by decide +kernel
theorem dX11_type_53 : decode cX11_type 53 = .ok (.iadd, 1) := by decide +kernel
theorem dX11_type_54 : decode cX11_type 54 = .ok (.putfield 83, 3) := by decide +kernel
theorem dX11_type_57 : decode cX11_type 57 = .ok (.aload_n 0, 1) := by decide +kernel
theorem dX11_type_58 : decode cX11_type 58 = .ok (.getfield 83, 3) := by decide +kernel
theorem dX11_type_61 : decode cX11_type 61 = .ok (.ireturn, 1) := by decide +kernel
theorem dX11_clear_0 : decode cX11_clear 0 = .ok (.aload_n 0, 1) := by decide +kernel
theorem dX11_clear_1 : decode cX11_clear 1 = .ok (.iconst 0, 1) := by decide +kernel
theorem dX11_clear_2 : decode cX11_clear 2 = .ok (.putfield 39, 3) := by decide +kernel
theorem dX11_clear_5 : decode cX11_clear 5 = .ok (.aload_n 0, 1) := by decide +kernel
theorem dX11_clear_6 : decode cX11_clear 6 = .ok (.getfield 83, 3) := by decide +kernel
theorem dX11_clear_9 : decode cX11_clear 9 = .ok (.istore_n 1, 1) := by decide +kernel
theorem dX11_clear_10 : decode cX11_clear 10 = .ok (.aload_n 0, 1) := by decide +kernel
theorem dX11_clear_11 : decode cX11_clear 11 = .ok (.iconst 0, 1) := by decide +kernel
theorem dX11_clear_12 : decode cX11_clear 12 = .ok (.putfield 83, 3) := by decide +kernel
theorem dX11_clear_15 : decode cX11_clear 15 = .ok (.iload_n 1, 1) := by decide +kernel
theorem dX11_clear_16 : decode cX11_clear 16 = .ok (.ireturn, 1) := by decide +kernel
set_option maxRecDepth 20000 in
theorem ggX11_isFigure_X11_in : GoodIn wsX11_isFigure wsX11_in := goodIn_r _ [9] (by decide +kernel) (by decide +kernel)
set_option maxRecDepth 20000 in
theorem gX11_isFigure_X11_in : GoodIn wsX11_isFigure (va_wsS RX11 47 yX11_in wsX11_in) := goodIn_app (goodIn_of _ (by decide +kernel)) ggX11_isFigure_X11_in
theorem dX11_isFigure_0 : decode cX11_isFigure 0 = .ok (.aload_n 0, 1) := by decide +kernel
theorem dX11_isFigure_1 : decode cX11_isFigure 1 = .ok (.getfield 86, 3) := by decide +kernel
theorem dX11_isFigure_4 : decode cX11_isFigure 4 = .ok (.aload_n 0, 1) := by decide +kernel
theorem dX11_isFigure_5 : decode cX11_isFigure 5 = .ok (.getfield 83, 3) := by decide +kernel
theorem dX11_isFigure_8 : decode cX11_isFigure 8 = .ok (.if_icmp .ge 29, 3) := by decide +kernel
theorem dX11_isFigure_11 : decode cX11_isFigure 11 = .ok (.aload_n 0, 1) := by decide +kernel
theorem dX11_isFigure_12 : decode cX11_isFigure 12 = .ok (.getfield 26, 3) := by decide +kernel
theorem dX11_isFigure_15 : decode cX11_isFigure 15 = .ok (.aload_n 0, 1) := by decide +kernel
theorem dX11_isFigure_16 : decode cX11_isFigure 16 = .ok (.getfield 86, 3) := by decide +kernel
theorem dX11_isFigure_19 : decode cX11_isFigure 19 = .ok (.iaload, 1) := by decide +kernel
theorem dX11_isFigure_20 : decode cX11_isFigure 20 = .ok (.i2l, 1) := by decide +kernel
theorem dX11_isFigure_21 : decode cX11_isFigure 21 = .ok (.ldc2_w 89, 3) := by decide +kernel
theorem dX11_isFigure_24 : decode cX11_isFigure 24 = .ok (.ldc2_w 91, 3) := by decide +kernel
theorem dX11_isFigure_27 : decode cX11_isFigure 27 = .ok (.invokestatic 47, 3) := by decide +kernel
theorem dX11_isFigure_30 : decode cX11_isFigure 30 = .ok (.ifCond .eq 7, 3) := by decide +kernel
theorem dX11_isFigure_33 : decode cX11_isFigure 33 = .ok (.iconst 1, 1) := by decide +kernel
theorem dX11_isFigure_34 : decode cX11_isFigure 34 = .ok (.goto 4, 3) := by decide +kernel
theorem dX11_isFigure_37 : decode cX11_isFigure 37 = .ok (.iconst 0, 1) := by decide +kernel
theorem dX11_isFigure_38 : decode cX11_isFigure 38 = .ok (.ireturn, 1) := by decide +kernel
set_option maxRecDepth 20000 in
theorem ggX11_isLetter_X11_in : GoodIn wsX11_isLetter wsX11_in := goodIn_r _ [9] (by decide +kernel) (by decide +kernel)
set_option maxRecDepth 20000 in
theorem gX11_isLetter_X11_in : GoodIn wsX11_isLetter (va_wsS RX11 47 yX11_in wsX11_in) := goodIn_app (goodIn_of _ (by decide +kernel)) ggX11_isLetter_X11_in
theorem dX11_isLetter_0 : decode cX11_isLetter 0 = .ok (.aload_n 0, 1) := by decide +kernel
theorem dX11_isLetter_1 : decode cX11_isLetter 1 = .ok (.getfield 86, 3) := by decide +kernel
theorem dX11_isLetter_4 : decode cX11_isLetter 4 = .ok (.aload_n 0, 1) := by decide +kernel
theorem dX11_isLetter_5 : decode cX11_isLetter 5 = .ok (.getfield 83, 3) := by decide +kernel
theorem dX11_isLetter_8 : decode cX11_isLetter 8 = .ok (.if_icmp .ge 29, 3) := by decide +kernel
theorem dX11_isLetter_11 : decode cX11_isLetter 11 = .ok (.aload_n 0, 1) := by decide +kernel
theorem dX11_isLetter_12 : decode cX11_isLetter 12 = .ok (.getfield 26, 3) := by decide +kernel
theorem dX11_isLetter_15 : decode cX11_isLetter 15 = .ok (.aload_n 0, 1) := by decide +kernel
theorem dX11_isLetter_16 : decode cX11_isLetter 16 = .ok (.getfield 86, 3) := by decide +kernel
theorem dX11_isLetter_19 : decode cX11_isLetter 19 = .ok (.iaload, 1) := by decide +kernel
theorem dX11_isLetter_20 : decode cX11_isLetter 20 = .ok (.i2l, 1) := by decide +kernel
theorem dX11_isLetter_21 : decode cX11_isLetter 21 = .ok (.ldc2_w 93, 3) := by decide +kernel
theorem dX11_isLetter_24 : decode cX11_isLetter 24 = .ok (.ldc2_w 95, 3) := by decide +kernel
theorem dX11_isLetter_27 : decode cX11_isLetter 27 = .ok (.invokestatic 47, 3) := by decide +kernel
theorem dX11_isLetter_30 : decode cX11_isLetter 30 = .ok (.ifCond .eq 7, 3) := by decide +kernel
theorem dX11_isLetter_33 : decode cX11_isLetter 33 = .ok (.iconst 1, 1) := by decide +kernel
theorem dX11_isLetter_34 : decode cX11_isLetter 34 = .ok (.goto 4, 3) := by decide +kernel
theorem dX11_isLetter_37 : decode cX11_isLetter 37 = .ok (.iconst 0, 1) := by decide +kernel
theorem dX11_isLetter_38 : decode cX11_isLetter 38 = .ok (.ireturn, 1) := by decide +kernel
set_option maxRecDepth 20000 in
theorem ggX11_next_X11_isLetter : GoodIn wsX11_next wsX11_isLetter := goodIn_r _ [16, 1, 2, 3, 17, 18, 19, 20, 15, 21, 27, 28, 29, 30, 31, 32, 33, 34, 35, 36, 37, 38, 39, 40, 41, 42, 43, 44, 45, 46] (by decide +kernel) (by decide +kernel)
set_option maxRecDepth 20000 in
theorem gX11_next_X11_isLetter : GoodIn wsX11_next (wsV RX11 106 RX11 yX11_isLetter wsX11_isLetter) := goodIn_app (goodIn_of _ (by decide +kernel)) ggX11_next_X11_isLetter
set_option maxRecDepth 20000 in
theorem ggX11_next_X11_isFigure : GoodIn wsX11_next wsX11_isFigure := goodIn_r _ [25, 1, 2, 3, 11, 26, 19, 20, 15, 21, 27, 28, 29, 30, 31, 32, 33, 34, 35, 36, 37, 38, 39, 40, 41, 42, 43, 44, 45, 46] (by decide +kernel) (by decide +kernel)
set_option maxRecDepth 20000 in
theorem gX11_next_X11_isFigure : GoodIn wsX11_next (wsV RX11 116 RX11 yX11_isFigure wsX11_isFigure) := goodIn_app (goodIn_of _ (by decide +kernel)) ggX11_next_X11_isFigure
theorem dX11_next_0 : decode cX11_next 0 = .ok (.aload_n 0, 1) := by decide +kernel
theorem dX11_next_1 : decode cX11_next 1 = .ok (.getfield 86, 3) := by decide +kernel
theorem dX11_next_4 : decode cX11_next 4 = .ok (.aload_n 0, 1) := by decide +kernel
theorem dX11_next_5 : decode cX11_next 5 = .ok (.getfield 83, 3) := by decide +kernel
theorem dX11_next_8 : decode cX11_next 8 = .ok (.if_icmp .ge 30, 3) := by decide +kernel
theorem dX11_next_11 : decode cX11_next 11 = .ok (.aload_n 0, 1) := by decide +kernel
theorem dX11_next_12 : decode cX11_next 12 = .ok (.getfield 26, 3) := by decide +kernel
theorem dX11_next_15 : decode cX11_next 15 = .ok (.aload_n 0, 1) := by decide +kernel
theorem dX11_next_16 : decode cX11_next 16 = .ok (.getfield 86, 3) := by decide +kernel
theorem dX11_next_19 : decode cX11_next 19 = .ok (.iaload, 1) := by decide +kernel
theorem dX11_next_20 : decode cX11_next 20 = .ok (.bipush 32, 2) := by decide +kernel
theorem dX11_next_22 : decode cX11_next 22 = .ok (.if_icmp .ne 16, 3) := by decide +kernel
theorem dX11_next_25 : decode cX11_next 25 = .ok (.aload_n 0, 1) := by decide +kernel
theorem dX11_next_26 : decode cX11_next 26 = .ok (.dup, 1) := by decide +kernel
theorem dX11_next_27 : decode cX11_next 27 = .ok (.getfield 86, 3) := by decide +kernel
theorem dX11_next_30 : decode cX11_next 30 = .ok (.iconst 1, 1) := by decide +kernel
theorem dX11_next_31 : decode cX11_next 31 = .ok (.iadd, 1) := by decide +kernel
theorem dX11_next_32 : decode cX11_next 32 = .ok (.putfield 86, 3) := by decide +kernel
theorem dX11_next_35 : decode cX11_next 35 = .ok (.goto (-35), 3) := by decide +kernel
theorem dX11_next_38 : decode cX11_next 38 = .ok (.aload_n 0, 1) := by decide +kernel
theorem dX11_next_39 : decode cX11_next 39 = .ok (.aload_n 0, 1) := by decide +kernel
theorem dX11_next_40 : decode cX11_next 40 = .ok (.getfield 86, 3) := by decide +kernel
theorem dX11_next_43 : decode cX11_next 43 = .ok (.putfield 97, 3) := by decide +kernel
theorem dX11_next_46 : decode cX11_next 46 = .ok (.aload_n 0, 1) := by decide +kernel
theorem dX11_next_47 : decode cX11_next 47 = .ok (.lconst 0, 1) := by decide +kernel
theorem dX11_next_48 : decode cX11_next 48 = .ok (.putfield 100, 3) := by decide +kernel
theorem dX11_next_51 : decode cX11_next 51 = .ok (.iconst 0, 1) := by decide +kernel
theorem dX11_next_52 : decode cX11_next 52 = .ok (.istore_n 1, 1) := by decide +kernel
theorem dX11_next_53 : decode cX11_next 53 = .ok (.aload_n 0, 1) := by decide +kernel
theorem dX11_next_54 : decode cX11_next 54 = .ok (.getfield 86, 3) := by decide +kernel
theorem dX11_next_57 : decode cX11_next 57 = .ok (.aload_n 0, 1) := by decide +kernel
theorem dX11_next_58 : decode cX11_next 58 = .ok (.getfield 83, 3) := by decide +kernel
theorem dX11_next_61 : decode cX11_next 61 = .ok (.if_icmp .ne 11, 3) := by decide +kernel
theorem dX11_next_64 : decode cX11_next 64 = .ok (.aload_n 0, 1) := by decide +kernel
theorem dX11_next_65 : decode cX11_next 65 = .ok (.iconst 1, 1) := by decide +kernel
theorem dX11_next_66 : decode cX11_next 66 = .ok (.putfield 103, 3) := by decide +kernel
theorem dX11_next_69 : decode cX11_next 69 = .ok (.goto 196, 3) := by decide +kernel
theorem dX11_next_72 : decode cX11_next 72 = .ok (.aload_n 0, 1) := by decide +kernel
theorem dX11_next_73 : decode cX11_next 73 = .ok (.invokevirtual 106, 3) := by decide +kernel
theorem dX11_next_76 : decode cX11_next 76 = .ok (.ifCond .eq 70, 3) := by decide +kernel
theorem dX11_next_79 : decode cX11_next 79 = .ok (.aload_n 0, 1) := by decide +kernel
theorem dX11_next_80 : decode cX11_next 80 = .ok (.iconst 2, 1) := by decide +kernel
theorem dX11_next_81 : decode cX11_next 81 = .ok (.putfield 103, 3) := by decide +kernel
theorem dX11_next_84 : decode cX11_next 84 = .ok (.aload_n 0, 1) := by decide +kernel
theorem dX11_next_85 : decode cX11_next 85 = .ok (.invokevirtual 106, 3) := by decide +kernel
theorem dX11_next_88 : decode cX11_next 88 = .ok (.ifCond .eq 177, 3) := by decide +kernel
theorem dX11_next_91 : decode cX11_next 91 = .ok (.aload_n 0, 1) := by decide +kernel
theorem dX11_next_92 : decode cX11_next 92 = .ok (.iload_n 1, 1) := by decide +kernel
theorem dX11_next_93 : decode cX11_next 93 = .ok (.bipush 7, 2) := by decide +kernel
theorem dX11_next_95 : decode cX11_next 95 = .ok (.if_icmp .ge 29, 3) := by decide +kernel
theorem dX11_next_98 : decode cX11_next 98 = .ok (.ldc2_w 110, 3) := by decide +kernel
theorem dX11_next_101 : decode cX11_next 101 = .ok (.aload_n 0, 1) := by decide +kernel
theorem dX11_next_102 : decode cX11_next 102 = .ok (.getfield 100, 3) := by decide +kernel
theorem dX11_next_105 : decode cX11_next 105 = .ok (.lmul, 1) := by decide +kernel
theorem dX11_next_106 : decode cX11_next 106 = .ok (.aload_n 0, 1) := by decide +kernel
theorem dX11_next_107 : decode cX11_next 107 = .ok (.getfield 26, 3) := by decide +kernel
theorem dX11_next_110 : decode cX11_next 110 = .ok (.aload_n 0, 1) := by decide +kernel
theorem dX11_next_111 : decode cX11_next 111 = .ok (.getfield 86, 3) := by decide +kernel
theorem dX11_next_114 : decode cX11_next 114 = .ok (.iaload, 1) := by decide +kernel
theorem dX11_next_115 : decode cX11_next 115 = .ok (.i2l, 1) := by decide +kernel
theorem dX11_next_116 : decode cX11_next 116 = .ok (.ladd, 1) := by decide +kernel
theorem dX11_next_117 : decode cX11_next 117 = .ok (.ldc2_w 112, 3) := by decide +kernel
theorem dX11_next_120 : decode cX11_next 120 = .ok (.lsub, 1) := by decide +kernel
theorem dX11_next_121 : decode cX11_next 121 = .ok (.goto 6, 3) := by decide +kernel
theorem dX11_next_124 : decode cX11_next 124 = .ok (.ldc2_w 114, 3) := by decide +kernel
theorem dX11_next_127 : decode cX11_next 127 = .ok (.putfield 100, 3) := by decide +kernel
theorem dX11_next_130 : decode cX11_next 130 = .ok (.iinc 1 1, 3) := by decide +kernel
theorem dX11_next_133 : decode cX11_next 133 = .ok (.aload_n 0, 1) := by decide +kernel
theorem dX11_next_134 : decode cX11_next 134 = .ok (.dup, 1) := by decide +kernel
theorem dX11_next_135 : decode cX11_next 135 = .ok (.getfield 86, 3) := by decide +kernel
theorem dX11_next_138 : decode cX11_next 138 = .ok (.iconst 1, 1) := by decide +kernel
theorem dX11_next_139 : decode cX11_next 139 = .ok (.iadd, 1) := by decide +kernel
theorem dX11_next_140 : decode cX11_next 140 = .ok (.putfield 86, 3) := by decide +kernel
theorem dX11_next_143 : decode cX11_next 143 = .ok (.goto (-59), 3) := by decide +kernel
theorem dX11_next_146 : decode cX11_next 146 = .ok (.aload_n 0, 1) := by decide +kernel
theorem dX11_next_147 : decode cX11_next 147 = .ok (.invokevirtual 116, 3) := by decide +kernel
theorem dX11_next_150 : decode cX11_next 150 = .ok (.ifCond .eq 82, 3) := by decide +kernel
theorem dX11_next_153 : decode cX11_next 153 = .ok (.aload_n 0, 1) := by decide +kernel
theorem dX11_next_154 : decode cX11_next 154 = .ok (.invokevirtual 116, 3) := by decide +kernel
theorem dX11_next_157 : decode cX11_next 157 = .ok (.ifCond .eq 58, 3) := by decide +kernel
theorem dX11_next_160 : decode cX11_next 160 = .ok (.aload_n 0, 1) := by decide +kernel
theorem dX11_next_161 : decode cX11_next 161 = .ok (.iload_n 1, 1) := by decide +kernel
theorem dX11_next_162 : decode cX11_next 162 = .ok (.iconst 2, 1) := by decide +kernel
theorem dX11_next_163 : decode cX11_next 163 = .ok (.if_icmp .ge 29, 3) := by decide +kernel
theorem dX11_next_166 : decode cX11_next 166 = .ok (.ldc2_w 119, 3) := by decide +kernel
theorem dX11_next_169 : decode cX11_next 169 = .ok (.aload_n 0, 1) := by decide +kernel
theorem dX11_next_170 : decode cX11_next 170 = .ok (.getfield 100, 3) := by decide +kernel
theorem dX11_next_173 : decode cX11_next 173 = .ok (.lmul, 1) := by decide +kernel
theorem dX11_next_174 : decode cX11_next 174 = .ok (.aload_n 0, 1) := by decide +kernel
theorem dX11_next_175 : decode cX11_next 175 = .ok (.getfield 26, 3) := by decide +kernel
theorem dX11_next_178 : decode cX11_next 178 = .ok (.aload_n 0, 1) := by decide +kernel
theorem dX11_next_179 : decode cX11_next 179 = .ok (.getfield 86, 3) := by decide +kernel
theorem dX11_next_182 : decode cX11_next 182 = .ok (.iaload, 1) := by decide +kernel
theorem dX11_next_183 : decode cX11_next 183 = .ok (.i2l, 1) := by decide +kernel
theorem dX11_next_184 : decode cX11_next 184 = .ok (.ladd, 1) := by decide +kernel
theorem dX11_next_185 : decode cX11_next 185 = .ok (.ldc2_w 89, 3) := by decide +kernel
theorem dX11_next_188 : decode cX11_next 188 = .ok (.lsub, 1) := by decide +kernel
theorem dX11_next_189 : decode cX11_next 189 = .ok (.goto 7, 3) := by decide +kernel
theorem dX11_next_192 : decode cX11_next 192 = .ok (.aload_n 0, 1) := by decide +kernel
theorem dX11_next_193 : decode cX11_next 193 = .ok (.getfield 100, 3) := by decide +kernel
theorem dX11_next_196 : decode cX11_next 196 = .ok (.putfield 100, 3) := by decide +kernel
theorem dX11_next_199 : decode cX11_next 199 = .ok (.iinc 1 1, 3) := by decide +kernel
theorem dX11_next_202 : decode cX11_next 202 = .ok (.aload_n 0, 1) := by decide +kernel
theorem dX11_next_203 : decode cX11_next 203 = .ok (.dup, 1) := by decide +kernel
theorem dX11_next_204 : decode cX11_next 204 = .ok (.getfield 86, 3) := by decide +kernel
theorem dX11_next_207 : decode cX11_next 207 = .ok (.iconst 1, 1) := by decide +kernel
theorem dX11_next_208 : decode cX11_next 208 = .ok (.iadd, 1) := by decide +kernel
theorem dX11_next_209 : decode cX11_next 209 = .ok (.putfield 86, 3) := by decide +kernel
theorem dX11_next_212 : decode cX11_next 212 = .ok (.goto (-59), 3) := by decide +kernel
theorem dX11_next_215 : decode cX11_next 215 = .ok (.aload_n 0, 1) := by decide +kernel
theorem dX11_next_216 : decode cX11_next 216 = .ok (.iload_n 1, 1) := by decide +kernel
theorem dX11_next_217 : decode cX11_next 217 = .ok (.iconst 2, 1) := by decide +kernel
theorem dX11_next_218 : decode cX11_next 218 = .ok (.if_icmp .le 7, 3) := by decide +kernel
theorem dX11_next_221 : decode cX11_next 221 = .ok (.iconst 0, 1) := by decide +kernel
theorem dX11_next_222 : decode cX11_next 222 = .ok (.goto 4, 3) := by decide +kernel
theorem dX11_next_225 : decode cX11_next 225 = .ok (.iconst 3, 1) := by decide +kernel
theorem dX11_next_226 : decode cX11_next 226 = .ok (.putfield 103, 3) := by decide +kernel
theorem dX11_next_229 : decode cX11_next 229 = .ok (.goto 36, 3) := by decide +kernel
theorem dX11_next_232 : decode cX11_next 232 = .ok (.aload_n 0, 1) := by decide +kernel
theorem dX11_next_233 : decode cX11_next 233 = .ok (.aload_n 0, 1) := by decide +kernel
theorem dX11_next_234 : decode cX11_next 234 = .ok (.getfield 26, 3) := by decide +kernel
theorem dX11_next_237 : decode cX11_next 237 = .ok (.aload_n 0, 1) := by decide +kernel
theorem dX11_next_238 : decode cX11_next 238 = .ok (.getfield 86, 3) := by decide +kernel
theorem dX11_next_241 : decode cX11_next 241 = .ok (.iaload, 1) := by decide +kernel
theorem dX11_next_242 : decode cX11_next 242 = .ok (.bipush 59, 2) := by decide +kernel
theorem dX11_next_244 : decode cX11_next 244 = .ok (.if_icmp .ne 7, 3) := by decide +kernel
theorem dX11_next_247 : decode cX11_next 247 = .ok (.iconst 4, 1) := by decide +kernel
theorem dX11_next_248 : decode cX11_next 248 = .ok (.goto 4, 3) := by decide +kernel
theorem dX11_next_251 : decode cX11_next 251 = .ok (.iconst 0, 1) := by decide +kernel
theorem dX11_next_252 : decode cX11_next 252 = .ok (.putfield 103, 3) := by decide +kernel
theorem dX11_next_255 : decode cX11_next 255 = .ok (.aload_n 0, 1) := by decide +kernel
theorem dX11_next_256 : decode cX11_next 256 = .ok (.dup, 1) := by decide +kernel
theorem dX11_next_257 : decode cX11_next 257 = .ok (.getfield 86, 3) := by decide +kernel
theorem dX11_next_260 : decode cX11_next 260 = .ok (.iconst 1, 1) := by decide +kernel
theorem dX11_next_261 : decode cX11_next 261 = .ok (.iadd, 1) := by decide +kernel
theorem dX11_next_262 : decode cX11_next 262 = .ok (.putfield 86, 3) := by decide +kernel
theorem dX11_next_265 : decode cX11_next 265 = .ok (.return_, 1) := by decide +kernel
theorem dX11_faultHere_0 : decode cX11_faultHere 0 = .ok (.aload_n 0, 1) := by decide +kernel
theorem dX11_faultHere_1 : decode cX11_faultHere 1 = .ok (.getfield 121, 3) := by decide +kernel
theorem dX11_faultHere_4 : decode cX11_faultHere 4 = .ok (.iconst (-1), 1) := by decide +kernel
theorem dX11_faultHere_5 : decode cX11_faultHere 5 = .ok (.if_icmp .ne 26, 3) := by decide +kernel
theorem dX11_faultHere_8 : decode cX11_faultHere 8 = .ok (.aload_n 0, 1) := by decide +kernel
theorem dX11_faultHere_9 : decode cX11_faultHere 9 = .ok (.aload_n 0, 1) := by decide +kernel
theorem dX11_faultHere_10 : decode cX11_faultHere 10 = .ok (.getfield 103, 3) := by decide +kernel
theorem dX11_faultHere_13 : decode cX11_faultHere 13 = .ok (.iconst 1, 1) := by decide +kernel
theorem dX11_faultHere_14 : decode cX11_faultHere 14 = .ok (.if_icmp .ne 10, 3) := by decide +kernel
theorem dX11_faultHere_17 : decode cX11_faultHere 17 = .ok (.aload_n 0, 1) := by decide +kernel
theorem dX11_faultHere_18 : decode cX11_faultHere 18 = .ok (.getfield 83, 3) := by decide +kernel
theorem dX11_faultHere_21 : decode cX11_faultHere 21 = .ok (.goto 7, 3) := by decide +kernel
theorem dX11_faultHere_24 : decode cX11_faultHere 24 = .ok (.aload_n 0, 1) := by decide +kernel
theorem dX11_faultHere_25 : decode cX11_faultHere 25 = .ok (.getfield 97, 3) := by decide +kernel
theorem dX11_faultHere_28 : decode cX11_faultHere 28 = .ok (.putfield 121, 3) := by decide +kernel
theorem dX11_faultHere_31 : decode cX11_faultHere 31 = .ok (.return_, 1) := by decide +kernel
set_option maxRecDepth 20000 in
theorem ggX11_number_X11_faultHere : GoodIn wsX11_number wsX11_faultHere := goodIn_r _ [8, 1, 2, 9, 10, 36, 37, 38, 39, 40, 41, 42, 43, 44, 45, 46, 47, 48, 49, 50, 51, 52, 53, 54, 55] (by decide +kernel) (by decide +kernel)
set_option maxRecDepth 20000 in
theorem gX11_number_X11_faultHere : GoodIn wsX11_number (wsV RX11 124 RX11 yX11_faultHere wsX11_faultHere) := goodIn_app (goodIn_of _ (by decide +kernel)) ggX11_number_X11_faultHere
set_option maxRecDepth 20000 in
theorem ggX11_number_X11_next : GoodIn wsX11_number wsX11_next := goodIn_r _ [14, 15, 9, 16, 10, 3, 2, 17, 18, 19, 20, 21, 22, 23, 24, 7, 25, 26, 27, 28, 29, 30, 31, 32, 33, 34, 35, 36, 37, 38, 39, 40, 41, 42, 43, 44, 45, 46, 47, 48, 49, 50, 51, 52, 53, 54, 55] (by decide +kernel) (by decide +kernel)
set_option maxRecDepth 20000 in
theorem gX11_number_X11_next : GoodIn wsX11_number (wsV RX11 127 RX11 yX11_next wsX11_next) := goodIn_app (goodIn_of _ (by decide +kernel)) ggX11_number_X11_next
theorem dX11_number_0 : decode cX11_number 0 = .ok (.aload_n 0, 1) := by decide +kernel
theorem dX11_number_1 : decode cX11_number 1 = .ok (.getfield 121, 3) := by decide +kernel
theorem dX11_number_4 : decode cX11_number 4 = .ok (.iconst (-1), 1) := by decide +kernel
theorem dX11_number_5 : decode cX11_number 5 = .ok (.if_icmp .ne 31, 3) := by decide +kernel
theorem dX11_number_8 : decode cX11_number 8 = .ok (.aload_n 0, 1) := by decide +kernel
theorem dX11_number_9 : decode cX11_number 9 = .ok (.getfield 103, 3) := by decide +kernel
theorem dX11_number_12 : decode cX11_number 12 = .ok (.iconst 3, 1) := by decide +kernel
theorem dX11_number_13 : decode cX11_number 13 = .ok (.if_icmp .ne 23, 3) := by decide +kernel
theorem dX11_number_16 : decode cX11_number 16 = .ok (.aload_n 0, 1) := by decide +kernel
theorem dX11_number_17 : decode cX11_number 17 = .ok (.getfield 100, 3) := by decide +kernel
theorem dX11_number_20 : decode cX11_number 20 = .ok (.iload_n 1, 1) := by decide +kernel
theorem dX11_number_21 : decode cX11_number 21 = .ok (.i2l, 1) := by decide +kernel
theorem dX11_number_22 : decode cX11_number 22 = .ok (.lcmp, 1) := by decide +kernel
theorem dX11_number_23 : decode cX11_number 23 = .ok (.ifCond .gt 13, 3) := by decide +kernel
theorem dX11_number_26 : decode cX11_number 26 = .ok (.aload_n 0, 1) := by decide +kernel
theorem dX11_number_27 : decode cX11_number 27 = .ok (.getfield 100, 3) := by decide +kernel
theorem dX11_number_30 : decode cX11_number 30 = .ok (.iload_n 2, 1) := by decide +kernel
theorem dX11_number_31 : decode cX11_number 31 = .ok (.i2l, 1) := by decide +kernel
theorem dX11_number_32 : decode cX11_number 32 = .ok (.lcmp, 1) := by decide +kernel
theorem dX11_number_33 : decode cX11_number 33 = .ok (.ifCond .ne 9, 3) := by decide +kernel
theorem dX11_number_36 : decode cX11_number 36 = .ok (.aload_n 0, 1) := by decide +kernel
theorem dX11_number_37 : decode cX11_number 37 = .ok (.invokevirtual 124, 3) := by decide +kernel
theorem dX11_number_40 : decode cX11_number 40 = .ok (.iconst 0, 1) := by decide +kernel
theorem dX11_number_41 : decode cX11_number 41 = .ok (.ireturn, 1) := by decide +kernel
theorem dX11_number_42 : decode cX11_number 42 = .ok (.aload_n 0, 1) := by decide +kernel
theorem dX11_number_43 : decode cX11_number 43 = .ok (.getfield 100, 3) := by decide +kernel
theorem dX11_number_46 : decode cX11_number 46 = .ok (.l2i, 1) := by decide +kernel
theorem dX11_number_47 : decode cX11_number 47 = .ok (.istore_n 3, 1) := by decide +kernel
theorem dX11_number_48 : decode cX11_number 48 = .ok (.aload_n 0, 1) := by decide +kernel
theorem dX11_number_49 : decode cX11_number 49 = .ok (.invokevirtual 127, 3) := by decide +kernel
theorem dX11_number_52 : decode cX11_number 52 = .ok (.iload_n 3, 1) := by decide +kernel
theorem dX11_number_53 : decode cX11_number 53 = .ok (.ireturn, 1) := by decide +kernel
set_option maxRecDepth 20000 in
theorem ggX11_sign_X11_faultHere : GoodIn wsX11_sign wsX11_faultHere := goodIn_r _ [7, 1, 2, 8, 9, 36, 37, 38, 39, 40, 41, 42, 43, 44, 45, 46, 47, 48, 49, 50, 51, 52, 53, 54, 55] (by decide +kernel) (by decide +kernel)
set_option maxRecDepth 20000 in
theorem gX11_sign_X11_faultHere : GoodIn wsX11_sign (wsV RX11 124 RX11 yX11_faultHere wsX11_faultHere) := goodIn_app (goodIn_of _ (by decide +kernel)) ggX11_sign_X11_faultHere
set_option maxRecDepth 20000 in
theorem ggX11_sign_X11_next : GoodIn wsX11_sign wsX11_next := goodIn_r _ [13, 14, 8, 15, 9, 16, 2, 17, 18, 19, 20, 21, 22, 23, 24, 6, 25, 26, 27, 28, 29, 30, 31, 32, 33, 34, 35, 36, 37, 38, 39, 40, 41, 42, 43, 44, 45, 46, 47, 48, 49, 50, 51, 52, 53, 54, 55] (by decide +kernel) (by decide +kernel)
set_option maxRecDepth 20000 in
theorem gX11_sign_X11_next : GoodIn wsX11_sign (wsV RX11 127 RX11 yX11_next wsX11_next) := goodIn_app (goodIn_of _ (by decide +kernel)) ggX11_sign_X11_next
theorem dX11_sign_0 : decode cX11_sign 0 = .ok (.aload_n 0, 1) := by decide +kernel
theorem dX11_sign_1 : decode cX11_sign 1 = .ok (.getfield 121, 3) := by decide +kernel
theorem dX11_sign_4 : decode cX11_sign 4 = .ok (.iconst (-1), 1) := by decide +kernel
theorem dX11_sign_5 : decode cX11_sign 5 = .ok (.if_icmp .ne 11, 3) := by decide +kernel
theorem dX11_sign_8 : decode cX11_sign 8 = .ok (.aload_n 0, 1) := by decide +kernel
theorem dX11_sign_9 : decode cX11_sign 9 = .ok (.getfield 103, 3) := by decide +kernel
theorem dX11_sign_12 : decode cX11_sign 12 = .ok (.iconst 4, 1) := by decide +kernel
theorem dX11_sign_13 : decode cX11_sign 13 = .ok (.if_icmp .eq 10, 3) := by decide +kernel
theorem dX11_sign_16 : decode cX11_sign 16 = .ok (.aload_n 0, 1) := by decide +kernel
theorem dX11_sign_17 : decode cX11_sign 17 = .ok (.invokevirtual 124, 3) := by decide +kernel
theorem dX11_sign_20 : decode cX11_sign 20 = .ok (.goto 7, 3) := by decide +kernel
theorem dX11_sign_23 : decode cX11_sign 23 = .ok (.aload_n 0, 1) := by decide +kernel
theorem dX11_sign_24 : decode cX11_sign 24 = .ok (.invokevirtual 127, 3) := by decide +kernel
theorem dX11_sign_27 : decode cX11_sign 27 = .ok (.return_, 1) := by decide +kernel
set_option maxRecDepth 20000 in
theorem ggX11_readItem_X11_next : GoodIn wsX11_readItem wsX11_next := goodIn_r _ [12, 13, 14, 15, 16, 2, 1, 17, 18, 19, 20, 21, 22, 23, 24, 11, 25, 26, 27, 28, 29, 30, 31, 32, 33, 34, 35, 57, 58, 59, 60, 61, 62, 63, 64, 65, 66, 67, 68, 69, 70, 71, 72, 73, 74, 75, 76] (by decide +kernel) (by decide +kernel)
set_option maxRecDepth 20000 in
theorem gX11_readItem_X11_next : GoodIn wsX11_readItem (wsV RX11 127 RX11 yX11_next wsX11_next) := goodIn_app (goodIn_of _ (by decide +kernel)) ggX11_readItem_X11_next
set_option maxRecDepth 20000 in
theorem ggX11_readItem_X11_number : GoodIn wsX11_readItem wsX11_number := goodIn_r _ [39, 5, 1, 2, 40, 41, 42, 11, 43, 14, 16, 8, 9, 10, 12, 13, 15, 17, 18, 19, 20, 21, 22, 23, 24, 25, 26, 27, 28, 29, 30, 31, 32, 33, 34, 35, 57, 58, 59, 60, 61, 62, 63, 64, 65, 66, 67, 68, 69, 70, 71, 72, 73, 74, 75, 76] (by decide +kernel) (by decide +kernel)
set_option maxRecDepth 20000 in
theorem gX11_readItem_X11_number : GoodIn wsX11_readItem (wsV RX11 132 RX11 yX11_number wsX11_number) := goodIn_app (goodIn_of _ (by decide +kernel)) ggX11_readItem_X11_number
set_option maxRecDepth 20000 in
theorem ggX11_readItem_X11_sign : GoodIn wsX11_readItem wsX11_sign := goodIn_r _ [47, 5, 1, 40, 41, 42, 11, 43, 14, 16, 8, 9, 10, 12, 13, 15, 2, 17, 18, 19, 20, 21, 22, 23, 24, 25, 26, 27, 28, 29, 30, 31, 32, 33, 34, 35, 57, 58, 59, 60, 61, 62, 63, 64, 65, 66, 67, 68, 69, 70, 71, 72, 73, 74, 75, 76] (by decide +kernel) (by decide +kernel)
set_option maxRecDepth 20000 in
theorem gX11_readItem_X11_sign : GoodIn wsX11_readItem (wsV RX11 135 RX11 yX11_sign wsX11_sign) := goodIn_app (goodIn_of _ (by decide +kernel)) ggX11_readItem_X11_sign
set_option maxRecDepth 20000 in
theorem ggX11_readItem_X11_addWord : GoodIn wsX11_readItem wsX11_addWord := goodIn_r _ [50] (by decide +kernel) (by decide +kernel)
set_option maxRecDepth 20000 in
theorem gX11_readItem_X11_addWord : GoodIn wsX11_readItem (va_wsS RX11 68 yX11_addWord wsX11_addWord) := goodIn_app (goodIn_of _ (by decide +kernel)) ggX11_readItem_X11_addWord
set_option maxRecDepth 20000 in
theorem ggX11_readItem_X11_setAlike : GoodIn wsX11_readItem wsX11_setAlike := goodIn_r _ [53] (by decide +kernel) (by decide +kernel)
set_option maxRecDepth 20000 in
theorem gX11_readItem_X11_setAlike : GoodIn wsX11_readItem (va_wsS RX11 72 yX11_setAlike wsX11_setAlike) := goodIn_app (goodIn_of _ (by decide +kernel)) ggX11_readItem_X11_setAlike
set_option maxRecDepth 20000 in
theorem ggX11_readItem_X11_addPerson : GoodIn wsX11_readItem wsX11_addPerson := goodIn_r _ [56] (by decide +kernel) (by decide +kernel)
set_option maxRecDepth 20000 in
theorem gX11_readItem_X11_addPerson : GoodIn wsX11_readItem (va_wsS RX11 77 yX11_addPerson wsX11_addPerson) := goodIn_app (goodIn_of _ (by decide +kernel)) ggX11_readItem_X11_addPerson
set_option maxRecDepth 20000 in
theorem ggX11_readItem_X11_faultHere : GoodIn wsX11_readItem wsX11_faultHere := goodIn_r _ [43, 5, 1, 14, 16, 57, 58, 59, 60, 61, 62, 63, 64, 65, 66, 67, 68, 69, 70, 71, 72, 73, 74, 75, 76] (by decide +kernel) (by decide +kernel)
set_option maxRecDepth 20000 in
theorem gX11_readItem_X11_faultHere : GoodIn wsX11_readItem (wsV RX11 124 RX11 yX11_faultHere wsX11_faultHere) := goodIn_app (goodIn_of _ (by decide +kernel)) ggX11_readItem_X11_faultHere
theorem dX11_readItem_0 : decode cX11_readItem 0 = .ok (.aload_n 0, 1) := by decide +kernel
theorem dX11_readItem_1 : decode cX11_readItem 1 = .ok (.getfield 103, 3) := by decide +kernel
theorem dX11_readItem_4 : decode cX11_readItem 4 = .ok (.iconst 2, 1) := by decide +kernel
theorem dX11_readItem_5 : decode cX11_readItem 5 = .ok (.if_icmp .ne 7, 3) := by decide +kernel
theorem dX11_readItem_8 : decode cX11_readItem 8 = .ok (.iconst 1, 1) := by decide +kernel
theorem dX11_readItem_9 : decode cX11_readItem 9 = .ok (.goto 4, 3) := by decide +kernel
theorem dX11_readItem_12 : decode cX11_readItem 12 = .ok (.iconst 0, 1) := by decide +kernel
theorem dX11_readItem_13 : decode cX11_readItem 13 = .ok (.istore_n 1, 1) := by decide +kernel
theorem dX11_readItem_14 : decode cX11_readItem 14 = .ok (.iload_n 1, 1) := by decide +kernel
theorem dX11_readItem_15 : decode cX11_readItem 15 = .ok (.ifCond .eq 80, 3) := by decide +kernel
theorem dX11_readItem_18 : decode cX11_readItem 18 = .ok (.aload_n 0, 1) := by decide +kernel
theorem dX11_readItem_19 : decode cX11_readItem 19 = .ok (.getfield 100, 3) := by decide +kernel
theorem dX11_readItem_22 : decode cX11_readItem 22 = .ok (.ldc2_w 130, 3) := by decide +kernel
theorem dX11_readItem_25 : decode cX11_readItem 25 = .ok (.lcmp, 1) := by decide +kernel
theorem dX11_readItem_26 : decode cX11_readItem 26 = .ok (.ifCond .ne 69, 3) := by decide +kernel
theorem dX11_readItem_29 : decode cX11_readItem 29 = .ok (.aload_n 0, 1) := by decide +kernel
theorem dX11_readItem_30 : decode cX11_readItem 30 = .ok (.getfield 16, 3) := by decide +kernel
theorem dX11_readItem_33 : decode cX11_readItem 33 = .ok (.iconst 0, 1) := by decide +kernel
theorem dX11_readItem_34 : decode cX11_readItem 34 = .ok (.iaload, 1) := by decide +kernel
theorem dX11_readItem_35 : decode cX11_readItem 35 = .ok (.bipush 10, 2) := by decide +kernel
theorem dX11_readItem_37 : decode cX11_readItem 37 = .ok (.if_icmp .ge 58, 3) := by decide +kernel
theorem dX11_readItem_40 : decode cX11_readItem 40 = .ok (.aload_n 0, 1) := by decide +kernel
theorem dX11_readItem_41 : decode cX11_readItem 41 = .ok (.invokevirtual 127, 3) := by decide +kernel
theorem dX11_readItem_44 : decode cX11_readItem 44 = .ok (.aload_n 0, 1) := by decide +kernel
theorem dX11_readItem_45 : decode cX11_readItem 45 = .ok (.bipush 7, 2) := by decide +kernel
theorem dX11_readItem_47 : decode cX11_readItem 47 = .ok (.iconst (-1), 1) := by decide +kernel
theorem dX11_readItem_48 : decode cX11_readItem 48 = .ok (.invokevirtual 132, 3) := by decide +kernel
theorem dX11_readItem_51 : decode cX11_readItem 51 = .ok (.istore_n 2, 1) := by decide +kernel
theorem dX11_readItem_52 : decode cX11_readItem 52 = .ok (.aload_n 0, 1) := by decide +kernel
theorem dX11_readItem_53 : decode cX11_readItem 53 = .ok (.bipush 7, 2) := by decide +kernel
theorem dX11_readItem_55 : decode cX11_readItem 55 = .ok (.iconst (-1), 1) := by decide +kernel
theorem dX11_readItem_56 : decode cX11_readItem 56 = .ok (.invokevirtual 132, 3) := by decide +kernel
theorem dX11_readItem_59 : decode cX11_readItem 59 = .ok (.istore_n 3, 1) := by decide +kernel
theorem dX11_readItem_60 : decode cX11_readItem 60 = .ok (.aload_n 0, 1) := by decide +kernel
theorem dX11_readItem_61 : decode cX11_readItem 61 = .ok (.bipush 20, 2) := by decide +kernel
theorem dX11_readItem_63 : decode cX11_readItem 63 = .ok (.iconst (-1), 1) := by decide +kernel
theorem dX11_readItem_64 : decode cX11_readItem 64 = .ok (.invokevirtual 132, 3) := by decide +kernel
theorem dX11_readItem_67 : decode cX11_readItem 67 = .ok (.istore 4, 2) := by decide +kernel
theorem dX11_readItem_69 : decode cX11_readItem 69 = .ok (.aload_n 0, 1) := by decide +kernel
theorem dX11_readItem_70 : decode cX11_readItem 70 = .ok (.invokevirtual 135, 3) := by decide +kernel
theorem dX11_readItem_73 : decode cX11_readItem 73 = .ok (.aload_n 0, 1) := by decide +kernel
theorem dX11_readItem_74 : decode cX11_readItem 74 = .ok (.getfield 121, 3) := by decide +kernel
theorem dX11_readItem_77 : decode cX11_readItem 77 = .ok (.iconst (-1), 1) := by decide +kernel
theorem dX11_readItem_78 : decode cX11_readItem 78 = .ok (.if_icmp .ne 14, 3) := by decide +kernel
theorem dX11_readItem_81 : decode cX11_readItem 81 = .ok (.aload_n 0, 1) := by decide +kernel
theorem dX11_readItem_82 : decode cX11_readItem 82 = .ok (.getfield 16, 3) := by decide +kernel
theorem dX11_readItem_85 : decode cX11_readItem 85 = .ok (.iload_n 2, 1) := by decide +kernel
theorem dX11_readItem_86 : decode cX11_readItem 86 = .ok (.iload_n 3, 1) := by decide +kernel
theorem dX11_readItem_87 : decode cX11_readItem 87 = .ok (.iload 4, 2) := by decide +kernel
theorem dX11_readItem_89 : decode cX11_readItem 89 = .ok (.invokestatic 68, 3) := by decide +kernel
theorem dX11_readItem_92 : decode cX11_readItem 92 = .ok (.goto 135, 3) := by decide +kernel
theorem dX11_readItem_95 : decode cX11_readItem 95 = .ok (.iload_n 1, 1) := by decide +kernel
theorem dX11_readItem_96 : decode cX11_readItem 96 = .ok (.ifCond .eq 59, 3) := by decide +kernel
theorem dX11_readItem_99 : decode cX11_readItem 99 = .ok (.aload_n 0, 1) := by decide +kernel
theorem dX11_readItem_100 : decode cX11_readItem 100 = .ok (.getfield 100, 3) := by decide +kernel
theorem dX11_readItem_103 : decode cX11_readItem 103 = .ok (.ldc2_w 138, 3) := by decide +kernel
theorem dX11_readItem_106 : decode cX11_readItem 106 = .ok (.lcmp, 1) := by decide +kernel
theorem dX11_readItem_107 : decode cX11_readItem 107 = .ok (.ifCond .ne 48, 3) := by decide +kernel
theorem dX11_readItem_110 : decode cX11_readItem 110 = .ok (.aload_n 0, 1) := by decide +kernel
theorem dX11_readItem_111 : decode cX11_readItem 111 = .ok (.invokevirtual 127, 3) := by decide +kernel
theorem dX11_readItem_114 : decode cX11_readItem 114 = .ok (.aload_n 0, 1) := by decide +kernel
theorem dX11_readItem_115 : decode cX11_readItem 115 = .ok (.bipush 7, 2) := by decide +kernel
theorem dX11_readItem_117 : decode cX11_readItem 117 = .ok (.iconst (-1), 1) := by decide +kernel
theorem dX11_readItem_118 : decode cX11_readItem 118 = .ok (.invokevirtual 132, 3) := by decide +kernel
theorem dX11_readItem_121 : decode cX11_readItem 121 = .ok (.istore_n 2, 1) := by decide +kernel
theorem dX11_readItem_122 : decode cX11_readItem 122 = .ok (.aload_n 0, 1) := by decide +kernel
theorem dX11_readItem_123 : decode cX11_readItem 123 = .ok (.bipush 7, 2) := by decide +kernel
theorem dX11_readItem_125 : decode cX11_readItem 125 = .ok (.iload_n 2, 1) := by decide +kernel
theorem dX11_readItem_126 : decode cX11_readItem 126 = .ok (.invokevirtual 132, 3) := by decide +kernel
theorem dX11_readItem_129 : decode cX11_readItem 129 = .ok (.istore_n 3, 1) := by decide +kernel
theorem dX11_readItem_130 : decode cX11_readItem 130 = .ok (.aload_n 0, 1) := by decide +kernel
theorem dX11_readItem_131 : decode cX11_readItem 131 = .ok (.invokevirtual 135, 3) := by decide +kernel
theorem dX11_readItem_134 : decode cX11_readItem 134 = .ok (.aload_n 0, 1) := by decide +kernel
theorem dX11_readItem_135 : decode cX11_readItem 135 = .ok (.getfield 121, 3) := by decide +kernel
theorem dX11_readItem_138 : decode cX11_readItem 138 = .ok (.iconst (-1), 1) := by decide +kernel
theorem dX11_readItem_139 : decode cX11_readItem 139 = .ok (.if_icmp .ne 13, 3) := by decide +kernel
theorem dX11_readItem_142 : decode cX11_readItem 142 = .ok (.aload_n 0, 1) := by decide +kernel
theorem dX11_readItem_143 : decode cX11_readItem 143 = .ok (.getfield 16, 3) := by decide +kernel
theorem dX11_readItem_146 : decode cX11_readItem 146 = .ok (.iload_n 2, 1) := by decide +kernel
theorem dX11_readItem_147 : decode cX11_readItem 147 = .ok (.iload_n 3, 1) := by decide +kernel
theorem dX11_readItem_148 : decode cX11_readItem 148 = .ok (.iconst 1, 1) := by decide +kernel
theorem dX11_readItem_149 : decode cX11_readItem 149 = .ok (.invokestatic 72, 3) := by decide +kernel
theorem dX11_readItem_152 : decode cX11_readItem 152 = .ok (.goto 75, 3) := by decide +kernel
theorem dX11_readItem_155 : decode cX11_readItem 155 = .ok (.iload_n 1, 1) := by decide +kernel
theorem dX11_readItem_156 : decode cX11_readItem 156 = .ok (.ifCond .eq 67, 3) := by decide +kernel
theorem dX11_readItem_159 : decode cX11_readItem 159 = .ok (.aload_n 0, 1) := by decide +kernel
theorem dX11_readItem_160 : decode cX11_readItem 160 = .ok (.getfield 100, 3) := by decide +kernel
theorem dX11_readItem_163 : decode cX11_readItem 163 = .ok (.ldc2_w 140, 3) := by decide +kernel
theorem dX11_readItem_166 : decode cX11_readItem 166 = .ok (.lcmp, 1) := by decide +kernel
theorem dX11_readItem_167 : decode cX11_readItem 167 = .ok (.ifCond .ne 56, 3) := by decide +kernel
theorem dX11_readItem_170 : decode cX11_readItem 170 = .ok (.aload_n 0, 1) := by decide +kernel
theorem dX11_readItem_171 : decode cX11_readItem 171 = .ok (.getfield 16, 3) := by decide +kernel
theorem dX11_readItem_174 : decode cX11_readItem 174 = .ok (.iconst 1, 1) := by decide +kernel
theorem dX11_readItem_175 : decode cX11_readItem 175 = .ok (.iaload, 1) := by decide +kernel
theorem dX11_readItem_176 : decode cX11_readItem 176 = .ok (.iconst 5, 1) := by decide +kernel
theorem dX11_readItem_177 : decode cX11_readItem 177 = .ok (.if_icmp .ge 46, 3) := by decide +kernel
