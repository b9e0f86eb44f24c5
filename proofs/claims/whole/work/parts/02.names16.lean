theorem dX11_fewest_80 : decode cX11_fewest 80 = .ok (.iconst (-1), 1) := by decide +kernel
theorem dX11_fewest_81 : decode cX11_fewest 81 = .ok (.ixor, 1) := by decide +kernel
theorem dX11_fewest_82 : decode cX11_fewest 82 = .ok (.iand, 1) := by decide +kernel
theorem dX11_fewest_83 : decode cX11_fewest 83 = .ok (.ifCond .ne 7, 3) := by decide +kernel
theorem dX11_fewest_86 : decode cX11_fewest 86 = .ok (.iconst 1, 1) := by decide +kernel
theorem dX11_fewest_87 : decode cX11_fewest 87 = .ok (.goto 4, 3) := by decide +kernel
theorem dX11_fewest_90 : decode cX11_fewest 90 = .ok (.iconst 0, 1) := by decide +kernel
theorem dX11_fewest_91 : decode cX11_fewest 91 = .ok (.istore 5, 2) := by decide +kernel
theorem dX11_fewest_93 : decode cX11_fewest 93 = .ok (.iload 5, 2) := by decide +kernel
theorem dX11_fewest_95 : decode cX11_fewest 95 = .ok (.ifCond .eq 25, 3) := by decide +kernel
theorem dX11_fewest_98 : decode cX11_fewest 98 = .ok (.iload_n 3, 1) := by decide +kernel
theorem dX11_fewest_99 : decode cX11_fewest 99 = .ok (.iconst (-1), 1) := by decide +kernel
theorem dX11_fewest_100 : decode cX11_fewest 100 = .ok (.if_icmp .eq 15, 3) := by decide +kernel
theorem dX11_fewest_103 : decode cX11_fewest 103 = .ok (.iload 4, 2) := by decide +kernel
theorem dX11_fewest_105 : decode cX11_fewest 105 = .ok (.invokestatic 195, 3) := by decide +kernel
theorem dX11_fewest_108 : decode cX11_fewest 108 = .ok (.iload_n 3, 1) := by decide +kernel
theorem dX11_fewest_109 : decode cX11_fewest 109 = .ok (.invokestatic 195, 3) := by decide +kernel
theorem dX11_fewest_112 : decode cX11_fewest 112 = .ok (.if_icmp .ge 8, 3) := by decide +kernel
theorem dX11_fewest_115 : decode cX11_fewest 115 = .ok (.iload 4, 2) := by decide +kernel
theorem dX11_fewest_117 : decode cX11_fewest 117 = .ok (.goto 4, 3) := by decide +kernel
theorem dX11_fewest_120 : decode cX11_fewest 120 = .ok (.iload_n 3, 1) := by decide +kernel
theorem dX11_fewest_121 : decode cX11_fewest 121 = .ok (.istore_n 3, 1) := by decide +kernel
theorem dX11_fewest_122 : decode cX11_fewest 122 = .ok (.iinc 4 1, 3) := by decide +kernel
theorem dX11_fewest_125 : decode cX11_fewest 125 = .ok (.goto (-65), 3) := by decide +kernel
theorem dX11_fewest_128 : decode cX11_fewest 128 = .ok (.iload_n 3, 1) := by decide +kernel
theorem dX11_fewest_129 : decode cX11_fewest 129 = .ok (.ireturn, 1) := by decide +kernel
set_option maxRecDepth 20000 in
theorem ggX11_errand_X11_areMeanings : GoodIn wsX11_errand wsX11_areMeanings := goodIn_r _ [7, 8, 9, 10, 6, 11] (by decide +kernel) (by decide +kernel)
set_option maxRecDepth 20000 in
theorem gX11_errand_X11_areMeanings : GoodIn wsX11_errand (va_wsS RX11 205 yX11_areMeanings wsX11_areMeanings) := goodIn_app (goodIn_of _ (by decide +kernel)) ggX11_errand_X11_areMeanings
set_option maxRecDepth 20000 in
theorem ggX11_errand_X11_in : GoodIn wsX11_errand wsX11_in := goodIn_r _ [11] (by decide +kernel) (by decide +kernel)
set_option maxRecDepth 20000 in
theorem gX11_errand_X11_in : GoodIn wsX11_errand (va_wsS RX11 47 yX11_in wsX11_in) := goodIn_app (goodIn_of _ (by decide +kernel)) ggX11_errand_X11_in
set_option maxRecDepth 20000 in
theorem ggX11_errand_X11_badTen : GoodIn wsX11_errand wsX11_badTen := goodIn_r _ [15, 16, 17, 18, 6, 19, 20, 76, 77, 78, 79, 80, 81, 82, 83, 84, 85, 86, 87, 88, 89, 90, 91, 92, 93, 94, 95] (by decide +kernel) (by decide +kernel)
set_option maxRecDepth 20000 in
theorem gX11_errand_X11_badTen : GoodIn wsX11_errand (wsV RX11 211 RX11 yX11_badTen wsX11_badTen) := goodIn_app (goodIn_of _ (by decide +kernel)) ggX11_errand_X11_badTen
set_option maxRecDepth 20000 in
theorem ggX11_errand_X11_canSay : GoodIn wsX11_errand wsX11_canSay := goodIn_r _ [24, 25, 26, 27, 6, 28, 2, 29, 30, 31, 32, 33, 34, 35, 36, 37, 38, 39, 40, 41, 42, 43, 44, 45, 46, 47, 48, 49, 50, 51, 52, 53, 54, 55, 56, 57, 58, 59, 60, 61, 62, 63, 64, 65, 66, 67, 68, 69, 70, 71, 76, 77, 78, 79, 80, 81, 82, 83, 84, 85, 86, 87, 88, 89, 90, 91, 92, 93, 94, 95] (by decide +kernel) (by decide +kernel)
set_option maxRecDepth 20000 in
theorem gX11_errand_X11_canSay : GoodIn wsX11_errand (wsV RX11 202 RX11 yX11_canSay wsX11_canSay) := goodIn_app (goodIn_of _ (by decide +kernel)) ggX11_errand_X11_canSay
set_option maxRecDepth 20000 in
theorem ggX11_errand_X11_has : GoodIn wsX11_errand wsX11_has := goodIn_r _ [59] (by decide +kernel) (by decide +kernel)
set_option maxRecDepth 20000 in
theorem gX11_errand_X11_has : GoodIn wsX11_errand (va_wsS RX11 155 yX11_has wsX11_has) := goodIn_app (goodIn_of _ (by decide +kernel)) ggX11_errand_X11_has
set_option maxRecDepth 20000 in
theorem ggX11_errand_X11_saidBy : GoodIn wsX11_errand wsX11_saidBy := goodIn_r _ [75, 2, 3, 57, 58, 6, 59, 76, 77, 78, 79, 80, 81, 82, 83, 84, 85, 86, 87, 88, 89, 90, 91, 92, 93, 94, 95] (by decide +kernel) (by decide +kernel)
set_option maxRecDepth 20000 in
theorem gX11_errand_X11_saidBy : GoodIn wsX11_errand (wsV RX11 208 RX11 yX11_saidBy wsX11_saidBy) := goodIn_app (goodIn_of _ (by decide +kernel)) ggX11_errand_X11_saidBy
theorem dX11_errand_0 : decode cX11_errand 0 = .ok (.aload_n 0, 1) := by decide +kernel
theorem dX11_errand_1 : decode cX11_errand 1 = .ok (.iconst 0, 1) := by decide +kernel
theorem dX11_errand_2 : decode cX11_errand 2 = .ok (.putfield 39, 3) := by decide +kernel
theorem dX11_errand_5 : decode cX11_errand 5 = .ok (.iload_n 1, 1) := by decide +kernel
theorem dX11_errand_6 : decode cX11_errand 6 = .ok (.invokestatic 205, 3) := by decide +kernel
theorem dX11_errand_9 : decode cX11_errand 9 = .ok (.ifCond .eq 13, 3) := by decide +kernel
theorem dX11_errand_12 : decode cX11_errand 12 = .ok (.iload_n 2, 1) := by decide +kernel
theorem dX11_errand_13 : decode cX11_errand 13 = .ok (.i2l, 1) := by decide +kernel
theorem dX11_errand_14 : decode cX11_errand 14 = .ok (.lconst 0, 1) := by decide +kernel
theorem dX11_errand_15 : decode cX11_errand 15 = .ok (.lconst 1, 1) := by decide +kernel
theorem dX11_errand_16 : decode cX11_errand 16 = .ok (.invokestatic 47, 3) := by decide +kernel
theorem dX11_errand_19 : decode cX11_errand 19 = .ok (.ifCond .ne 8, 3) := by decide +kernel
theorem dX11_errand_22 : decode cX11_errand 22 = .ok (.aload_n 0, 1) := by decide +kernel
theorem dX11_errand_23 : decode cX11_errand 23 = .ok (.invokevirtual 211, 3) := by decide +kernel
theorem dX11_errand_26 : decode cX11_errand 26 = .ok (.ireturn, 1) := by decide +kernel
theorem dX11_errand_27 : decode cX11_errand 27 = .ok (.iconst 0, 1) := by decide +kernel
theorem dX11_errand_28 : decode cX11_errand 28 = .ok (.istore_n 3, 1) := by decide +kernel
theorem dX11_errand_29 : decode cX11_errand 29 = .ok (.iload_n 3, 1) := by decide +kernel
theorem dX11_errand_30 : decode cX11_errand 30 = .ok (.aload_n 0, 1) := by decide +kernel
theorem dX11_errand_31 : decode cX11_errand 31 = .ok (.getfield 13, 3) := by decide +kernel
theorem dX11_errand_34 : decode cX11_errand 34 = .ok (.iconst 0, 1) := by decide +kernel
theorem dX11_errand_35 : decode cX11_errand 35 = .ok (.iaload, 1) := by decide +kernel
theorem dX11_errand_36 : decode cX11_errand 36 = .ok (.if_icmp .ge 52, 3) := by decide +kernel
theorem dX11_errand_39 : decode cX11_errand 39 = .ok (.aload_n 0, 1) := by decide +kernel
theorem dX11_errand_40 : decode cX11_errand 40 = .ok (.getfield 29, 3) := by decide +kernel
theorem dX11_errand_43 : decode cX11_errand 43 = .ok (.iload_n 3, 1) := by decide +kernel
theorem dX11_errand_44 : decode cX11_errand 44 = .ok (.iconst 0, 1) := by decide +kernel
theorem dX11_errand_45 : decode cX11_errand 45 = .ok (.iastore, 1) := by decide +kernel
theorem dX11_errand_46 : decode cX11_errand 46 = .ok (.iconst 0, 1) := by decide +kernel
theorem dX11_errand_47 : decode cX11_errand 47 = .ok (.istore 4, 2) := by decide +kernel
theorem dX11_errand_49 : decode cX11_errand 49 = .ok (.iload 4, 2) := by decide +kernel
theorem dX11_errand_51 : decode cX11_errand 51 = .ok (.aload_n 0, 1) := by decide +kernel
theorem dX11_errand_52 : decode cX11_errand 52 = .ok (.getfield 13, 3) := by decide +kernel
theorem dX11_errand_55 : decode cX11_errand 55 = .ok (.iconst 1, 1) := by decide +kernel
theorem dX11_errand_56 : decode cX11_errand 56 = .ok (.iaload, 1) := by decide +kernel
theorem dX11_errand_57 : decode cX11_errand 57 = .ok (.if_icmp .ge 25, 3) := by decide +kernel
theorem dX11_errand_60 : decode cX11_errand 60 = .ok (.aload_n 0, 1) := by decide +kernel
theorem dX11_errand_61 : decode cX11_errand 61 = .ok (.getfield 29, 3) := by decide +kernel
theorem dX11_errand_64 : decode cX11_errand 64 = .ok (.iload_n 3, 1) := by decide +kernel
theorem dX11_errand_65 : decode cX11_errand 65 = .ok (.dup2, 1) := by decide +kernel
theorem dX11_errand_66 : decode cX11_errand 66 = .ok (.iaload, 1) := by decide +kernel
theorem dX11_errand_67 : decode cX11_errand 67 = .ok (.aload_n 0, 1) := by decide +kernel
theorem dX11_errand_68 : decode cX11_errand 68 = .ok (.iload 4, 2) := by decide +kernel
theorem dX11_errand_70 : decode cX11_errand 70 = .ok (.iload_n 3, 1) := by decide +kernel
theorem dX11_errand_71 : decode cX11_errand 71 = .ok (.invokevirtual 202, 3) := by decide +kernel
theorem dX11_errand_74 : decode cX11_errand 74 = .ok (.ior, 1) := by decide +kernel
theorem dX11_errand_75 : decode cX11_errand 75 = .ok (.iastore, 1) := by decide +kernel
theorem dX11_errand_76 : decode cX11_errand 76 = .ok (.iinc 4 1, 3) := by decide +kernel
theorem dX11_errand_79 : decode cX11_errand 79 = .ok (.goto (-30), 3) := by decide +kernel
theorem dX11_errand_82 : decode cX11_errand 82 = .ok (.iinc 3 1, 3) := by decide +kernel
theorem dX11_errand_85 : decode cX11_errand 85 = .ok (.goto (-56), 3) := by decide +kernel
theorem dX11_errand_88 : decode cX11_errand 88 = .ok (.iconst (-1), 1) := by decide +kernel
theorem dX11_errand_89 : decode cX11_errand 89 = .ok (.istore_n 3, 1) := by decide +kernel
theorem dX11_errand_90 : decode cX11_errand 90 = .ok (.iconst (-1), 1) := by decide +kernel
theorem dX11_errand_91 : decode cX11_errand 91 = .ok (.istore 4, 2) := by decide +kernel
theorem dX11_errand_93 : decode cX11_errand 93 = .ok (.iconst 0, 1) := by decide +kernel
theorem dX11_errand_94 : decode cX11_errand 94 = .ok (.istore 5, 2) := by decide +kernel
theorem dX11_errand_96 : decode cX11_errand 96 = .ok (.iload 5, 2) := by decide +kernel
theorem dX11_errand_98 : decode cX11_errand 98 = .ok (.iconst 1, 1) := by decide +kernel
theorem dX11_errand_99 : decode cX11_errand 99 = .ok (.aload_n 0, 1) := by decide +kernel
theorem dX11_errand_100 : decode cX11_errand 100 = .ok (.getfield 13, 3) := by decide +kernel
theorem dX11_errand_103 : decode cX11_errand 103 = .ok (.iconst 0, 1) := by decide +kernel
theorem dX11_errand_104 : decode cX11_errand 104 = .ok (.iaload, 1) := by decide +kernel
theorem dX11_errand_105 : decode cX11_errand 105 = .ok (.ishl, 1) := by decide +kernel
theorem dX11_errand_106 : decode cX11_errand 106 = .ok (.if_icmp .ge 122, 3) := by decide +kernel
theorem dX11_errand_109 : decode cX11_errand 109 = .ok (.iconst 0, 1) := by decide +kernel
theorem dX11_errand_110 : decode cX11_errand 110 = .ok (.istore 6, 2) := by decide +kernel
theorem dX11_errand_112 : decode cX11_errand 112 = .ok (.iconst 0, 1) := by decide +kernel
theorem dX11_errand_113 : decode cX11_errand 113 = .ok (.istore 7, 2) := by decide +kernel
theorem dX11_errand_115 : decode cX11_errand 115 = .ok (.iload 7, 2) := by decide +kernel
theorem dX11_errand_117 : decode cX11_errand 117 = .ok (.aload_n 0, 1) := by decide +kernel
theorem dX11_errand_118 : decode cX11_errand 118 = .ok (.getfield 13, 3) := by decide +kernel
theorem dX11_errand_121 : decode cX11_errand 121 = .ok (.iconst 0, 1) := by decide +kernel
theorem dX11_errand_122 : decode cX11_errand 122 = .ok (.iaload, 1) := by decide +kernel
theorem dX11_errand_123 : decode cX11_errand 123 = .ok (.if_icmp .ge 41, 3) := by decide +kernel
theorem dX11_errand_126 : decode cX11_errand 126 = .ok (.iload 6, 2) := by decide +kernel
theorem dX11_errand_128 : decode cX11_errand 128 = .ok (.iload 5, 2) := by decide +kernel
theorem dX11_errand_130 : decode cX11_errand 130 = .ok (.iload 7, 2) := by decide +kernel
theorem dX11_errand_132 : decode cX11_errand 132 = .ok (.invokestatic 155, 3) := by decide +kernel
theorem dX11_errand_135 : decode cX11_errand 135 = .ok (.ifCond .eq 19, 3) := by decide +kernel
theorem dX11_errand_138 : decode cX11_errand 138 = .ok (.aload_n 0, 1) := by decide +kernel
theorem dX11_errand_139 : decode cX11_errand 139 = .ok (.getfield 13, 3) := by decide +kernel
theorem dX11_errand_142 : decode cX11_errand 142 = .ok (.iconst 5, 1) := by decide +kernel
theorem dX11_errand_143 : decode cX11_errand 143 = .ok (.iconst 3, 1) := by decide +kernel
theorem dX11_errand_144 : decode cX11_errand 144 = .ok (.iload 7, 2) := by decide +kernel
theorem dX11_errand_146 : decode cX11_errand 146 = .ok (.imul, 1) := by decide +kernel
theorem dX11_errand_147 : decode cX11_errand 147 = .ok (.iadd, 1) := by decide +kernel
theorem dX11_errand_148 : decode cX11_errand 148 = .ok (.iconst 2, 1) := by decide +kernel
theorem dX11_errand_149 : decode cX11_errand 149 = .ok (.iadd, 1) := by decide +kernel
theorem dX11_errand_150 : decode cX11_errand 150 = .ok (.iaload, 1) := by decide +kernel
theorem dX11_errand_151 : decode cX11_errand 151 = .ok (.goto 4, 3) := by decide +kernel
theorem dX11_errand_154 : decode cX11_errand 154 = .ok (.iconst 0, 1) := by decide +kernel
theorem dX11_errand_155 : decode cX11_errand 155 = .ok (.iadd, 1) := by decide +kernel
theorem dX11_errand_156 : decode cX11_errand 156 = .ok (.istore 6, 2) := by decide +kernel
theorem dX11_errand_158 : decode cX11_errand 158 = .ok (.iinc 7 1, 3) := by decide +kernel
theorem dX11_errand_161 : decode cX11_errand 161 = .ok (.goto (-46), 3) := by decide +kernel
theorem dX11_errand_164 : decode cX11_errand 164 = .ok (.iload_n 1, 1) := by decide +kernel
theorem dX11_errand_165 : decode cX11_errand 165 = .ok (.aload_n 0, 1) := by decide +kernel
theorem dX11_errand_166 : decode cX11_errand 166 = .ok (.iload 5, 2) := by decide +kernel
theorem dX11_errand_168 : decode cX11_errand 168 = .ok (.invokevirtual 208, 3) := by decide +kernel
theorem dX11_errand_171 : decode cX11_errand 171 = .ok (.iconst (-1), 1) := by decide +kernel
theorem dX11_errand_172 : decode cX11_errand 172 = .ok (.ixor, 1) := by decide +kernel
theorem dX11_errand_173 : decode cX11_errand 173 = .ok (.iand, 1) := by decide +kernel
theorem dX11_errand_174 : decode cX11_errand 174 = .ok (.ifCond .ne 19, 3) := by decide +kernel
theorem dX11_errand_177 : decode cX11_errand 177 = .ok (.iload_n 3, 1) := by decide +kernel
theorem dX11_errand_178 : decode cX11_errand 178 = .ok (.iconst (-1), 1) := by decide +kernel
theorem dX11_errand_179 : decode cX11_errand 179 = .ok (.if_icmp .eq 10, 3) := by decide +kernel
theorem dX11_errand_182 : decode cX11_errand 182 = .ok (.iload 6, 2) := by decide +kernel
theorem dX11_errand_184 : decode cX11_errand 184 = .ok (.iload 4, 2) := by decide +kernel
theorem dX11_errand_186 : decode cX11_errand 186 = .ok (.if_icmp .ge 7, 3) := by decide +kernel
theorem dX11_errand_189 : decode cX11_errand 189 = .ok (.iconst 1, 1) := by decide +kernel
theorem dX11_errand_190 : decode cX11_errand 190 = .ok (.goto 4, 3) := by decide +kernel
theorem dX11_errand_193 : decode cX11_errand 193 = .ok (.iconst 0, 1) := by decide +kernel
theorem dX11_errand_194 : decode cX11_errand 194 = .ok (.istore 7, 2) := by decide +kernel
theorem dX11_errand_196 : decode cX11_errand 196 = .ok (.iload 7, 2) := by decide +kernel
theorem dX11_errand_198 : decode cX11_errand 198 = .ok (.ifCond .eq 8, 3) := by decide +kernel
theorem dX11_errand_201 : decode cX11_errand 201 = .ok (.iload 5, 2) := by decide +kernel
theorem dX11_errand_203 : decode cX11_errand 203 = .ok (.goto 4, 3) := by decide +kernel
theorem dX11_errand_206 : decode cX11_errand 206 = .ok (.iload_n 3, 1) := by decide +kernel
theorem dX11_errand_207 : decode cX11_errand 207 = .ok (.istore_n 3, 1) := by decide +kernel
theorem dX11_errand_208 : decode cX11_errand 208 = .ok (.iload 7, 2) := by decide +kernel
theorem dX11_errand_210 : decode cX11_errand 210 = .ok (.ifCond .eq 8, 3) := by decide +kernel
theorem dX11_errand_213 : decode cX11_errand 213 = .ok (.iload 6, 2) := by decide +kernel
theorem dX11_errand_215 : decode cX11_errand 215 = .ok (.goto 5, 3) := by decide +kernel
theorem dX11_errand_218 : decode cX11_errand 218 = .ok (.iload 4, 2) := by decide +kernel
theorem dX11_errand_220 : decode cX11_errand 220 = .ok (.istore 4, 2) := by decide +kernel
theorem dX11_errand_222 : decode cX11_errand 222 = .ok (.iinc 5 1, 3) := by decide +kernel
theorem dX11_errand_225 : decode cX11_errand 225 = .ok (.goto (-129), 3) := by decide +kernel
theorem dX11_errand_228 : decode cX11_errand 228 = .ok (.iload_n 2, 1) := by decide +kernel
theorem dX11_errand_229 : decode cX11_errand 229 = .ok (.ifCond .ne 8, 3) := by decide +kernel
theorem dX11_errand_232 : decode cX11_errand 232 = .ok (.iload 4, 2) := by decide +kernel
theorem dX11_errand_234 : decode cX11_errand 234 = .ok (.goto 4, 3) := by decide +kernel
theorem dX11_errand_237 : decode cX11_errand 237 = .ok (.iload_n 3, 1) := by decide +kernel
theorem dX11_errand_238 : decode cX11_errand 238 = .ok (.ireturn, 1) := by decide +kernel
set_option maxRecDepth 20000 in
theorem ggX11_hear_X11_noWord : GoodIn wsX11_hear wsX11_noWord := goodIn_r _ [7, 2, 8, 9, 6, 10, 24, 25, 26, 27, 28, 29, 30, 31, 32, 33, 34, 35, 36, 37, 38, 39, 40, 41, 42, 43] (by decide +kernel) (by decide +kernel)
set_option maxRecDepth 20000 in
theorem gX11_hear_X11_noWord : GoodIn wsX11_hear (wsV RX11 189 RX11 yX11_noWord wsX11_noWord) := goodIn_app (goodIn_of _ (by decide +kernel)) ggX11_hear_X11_noWord
set_option maxRecDepth 20000 in
theorem ggX11_hear_X11_bad : GoodIn wsX11_hear wsX11_bad := goodIn_r _ [14, 15, 16, 17, 6, 18, 19, 24, 25, 26, 27, 28, 29, 30, 31, 32, 33, 34, 35, 36, 37, 38, 39, 40, 41, 42, 43] (by decide +kernel) (by decide +kernel)
set_option maxRecDepth 20000 in
theorem gX11_hear_X11_bad : GoodIn wsX11_hear (wsV RX11 61 RX11 yX11_bad wsX11_bad) := goodIn_app (goodIn_of _ (by decide +kernel)) ggX11_hear_X11_bad
set_option maxRecDepth 20000 in
theorem ggX11_hear_X11_full : GoodIn wsX11_hear wsX11_full := goodIn_r _ [23, 15, 16, 17, 6, 18, 19, 24, 25, 26, 27, 28, 29, 30, 31, 32, 33, 34, 35, 36, 37, 38, 39, 40, 41, 42, 43] (by decide +kernel) (by decide +kernel)
set_option maxRecDepth 20000 in
theorem gX11_hear_X11_full : GoodIn wsX11_hear (wsV RX11 65 RX11 yX11_full wsX11_full) := goodIn_app (goodIn_of _ (by decide +kernel)) ggX11_hear_X11_full
theorem dX11_hear_0 : decode cX11_hear 0 = .ok (.aload_n 0, 1) := by decide +kernel
theorem dX11_hear_1 : decode cX11_hear 1 = .ok (.iconst 0, 1) := by decide +kernel
theorem dX11_hear_2 : decode cX11_hear 2 = .ok (.putfield 39, 3) := by decide +kernel
theorem dX11_hear_5 : decode cX11_hear 5 = .ok (.aload_n 0, 1) := by decide +kernel
theorem dX11_hear_6 : decode cX11_hear 6 = .ok (.iload_n 1, 1) := by decide +kernel
theorem dX11_hear_7 : decode cX11_hear 7 = .ok (.invokevirtual 189, 3) := by decide +kernel
theorem dX11_hear_10 : decode cX11_hear 10 = .ok (.ifCond .ne 16, 3) := by decide +kernel
theorem dX11_hear_13 : decode cX11_hear 13 = .ok (.iload_n 2, 1) := by decide +kernel
theorem dX11_hear_14 : decode cX11_hear 14 = .ok (.iconst (-1), 1) := by decide +kernel
theorem dX11_hear_15 : decode cX11_hear 15 = .ok (.if_icmp .eq 16, 3) := by decide +kernel
theorem dX11_hear_18 : decode cX11_hear 18 = .ok (.aload_n 0, 1) := by decide +kernel
theorem dX11_hear_19 : decode cX11_hear 19 = .ok (.iload_n 2, 1) := by decide +kernel
theorem dX11_hear_20 : decode cX11_hear 20 = .ok (.invokevirtual 189, 3) := by decide +kernel
theorem dX11_hear_23 : decode cX11_hear 23 = .ok (.ifCond .eq 8, 3) := by decide +kernel
theorem dX11_hear_26 : decode cX11_hear 26 = .ok (.aload_n 0, 1) := by decide +kernel
theorem dX11_hear_27 : decode cX11_hear 27 = .ok (.invokevirtual 61, 3) := by decide +kernel
theorem dX11_hear_30 : decode cX11_hear 30 = .ok (.ireturn, 1) := by decide +kernel
theorem dX11_hear_31 : decode cX11_hear 31 = .ok (.aload_n 0, 1) := by decide +kernel
theorem dX11_hear_32 : decode cX11_hear 32 = .ok (.getfield 13, 3) := by decide +kernel
theorem dX11_hear_35 : decode cX11_hear 35 = .ok (.iconst 3, 1) := by decide +kernel
theorem dX11_hear_36 : decode cX11_hear 36 = .ok (.iaload, 1) := by decide +kernel
theorem dX11_hear_37 : decode cX11_hear 37 = .ok (.bipush 6, 2) := by decide +kernel
theorem dX11_hear_39 : decode cX11_hear 39 = .ok (.if_icmp .ne 8, 3) := by decide +kernel
theorem dX11_hear_42 : decode cX11_hear 42 = .ok (.aload_n 0, 1) := by decide +kernel
theorem dX11_hear_43 : decode cX11_hear 43 = .ok (.invokevirtual 65, 3) := by decide +kernel
theorem dX11_hear_46 : decode cX11_hear 46 = .ok (.ireturn, 1) := by decide +kernel
theorem dX11_hear_47 : decode cX11_hear 47 = .ok (.aload_n 0, 1) := by decide +kernel
theorem dX11_hear_48 : decode cX11_hear 48 = .ok (.getfield 13, 3) := by decide +kernel
theorem dX11_hear_51 : decode cX11_hear 51 = .ok (.bipush 53, 2) := by decide +kernel
theorem dX11_hear_53 : decode cX11_hear 53 = .ok (.iconst 2, 1) := by decide +kernel
theorem dX11_hear_54 : decode cX11_hear 54 = .ok (.aload_n 0, 1) := by decide +kernel
theorem dX11_hear_55 : decode cX11_hear 55 = .ok (.getfield 13, 3) := by decide +kernel
theorem dX11_hear_58 : decode cX11_hear 58 = .ok (.iconst 3, 1) := by decide +kernel
theorem dX11_hear_59 : decode cX11_hear 59 = .ok (.iaload, 1) := by decide +kernel
theorem dX11_hear_60 : decode cX11_hear 60 = .ok (.imul, 1) := by decide +kernel
theorem dX11_hear_61 : decode cX11_hear 61 = .ok (.iadd, 1) := by decide +kernel
theorem dX11_hear_62 : decode cX11_hear 62 = .ok (.iload_n 1, 1) := by decide +kernel
theorem dX11_hear_63 : decode cX11_hear 63 = .ok (.iastore, 1) := by decide +kernel
theorem dX11_hear_64 : decode cX11_hear 64 = .ok (.aload_n 0, 1) := by decide +kernel
theorem dX11_hear_65 : decode cX11_hear 65 = .ok (.getfield 13, 3) := by decide +kernel
theorem dX11_hear_68 : decode cX11_hear 68 = .ok (.bipush 53, 2) := by decide +kernel
theorem dX11_hear_70 : decode cX11_hear 70 = .ok (.iconst 2, 1) := by decide +kernel
theorem dX11_hear_71 : decode cX11_hear 71 = .ok (.aload_n 0, 1) := by decide +kernel
theorem dX11_hear_72 : decode cX11_hear 72 = .ok (.getfield 13, 3) := by decide +kernel
theorem dX11_hear_75 : decode cX11_hear 75 = .ok (.iconst 3, 1) := by decide +kernel
theorem dX11_hear_76 : decode cX11_hear 76 = .ok (.iaload, 1) := by decide +kernel
theorem dX11_hear_77 : decode cX11_hear 77 = .ok (.imul, 1) := by decide +kernel
theorem dX11_hear_78 : decode cX11_hear 78 = .ok (.iadd, 1) := by decide +kernel
theorem dX11_hear_79 : decode cX11_hear 79 = .ok (.iconst 1, 1) := by decide +kernel
theorem dX11_hear_80 : decode cX11_hear 80 = .ok (.iadd, 1) := by decide +kernel
theorem dX11_hear_81 : decode cX11_hear 81 = .ok (.iload_n 2, 1) := by decide +kernel
theorem dX11_hear_82 : decode cX11_hear 82 = .ok (.iastore, 1) := by decide +kernel
theorem dX11_hear_83 : decode cX11_hear 83 = .ok (.aload_n 0, 1) := by decide +kernel
theorem dX11_hear_84 : decode cX11_hear 84 = .ok (.getfield 13, 3) := by decide +kernel
theorem dX11_hear_87 : decode cX11_hear 87 = .ok (.iconst 3, 1) := by decide +kernel
theorem dX11_hear_88 : decode cX11_hear 88 = .ok (.dup2, 1) := by decide +kernel
theorem dX11_hear_89 : decode cX11_hear 89 = .ok (.iaload, 1) := by decide +kernel
theorem dX11_hear_90 : decode cX11_hear 90 = .ok (.iconst 1, 1) := by decide +kernel
theorem dX11_hear_91 : decode cX11_hear 91 = .ok (.iadd, 1) := by decide +kernel
theorem dX11_hear_92 : decode cX11_hear 92 = .ok (.iastore, 1) := by decide +kernel
theorem dX11_hear_93 : decode cX11_hear 93 = .ok (.aload_n 0, 1) := by decide +kernel
theorem dX11_hear_94 : decode cX11_hear 94 = .ok (.getfield 13, 3) := by decide +kernel
theorem dX11_hear_97 : decode cX11_hear 97 = .ok (.iconst 3, 1) := by decide +kernel
theorem dX11_hear_98 : decode cX11_hear 98 = .ok (.iaload, 1) := by decide +kernel
theorem dX11_hear_99 : decode cX11_hear 99 = .ok (.ireturn, 1) := by decide +kernel
theorem dX11_forget_0 : decode cX11_forget 0 = .ok (.aload_n 0, 1) := by decide +kernel
theorem dX11_forget_1 : decode cX11_forget 1 = .ok (.iconst 0, 1) := by decide +kernel
theorem dX11_forget_2 : decode cX11_forget 2 = .ok (.putfield 39, 3) := by decide +kernel
theorem dX11_forget_5 : decode cX11_forget 5 = .ok (.aload_n 0, 1) := by decide +kernel
theorem dX11_forget_6 : decode cX11_forget 6 = .ok (.getfield 13, 3) := by decide +kernel
theorem dX11_forget_9 : decode cX11_forget 9 = .ok (.iconst 3, 1) := by decide +kernel
theorem dX11_forget_10 : decode cX11_forget 10 = .ok (.iaload, 1) := by decide +kernel
theorem dX11_forget_11 : decode cX11_forget 11 = .ok (.istore_n 1, 1) := by decide +kernel
theorem dX11_forget_12 : decode cX11_forget 12 = .ok (.aload_n 0, 1) := by decide +kernel
theorem dX11_forget_13 : decode cX11_forget 13 = .ok (.getfield 13, 3) := by decide +kernel
theorem dX11_forget_16 : decode cX11_forget 16 = .ok (.iconst 3, 1) := by decide +kernel
theorem dX11_forget_17 : decode cX11_forget 17 = .ok (.iconst 0, 1) := by decide +kernel
theorem dX11_forget_18 : decode cX11_forget 18 = .ok (.iastore, 1) := by decide +kernel
theorem dX11_forget_19 : decode cX11_forget 19 = .ok (.iload_n 1, 1) := by decide +kernel
theorem dX11_forget_20 : decode cX11_forget 20 = .ok (.ireturn, 1) := by decide +kernel
set_option maxRecDepth 20000 in
theorem ggX11_answerOf_X11_chimes : GoodIn wsX11_answerOf wsX11_chimes := goodIn_r _ [6, 7, 8, 9, 5, 10, 11, 12, 13, 14, 1, 15, 16, 17, 18, 19, 20, 21, 22, 23, 24, 25, 26, 27, 28, 29, 30, 31, 32, 33, 34, 35, 36, 37, 38, 39, 40, 41, 42, 43, 44, 45, 46, 47, 48, 49] (by decide +kernel) (by decide +kernel)
set_option maxRecDepth 20000 in
theorem gX11_answerOf_X11_chimes : GoodIn wsX11_answerOf (wsV RX11 173 RX11 yX11_chimes wsX11_chimes) := goodIn_app (goodIn_of _ (by decide +kernel)) ggX11_answerOf_X11_chimes
set_option maxRecDepth 20000 in
theorem ggX11_answerOf_X11_meaning : GoodIn wsX11_answerOf wsX11_meaning := goodIn_r _ [29, 1, 30, 31, 32, 33, 34, 35, 36, 37, 38, 39, 40, 41, 42, 43, 44, 45, 46, 47, 48, 49] (by decide +kernel) (by decide +kernel)
set_option maxRecDepth 20000 in
theorem gX11_answerOf_X11_meaning : GoodIn wsX11_answerOf (wsV RX11 164 RX11 yX11_meaning wsX11_meaning) := goodIn_app (goodIn_of _ (by decide +kernel)) ggX11_answerOf_X11_meaning
theorem dX11_answerOf_0 : decode cX11_answerOf 0 = .ok (.iconst (-1), 1) := by decide +kernel
theorem dX11_answerOf_1 : decode cX11_answerOf 1 = .ok (.istore 4, 2) := by decide +kernel
theorem dX11_answerOf_3 : decode cX11_answerOf 3 = .ok (.iconst 0, 1) := by decide +kernel
theorem dX11_answerOf_4 : decode cX11_answerOf 4 = .ok (.istore 5, 2) := by decide +kernel
theorem dX11_answerOf_6 : decode cX11_answerOf 6 = .ok (.iload 5, 2) := by decide +kernel
theorem dX11_answerOf_8 : decode cX11_answerOf 8 = .ok (.aload_n 0, 1) := by decide +kernel
theorem dX11_answerOf_9 : decode cX11_answerOf 9 = .ok (.getfield 13, 3) := by decide +kernel
theorem dX11_answerOf_12 : decode cX11_answerOf 12 = .ok (.iconst 0, 1) := by decide +kernel
theorem dX11_answerOf_13 : decode cX11_answerOf 13 = .ok (.iaload, 1) := by decide +kernel
theorem dX11_answerOf_14 : decode cX11_answerOf 14 = .ok (.if_icmp .ge 49, 3) := by decide +kernel
theorem dX11_answerOf_17 : decode cX11_answerOf 17 = .ok (.aload_n 0, 1) := by decide +kernel
theorem dX11_answerOf_18 : decode cX11_answerOf 18 = .ok (.iload_n 1, 1) := by decide +kernel
theorem dX11_answerOf_19 : decode cX11_answerOf 19 = .ok (.iload_n 2, 1) := by decide +kernel
theorem dX11_answerOf_20 : decode cX11_answerOf 20 = .ok (.iload 5, 2) := by decide +kernel
theorem dX11_answerOf_22 : decode cX11_answerOf 22 = .ok (.iload_n 3, 1) := by decide +kernel
theorem dX11_answerOf_23 : decode cX11_answerOf 23 = .ok (.invokevirtual 173, 3) := by decide +kernel
theorem dX11_answerOf_26 : decode cX11_answerOf 26 = .ok (.ifCond .eq 31, 3) := by decide +kernel
theorem dX11_answerOf_29 : decode cX11_answerOf 29 = .ok (.aload_n 0, 1) := by decide +kernel
theorem dX11_answerOf_30 : decode cX11_answerOf 30 = .ok (.iload 5, 2) := by decide +kernel
theorem dX11_answerOf_32 : decode cX11_answerOf 32 = .ok (.invokevirtual 164, 3) := by decide +kernel
theorem dX11_answerOf_35 : decode cX11_answerOf 35 = .ok (.iload_n 2, 1) := by decide +kernel
theorem dX11_answerOf_36 : decode cX11_answerOf 36 = .ok (.if_icmp .ne 6, 3) := by decide +kernel
theorem dX11_answerOf_39 : decode cX11_answerOf 39 = .ok (.iload 5, 2) := by decide +kernel
theorem dX11_answerOf_41 : decode cX11_answerOf 41 = .ok (.ireturn, 1) := by decide +kernel
theorem dX11_answerOf_42 : decode cX11_answerOf 42 = .ok (.iload 4, 2) := by decide +kernel
theorem dX11_answerOf_44 : decode cX11_answerOf 44 = .ok (.iconst (-1), 1) := by decide +kernel
theorem dX11_answerOf_45 : decode cX11_answerOf 45 = .ok (.if_icmp .ne 8, 3) := by decide +kernel
theorem dX11_answerOf_48 : decode cX11_answerOf 48 = .ok (.iload 5, 2) := by decide +kernel
theorem dX11_answerOf_50 : decode cX11_answerOf 50 = .ok (.goto 5, 3) := by decide +kernel
theorem dX11_answerOf_53 : decode cX11_answerOf 53 = .ok (.iload 4, 2) := by decide +kernel
theorem dX11_answerOf_55 : decode cX11_answerOf 55 = .ok (.istore 4, 2) := by decide +kernel
theorem dX11_answerOf_57 : decode cX11_answerOf 57 = .ok (.iinc 5 1, 3) := by decide +kernel
theorem dX11_answerOf_60 : decode cX11_answerOf 60 = .ok (.goto (-54), 3) := by decide +kernel
theorem dX11_answerOf_63 : decode cX11_answerOf 63 = .ok (.iload 4, 2) := by decide +kernel
theorem dX11_answerOf_65 : decode cX11_answerOf 65 = .ok (.ireturn, 1) := by decide +kernel
set_option maxRecDepth 20000 in
theorem ggX11_wantsOf_X11_answerOf : GoodIn wsX11_wantsOf wsX11_answerOf := goodIn_r _ [6, 1, 7, 8, 9, 5, 10, 11, 12, 13, 14, 15, 16, 17, 18, 19, 20, 21, 22, 23, 24, 25, 26, 27, 28, 29, 30, 31, 32, 33, 34, 35, 36, 37, 38, 39, 40, 41, 42, 43, 44, 45, 46, 47, 48, 49, 50, 51, 52, 53] (by decide +kernel) (by decide +kernel)
set_option maxRecDepth 20000 in
theorem gX11_wantsOf_X11_answerOf : GoodIn wsX11_wantsOf (wsV RX11 214 RX11 yX11_answerOf wsX11_answerOf) := goodIn_app (goodIn_of _ (by decide +kernel)) ggX11_wantsOf_X11_answerOf
theorem dX11_wantsOf_0 : decode cX11_wantsOf 0 = .ok (.iconst 0, 1) := by decide +kernel
theorem dX11_wantsOf_1 : decode cX11_wantsOf 1 = .ok (.istore_n 2, 1) := by decide +kernel
theorem dX11_wantsOf_2 : decode cX11_wantsOf 2 = .ok (.iconst 0, 1) := by decide +kernel
theorem dX11_wantsOf_3 : decode cX11_wantsOf 3 = .ok (.istore_n 3, 1) := by decide +kernel
theorem dX11_wantsOf_4 : decode cX11_wantsOf 4 = .ok (.iload_n 3, 1) := by decide +kernel
theorem dX11_wantsOf_5 : decode cX11_wantsOf 5 = .ok (.bipush 8, 2) := by decide +kernel
theorem dX11_wantsOf_7 : decode cX11_wantsOf 7 = .ok (.if_icmp .ge 94, 3) := by decide +kernel
theorem dX11_wantsOf_10 : decode cX11_wantsOf 10 = .ok (.iconst 1, 1) := by decide +kernel
theorem dX11_wantsOf_11 : decode cX11_wantsOf 11 = .ok (.istore 4, 2) := by decide +kernel
theorem dX11_wantsOf_13 : decode cX11_wantsOf 13 = .ok (.iconst 0, 1) := by decide +kernel
theorem dX11_wantsOf_14 : decode cX11_wantsOf 14 = .ok (.istore 5, 2) := by decide +kernel
theorem dX11_wantsOf_16 : decode cX11_wantsOf 16 = .ok (.iload 5, 2) := by decide +kernel
theorem dX11_wantsOf_18 : decode cX11_wantsOf 18 = .ok (.aload_n 0, 1) := by decide +kernel
theorem dX11_wantsOf_19 : decode cX11_wantsOf 19 = .ok (.getfield 13, 3) := by decide +kernel
theorem dX11_wantsOf_22 : decode cX11_wantsOf 22 = .ok (.iconst 3, 1) := by decide +kernel
theorem dX11_wantsOf_23 : decode cX11_wantsOf 23 = .ok (.iaload, 1) := by decide +kernel
theorem dX11_wantsOf_24 : decode cX11_wantsOf 24 = .ok (.if_icmp .ge 56, 3) := by decide +kernel
theorem dX11_wantsOf_27 : decode cX11_wantsOf 27 = .ok (.iload 4, 2) := by decide +kernel
theorem dX11_wantsOf_29 : decode cX11_wantsOf 29 = .ok (.ifCond .eq 42, 3) := by decide +kernel
theorem dX11_wantsOf_32 : decode cX11_wantsOf 32 = .ok (.aload_n 0, 1) := by decide +kernel
theorem dX11_wantsOf_33 : decode cX11_wantsOf 33 = .ok (.iload_n 1, 1) := by decide +kernel
theorem dX11_wantsOf_34 : decode cX11_wantsOf 34 = .ok (.iload_n 3, 1) := by decide +kernel
theorem dX11_wantsOf_35 : decode cX11_wantsOf 35 = .ok (.aload_n 0, 1) := by decide +kernel
theorem dX11_wantsOf_36 : decode cX11_wantsOf 36 = .ok (.getfield 13, 3) := by decide +kernel
theorem dX11_wantsOf_39 : decode cX11_wantsOf 39 = .ok (.bipush 53, 2) := by decide +kernel
theorem dX11_wantsOf_41 : decode cX11_wantsOf 41 = .ok (.iconst 2, 1) := by decide +kernel
theorem dX11_wantsOf_42 : decode cX11_wantsOf 42 = .ok (.iload 5, 2) := by decide +kernel
theorem dX11_wantsOf_44 : decode cX11_wantsOf 44 = .ok (.imul, 1) := by decide +kernel
theorem dX11_wantsOf_45 : decode cX11_wantsOf 45 = .ok (.iadd, 1) := by decide +kernel
theorem dX11_wantsOf_46 : decode cX11_wantsOf 46 = .ok (.iaload, 1) := by decide +kernel
theorem dX11_wantsOf_47 : decode cX11_wantsOf 47 = .ok (.invokevirtual 214, 3) := by decide +kernel
theorem dX11_wantsOf_50 : decode cX11_wantsOf 50 = .ok (.aload_n 0, 1) := by decide +kernel
theorem dX11_wantsOf_51 : decode cX11_wantsOf 51 = .ok (.getfield 13, 3) := by decide +kernel
theorem dX11_wantsOf_54 : decode cX11_wantsOf 54 = .ok (.bipush 53, 2) := by decide +kernel
theorem dX11_wantsOf_56 : decode cX11_wantsOf 56 = .ok (.iconst 2, 1) := by decide +kernel
theorem dX11_wantsOf_57 : decode cX11_wantsOf 57 = .ok (.iload 5, 2) := by decide +kernel
theorem dX11_wantsOf_59 : decode cX11_wantsOf 59 = .ok (.imul, 1) := by decide +kernel
theorem dX11_wantsOf_60 : decode cX11_wantsOf 60 = .ok (.iadd, 1) := by decide +kernel
theorem dX11_wantsOf_61 : decode cX11_wantsOf 61 = .ok (.iconst 1, 1) := by decide +kernel
theorem dX11_wantsOf_62 : decode cX11_wantsOf 62 = .ok (.iadd, 1) := by decide +kernel
theorem dX11_wantsOf_63 : decode cX11_wantsOf 63 = .ok (.iaload, 1) := by decide +kernel
theorem dX11_wantsOf_64 : decode cX11_wantsOf 64 = .ok (.if_icmp .ne 7, 3) := by decide +kernel
theorem dX11_wantsOf_67 : decode cX11_wantsOf 67 = .ok (.iconst 1, 1) := by decide +kernel
theorem dX11_wantsOf_68 : decode cX11_wantsOf 68 = .ok (.goto 4, 3) := by decide +kernel
theorem dX11_wantsOf_71 : decode cX11_wantsOf 71 = .ok (.iconst 0, 1) := by decide +kernel
theorem dX11_wantsOf_72 : decode cX11_wantsOf 72 = .ok (.istore 4, 2) := by decide +kernel
theorem dX11_wantsOf_74 : decode cX11_wantsOf 74 = .ok (.iinc 5 1, 3) := by decide +kernel
theorem dX11_wantsOf_77 : decode cX11_wantsOf 77 = .ok (.goto (-61), 3) := by decide +kernel
theorem dX11_wantsOf_80 : decode cX11_wantsOf 80 = .ok (.iload_n 2, 1) := by decide +kernel
theorem dX11_wantsOf_81 : decode cX11_wantsOf 81 = .ok (.iload 4, 2) := by decide +kernel
theorem dX11_wantsOf_83 : decode cX11_wantsOf 83 = .ok (.ifCond .eq 9, 3) := by decide +kernel
theorem dX11_wantsOf_86 : decode cX11_wantsOf 86 = .ok (.iconst 1, 1) := by decide +kernel
theorem dX11_wantsOf_87 : decode cX11_wantsOf 87 = .ok (.iload_n 3, 1) := by decide +kernel
theorem dX11_wantsOf_88 : decode cX11_wantsOf 88 = .ok (.ishl, 1) := by decide +kernel
theorem dX11_wantsOf_89 : decode cX11_wantsOf 89 = .ok (.goto 4, 3) := by decide +kernel
theorem dX11_wantsOf_92 : decode cX11_wantsOf 92 = .ok (.iconst 0, 1) := by decide +kernel
theorem dX11_wantsOf_93 : decode cX11_wantsOf 93 = .ok (.ior, 1) := by decide +kernel
theorem dX11_wantsOf_94 : decode cX11_wantsOf 94 = .ok (.istore_n 2, 1) := by decide +kernel
theorem dX11_wantsOf_95 : decode cX11_wantsOf 95 = .ok (.iinc 3 1, 3) := by decide +kernel
theorem dX11_wantsOf_98 : decode cX11_wantsOf 98 = .ok (.goto (-94), 3) := by decide +kernel
theorem dX11_wantsOf_101 : decode cX11_wantsOf 101 = .ok (.iload_n 2, 1) := by decide +kernel
theorem dX11_wantsOf_102 : decode cX11_wantsOf 102 = .ok (.ireturn, 1) := by decide +kernel
set_option maxRecDepth 20000 in
theorem ggX11_wants_X11_in : GoodIn wsX11_wants wsX11_in := goodIn_r _ [6] (by decide +kernel) (by decide +kernel)
set_option maxRecDepth 20000 in
theorem gX11_wants_X11_in : GoodIn wsX11_wants (va_wsS RX11 47 yX11_in wsX11_in) := goodIn_app (goodIn_of _ (by decide +kernel)) ggX11_wants_X11_in
set_option maxRecDepth 20000 in
theorem ggX11_wants_X11_wantsOf : GoodIn wsX11_wants wsX11_wantsOf := goodIn_r _ [10, 11, 12, 13, 14, 5, 15, 16, 17, 18, 19, 20, 21, 22, 23, 24, 25, 26, 27, 28, 29, 30, 31, 32, 33, 34, 35, 36, 37, 38, 39, 40, 41, 42, 52, 53, 54, 55, 56, 57, 58, 59, 60, 61, 62, 63, 64, 65, 66, 67, 68, 69, 70, 71] (by decide +kernel) (by decide +kernel)
set_option maxRecDepth 20000 in
theorem gX11_wants_X11_wantsOf : GoodIn wsX11_wants (wsV RX11 218 RX11 yX11_wantsOf wsX11_wantsOf) := goodIn_app (goodIn_of _ (by decide +kernel)) ggX11_wants_X11_wantsOf
set_option maxRecDepth 20000 in
theorem ggX11_wants_X11_bad : GoodIn wsX11_wants wsX11_bad := goodIn_r _ [46, 47, 48, 49, 5, 50, 51, 52, 53, 54, 55, 56, 57, 58, 59, 60, 61, 62, 63, 64, 65, 66, 67, 68, 69, 70, 71] (by decide +kernel) (by decide +kernel)
set_option maxRecDepth 20000 in
theorem gX11_wants_X11_bad : GoodIn wsX11_wants (wsV RX11 61 RX11 yX11_bad wsX11_bad) := goodIn_app (goodIn_of _ (by decide +kernel)) ggX11_wants_X11_bad
theorem dX11_wants_0 : decode cX11_wants 0 = .ok (.aload_n 0, 1) := by decide +kernel
theorem dX11_wants_1 : decode cX11_wants 1 = .ok (.iconst 0, 1) := by decide +kernel
theorem dX11_wants_2 : decode cX11_wants 2 = .ok (.putfield 39, 3) := by decide +kernel
theorem dX11_wants_5 : decode cX11_wants 5 = .ok (.iload_n 1, 1) := by decide +kernel
theorem dX11_wants_6 : decode cX11_wants 6 = .ok (.i2l, 1) := by decide +kernel
theorem dX11_wants_7 : decode cX11_wants 7 = .ok (.lconst 0, 1) := by decide +kernel
theorem dX11_wants_8 : decode cX11_wants 8 = .ok (.ldc2_w 75, 3) := by decide +kernel
theorem dX11_wants_11 : decode cX11_wants 11 = .ok (.invokestatic 47, 3) := by decide +kernel
theorem dX11_wants_14 : decode cX11_wants 14 = .ok (.ifCond .eq 11, 3) := by decide +kernel
theorem dX11_wants_17 : decode cX11_wants 17 = .ok (.aload_n 0, 1) := by decide +kernel
theorem dX11_wants_18 : decode cX11_wants 18 = .ok (.iload_n 1, 1) := by decide +kernel
theorem dX11_wants_19 : decode cX11_wants 19 = .ok (.invokevirtual 218, 3) := by decide +kernel
theorem dX11_wants_22 : decode cX11_wants 22 = .ok (.goto 7, 3) := by decide +kernel
theorem dX11_wants_25 : decode cX11_wants 25 = .ok (.aload_n 0, 1) := by decide +kernel
theorem dX11_wants_26 : decode cX11_wants 26 = .ok (.invokevirtual 61, 3) := by decide +kernel
theorem dX11_wants_29 : decode cX11_wants 29 = .ok (.ireturn, 1) := by decide +kernel
set_option maxRecDepth 20000 in
theorem ggX11_leftBy_X11_has : GoodIn wsX11_leftBy wsX11_has := goodIn_r _ [5] (by decide +kernel) (by decide +kernel)
set_option maxRecDepth 20000 in
theorem gX11_leftBy_X11_has : GoodIn wsX11_leftBy (va_wsS RX11 155 yX11_has wsX11_has) := goodIn_app (goodIn_of _ (by decide +kernel)) ggX11_leftBy_X11_has
set_option maxRecDepth 20000 in
theorem ggX11_leftBy_X11_answerOf : GoodIn wsX11_leftBy wsX11_answerOf := goodIn_r _ [9, 1, 10, 11, 12, 4, 13, 14, 15, 16, 17, 18, 19, 20, 21, 22, 23, 24, 25, 2, 3, 5, 26, 27, 28, 29, 30, 31, 32, 33, 34, 35, 36, 37, 38, 39, 40, 41, 42, 43, 44, 45, 46, 47, 48, 49, 50, 51, 52, 53] (by decide +kernel) (by decide +kernel)
set_option maxRecDepth 20000 in
theorem gX11_leftBy_X11_answerOf : GoodIn wsX11_leftBy (wsV RX11 214 RX11 yX11_answerOf wsX11_answerOf) := goodIn_app (goodIn_of _ (by decide +kernel)) ggX11_leftBy_X11_answerOf
theorem dX11_leftBy_0 : decode cX11_leftBy 0 = .ok (.iconst 0, 1) := by decide +kernel
theorem dX11_leftBy_1 : decode cX11_leftBy 1 = .ok (.istore 4, 2) := by decide +kernel
theorem dX11_leftBy_3 : decode cX11_leftBy 3 = .ok (.iconst (-1), 1) := by decide +kernel
theorem dX11_leftBy_4 : decode cX11_leftBy 4 = .ok (.istore 5, 2) := by decide +kernel
theorem dX11_leftBy_6 : decode cX11_leftBy 6 = .ok (.iload 5, 2) := by decide +kernel
theorem dX11_leftBy_8 : decode cX11_leftBy 8 = .ok (.aload_n 0, 1) := by decide +kernel
theorem dX11_leftBy_9 : decode cX11_leftBy 9 = .ok (.getfield 13, 3) := by decide +kernel
theorem dX11_leftBy_12 : decode cX11_leftBy 12 = .ok (.iconst 0, 1) := by decide +kernel
theorem dX11_leftBy_13 : decode cX11_leftBy 13 = .ok (.iaload, 1) := by decide +kernel
theorem dX11_leftBy_14 : decode cX11_leftBy 14 = .ok (.if_icmp .ge 76, 3) := by decide +kernel
theorem dX11_leftBy_17 : decode cX11_leftBy 17 = .ok (.iconst 0, 1) := by decide +kernel
theorem dX11_leftBy_18 : decode cX11_leftBy 18 = .ok (.istore 6, 2) := by decide +kernel
theorem dX11_leftBy_20 : decode cX11_leftBy 20 = .ok (.iconst 0, 1) := by decide +kernel
theorem dX11_leftBy_21 : decode cX11_leftBy 21 = .ok (.istore 7, 2) := by decide +kernel
theorem dX11_leftBy_23 : decode cX11_leftBy 23 = .ok (.iload 7, 2) := by decide +kernel
theorem dX11_leftBy_25 : decode cX11_leftBy 25 = .ok (.bipush 8, 2) := by decide +kernel
theorem dX11_leftBy_27 : decode cX11_leftBy 27 = .ok (.if_icmp .ge 41, 3) := by decide +kernel
theorem dX11_leftBy_30 : decode cX11_leftBy 30 = .ok (.iload 6, 2) := by decide +kernel
theorem dX11_leftBy_32 : decode cX11_leftBy 32 = .ok (.iload_n 2, 1) := by decide +kernel
theorem dX11_leftBy_33 : decode cX11_leftBy 33 = .ok (.iload 7, 2) := by decide +kernel
theorem dX11_leftBy_35 : decode cX11_leftBy 35 = .ok (.invokestatic 155, 3) := by decide +kernel
theorem dX11_leftBy_38 : decode cX11_leftBy 38 = .ok (.ifCond .eq 20, 3) := by decide +kernel
theorem dX11_leftBy_41 : decode cX11_leftBy 41 = .ok (.aload_n 0, 1) := by decide +kernel
theorem dX11_leftBy_42 : decode cX11_leftBy 42 = .ok (.iload_n 1, 1) := by decide +kernel
theorem dX11_leftBy_43 : decode cX11_leftBy 43 = .ok (.iload 7, 2) := by decide +kernel
theorem dX11_leftBy_45 : decode cX11_leftBy 45 = .ok (.iload_n 3, 1) := by decide +kernel
theorem dX11_leftBy_46 : decode cX11_leftBy 46 = .ok (.invokevirtual 214, 3) := by decide +kernel
theorem dX11_leftBy_49 : decode cX11_leftBy 49 = .ok (.iload 5, 2) := by decide +kernel
theorem dX11_leftBy_51 : decode cX11_leftBy 51 = .ok (.if_icmp .ne 7, 3) := by decide +kernel
