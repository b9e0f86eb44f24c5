set_option maxRecDepth 20000 in
theorem ggX11_talks_X11_meaning : GoodIn wsX11_talks wsX11_meaning := goodIn_r _ [64, 4, 65, 66, 67, 68, 69, 70, 71, 72, 73, 74, 75, 76, 77, 78, 79, 80, 81, 82, 83, 84] (by decide +kernel) (by decide +kernel)
set_option maxRecDepth 20000 in
theorem gX11_talks_X11_meaning : GoodIn wsX11_talks (wsV RX11 164 RX11 yX11_meaning wsX11_meaning) := goodIn_app (goodIn_of _ (by decide +kernel)) ggX11_talks_X11_meaning
set_option maxRecDepth 20000 in
theorem ggX11_talks_X11_want : GoodIn wsX11_talks wsX11_want := goodIn_r _ [37, 4, 65, 66, 67, 68, 69, 70, 71, 72, 73, 74, 75, 76, 77, 78, 79, 80, 81, 82, 83, 84] (by decide +kernel) (by decide +kernel)
set_option maxRecDepth 20000 in
theorem gX11_talks_X11_want : GoodIn wsX11_talks (wsV RX11 170 RX11 yX11_want wsX11_want) := goodIn_app (goodIn_of _ (by decide +kernel)) ggX11_talks_X11_want
set_option maxRecDepth 20000 in
theorem ggX11_talks_X11_has : GoodIn wsX11_talks wsX11_has := goodIn_r _ [56] (by decide +kernel) (by decide +kernel)
set_option maxRecDepth 20000 in
theorem gX11_talks_X11_has : GoodIn wsX11_talks (va_wsS RX11 155 yX11_has wsX11_has) := goodIn_app (goodIn_of _ (by decide +kernel)) ggX11_talks_X11_has
theorem dX11_talks_0 : decode cX11_talks 0 = .ok (.aload_n 0, 1) := by decide +kernel
theorem dX11_talks_1 : decode cX11_talks 1 = .ok (.iconst 0, 1) := by decide +kernel
theorem dX11_talks_2 : decode cX11_talks 2 = .ok (.putfield 39, 3) := by decide +kernel
theorem dX11_talks_5 : decode cX11_talks 5 = .ok (.iload_n 1, 1) := by decide +kernel
theorem dX11_talks_6 : decode cX11_talks 6 = .ok (.i2l, 1) := by decide +kernel
theorem dX11_talks_7 : decode cX11_talks 7 = .ok (.lconst 0, 1) := by decide +kernel
theorem dX11_talks_8 : decode cX11_talks 8 = .ok (.ldc2_w 256, 3) := by decide +kernel
theorem dX11_talks_11 : decode cX11_talks 11 = .ok (.invokestatic 47, 3) := by decide +kernel
theorem dX11_talks_14 : decode cX11_talks 14 = .ok (.ifCond .eq 15, 3) := by decide +kernel
theorem dX11_talks_17 : decode cX11_talks 17 = .ok (.iload_n 2, 1) := by decide +kernel
theorem dX11_talks_18 : decode cX11_talks 18 = .ok (.i2l, 1) := by decide +kernel
theorem dX11_talks_19 : decode cX11_talks 19 = .ok (.lconst 0, 1) := by decide +kernel
theorem dX11_talks_20 : decode cX11_talks 20 = .ok (.ldc2_w 258, 3) := by decide +kernel
theorem dX11_talks_23 : decode cX11_talks 23 = .ok (.invokestatic 47, 3) := by decide +kernel
theorem dX11_talks_26 : decode cX11_talks 26 = .ok (.ifCond .ne 8, 3) := by decide +kernel
theorem dX11_talks_29 : decode cX11_talks 29 = .ok (.aload_n 0, 1) := by decide +kernel
theorem dX11_talks_30 : decode cX11_talks 30 = .ok (.invokevirtual 61, 3) := by decide +kernel
theorem dX11_talks_33 : decode cX11_talks 33 = .ok (.ireturn, 1) := by decide +kernel
theorem dX11_talks_34 : decode cX11_talks 34 = .ok (.aload_n 0, 1) := by decide +kernel
theorem dX11_talks_35 : decode cX11_talks 35 = .ok (.getfield 13, 3) := by decide +kernel
theorem dX11_talks_38 : decode cX11_talks 38 = .ok (.iconst 0, 1) := by decide +kernel
theorem dX11_talks_39 : decode cX11_talks 39 = .ok (.iaload, 1) := by decide +kernel
theorem dX11_talks_40 : decode cX11_talks 40 = .ok (.ifCond .eq 12, 3) := by decide +kernel
theorem dX11_talks_43 : decode cX11_talks 43 = .ok (.aload_n 0, 1) := by decide +kernel
theorem dX11_talks_44 : decode cX11_talks 44 = .ok (.getfield 13, 3) := by decide +kernel
theorem dX11_talks_47 : decode cX11_talks 47 = .ok (.iconst 1, 1) := by decide +kernel
theorem dX11_talks_48 : decode cX11_talks 48 = .ok (.iaload, 1) := by decide +kernel
theorem dX11_talks_49 : decode cX11_talks 49 = .ok (.ifCond .ne 5, 3) := by decide +kernel
theorem dX11_talks_52 : decode cX11_talks 52 = .ok (.iconst (-1), 1) := by decide +kernel
theorem dX11_talks_53 : decode cX11_talks 53 = .ok (.ireturn, 1) := by decide +kernel
theorem dX11_talks_54 : decode cX11_talks 54 = .ok (.aload_n 0, 1) := by decide +kernel
theorem dX11_talks_55 : decode cX11_talks 55 = .ok (.getfield 13, 3) := by decide +kernel
theorem dX11_talks_58 : decode cX11_talks 58 = .ok (.iconst 2, 1) := by decide +kernel
theorem dX11_talks_59 : decode cX11_talks 59 = .ok (.iaload, 1) := by decide +kernel
theorem dX11_talks_60 : decode cX11_talks 60 = .ok (.istore_n 3, 1) := by decide +kernel
theorem dX11_talks_61 : decode cX11_talks 61 = .ok (.iload_n 1, 1) := by decide +kernel
theorem dX11_talks_62 : decode cX11_talks 62 = .ok (.i2l, 1) := by decide +kernel
theorem dX11_talks_63 : decode cX11_talks 63 = .ok (.lstore 4, 2) := by decide +kernel
theorem dX11_talks_65 : decode cX11_talks 65 = .ok (.iconst 0, 1) := by decide +kernel
theorem dX11_talks_66 : decode cX11_talks 66 = .ok (.istore 6, 2) := by decide +kernel
theorem dX11_talks_68 : decode cX11_talks 68 = .ok (.iconst 0, 1) := by decide +kernel
theorem dX11_talks_69 : decode cX11_talks 69 = .ok (.istore 7, 2) := by decide +kernel
theorem dX11_talks_71 : decode cX11_talks 71 = .ok (.iload 7, 2) := by decide +kernel
theorem dX11_talks_73 : decode cX11_talks 73 = .ok (.iload_n 2, 1) := by decide +kernel
theorem dX11_talks_74 : decode cX11_talks 74 = .ok (.if_icmp .ge 193, 3) := by decide +kernel
theorem dX11_talks_77 : decode cX11_talks 77 = .ok (.lload 4, 2) := by decide +kernel
theorem dX11_talks_79 : decode cX11_talks 79 = .ok (.ldc2_w 260, 3) := by decide +kernel
theorem dX11_talks_82 : decode cX11_talks 82 = .ok (.lmul, 1) := by decide +kernel
theorem dX11_talks_83 : decode cX11_talks 83 = .ok (.ldc2_w 262, 3) := by decide +kernel
theorem dX11_talks_86 : decode cX11_talks 86 = .ok (.ladd, 1) := by decide +kernel
theorem dX11_talks_87 : decode cX11_talks 87 = .ok (.ldc2_w 264, 3) := by decide +kernel
theorem dX11_talks_90 : decode cX11_talks 90 = .ok (.lrem, 1) := by decide +kernel
theorem dX11_talks_91 : decode cX11_talks 91 = .ok (.lstore 4, 2) := by decide +kernel
theorem dX11_talks_93 : decode cX11_talks 93 = .ok (.iload 7, 2) := by decide +kernel
theorem dX11_talks_95 : decode cX11_talks 95 = .ok (.aload_n 0, 1) := by decide +kernel
theorem dX11_talks_96 : decode cX11_talks 96 = .ok (.getfield 13, 3) := by decide +kernel
theorem dX11_talks_99 : decode cX11_talks 99 = .ok (.iconst 1, 1) := by decide +kernel
theorem dX11_talks_100 : decode cX11_talks 100 = .ok (.iaload, 1) := by decide +kernel
theorem dX11_talks_101 : decode cX11_talks 101 = .ok (.irem, 1) := by decide +kernel
theorem dX11_talks_102 : decode cX11_talks 102 = .ok (.istore 8, 2) := by decide +kernel
theorem dX11_talks_104 : decode cX11_talks 104 = .ok (.aload_n 0, 1) := by decide +kernel
theorem dX11_talks_105 : decode cX11_talks 105 = .ok (.iload 8, 2) := by decide +kernel
theorem dX11_talks_107 : decode cX11_talks 107 = .ok (.lload 4, 2) := by decide +kernel
theorem dX11_talks_109 : decode cX11_talks 109 = .ok (.ldc2_w 266, 3) := by decide +kernel
theorem dX11_talks_112 : decode cX11_talks 112 = .ok (.ldiv, 1) := by decide +kernel
theorem dX11_talks_113 : decode cX11_talks 113 = .ok (.aload_n 0, 1) := by decide +kernel
theorem dX11_talks_114 : decode cX11_talks 114 = .ok (.getfield 13, 3) := by decide +kernel
theorem dX11_talks_117 : decode cX11_talks 117 = .ok (.iconst 0, 1) := by decide +kernel
theorem dX11_talks_118 : decode cX11_talks 118 = .ok (.iaload, 1) := by decide +kernel
theorem dX11_talks_119 : decode cX11_talks 119 = .ok (.i2l, 1) := by decide +kernel
theorem dX11_talks_120 : decode cX11_talks 120 = .ok (.lrem, 1) := by decide +kernel
theorem dX11_talks_121 : decode cX11_talks 121 = .ok (.l2i, 1) := by decide +kernel
theorem dX11_talks_122 : decode cX11_talks 122 = .ok (.invokevirtual 180, 3) := by decide +kernel
theorem dX11_talks_125 : decode cX11_talks 125 = .ok (.istore 9, 2) := by decide +kernel
theorem dX11_talks_127 : decode cX11_talks 127 = .ok (.iconst (-1), 1) := by decide +kernel
theorem dX11_talks_128 : decode cX11_talks 128 = .ok (.istore 10, 2) := by decide +kernel
theorem dX11_talks_130 : decode cX11_talks 130 = .ok (.aload_n 0, 1) := by decide +kernel
theorem dX11_talks_131 : decode cX11_talks 131 = .ok (.getfield 13, 3) := by decide +kernel
theorem dX11_talks_134 : decode cX11_talks 134 = .ok (.iconst 0, 1) := by decide +kernel
theorem dX11_talks_135 : decode cX11_talks 135 = .ok (.iaload, 1) := by decide +kernel
theorem dX11_talks_136 : decode cX11_talks 136 = .ok (.iconst 1, 1) := by decide +kernel
theorem dX11_talks_137 : decode cX11_talks 137 = .ok (.isub, 1) := by decide +kernel
theorem dX11_talks_138 : decode cX11_talks 138 = .ok (.istore 11, 2) := by decide +kernel
theorem dX11_talks_140 : decode cX11_talks 140 = .ok (.iload 11, 2) := by decide +kernel
theorem dX11_talks_142 : decode cX11_talks 142 = .ok (.ifCond .lt 76, 3) := by decide +kernel
theorem dX11_talks_145 : decode cX11_talks 145 = .ok (.iload 10, 2) := by decide +kernel
theorem dX11_talks_147 : decode cX11_talks 147 = .ok (.iconst (-1), 1) := by decide +kernel
theorem dX11_talks_148 : decode cX11_talks 148 = .ok (.if_icmp .eq 22, 3) := by decide +kernel
theorem dX11_talks_151 : decode cX11_talks 151 = .ok (.aload_n 0, 1) := by decide +kernel
theorem dX11_talks_152 : decode cX11_talks 152 = .ok (.iload 10, 2) := by decide +kernel
theorem dX11_talks_154 : decode cX11_talks 154 = .ok (.invokevirtual 164, 3) := by decide +kernel
theorem dX11_talks_157 : decode cX11_talks 157 = .ok (.aload_n 0, 1) := by decide +kernel
theorem dX11_talks_158 : decode cX11_talks 158 = .ok (.iload 8, 2) := by decide +kernel
theorem dX11_talks_160 : decode cX11_talks 160 = .ok (.invokevirtual 170, 3) := by decide +kernel
theorem dX11_talks_163 : decode cX11_talks 163 = .ok (.if_icmp .ne 7, 3) := by decide +kernel
theorem dX11_talks_166 : decode cX11_talks 166 = .ok (.iconst 1, 1) := by decide +kernel
theorem dX11_talks_167 : decode cX11_talks 167 = .ok (.goto 4, 3) := by decide +kernel
theorem dX11_talks_170 : decode cX11_talks 170 = .ok (.iconst 0, 1) := by decide +kernel
theorem dX11_talks_171 : decode cX11_talks 171 = .ok (.istore 12, 2) := by decide +kernel
theorem dX11_talks_173 : decode cX11_talks 173 = .ok (.iload 9, 2) := by decide +kernel
theorem dX11_talks_175 : decode cX11_talks 175 = .ok (.iload 11, 2) := by decide +kernel
theorem dX11_talks_177 : decode cX11_talks 177 = .ok (.invokestatic 155, 3) := by decide +kernel
theorem dX11_talks_180 : decode cX11_talks 180 = .ok (.ifCond .eq 28, 3) := by decide +kernel
theorem dX11_talks_183 : decode cX11_talks 183 = .ok (.aload_n 0, 1) := by decide +kernel
theorem dX11_talks_184 : decode cX11_talks 184 = .ok (.iload 11, 2) := by decide +kernel
theorem dX11_talks_186 : decode cX11_talks 186 = .ok (.invokevirtual 164, 3) := by decide +kernel
theorem dX11_talks_189 : decode cX11_talks 189 = .ok (.aload_n 0, 1) := by decide +kernel
theorem dX11_talks_190 : decode cX11_talks 190 = .ok (.iload 8, 2) := by decide +kernel
theorem dX11_talks_192 : decode cX11_talks 192 = .ok (.invokevirtual 170, 3) := by decide +kernel
theorem dX11_talks_195 : decode cX11_talks 195 = .ok (.if_icmp .eq 8, 3) := by decide +kernel
theorem dX11_talks_198 : decode cX11_talks 198 = .ok (.iload 12, 2) := by decide +kernel
theorem dX11_talks_200 : decode cX11_talks 200 = .ok (.ifCond .ne 8, 3) := by decide +kernel
theorem dX11_talks_203 : decode cX11_talks 203 = .ok (.iload 11, 2) := by decide +kernel
theorem dX11_talks_205 : decode cX11_talks 205 = .ok (.goto 5, 3) := by decide +kernel
theorem dX11_talks_208 : decode cX11_talks 208 = .ok (.iload 10, 2) := by decide +kernel
theorem dX11_talks_210 : decode cX11_talks 210 = .ok (.istore 10, 2) := by decide +kernel
theorem dX11_talks_212 : decode cX11_talks 212 = .ok (.iinc 11 (-1), 3) := by decide +kernel
theorem dX11_talks_215 : decode cX11_talks 215 = .ok (.goto (-75), 3) := by decide +kernel
theorem dX11_talks_218 : decode cX11_talks 218 = .ok (.aload_n 0, 1) := by decide +kernel
theorem dX11_talks_219 : decode cX11_talks 219 = .ok (.getfield 13, 3) := by decide +kernel
theorem dX11_talks_222 : decode cX11_talks 222 = .ok (.iconst 2, 1) := by decide +kernel
theorem dX11_talks_223 : decode cX11_talks 223 = .ok (.iload 10, 2) := by decide +kernel
theorem dX11_talks_225 : decode cX11_talks 225 = .ok (.iconst (-1), 1) := by decide +kernel
theorem dX11_talks_226 : decode cX11_talks 226 = .ok (.if_icmp .ne 7, 3) := by decide +kernel
theorem dX11_talks_229 : decode cX11_talks 229 = .ok (.iconst 0, 1) := by decide +kernel
theorem dX11_talks_230 : decode cX11_talks 230 = .ok (.goto 14, 3) := by decide +kernel
theorem dX11_talks_233 : decode cX11_talks 233 = .ok (.aload_n 0, 1) := by decide +kernel
theorem dX11_talks_234 : decode cX11_talks 234 = .ok (.getfield 13, 3) := by decide +kernel
theorem dX11_talks_237 : decode cX11_talks 237 = .ok (.iconst 2, 1) := by decide +kernel
theorem dX11_talks_238 : decode cX11_talks 238 = .ok (.iaload, 1) := by decide +kernel
theorem dX11_talks_239 : decode cX11_talks 239 = .ok (.iconst 1, 1) := by decide +kernel
theorem dX11_talks_240 : decode cX11_talks 240 = .ok (.iload 10, 2) := by decide +kernel
theorem dX11_talks_242 : decode cX11_talks 242 = .ok (.ishl, 1) := by decide +kernel
theorem dX11_talks_243 : decode cX11_talks 243 = .ok (.ior, 1) := by decide +kernel
theorem dX11_talks_244 : decode cX11_talks 244 = .ok (.iastore, 1) := by decide +kernel
theorem dX11_talks_245 : decode cX11_talks 245 = .ok (.iload 6, 2) := by decide +kernel
theorem dX11_talks_247 : decode cX11_talks 247 = .ok (.iload 10, 2) := by decide +kernel
theorem dX11_talks_249 : decode cX11_talks 249 = .ok (.iconst (-1), 1) := by decide +kernel
theorem dX11_talks_250 : decode cX11_talks 250 = .ok (.if_icmp .ne 7, 3) := by decide +kernel
theorem dX11_talks_253 : decode cX11_talks 253 = .ok (.iconst 0, 1) := by decide +kernel
theorem dX11_talks_254 : decode cX11_talks 254 = .ok (.goto 4, 3) := by decide +kernel
theorem dX11_talks_257 : decode cX11_talks 257 = .ok (.iconst 1, 1) := by decide +kernel
theorem dX11_talks_258 : decode cX11_talks 258 = .ok (.iadd, 1) := by decide +kernel
theorem dX11_talks_259 : decode cX11_talks 259 = .ok (.istore 6, 2) := by decide +kernel
theorem dX11_talks_261 : decode cX11_talks 261 = .ok (.iinc 7 1, 3) := by decide +kernel
theorem dX11_talks_264 : decode cX11_talks 264 = .ok (.goto (-193), 3) := by decide +kernel
theorem dX11_talks_267 : decode cX11_talks 267 = .ok (.aload_n 0, 1) := by decide +kernel
theorem dX11_talks_268 : decode cX11_talks 268 = .ok (.getfield 13, 3) := by decide +kernel
theorem dX11_talks_271 : decode cX11_talks 271 = .ok (.iconst 2, 1) := by decide +kernel
theorem dX11_talks_272 : decode cX11_talks 272 = .ok (.iload_n 3, 1) := by decide +kernel
theorem dX11_talks_273 : decode cX11_talks 273 = .ok (.iastore, 1) := by decide +kernel
theorem dX11_talks_274 : decode cX11_talks 274 = .ok (.iload 6, 2) := by decide +kernel
theorem dX11_talks_276 : decode cX11_talks 276 = .ok (.ireturn, 1) := by decide +kernel
set_option maxRecDepth 20000 in
theorem ggX11_part_X11_bad : GoodIn wsX11_part wsX11_bad := goodIn_r _ [8, 9, 10, 11, 7, 12, 13, 14, 15, 16, 17, 18, 19, 20, 21, 22, 23, 24, 25, 26, 27, 28, 29, 30, 31, 32, 33] (by decide +kernel) (by decide +kernel)
set_option maxRecDepth 20000 in
theorem gX11_part_X11_bad : GoodIn wsX11_part (wsV RX11 61 RX11 yX11_bad wsX11_bad) := goodIn_app (goodIn_of _ (by decide +kernel)) ggX11_part_X11_bad
theorem dX11_part_0 : decode cX11_part 0 = .ok (.aload_n 0, 1) := by decide +kernel
theorem dX11_part_1 : decode cX11_part 1 = .ok (.iconst 0, 1) := by decide +kernel
theorem dX11_part_2 : decode cX11_part 2 = .ok (.putfield 39, 3) := by decide +kernel
theorem dX11_part_5 : decode cX11_part 5 = .ok (.iload_n 1, 1) := by decide +kernel
theorem dX11_part_6 : decode cX11_part 6 = .ok (.ifCond .ne 10, 3) := by decide +kernel
theorem dX11_part_9 : decode cX11_part 9 = .ok (.aload_n 0, 1) := by decide +kernel
theorem dX11_part_10 : decode cX11_part 10 = .ok (.getfield 253, 3) := by decide +kernel
theorem dX11_part_13 : decode cX11_part 13 = .ok (.goto 20, 3) := by decide +kernel
theorem dX11_part_16 : decode cX11_part 16 = .ok (.iload_n 1, 1) := by decide +kernel
theorem dX11_part_17 : decode cX11_part 17 = .ok (.iconst 1, 1) := by decide +kernel
theorem dX11_part_18 : decode cX11_part 18 = .ok (.if_icmp .ne 10, 3) := by decide +kernel
theorem dX11_part_21 : decode cX11_part 21 = .ok (.aload_n 0, 1) := by decide +kernel
theorem dX11_part_22 : decode cX11_part 22 = .ok (.getfield 35, 3) := by decide +kernel
theorem dX11_part_25 : decode cX11_part 25 = .ok (.goto 8, 3) := by decide +kernel
theorem dX11_part_28 : decode cX11_part 28 = .ok (.aload_n 0, 1) := by decide +kernel
theorem dX11_part_29 : decode cX11_part 29 = .ok (.invokevirtual 61, 3) := by decide +kernel
theorem dX11_part_32 : decode cX11_part 32 = .ok (.i2l, 1) := by decide +kernel
theorem dX11_part_33 : decode cX11_part 33 = .ok (.lreturn, 1) := by decide +kernel
set_option maxRecDepth 20000 in
theorem ggX11_image_X11_in : GoodIn wsX11_image wsX11_in := goodIn_r _ [8] (by decide +kernel) (by decide +kernel)
set_option maxRecDepth 20000 in
theorem gX11_image_X11_in : GoodIn wsX11_image (va_wsS RX11 47 yX11_in wsX11_in) := goodIn_app (goodIn_of _ (by decide +kernel)) ggX11_image_X11_in
set_option maxRecDepth 20000 in
theorem ggX11_image_X11_bad : GoodIn wsX11_image wsX11_bad := goodIn_r _ [12, 13, 14, 15, 7, 16, 17, 18, 19, 20, 21, 22, 23, 24, 25, 26, 27, 28, 29, 30, 31, 32, 33, 34, 35, 36, 37] (by decide +kernel) (by decide +kernel)
set_option maxRecDepth 20000 in
theorem gX11_image_X11_bad : GoodIn wsX11_image (wsV RX11 61 RX11 yX11_bad wsX11_bad) := goodIn_app (goodIn_of _ (by decide +kernel)) ggX11_image_X11_bad
theorem dX11_image_0 : decode cX11_image 0 = .ok (.aload_n 0, 1) := by decide +kernel
theorem dX11_image_1 : decode cX11_image 1 = .ok (.iconst 0, 1) := by decide +kernel
theorem dX11_image_2 : decode cX11_image 2 = .ok (.putfield 39, 3) := by decide +kernel
theorem dX11_image_5 : decode cX11_image 5 = .ok (.iload_n 1, 1) := by decide +kernel
theorem dX11_image_6 : decode cX11_image 6 = .ok (.i2l, 1) := by decide +kernel
theorem dX11_image_7 : decode cX11_image 7 = .ok (.lconst 0, 1) := by decide +kernel
theorem dX11_image_8 : decode cX11_image 8 = .ok (.lconst 1, 1) := by decide +kernel
theorem dX11_image_9 : decode cX11_image 9 = .ok (.invokestatic 47, 3) := by decide +kernel
theorem dX11_image_12 : decode cX11_image 12 = .ok (.ifCond .ne 8, 3) := by decide +kernel
theorem dX11_image_15 : decode cX11_image 15 = .ok (.aload_n 0, 1) := by decide +kernel
theorem dX11_image_16 : decode cX11_image 16 = .ok (.invokevirtual 61, 3) := by decide +kernel
theorem dX11_image_19 : decode cX11_image 19 = .ok (.ireturn, 1) := by decide +kernel
theorem dX11_image_20 : decode cX11_image 20 = .ok (.iconst 0, 1) := by decide +kernel
theorem dX11_image_21 : decode cX11_image 21 = .ok (.istore_n 2, 1) := by decide +kernel
theorem dX11_image_22 : decode cX11_image 22 = .ok (.iload_n 2, 1) := by decide +kernel
theorem dX11_image_23 : decode cX11_image 23 = .ok (.bipush 73, 2) := by decide +kernel
theorem dX11_image_25 : decode cX11_image 25 = .ok (.if_icmp .ge 26, 3) := by decide +kernel
theorem dX11_image_28 : decode cX11_image 28 = .ok (.aload_n 0, 1) := by decide +kernel
theorem dX11_image_29 : decode cX11_image 29 = .ok (.getfield 19, 3) := by decide +kernel
theorem dX11_image_32 : decode cX11_image 32 = .ok (.bipush 73, 2) := by decide +kernel
theorem dX11_image_34 : decode cX11_image 34 = .ok (.iload_n 1, 1) := by decide +kernel
theorem dX11_image_35 : decode cX11_image 35 = .ok (.imul, 1) := by decide +kernel
theorem dX11_image_36 : decode cX11_image 36 = .ok (.iload_n 2, 1) := by decide +kernel
theorem dX11_image_37 : decode cX11_image 37 = .ok (.iadd, 1) := by decide +kernel
theorem dX11_image_38 : decode cX11_image 38 = .ok (.aload_n 0, 1) := by decide +kernel
theorem dX11_image_39 : decode cX11_image 39 = .ok (.getfield 13, 3) := by decide +kernel
theorem dX11_image_42 : decode cX11_image 42 = .ok (.iload_n 2, 1) := by decide +kernel
theorem dX11_image_43 : decode cX11_image 43 = .ok (.iaload, 1) := by decide +kernel
theorem dX11_image_44 : decode cX11_image 44 = .ok (.iastore, 1) := by decide +kernel
theorem dX11_image_45 : decode cX11_image 45 = .ok (.iinc 2 1, 3) := by decide +kernel
theorem dX11_image_48 : decode cX11_image 48 = .ok (.goto (-26), 3) := by decide +kernel
theorem dX11_image_51 : decode cX11_image 51 = .ok (.aload_n 0, 1) := by decide +kernel
theorem dX11_image_52 : decode cX11_image 52 = .ok (.getfield 22, 3) := by decide +kernel
theorem dX11_image_55 : decode cX11_image 55 = .ok (.iload_n 1, 1) := by decide +kernel
theorem dX11_image_56 : decode cX11_image 56 = .ok (.iconst 1, 1) := by decide +kernel
theorem dX11_image_57 : decode cX11_image 57 = .ok (.bastore, 1) := by decide +kernel
theorem dX11_image_58 : decode cX11_image 58 = .ok (.iconst 1, 1) := by decide +kernel
theorem dX11_image_59 : decode cX11_image 59 = .ok (.ireturn, 1) := by decide +kernel
set_option maxRecDepth 20000 in
theorem ggX11_from_X11_in : GoodIn wsX11_from wsX11_in := goodIn_r _ [8] (by decide +kernel) (by decide +kernel)
set_option maxRecDepth 20000 in
theorem gX11_from_X11_in : GoodIn wsX11_from (va_wsS RX11 47 yX11_in wsX11_in) := goodIn_app (goodIn_of _ (by decide +kernel)) ggX11_from_X11_in
set_option maxRecDepth 20000 in
theorem ggX11_from_X11_bad : GoodIn wsX11_from wsX11_bad := goodIn_r _ [12, 13, 14, 15, 7, 16, 17, 22, 23, 24, 25, 26, 27, 28, 29, 30, 31, 32, 33, 34, 35, 36, 37, 38, 39, 40, 41] (by decide +kernel) (by decide +kernel)
set_option maxRecDepth 20000 in
theorem gX11_from_X11_bad : GoodIn wsX11_from (wsV RX11 61 RX11 yX11_bad wsX11_bad) := goodIn_app (goodIn_of _ (by decide +kernel)) ggX11_from_X11_bad
set_option maxRecDepth 20000 in
theorem ggX11_from_X11_no : GoodIn wsX11_from wsX11_no := goodIn_r _ [21, 13, 14, 15, 7, 16, 17, 22, 23, 24, 25, 26, 27, 28, 29, 30, 31, 32, 33, 34, 35, 36, 37, 38, 39, 40, 41] (by decide +kernel) (by decide +kernel)
set_option maxRecDepth 20000 in
theorem gX11_from_X11_no : GoodIn wsX11_from (wsV RX11 192 RX11 yX11_no wsX11_no) := goodIn_app (goodIn_of _ (by decide +kernel)) ggX11_from_X11_no
theorem dX11_from_0 : decode cX11_from 0 = .ok (.aload_n 0, 1) := by decide +kernel
theorem dX11_from_1 : decode cX11_from 1 = .ok (.iconst 0, 1) := by decide +kernel
theorem dX11_from_2 : decode cX11_from 2 = .ok (.putfield 39, 3) := by decide +kernel
theorem dX11_from_5 : decode cX11_from 5 = .ok (.iload_n 1, 1) := by decide +kernel
theorem dX11_from_6 : decode cX11_from 6 = .ok (.i2l, 1) := by decide +kernel
theorem dX11_from_7 : decode cX11_from 7 = .ok (.lconst 0, 1) := by decide +kernel
theorem dX11_from_8 : decode cX11_from 8 = .ok (.lconst 1, 1) := by decide +kernel
theorem dX11_from_9 : decode cX11_from 9 = .ok (.invokestatic 47, 3) := by decide +kernel
theorem dX11_from_12 : decode cX11_from 12 = .ok (.ifCond .ne 8, 3) := by decide +kernel
theorem dX11_from_15 : decode cX11_from 15 = .ok (.aload_n 0, 1) := by decide +kernel
theorem dX11_from_16 : decode cX11_from 16 = .ok (.invokevirtual 61, 3) := by decide +kernel
theorem dX11_from_19 : decode cX11_from 19 = .ok (.ireturn, 1) := by decide +kernel
theorem dX11_from_20 : decode cX11_from 20 = .ok (.aload_n 0, 1) := by decide +kernel
theorem dX11_from_21 : decode cX11_from 21 = .ok (.getfield 22, 3) := by decide +kernel
theorem dX11_from_24 : decode cX11_from 24 = .ok (.iload_n 1, 1) := by decide +kernel
theorem dX11_from_25 : decode cX11_from 25 = .ok (.baload, 1) := by decide +kernel
theorem dX11_from_26 : decode cX11_from 26 = .ok (.ifCond .ne 8, 3) := by decide +kernel
theorem dX11_from_29 : decode cX11_from 29 = .ok (.aload_n 0, 1) := by decide +kernel
theorem dX11_from_30 : decode cX11_from 30 = .ok (.invokevirtual 192, 3) := by decide +kernel
theorem dX11_from_33 : decode cX11_from 33 = .ok (.ireturn, 1) := by decide +kernel
theorem dX11_from_34 : decode cX11_from 34 = .ok (.iconst 0, 1) := by decide +kernel
theorem dX11_from_35 : decode cX11_from 35 = .ok (.istore_n 2, 1) := by decide +kernel
theorem dX11_from_36 : decode cX11_from 36 = .ok (.iload_n 2, 1) := by decide +kernel
theorem dX11_from_37 : decode cX11_from 37 = .ok (.bipush 73, 2) := by decide +kernel
theorem dX11_from_39 : decode cX11_from 39 = .ok (.if_icmp .ge 26, 3) := by decide +kernel
theorem dX11_from_42 : decode cX11_from 42 = .ok (.aload_n 0, 1) := by decide +kernel
theorem dX11_from_43 : decode cX11_from 43 = .ok (.getfield 13, 3) := by decide +kernel
theorem dX11_from_46 : decode cX11_from 46 = .ok (.iload_n 2, 1) := by decide +kernel
theorem dX11_from_47 : decode cX11_from 47 = .ok (.aload_n 0, 1) := by decide +kernel
theorem dX11_from_48 : decode cX11_from 48 = .ok (.getfield 19, 3) := by decide +kernel
theorem dX11_from_51 : decode cX11_from 51 = .ok (.bipush 73, 2) := by decide +kernel
theorem dX11_from_53 : decode cX11_from 53 = .ok (.iload_n 1, 1) := by decide +kernel
theorem dX11_from_54 : decode cX11_from 54 = .ok (.imul, 1) := by decide +kernel
theorem dX11_from_55 : decode cX11_from 55 = .ok (.iload_n 2, 1) := by decide +kernel
theorem dX11_from_56 : decode cX11_from 56 = .ok (.iadd, 1) := by decide +kernel
theorem dX11_from_57 : decode cX11_from 57 = .ok (.iaload, 1) := by decide +kernel
theorem dX11_from_58 : decode cX11_from 58 = .ok (.iastore, 1) := by decide +kernel
theorem dX11_from_59 : decode cX11_from 59 = .ok (.iinc 2 1, 3) := by decide +kernel
theorem dX11_from_62 : decode cX11_from 62 = .ok (.goto (-26), 3) := by decide +kernel
theorem dX11_from_65 : decode cX11_from 65 = .ok (.iconst 1, 1) := by decide +kernel
theorem dX11_from_66 : decode cX11_from 66 = .ok (.ireturn, 1) := by decide +kernel
set_option maxRecDepth 20000 in
theorem ggX11_status_X11_in : GoodIn wsX11_status wsX11_in := goodIn_r _ [7] (by decide +kernel) (by decide +kernel)
set_option maxRecDepth 20000 in
theorem gX11_status_X11_in : GoodIn wsX11_status (va_wsS RX11 47 yX11_in wsX11_in) := goodIn_app (goodIn_of _ (by decide +kernel)) ggX11_status_X11_in
set_option maxRecDepth 20000 in
theorem ggX11_status_X11_refuse : GoodIn wsX11_status wsX11_refuse := goodIn_r _ [11, 3, 12, 13, 14, 15, 16, 17, 18, 19, 20, 21, 22, 23, 24, 25, 26, 27, 28, 29, 30, 31] (by decide +kernel) (by decide +kernel)
set_option maxRecDepth 20000 in
theorem gX11_status_X11_refuse : GoodIn wsX11_status (wsV RX11 43 RX11 yX11_refuse wsX11_refuse) := goodIn_app (goodIn_of _ (by decide +kernel)) ggX11_status_X11_refuse
theorem dX11_status_0 : decode cX11_status 0 = .ok (.aload_n 0, 1) := by decide +kernel
theorem dX11_status_1 : decode cX11_status 1 = .ok (.iconst 0, 1) := by decide +kernel
theorem dX11_status_2 : decode cX11_status 2 = .ok (.putfield 39, 3) := by decide +kernel
theorem dX11_status_5 : decode cX11_status 5 = .ok (.iload_n 1, 1) := by decide +kernel
theorem dX11_status_6 : decode cX11_status 6 = .ok (.i2l, 1) := by decide +kernel
theorem dX11_status_7 : decode cX11_status 7 = .ok (.lconst 0, 1) := by decide +kernel
theorem dX11_status_8 : decode cX11_status 8 = .ok (.ldc2_w 200, 3) := by decide +kernel
theorem dX11_status_11 : decode cX11_status 11 = .ok (.invokestatic 47, 3) := by decide +kernel
theorem dX11_status_14 : decode cX11_status 14 = .ok (.ifCond .eq 12, 3) := by decide +kernel
theorem dX11_status_17 : decode cX11_status 17 = .ok (.aload_n 0, 1) := by decide +kernel
theorem dX11_status_18 : decode cX11_status 18 = .ok (.getfield 7, 3) := by decide +kernel
theorem dX11_status_21 : decode cX11_status 21 = .ok (.iload_n 1, 1) := by decide +kernel
theorem dX11_status_22 : decode cX11_status 22 = .ok (.iaload, 1) := by decide +kernel
theorem dX11_status_23 : decode cX11_status 23 = .ok (.goto 9, 3) := by decide +kernel
theorem dX11_status_26 : decode cX11_status 26 = .ok (.aload_n 0, 1) := by decide +kernel
theorem dX11_status_27 : decode cX11_status 27 = .ok (.iconst 0, 1) := by decide +kernel
theorem dX11_status_28 : decode cX11_status 28 = .ok (.iconst (-1), 1) := by decide +kernel
theorem dX11_status_29 : decode cX11_status 29 = .ok (.invokevirtual 43, 3) := by decide +kernel
theorem dX11_status_32 : decode cX11_status 32 = .ok (.ireturn, 1) := by decide +kernel
set_option maxRecDepth 20000 in
theorem ggX11_pairs_X11_bits : GoodIn wsX11_pairs wsX11_bits := goodIn_r _ [5] (by decide +kernel) (by decide +kernel)
set_option maxRecDepth 20000 in
theorem gX11_pairs_X11_bits : GoodIn wsX11_pairs (va_wsS RX11 195 yX11_bits wsX11_bits) := goodIn_app (goodIn_of _ (by decide +kernel)) ggX11_pairs_X11_bits
theorem dX11_pairs_0 : decode cX11_pairs 0 = .ok (.iconst 0, 1) := by decide +kernel
theorem dX11_pairs_1 : decode cX11_pairs 1 = .ok (.istore_n 1, 1) := by decide +kernel
theorem dX11_pairs_2 : decode cX11_pairs 2 = .ok (.iconst 0, 1) := by decide +kernel
theorem dX11_pairs_3 : decode cX11_pairs 3 = .ok (.istore_n 2, 1) := by decide +kernel
theorem dX11_pairs_4 : decode cX11_pairs 4 = .ok (.iload_n 2, 1) := by decide +kernel
theorem dX11_pairs_5 : decode cX11_pairs 5 = .ok (.bipush 8, 2) := by decide +kernel
theorem dX11_pairs_7 : decode cX11_pairs 7 = .ok (.if_icmp .ge 24, 3) := by decide +kernel
theorem dX11_pairs_10 : decode cX11_pairs 10 = .ok (.iload_n 1, 1) := by decide +kernel
theorem dX11_pairs_11 : decode cX11_pairs 11 = .ok (.aload_n 0, 1) := by decide +kernel
theorem dX11_pairs_12 : decode cX11_pairs 12 = .ok (.getfield 13, 3) := by decide +kernel
theorem dX11_pairs_15 : decode cX11_pairs 15 = .ok (.bipush 45, 2) := by decide +kernel
theorem dX11_pairs_17 : decode cX11_pairs 17 = .ok (.iload_n 2, 1) := by decide +kernel
theorem dX11_pairs_18 : decode cX11_pairs 18 = .ok (.iadd, 1) := by decide +kernel
theorem dX11_pairs_19 : decode cX11_pairs 19 = .ok (.iaload, 1) := by decide +kernel
theorem dX11_pairs_20 : decode cX11_pairs 20 = .ok (.invokestatic 195, 3) := by decide +kernel
theorem dX11_pairs_23 : decode cX11_pairs 23 = .ok (.iadd, 1) := by decide +kernel
theorem dX11_pairs_24 : decode cX11_pairs 24 = .ok (.istore_n 1, 1) := by decide +kernel
theorem dX11_pairs_25 : decode cX11_pairs 25 = .ok (.iinc 2 1, 3) := by decide +kernel
theorem dX11_pairs_28 : decode cX11_pairs 28 = .ok (.goto (-24), 3) := by decide +kernel
theorem dX11_pairs_31 : decode cX11_pairs 31 = .ok (.iload_n 1, 1) := by decide +kernel
theorem dX11_pairs_32 : decode cX11_pairs 32 = .ok (.iconst 2, 1) := by decide +kernel
theorem dX11_pairs_33 : decode cX11_pairs 33 = .ok (.idiv, 1) := by decide +kernel
theorem dX11_pairs_34 : decode cX11_pairs 34 = .ok (.ireturn, 1) := by decide +kernel
set_option maxRecDepth 20000 in
theorem ggX11_countOf_X11_pairs : GoodIn wsX11_countOf wsX11_pairs := goodIn_r _ [7, 1, 8, 9, 6, 10, 11, 12, 13, 14, 15, 16, 17, 18, 19, 20, 21, 22, 23, 24, 25, 26, 27, 28, 29, 30] (by decide +kernel) (by decide +kernel)
set_option maxRecDepth 20000 in
theorem gX11_countOf_X11_pairs : GoodIn wsX11_countOf (wsV RX11 268 RX11 yX11_pairs wsX11_pairs) := goodIn_app (goodIn_of _ (by decide +kernel)) ggX11_countOf_X11_pairs
set_option maxRecDepth 20000 in
theorem ggX11_countOf_X11_bits : GoodIn wsX11_countOf wsX11_bits := goodIn_r _ [10] (by decide +kernel) (by decide +kernel)
set_option maxRecDepth 20000 in
theorem gX11_countOf_X11_bits : GoodIn wsX11_countOf (va_wsS RX11 195 yX11_bits wsX11_bits) := goodIn_app (goodIn_of _ (by decide +kernel)) ggX11_countOf_X11_bits
theorem dX11_countOf_0 : decode cX11_countOf 0 = .ok (.iload_n 1, 1) := by decide +kernel
theorem dX11_countOf_1 : decode cX11_countOf 1 = .ok (.tableswitch 82 0 5 #[39, 46, 53, 58, 68, 75], 39) := by decide +kernel
theorem dX11_countOf_40 : decode cX11_countOf 40 = .ok (.aload_n 0, 1) := by decide +kernel
theorem dX11_countOf_41 : decode cX11_countOf 41 = .ok (.getfield 13, 3) := by decide +kernel
theorem dX11_countOf_44 : decode cX11_countOf 44 = .ok (.iconst 0, 1) := by decide +kernel
theorem dX11_countOf_45 : decode cX11_countOf 45 = .ok (.iaload, 1) := by decide +kernel
theorem dX11_countOf_46 : decode cX11_countOf 46 = .ok (.ireturn, 1) := by decide +kernel
theorem dX11_countOf_47 : decode cX11_countOf 47 = .ok (.aload_n 0, 1) := by decide +kernel
theorem dX11_countOf_48 : decode cX11_countOf 48 = .ok (.getfield 13, 3) := by decide +kernel
theorem dX11_countOf_51 : decode cX11_countOf 51 = .ok (.iconst 1, 1) := by decide +kernel
theorem dX11_countOf_52 : decode cX11_countOf 52 = .ok (.iaload, 1) := by decide +kernel
theorem dX11_countOf_53 : decode cX11_countOf 53 = .ok (.ireturn, 1) := by decide +kernel
theorem dX11_countOf_54 : decode cX11_countOf 54 = .ok (.aload_n 0, 1) := by decide +kernel
theorem dX11_countOf_55 : decode cX11_countOf 55 = .ok (.invokevirtual 268, 3) := by decide +kernel
theorem dX11_countOf_58 : decode cX11_countOf 58 = .ok (.ireturn, 1) := by decide +kernel
theorem dX11_countOf_59 : decode cX11_countOf 59 = .ok (.aload_n 0, 1) := by decide +kernel
theorem dX11_countOf_60 : decode cX11_countOf 60 = .ok (.getfield 13, 3) := by decide +kernel
theorem dX11_countOf_63 : decode cX11_countOf 63 = .ok (.iconst 2, 1) := by decide +kernel
theorem dX11_countOf_64 : decode cX11_countOf 64 = .ok (.iaload, 1) := by decide +kernel
theorem dX11_countOf_65 : decode cX11_countOf 65 = .ok (.invokestatic 195, 3) := by decide +kernel
theorem dX11_countOf_68 : decode cX11_countOf 68 = .ok (.ireturn, 1) := by decide +kernel
theorem dX11_countOf_69 : decode cX11_countOf 69 = .ok (.aload_n 0, 1) := by decide +kernel
theorem dX11_countOf_70 : decode cX11_countOf 70 = .ok (.getfield 13, 3) := by decide +kernel
theorem dX11_countOf_73 : decode cX11_countOf 73 = .ok (.iconst 3, 1) := by decide +kernel
theorem dX11_countOf_74 : decode cX11_countOf 74 = .ok (.iaload, 1) := by decide +kernel
theorem dX11_countOf_75 : decode cX11_countOf 75 = .ok (.ireturn, 1) := by decide +kernel
theorem dX11_countOf_76 : decode cX11_countOf 76 = .ok (.aload_n 0, 1) := by decide +kernel
theorem dX11_countOf_77 : decode cX11_countOf 77 = .ok (.getfield 13, 3) := by decide +kernel
theorem dX11_countOf_80 : decode cX11_countOf 80 = .ok (.iconst 4, 1) := by decide +kernel
theorem dX11_countOf_81 : decode cX11_countOf 81 = .ok (.iaload, 1) := by decide +kernel
theorem dX11_countOf_82 : decode cX11_countOf 82 = .ok (.ireturn, 1) := by decide +kernel
theorem dX11_countOf_83 : decode cX11_countOf 83 = .ok (.aload_n 0, 1) := by decide +kernel
theorem dX11_countOf_84 : decode cX11_countOf 84 = .ok (.getfield 83, 3) := by decide +kernel
theorem dX11_countOf_87 : decode cX11_countOf 87 = .ok (.ireturn, 1) := by decide +kernel
set_option maxRecDepth 20000 in
theorem ggX11_count_X11_in : GoodIn wsX11_count wsX11_in := goodIn_r _ [6] (by decide +kernel) (by decide +kernel)
set_option maxRecDepth 20000 in
theorem gX11_count_X11_in : GoodIn wsX11_count (va_wsS RX11 47 yX11_in wsX11_in) := goodIn_app (goodIn_of _ (by decide +kernel)) ggX11_count_X11_in
set_option maxRecDepth 20000 in
theorem ggX11_count_X11_countOf : GoodIn wsX11_count wsX11_countOf := goodIn_r _ [10, 11, 12, 13, 14, 15, 5, 16, 17, 18, 19, 29, 30, 31, 32, 33, 34, 35, 36, 37, 38, 39, 40, 41, 42, 43, 44, 45, 46, 47, 48] (by decide +kernel) (by decide +kernel)
set_option maxRecDepth 20000 in
theorem gX11_count_X11_countOf : GoodIn wsX11_count (wsV RX11 273 RX11 yX11_countOf wsX11_countOf) := goodIn_app (goodIn_of _ (by decide +kernel)) ggX11_count_X11_countOf
set_option maxRecDepth 20000 in
theorem ggX11_count_X11_bad : GoodIn wsX11_count wsX11_bad := goodIn_r _ [23, 24, 25, 26, 5, 27, 28, 29, 30, 31, 32, 33, 34, 35, 36, 37, 38, 39, 40, 41, 42, 43, 44, 45, 46, 47, 48] (by decide +kernel) (by decide +kernel)
set_option maxRecDepth 20000 in
theorem gX11_count_X11_bad : GoodIn wsX11_count (wsV RX11 61 RX11 yX11_bad wsX11_bad) := goodIn_app (goodIn_of _ (by decide +kernel)) ggX11_count_X11_bad
theorem dX11_count_0 : decode cX11_count 0 = .ok (.aload_n 0, 1) := by decide +kernel
theorem dX11_count_1 : decode cX11_count 1 = .ok (.iconst 0, 1) := by decide +kernel
theorem dX11_count_2 : decode cX11_count 2 = .ok (.putfield 39, 3) := by decide +kernel
theorem dX11_count_5 : decode cX11_count 5 = .ok (.iload_n 1, 1) := by decide +kernel
theorem dX11_count_6 : decode cX11_count 6 = .ok (.i2l, 1) := by decide +kernel
theorem dX11_count_7 : decode cX11_count 7 = .ok (.lconst 0, 1) := by decide +kernel
theorem dX11_count_8 : decode cX11_count 8 = .ok (.ldc2_w 271, 3) := by decide +kernel
theorem dX11_count_11 : decode cX11_count 11 = .ok (.invokestatic 47, 3) := by decide +kernel
theorem dX11_count_14 : decode cX11_count 14 = .ok (.ifCond .eq 11, 3) := by decide +kernel
theorem dX11_count_17 : decode cX11_count 17 = .ok (.aload_n 0, 1) := by decide +kernel
theorem dX11_count_18 : decode cX11_count 18 = .ok (.iload_n 1, 1) := by decide +kernel
theorem dX11_count_19 : decode cX11_count 19 = .ok (.invokevirtual 273, 3) := by decide +kernel
theorem dX11_count_22 : decode cX11_count 22 = .ok (.goto 7, 3) := by decide +kernel
theorem dX11_count_25 : decode cX11_count 25 = .ok (.aload_n 0, 1) := by decide +kernel
theorem dX11_count_26 : decode cX11_count 26 = .ok (.invokevirtual 61, 3) := by decide +kernel
theorem dX11_count_29 : decode cX11_count 29 = .ok (.ireturn, 1) := by decide +kernel
theorem dX11_more_0 : decode cX11_more 0 = .ok (.ldc2_w 276, 3) := by decide +kernel
theorem dX11_more_3 : decode cX11_more 3 = .ok (.lload_n 1, 1) := by decide +kernel
theorem dX11_more_4 : decode cX11_more 4 = .ok (.lmul, 1) := by decide +kernel
theorem dX11_more_5 : decode cX11_more 5 = .ok (.lload_n 3, 1) := by decide +kernel
theorem dX11_more_6 : decode cX11_more 6 = .ok (.ladd, 1) := by decide +kernel
theorem dX11_more_7 : decode cX11_more 7 = .ok (.lreturn, 1) := by decide +kernel
set_option maxRecDepth 20000 in
theorem ggX11_digest_X11_countOf : GoodIn wsX11_digest wsX11_countOf := goodIn_r _ [10, 3, 11, 12, 13, 14, 9, 15, 16, 17, 18, 24, 25, 26, 27, 28, 29, 30, 31, 32, 33, 34, 35, 36, 37, 38, 39, 40, 41, 42, 43] (by decide +kernel) (by decide +kernel)
set_option maxRecDepth 20000 in
theorem gX11_digest_X11_countOf : GoodIn wsX11_digest (wsV RX11 273 RX11 yX11_countOf wsX11_countOf) := goodIn_app (goodIn_of _ (by decide +kernel)) ggX11_digest_X11_countOf
set_option maxRecDepth 20000 in
theorem ggX11_digest_X11_more : GoodIn wsX11_digest wsX11_more := goodIn_r _ [22, 23] (by decide +kernel) (by decide +kernel)
set_option maxRecDepth 20000 in
theorem gX11_digest_X11_more : GoodIn wsX11_digest (wsV RX11 280 RX11 yX11_more wsX11_more) := goodIn_app (goodIn_of _ (by decide +kernel)) ggX11_digest_X11_more
theorem dX11_digest_0 : decode cX11_digest 0 = .ok (.aload_n 0, 1) := by decide +kernel
theorem dX11_digest_1 : decode cX11_digest 1 = .ok (.iconst 0, 1) := by decide +kernel
theorem dX11_digest_2 : decode cX11_digest 2 = .ok (.putfield 39, 3) := by decide +kernel
theorem dX11_digest_5 : decode cX11_digest 5 = .ok (.ldc2_w 278, 3) := by decide +kernel
theorem dX11_digest_8 : decode cX11_digest 8 = .ok (.lstore_n 1, 1) := by decide +kernel
theorem dX11_digest_9 : decode cX11_digest 9 = .ok (.iconst 0, 1) := by decide +kernel
theorem dX11_digest_10 : decode cX11_digest 10 = .ok (.istore_n 3, 1) := by decide +kernel
theorem dX11_digest_11 : decode cX11_digest 11 = .ok (.iload_n 3, 1) := by decide +kernel
theorem dX11_digest_12 : decode cX11_digest 12 = .ok (.bipush 7, 2) := by decide +kernel
theorem dX11_digest_14 : decode cX11_digest 14 = .ok (.if_icmp .ge 21, 3) := by decide +kernel
theorem dX11_digest_17 : decode cX11_digest 17 = .ok (.aload_n 0, 1) := by decide +kernel
theorem dX11_digest_18 : decode cX11_digest 18 = .ok (.lload_n 1, 1) := by decide +kernel
theorem dX11_digest_19 : decode cX11_digest 19 = .ok (.aload_n 0, 1) := by decide +kernel
theorem dX11_digest_20 : decode cX11_digest 20 = .ok (.iload_n 3, 1) := by decide +kernel
theorem dX11_digest_21 : decode cX11_digest 21 = .ok (.invokevirtual 273, 3) := by decide +kernel
theorem dX11_digest_24 : decode cX11_digest 24 = .ok (.i2l, 1) := by decide +kernel
theorem dX11_digest_25 : decode cX11_digest 25 = .ok (.invokevirtual 280, 3) := by decide +kernel
theorem dX11_digest_28 : decode cX11_digest 28 = .ok (.lstore_n 1, 1) := by decide +kernel
theorem dX11_digest_29 : decode cX11_digest 29 = .ok (.iinc 3 1, 3) := by decide +kernel
theorem dX11_digest_32 : decode cX11_digest 32 = .ok (.goto (-21), 3) := by decide +kernel
theorem dX11_digest_35 : decode cX11_digest 35 = .ok (.iconst 0, 1) := by decide +kernel
theorem dX11_digest_36 : decode cX11_digest 36 = .ok (.istore_n 3, 1) := by decide +kernel
theorem dX11_digest_37 : decode cX11_digest 37 = .ok (.iload_n 3, 1) := by decide +kernel
theorem dX11_digest_38 : decode cX11_digest 38 = .ok (.aload_n 0, 1) := by decide +kernel
theorem dX11_digest_39 : decode cX11_digest 39 = .ok (.getfield 13, 3) := by decide +kernel
theorem dX11_digest_42 : decode cX11_digest 42 = .ok (.iconst 0, 1) := by decide +kernel
