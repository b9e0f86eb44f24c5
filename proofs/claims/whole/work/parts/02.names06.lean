theorem dX9_firstOf_18 : decode cX9_firstOf 18 = .ok (.iconst 1, 1) := by decide +kernel
theorem dX9_firstOf_19 : decode cX9_firstOf 19 = .ok (.iand, 1) := by decide +kernel
theorem dX9_firstOf_20 : decode cX9_firstOf 20 = .ok (.iconst 1, 1) := by decide +kernel
theorem dX9_firstOf_21 : decode cX9_firstOf 21 = .ok (.if_icmp .ne 25, 3) := by decide +kernel
theorem dX9_firstOf_24 : decode cX9_firstOf 24 = .ok (.aload_n 0, 1) := by decide +kernel
theorem dX9_firstOf_25 : decode cX9_firstOf 25 = .ok (.getfield 15, 3) := by decide +kernel
theorem dX9_firstOf_28 : decode cX9_firstOf 28 = .ok (.iload 4, 2) := by decide +kernel
theorem dX9_firstOf_30 : decode cX9_firstOf 30 = .ok (.iaload, 1) := by decide +kernel
theorem dX9_firstOf_31 : decode cX9_firstOf 31 = .ok (.iload_n 2, 1) := by decide +kernel
theorem dX9_firstOf_32 : decode cX9_firstOf 32 = .ok (.if_icmp .ne 6, 3) := by decide +kernel
theorem dX9_firstOf_35 : decode cX9_firstOf 35 = .ok (.iload 4, 2) := by decide +kernel
theorem dX9_firstOf_37 : decode cX9_firstOf 37 = .ok (.ireturn, 1) := by decide +kernel
theorem dX9_firstOf_38 : decode cX9_firstOf 38 = .ok (.iload_n 3, 1) := by decide +kernel
theorem dX9_firstOf_39 : decode cX9_firstOf 39 = .ok (.iconst (-1), 1) := by decide +kernel
theorem dX9_firstOf_40 : decode cX9_firstOf 40 = .ok (.if_icmp .ne 6, 3) := by decide +kernel
theorem dX9_firstOf_43 : decode cX9_firstOf 43 = .ok (.iload 4, 2) := by decide +kernel
theorem dX9_firstOf_45 : decode cX9_firstOf 45 = .ok (.istore_n 3, 1) := by decide +kernel
theorem dX9_firstOf_46 : decode cX9_firstOf 46 = .ok (.iinc 4 1, 3) := by decide +kernel
theorem dX9_firstOf_49 : decode cX9_firstOf 49 = .ok (.goto (-44), 3) := by decide +kernel
theorem dX9_firstOf_52 : decode cX9_firstOf 52 = .ok (.iload_n 3, 1) := by decide +kernel
theorem dX9_firstOf_53 : decode cX9_firstOf 53 = .ok (.ireturn, 1) := by decide +kernel
set_option maxRecDepth 20000 in
theorem ggX9_digestFrom_X9_areAlike : GoodIn wsX9_digestFrom wsX9_areAlike := goodIn_r _ [17, 18, 19, 20, 21, 22, 23, 24, 25, 26, 27, 28, 29, 30, 31, 32] (by decide +kernel) (by decide +kernel)
set_option maxRecDepth 20000 in
theorem gX9_digestFrom_X9_areAlike : GoodIn wsX9_digestFrom (wsV RX9 72 RX9 yX9_areAlike wsX9_areAlike) := goodIn_app (goodIn_of _ (by decide +kernel)) ggX9_digestFrom_X9_areAlike
theorem dX9_digestFrom_0 : decode cX9_digestFrom 0 = .ok (.lload_n 1, 1) := by decide +kernel
theorem dX9_digestFrom_1 : decode cX9_digestFrom 1 = .ok (.lstore_n 3, 1) := by decide +kernel
theorem dX9_digestFrom_2 : decode cX9_digestFrom 2 = .ok (.iconst 0, 1) := by decide +kernel
theorem dX9_digestFrom_3 : decode cX9_digestFrom 3 = .ok (.istore 5, 2) := by decide +kernel
theorem dX9_digestFrom_5 : decode cX9_digestFrom 5 = .ok (.iload 5, 2) := by decide +kernel
theorem dX9_digestFrom_7 : decode cX9_digestFrom 7 = .ok (.aload_n 0, 1) := by decide +kernel
theorem dX9_digestFrom_8 : decode cX9_digestFrom 8 = .ok (.getfield 39, 3) := by decide +kernel
theorem dX9_digestFrom_11 : decode cX9_digestFrom 11 = .ok (.if_icmp .ge 71, 3) := by decide +kernel
theorem dX9_digestFrom_14 : decode cX9_digestFrom 14 = .ok (.ldc2_w 67, 3) := by decide +kernel
theorem dX9_digestFrom_17 : decode cX9_digestFrom 17 = .ok (.lload_n 3, 1) := by decide +kernel
theorem dX9_digestFrom_18 : decode cX9_digestFrom 18 = .ok (.lmul, 1) := by decide +kernel
theorem dX9_digestFrom_19 : decode cX9_digestFrom 19 = .ok (.aload_n 0, 1) := by decide +kernel
theorem dX9_digestFrom_20 : decode cX9_digestFrom 20 = .ok (.getfield 9, 3) := by decide +kernel
theorem dX9_digestFrom_23 : decode cX9_digestFrom 23 = .ok (.iload 5, 2) := by decide +kernel
theorem dX9_digestFrom_25 : decode cX9_digestFrom 25 = .ok (.iaload, 1) := by decide +kernel
theorem dX9_digestFrom_26 : decode cX9_digestFrom 26 = .ok (.i2l, 1) := by decide +kernel
theorem dX9_digestFrom_27 : decode cX9_digestFrom 27 = .ok (.ladd, 1) := by decide +kernel
theorem dX9_digestFrom_28 : decode cX9_digestFrom 28 = .ok (.lstore_n 3, 1) := by decide +kernel
theorem dX9_digestFrom_29 : decode cX9_digestFrom 29 = .ok (.ldc2_w 67, 3) := by decide +kernel
theorem dX9_digestFrom_32 : decode cX9_digestFrom 32 = .ok (.lload_n 3, 1) := by decide +kernel
theorem dX9_digestFrom_33 : decode cX9_digestFrom 33 = .ok (.lmul, 1) := by decide +kernel
theorem dX9_digestFrom_34 : decode cX9_digestFrom 34 = .ok (.aload_n 0, 1) := by decide +kernel
theorem dX9_digestFrom_35 : decode cX9_digestFrom 35 = .ok (.getfield 15, 3) := by decide +kernel
theorem dX9_digestFrom_38 : decode cX9_digestFrom 38 = .ok (.iload 5, 2) := by decide +kernel
theorem dX9_digestFrom_40 : decode cX9_digestFrom 40 = .ok (.iaload, 1) := by decide +kernel
theorem dX9_digestFrom_41 : decode cX9_digestFrom 41 = .ok (.i2l, 1) := by decide +kernel
theorem dX9_digestFrom_42 : decode cX9_digestFrom 42 = .ok (.ladd, 1) := by decide +kernel
theorem dX9_digestFrom_43 : decode cX9_digestFrom 43 = .ok (.lstore_n 3, 1) := by decide +kernel
theorem dX9_digestFrom_44 : decode cX9_digestFrom 44 = .ok (.ldc2_w 67, 3) := by decide +kernel
theorem dX9_digestFrom_47 : decode cX9_digestFrom 47 = .ok (.lload_n 3, 1) := by decide +kernel
theorem dX9_digestFrom_48 : decode cX9_digestFrom 48 = .ok (.lmul, 1) := by decide +kernel
theorem dX9_digestFrom_49 : decode cX9_digestFrom 49 = .ok (.aload_n 0, 1) := by decide +kernel
theorem dX9_digestFrom_50 : decode cX9_digestFrom 50 = .ok (.getfield 18, 3) := by decide +kernel
theorem dX9_digestFrom_53 : decode cX9_digestFrom 53 = .ok (.iload 5, 2) := by decide +kernel
theorem dX9_digestFrom_55 : decode cX9_digestFrom 55 = .ok (.iaload, 1) := by decide +kernel
theorem dX9_digestFrom_56 : decode cX9_digestFrom 56 = .ok (.i2l, 1) := by decide +kernel
theorem dX9_digestFrom_57 : decode cX9_digestFrom 57 = .ok (.ladd, 1) := by decide +kernel
theorem dX9_digestFrom_58 : decode cX9_digestFrom 58 = .ok (.lstore_n 3, 1) := by decide +kernel
theorem dX9_digestFrom_59 : decode cX9_digestFrom 59 = .ok (.ldc2_w 67, 3) := by decide +kernel
theorem dX9_digestFrom_62 : decode cX9_digestFrom 62 = .ok (.lload_n 3, 1) := by decide +kernel
theorem dX9_digestFrom_63 : decode cX9_digestFrom 63 = .ok (.lmul, 1) := by decide +kernel
theorem dX9_digestFrom_64 : decode cX9_digestFrom 64 = .ok (.aload_n 0, 1) := by decide +kernel
theorem dX9_digestFrom_65 : decode cX9_digestFrom 65 = .ok (.getfield 46, 3) := by decide +kernel
theorem dX9_digestFrom_68 : decode cX9_digestFrom 68 = .ok (.iload 5, 2) := by decide +kernel
theorem dX9_digestFrom_70 : decode cX9_digestFrom 70 = .ok (.ishr, 1) := by decide +kernel
theorem dX9_digestFrom_71 : decode cX9_digestFrom 71 = .ok (.iconst 1, 1) := by decide +kernel
theorem dX9_digestFrom_72 : decode cX9_digestFrom 72 = .ok (.iand, 1) := by decide +kernel
theorem dX9_digestFrom_73 : decode cX9_digestFrom 73 = .ok (.i2l, 1) := by decide +kernel
theorem dX9_digestFrom_74 : decode cX9_digestFrom 74 = .ok (.ladd, 1) := by decide +kernel
theorem dX9_digestFrom_75 : decode cX9_digestFrom 75 = .ok (.lstore_n 3, 1) := by decide +kernel
theorem dX9_digestFrom_76 : decode cX9_digestFrom 76 = .ok (.iinc 5 1, 3) := by decide +kernel
theorem dX9_digestFrom_79 : decode cX9_digestFrom 79 = .ok (.goto (-74), 3) := by decide +kernel
theorem dX9_digestFrom_82 : decode cX9_digestFrom 82 = .ok (.iconst 0, 1) := by decide +kernel
theorem dX9_digestFrom_83 : decode cX9_digestFrom 83 = .ok (.istore 5, 2) := by decide +kernel
theorem dX9_digestFrom_85 : decode cX9_digestFrom 85 = .ok (.iload 5, 2) := by decide +kernel
theorem dX9_digestFrom_87 : decode cX9_digestFrom 87 = .ok (.getstatic 69, 3) := by decide +kernel
theorem dX9_digestFrom_90 : decode cX9_digestFrom 90 = .ok (.arraylength, 1) := by decide +kernel
theorem dX9_digestFrom_91 : decode cX9_digestFrom 91 = .ok (.if_icmp .ge 47, 3) := by decide +kernel
theorem dX9_digestFrom_94 : decode cX9_digestFrom 94 = .ok (.ldc2_w 67, 3) := by decide +kernel
theorem dX9_digestFrom_97 : decode cX9_digestFrom 97 = .ok (.lload_n 3, 1) := by decide +kernel
theorem dX9_digestFrom_98 : decode cX9_digestFrom 98 = .ok (.lmul, 1) := by decide +kernel
theorem dX9_digestFrom_99 : decode cX9_digestFrom 99 = .ok (.aload_n 0, 1) := by decide +kernel
theorem dX9_digestFrom_100 : decode cX9_digestFrom 100 = .ok (.getstatic 69, 3) := by decide +kernel
theorem dX9_digestFrom_103 : decode cX9_digestFrom 103 = .ok (.iload 5, 2) := by decide +kernel
theorem dX9_digestFrom_105 : decode cX9_digestFrom 105 = .ok (.iaload, 1) := by decide +kernel
theorem dX9_digestFrom_106 : decode cX9_digestFrom 106 = .ok (.bipush 10, 2) := by decide +kernel
theorem dX9_digestFrom_108 : decode cX9_digestFrom 108 = .ok (.idiv, 1) := by decide +kernel
theorem dX9_digestFrom_109 : decode cX9_digestFrom 109 = .ok (.getstatic 69, 3) := by decide +kernel
theorem dX9_digestFrom_112 : decode cX9_digestFrom 112 = .ok (.iload 5, 2) := by decide +kernel
theorem dX9_digestFrom_114 : decode cX9_digestFrom 114 = .ok (.iaload, 1) := by decide +kernel
theorem dX9_digestFrom_115 : decode cX9_digestFrom 115 = .ok (.bipush 10, 2) := by decide +kernel
theorem dX9_digestFrom_117 : decode cX9_digestFrom 117 = .ok (.irem, 1) := by decide +kernel
theorem dX9_digestFrom_118 : decode cX9_digestFrom 118 = .ok (.invokevirtual 72, 3) := by decide +kernel
theorem dX9_digestFrom_121 : decode cX9_digestFrom 121 = .ok (.ifCond .eq 7, 3) := by decide +kernel
theorem dX9_digestFrom_124 : decode cX9_digestFrom 124 = .ok (.iconst 1, 1) := by decide +kernel
theorem dX9_digestFrom_125 : decode cX9_digestFrom 125 = .ok (.goto 4, 3) := by decide +kernel
theorem dX9_digestFrom_128 : decode cX9_digestFrom 128 = .ok (.iconst 0, 1) := by decide +kernel
theorem dX9_digestFrom_129 : decode cX9_digestFrom 129 = .ok (.i2l, 1) := by decide +kernel
theorem dX9_digestFrom_130 : decode cX9_digestFrom 130 = .ok (.ladd, 1) := by decide +kernel
theorem dX9_digestFrom_131 : decode cX9_digestFrom 131 = .ok (.lstore_n 3, 1) := by decide +kernel
theorem dX9_digestFrom_132 : decode cX9_digestFrom 132 = .ok (.iinc 5 1, 3) := by decide +kernel
theorem dX9_digestFrom_135 : decode cX9_digestFrom 135 = .ok (.goto (-50), 3) := by decide +kernel
theorem dX9_digestFrom_138 : decode cX9_digestFrom 138 = .ok (.iconst 0, 1) := by decide +kernel
theorem dX9_digestFrom_139 : decode cX9_digestFrom 139 = .ok (.istore 5, 2) := by decide +kernel
theorem dX9_digestFrom_141 : decode cX9_digestFrom 141 = .ok (.iload 5, 2) := by decide +kernel
theorem dX9_digestFrom_143 : decode cX9_digestFrom 143 = .ok (.aload_n 0, 1) := by decide +kernel
theorem dX9_digestFrom_144 : decode cX9_digestFrom 144 = .ok (.getfield 43, 3) := by decide +kernel
theorem dX9_digestFrom_147 : decode cX9_digestFrom 147 = .ok (.if_icmp .ge 39, 3) := by decide +kernel
theorem dX9_digestFrom_150 : decode cX9_digestFrom 150 = .ok (.ldc2_w 67, 3) := by decide +kernel
theorem dX9_digestFrom_153 : decode cX9_digestFrom 153 = .ok (.lload_n 3, 1) := by decide +kernel
theorem dX9_digestFrom_154 : decode cX9_digestFrom 154 = .ok (.lmul, 1) := by decide +kernel
theorem dX9_digestFrom_155 : decode cX9_digestFrom 155 = .ok (.aload_n 0, 1) := by decide +kernel
theorem dX9_digestFrom_156 : decode cX9_digestFrom 156 = .ok (.getfield 24, 3) := by decide +kernel
theorem dX9_digestFrom_159 : decode cX9_digestFrom 159 = .ok (.iload 5, 2) := by decide +kernel
theorem dX9_digestFrom_161 : decode cX9_digestFrom 161 = .ok (.iaload, 1) := by decide +kernel
theorem dX9_digestFrom_162 : decode cX9_digestFrom 162 = .ok (.i2l, 1) := by decide +kernel
theorem dX9_digestFrom_163 : decode cX9_digestFrom 163 = .ok (.ladd, 1) := by decide +kernel
theorem dX9_digestFrom_164 : decode cX9_digestFrom 164 = .ok (.lstore_n 3, 1) := by decide +kernel
theorem dX9_digestFrom_165 : decode cX9_digestFrom 165 = .ok (.ldc2_w 67, 3) := by decide +kernel
theorem dX9_digestFrom_168 : decode cX9_digestFrom 168 = .ok (.lload_n 3, 1) := by decide +kernel
theorem dX9_digestFrom_169 : decode cX9_digestFrom 169 = .ok (.lmul, 1) := by decide +kernel
theorem dX9_digestFrom_170 : decode cX9_digestFrom 170 = .ok (.aload_n 0, 1) := by decide +kernel
theorem dX9_digestFrom_171 : decode cX9_digestFrom 171 = .ok (.getfield 27, 3) := by decide +kernel
theorem dX9_digestFrom_174 : decode cX9_digestFrom 174 = .ok (.iload 5, 2) := by decide +kernel
theorem dX9_digestFrom_176 : decode cX9_digestFrom 176 = .ok (.iaload, 1) := by decide +kernel
theorem dX9_digestFrom_177 : decode cX9_digestFrom 177 = .ok (.i2l, 1) := by decide +kernel
theorem dX9_digestFrom_178 : decode cX9_digestFrom 178 = .ok (.ladd, 1) := by decide +kernel
theorem dX9_digestFrom_179 : decode cX9_digestFrom 179 = .ok (.lstore_n 3, 1) := by decide +kernel
theorem dX9_digestFrom_180 : decode cX9_digestFrom 180 = .ok (.iinc 5 1, 3) := by decide +kernel
theorem dX9_digestFrom_183 : decode cX9_digestFrom 183 = .ok (.goto (-42), 3) := by decide +kernel
theorem dX9_digestFrom_186 : decode cX9_digestFrom 186 = .ok (.iconst 0, 1) := by decide +kernel
theorem dX9_digestFrom_187 : decode cX9_digestFrom 187 = .ok (.istore 5, 2) := by decide +kernel
theorem dX9_digestFrom_189 : decode cX9_digestFrom 189 = .ok (.iload 5, 2) := by decide +kernel
theorem dX9_digestFrom_191 : decode cX9_digestFrom 191 = .ok (.aload_n 0, 1) := by decide +kernel
theorem dX9_digestFrom_192 : decode cX9_digestFrom 192 = .ok (.getfield 52, 3) := by decide +kernel
theorem dX9_digestFrom_195 : decode cX9_digestFrom 195 = .ok (.if_icmp .ge 39, 3) := by decide +kernel
theorem dX9_digestFrom_198 : decode cX9_digestFrom 198 = .ok (.ldc2_w 67, 3) := by decide +kernel
theorem dX9_digestFrom_201 : decode cX9_digestFrom 201 = .ok (.lload_n 3, 1) := by decide +kernel
theorem dX9_digestFrom_202 : decode cX9_digestFrom 202 = .ok (.lmul, 1) := by decide +kernel
theorem dX9_digestFrom_203 : decode cX9_digestFrom 203 = .ok (.aload_n 0, 1) := by decide +kernel
theorem dX9_digestFrom_204 : decode cX9_digestFrom 204 = .ok (.getfield 33, 3) := by decide +kernel
theorem dX9_digestFrom_207 : decode cX9_digestFrom 207 = .ok (.iload 5, 2) := by decide +kernel
theorem dX9_digestFrom_209 : decode cX9_digestFrom 209 = .ok (.iaload, 1) := by decide +kernel
theorem dX9_digestFrom_210 : decode cX9_digestFrom 210 = .ok (.i2l, 1) := by decide +kernel
theorem dX9_digestFrom_211 : decode cX9_digestFrom 211 = .ok (.ladd, 1) := by decide +kernel
theorem dX9_digestFrom_212 : decode cX9_digestFrom 212 = .ok (.lstore_n 3, 1) := by decide +kernel
theorem dX9_digestFrom_213 : decode cX9_digestFrom 213 = .ok (.ldc2_w 67, 3) := by decide +kernel
theorem dX9_digestFrom_216 : decode cX9_digestFrom 216 = .ok (.lload_n 3, 1) := by decide +kernel
theorem dX9_digestFrom_217 : decode cX9_digestFrom 217 = .ok (.lmul, 1) := by decide +kernel
theorem dX9_digestFrom_218 : decode cX9_digestFrom 218 = .ok (.aload_n 0, 1) := by decide +kernel
theorem dX9_digestFrom_219 : decode cX9_digestFrom 219 = .ok (.getfield 36, 3) := by decide +kernel
theorem dX9_digestFrom_222 : decode cX9_digestFrom 222 = .ok (.iload 5, 2) := by decide +kernel
theorem dX9_digestFrom_224 : decode cX9_digestFrom 224 = .ok (.iaload, 1) := by decide +kernel
theorem dX9_digestFrom_225 : decode cX9_digestFrom 225 = .ok (.i2l, 1) := by decide +kernel
theorem dX9_digestFrom_226 : decode cX9_digestFrom 226 = .ok (.ladd, 1) := by decide +kernel
theorem dX9_digestFrom_227 : decode cX9_digestFrom 227 = .ok (.lstore_n 3, 1) := by decide +kernel
theorem dX9_digestFrom_228 : decode cX9_digestFrom 228 = .ok (.iinc 5 1, 3) := by decide +kernel
theorem dX9_digestFrom_231 : decode cX9_digestFrom 231 = .ok (.goto (-42), 3) := by decide +kernel
theorem dX9_digestFrom_234 : decode cX9_digestFrom 234 = .ok (.lload_n 3, 1) := by decide +kernel
theorem dX9_digestFrom_235 : decode cX9_digestFrom 235 = .ok (.lreturn, 1) := by decide +kernel
set_option maxRecDepth 20000 in
theorem ggX10_init_X9_init : GoodIn wsX10_init wsX9_init := goodIn_r _ [49, 50, 2, 3, 25, 51, 52, 53, 54, 55, 56, 57, 58, 59, 90, 91, 92, 93, 94, 95, 96, 97, 98, 99, 100, 101, 102, 103] (by decide +kernel) (by decide +kernel)
set_option maxRecDepth 20000 in
theorem gX10_init_X9_init_n11 : GoodIn wsX10_init (wsX9_init) := ggX10_init_X9_init
set_option maxRecDepth 20000 in
theorem ggX10_init_X6_init : GoodIn wsX10_init wsX6_init := goodIn_r _ [61, 62, 2, 3, 25, 63, 121, 122, 123, 124, 125, 126, 127] (by decide +kernel) (by decide +kernel)
set_option maxRecDepth 20000 in
theorem gX10_init_X6_init_n31 : GoodIn wsX10_init (wsX6_init) := ggX10_init_X6_init
set_option maxRecDepth 20000 in
theorem ggX10_init_X2_init : GoodIn wsX10_init wsX2_init := goodIn_r _ [65, 66, 2, 3, 25, 67, 68, 69, 128, 129, 130, 131, 132, 133, 134, 135] (by decide +kernel) (by decide +kernel)
set_option maxRecDepth 20000 in
theorem gX10_init_X2_init_n38 : GoodIn wsX10_init (wsX2_init) := ggX10_init_X2_init
set_option maxRecDepth 20000 in
theorem ggX10_init_X1_init : GoodIn wsX10_init wsX1_init := goodIn_r _ [71, 72, 2, 3, 25, 73, 74, 75, 76, 136, 137, 138, 139] (by decide +kernel) (by decide +kernel)
set_option maxRecDepth 20000 in
theorem gX10_init_X1_init_n45 : GoodIn wsX10_init (wsX1_init) := ggX10_init_X1_init
set_option maxRecDepth 20000 in
theorem ggX10_init_X7_init : GoodIn wsX10_init wsX7_init := goodIn_r _ [78, 79, 2, 3] (by decide +kernel) (by decide +kernel)
set_option maxRecDepth 20000 in
theorem gX10_init_X7_init_n70 : GoodIn wsX10_init (wsX7_init) := ggX10_init_X7_init
set_option maxRecDepth 20000 in
theorem ggX10_init_X4_init : GoodIn wsX10_init wsX4_init := goodIn_r _ [81, 77, 32, 78, 79, 2, 3] (by decide +kernel) (by decide +kernel)
set_option maxRecDepth 20000 in
theorem gX10_init_X4_init_n73 : GoodIn wsX10_init (wsX4_init) := ggX10_init_X4_init
set_option maxRecDepth 20000 in
theorem ggX10_init_X3_init : GoodIn wsX10_init wsX3_init := goodIn_r _ [83, 77, 32, 78, 79, 2, 3] (by decide +kernel) (by decide +kernel)
set_option maxRecDepth 20000 in
theorem gX10_init_X3_init_n76 : GoodIn wsX10_init (wsX3_init) := ggX10_init_X3_init
set_option maxRecDepth 20000 in
theorem ggX10_init_X8_init : GoodIn wsX10_init wsX8_init := goodIn_r _ [85, 82, 38, 83, 77, 32, 78, 79, 2, 3] (by decide +kernel) (by decide +kernel)
set_option maxRecDepth 20000 in
theorem gX10_init_X8_init_n79 : GoodIn wsX10_init (wsX8_init) := ggX10_init_X8_init
set_option maxRecDepth 20000 in
theorem ggX10_init_X5_init : GoodIn wsX10_init wsX5_init := goodIn_r _ [87, 80, 35, 81, 77, 32, 78, 79, 2, 3] (by decide +kernel) (by decide +kernel)
set_option maxRecDepth 20000 in
theorem gX10_init_X5_init_n82 : GoodIn wsX10_init (wsX5_init) := ggX10_init_X5_init
set_option maxRecDepth 20000 in
theorem ggX10_init_X0_init : GoodIn wsX10_init wsX0_init := goodIn_r _ [89, 80, 35, 81, 77, 32, 78, 79, 2, 3] (by decide +kernel) (by decide +kernel)
set_option maxRecDepth 20000 in
theorem gX10_init_X0_init_n85 : GoodIn wsX10_init (wsX0_init) := ggX10_init_X0_init
theorem dX10_init_0 : decode cX10_init 0 = .ok (.aload_n 0, 1) := by decide +kernel
theorem dX10_init_1 : decode cX10_init 1 = .ok (.invokespecial 3, 3) := by decide +kernel
theorem dX10_init_4 : decode cX10_init 4 = .ok (.aload_n 0, 1) := by decide +kernel
theorem dX10_init_5 : decode cX10_init 5 = .ok (.new 9, 3) := by decide +kernel
theorem dX10_init_8 : decode cX10_init 8 = .ok (.dup, 1) := by decide +kernel
theorem dX10_init_9 : decode cX10_init 9 = .ok (.invokespecial 11, 3) := by decide +kernel
theorem dX10_init_12 : decode cX10_init 12 = .ok (.putfield 12, 3) := by decide +kernel
theorem dX10_init_15 : decode cX10_init 15 = .ok (.aload_n 0, 1) := by decide +kernel
theorem dX10_init_16 : decode cX10_init 16 = .ok (.new 9, 3) := by decide +kernel
theorem dX10_init_19 : decode cX10_init 19 = .ok (.dup, 1) := by decide +kernel
theorem dX10_init_20 : decode cX10_init 20 = .ok (.invokespecial 11, 3) := by decide +kernel
theorem dX10_init_23 : decode cX10_init 23 = .ok (.putfield 16, 3) := by decide +kernel
theorem dX10_init_26 : decode cX10_init 26 = .ok (.aload_n 0, 1) := by decide +kernel
theorem dX10_init_27 : decode cX10_init 27 = .ok (.iconst 2, 1) := by decide +kernel
theorem dX10_init_28 : decode cX10_init 28 = .ok (.anewarray 9, 3) := by decide +kernel
theorem dX10_init_31 : decode cX10_init 31 = .ok (.putfield 19, 3) := by decide +kernel
theorem dX10_init_34 : decode cX10_init 34 = .ok (.aload_n 0, 1) := by decide +kernel
theorem dX10_init_35 : decode cX10_init 35 = .ok (.bipush 6, 2) := by decide +kernel
theorem dX10_init_37 : decode cX10_init 37 = .ok (.anewarray 23, 3) := by decide +kernel
theorem dX10_init_40 : decode cX10_init 40 = .ok (.putfield 25, 3) := by decide +kernel
theorem dX10_init_43 : decode cX10_init 43 = .ok (.aload_n 0, 1) := by decide +kernel
theorem dX10_init_44 : decode cX10_init 44 = .ok (.new 29, 3) := by decide +kernel
theorem dX10_init_47 : decode cX10_init 47 = .ok (.dup, 1) := by decide +kernel
theorem dX10_init_48 : decode cX10_init 48 = .ok (.invokespecial 31, 3) := by decide +kernel
theorem dX10_init_51 : decode cX10_init 51 = .ok (.putfield 32, 3) := by decide +kernel
theorem dX10_init_54 : decode cX10_init 54 = .ok (.aload_n 0, 1) := by decide +kernel
theorem dX10_init_55 : decode cX10_init 55 = .ok (.new 36, 3) := by decide +kernel
theorem dX10_init_58 : decode cX10_init 58 = .ok (.dup, 1) := by decide +kernel
theorem dX10_init_59 : decode cX10_init 59 = .ok (.invokespecial 38, 3) := by decide +kernel
theorem dX10_init_62 : decode cX10_init 62 = .ok (.putfield 39, 3) := by decide +kernel
theorem dX10_init_65 : decode cX10_init 65 = .ok (.aload_n 0, 1) := by decide +kernel
theorem dX10_init_66 : decode cX10_init 66 = .ok (.new 43, 3) := by decide +kernel
theorem dX10_init_69 : decode cX10_init 69 = .ok (.dup, 1) := by decide +kernel
theorem dX10_init_70 : decode cX10_init 70 = .ok (.invokespecial 45, 3) := by decide +kernel
theorem dX10_init_73 : decode cX10_init 73 = .ok (.putfield 46, 3) := by decide +kernel
theorem dX10_init_76 : decode cX10_init 76 = .ok (.aload_n 0, 1) := by decide +kernel
theorem dX10_init_77 : decode cX10_init 77 = .ok (.lconst 1, 1) := by decide +kernel
theorem dX10_init_78 : decode cX10_init 78 = .ok (.putfield 50, 3) := by decide +kernel
theorem dX10_init_81 : decode cX10_init 81 = .ok (.aload_n 0, 1) := by decide +kernel
theorem dX10_init_82 : decode cX10_init 82 = .ok (.bipush 10, 2) := by decide +kernel
theorem dX10_init_84 : decode cX10_init 84 = .ok (.newarray .int, 2) := by decide +kernel
theorem dX10_init_86 : decode cX10_init 86 = .ok (.putfield 54, 3) := by decide +kernel
theorem dX10_init_89 : decode cX10_init 89 = .ok (.aload_n 0, 1) := by decide +kernel
theorem dX10_init_90 : decode cX10_init 90 = .ok (.bipush 11, 2) := by decide +kernel
theorem dX10_init_92 : decode cX10_init 92 = .ok (.newarray .int, 2) := by decide +kernel
theorem dX10_init_94 : decode cX10_init 94 = .ok (.putfield 58, 3) := by decide +kernel
theorem dX10_init_97 : decode cX10_init 97 = .ok (.aload_n 0, 1) := by decide +kernel
theorem dX10_init_98 : decode cX10_init 98 = .ok (.getstatic 61, 3) := by decide +kernel
theorem dX10_init_101 : decode cX10_init 101 = .ok (.arraylength, 1) := by decide +kernel
theorem dX10_init_102 : decode cX10_init 102 = .ok (.newarray .int, 2) := by decide +kernel
theorem dX10_init_104 : decode cX10_init 104 = .ok (.putfield 64, 3) := by decide +kernel
theorem dX10_init_107 : decode cX10_init 107 = .ok (.aload_n 0, 1) := by decide +kernel
theorem dX10_init_108 : decode cX10_init 108 = .ok (.iconst 2, 1) := by decide +kernel
theorem dX10_init_109 : decode cX10_init 109 = .ok (.newarray .int, 2) := by decide +kernel
theorem dX10_init_111 : decode cX10_init 111 = .ok (.putfield 67, 3) := by decide +kernel
theorem dX10_init_114 : decode cX10_init 114 = .ok (.iconst 0, 1) := by decide +kernel
theorem dX10_init_115 : decode cX10_init 115 = .ok (.istore_n 1, 1) := by decide +kernel
theorem dX10_init_116 : decode cX10_init 116 = .ok (.iload_n 1, 1) := by decide +kernel
theorem dX10_init_117 : decode cX10_init 117 = .ok (.iconst 2, 1) := by decide +kernel
theorem dX10_init_118 : decode cX10_init 118 = .ok (.if_icmp .ge 22, 3) := by decide +kernel
theorem dX10_init_121 : decode cX10_init 121 = .ok (.aload_n 0, 1) := by decide +kernel
theorem dX10_init_122 : decode cX10_init 122 = .ok (.getfield 19, 3) := by decide +kernel
theorem dX10_init_125 : decode cX10_init 125 = .ok (.iload_n 1, 1) := by decide +kernel
theorem dX10_init_126 : decode cX10_init 126 = .ok (.new 9, 3) := by decide +kernel
theorem dX10_init_129 : decode cX10_init 129 = .ok (.dup, 1) := by decide +kernel
theorem dX10_init_130 : decode cX10_init 130 = .ok (.invokespecial 11, 3) := by decide +kernel
theorem dX10_init_133 : decode cX10_init 133 = .ok (.aastore, 1) := by decide +kernel
theorem dX10_init_134 : decode cX10_init 134 = .ok (.iinc 1 1, 3) := by decide +kernel
theorem dX10_init_137 : decode cX10_init 137 = .ok (.goto (-21), 3) := by decide +kernel
theorem dX10_init_140 : decode cX10_init 140 = .ok (.aload_n 0, 1) := by decide +kernel
theorem dX10_init_141 : decode cX10_init 141 = .ok (.getfield 25, 3) := by decide +kernel
theorem dX10_init_144 : decode cX10_init 144 = .ok (.iconst 0, 1) := by decide +kernel
theorem dX10_init_145 : decode cX10_init 145 = .ok (.new 23, 3) := by decide +kernel
theorem dX10_init_148 : decode cX10_init 148 = .ok (.dup, 1) := by decide +kernel
theorem dX10_init_149 : decode cX10_init 149 = .ok (.invokespecial 70, 3) := by decide +kernel
theorem dX10_init_152 : decode cX10_init 152 = .ok (.aastore, 1) := by decide +kernel
theorem dX10_init_153 : decode cX10_init 153 = .ok (.aload_n 0, 1) := by decide +kernel
theorem dX10_init_154 : decode cX10_init 154 = .ok (.getfield 25, 3) := by decide +kernel
theorem dX10_init_157 : decode cX10_init 157 = .ok (.iconst 1, 1) := by decide +kernel
theorem dX10_init_158 : decode cX10_init 158 = .ok (.new 71, 3) := by decide +kernel
theorem dX10_init_161 : decode cX10_init 161 = .ok (.dup, 1) := by decide +kernel
theorem dX10_init_162 : decode cX10_init 162 = .ok (.invokespecial 73, 3) := by decide +kernel
theorem dX10_init_165 : decode cX10_init 165 = .ok (.aastore, 1) := by decide +kernel
theorem dX10_init_166 : decode cX10_init 166 = .ok (.aload_n 0, 1) := by decide +kernel
theorem dX10_init_167 : decode cX10_init 167 = .ok (.getfield 25, 3) := by decide +kernel
theorem dX10_init_170 : decode cX10_init 170 = .ok (.iconst 2, 1) := by decide +kernel
theorem dX10_init_171 : decode cX10_init 171 = .ok (.new 74, 3) := by decide +kernel
theorem dX10_init_174 : decode cX10_init 174 = .ok (.dup, 1) := by decide +kernel
theorem dX10_init_175 : decode cX10_init 175 = .ok (.invokespecial 76, 3) := by decide +kernel
theorem dX10_init_178 : decode cX10_init 178 = .ok (.aastore, 1) := by decide +kernel
theorem dX10_init_179 : decode cX10_init 179 = .ok (.aload_n 0, 1) := by decide +kernel
theorem dX10_init_180 : decode cX10_init 180 = .ok (.getfield 25, 3) := by decide +kernel
theorem dX10_init_183 : decode cX10_init 183 = .ok (.iconst 3, 1) := by decide +kernel
theorem dX10_init_184 : decode cX10_init 184 = .ok (.new 77, 3) := by decide +kernel
theorem dX10_init_187 : decode cX10_init 187 = .ok (.dup, 1) := by decide +kernel
theorem dX10_init_188 : decode cX10_init 188 = .ok (.invokespecial 79, 3) := by decide +kernel
theorem dX10_init_191 : decode cX10_init 191 = .ok (.aastore, 1) := by decide +kernel
theorem dX10_init_192 : decode cX10_init 192 = .ok (.aload_n 0, 1) := by decide +kernel
theorem dX10_init_193 : decode cX10_init 193 = .ok (.getfield 25, 3) := by decide +kernel
theorem dX10_init_196 : decode cX10_init 196 = .ok (.iconst 4, 1) := by decide +kernel
theorem dX10_init_197 : decode cX10_init 197 = .ok (.new 80, 3) := by decide +kernel
theorem dX10_init_200 : decode cX10_init 200 = .ok (.dup, 1) := by decide +kernel
theorem dX10_init_201 : decode cX10_init 201 = .ok (.invokespecial 82, 3) := by decide +kernel
theorem dX10_init_204 : decode cX10_init 204 = .ok (.aastore, 1) := by decide +kernel
theorem dX10_init_205 : decode cX10_init 205 = .ok (.aload_n 0, 1) := by decide +kernel
theorem dX10_init_206 : decode cX10_init 206 = .ok (.getfield 25, 3) := by decide +kernel
theorem dX10_init_209 : decode cX10_init 209 = .ok (.iconst 5, 1) := by decide +kernel
theorem dX10_init_210 : decode cX10_init 210 = .ok (.new 83, 3) := by decide +kernel
theorem dX10_init_213 : decode cX10_init 213 = .ok (.dup, 1) := by decide +kernel
theorem dX10_init_214 : decode cX10_init 214 = .ok (.invokespecial 85, 3) := by decide +kernel
theorem dX10_init_217 : decode cX10_init 217 = .ok (.aastore, 1) := by decide +kernel
theorem dX10_init_218 : decode cX10_init 218 = .ok (.return_, 1) := by decide +kernel
set_option maxRecDepth 20000 in
theorem ggX10_tongue_X9_empty : GoodIn wsX10_tongue wsX9_empty := goodIn_r _ [7, 8, 9, 10, 11, 12, 13, 31, 32, 33, 34, 35, 36, 37, 38, 39, 40, 41, 42, 43, 44] (by decide +kernel) (by decide +kernel)
set_option maxRecDepth 20000 in
theorem gX10_tongue_X9_empty : GoodIn wsX10_tongue (wsV RX10 90 RX9 yX9_empty wsX9_empty) := goodIn_app (goodIn_of _ (by decide +kernel)) ggX10_tongue_X9_empty
theorem dX10_tongue_0 : decode cX10_tongue 0 = .ok (.aload_n 0, 1) := by decide +kernel
theorem dX10_tongue_1 : decode cX10_tongue 1 = .ok (.getfield 12, 3) := by decide +kernel
theorem dX10_tongue_4 : decode cX10_tongue 4 = .ok (.getfield 86, 3) := by decide +kernel
theorem dX10_tongue_7 : decode cX10_tongue 7 = .ok (.istore_n 1, 1) := by decide +kernel
theorem dX10_tongue_8 : decode cX10_tongue 8 = .ok (.aload_n 0, 1) := by decide +kernel
theorem dX10_tongue_9 : decode cX10_tongue 9 = .ok (.getfield 12, 3) := by decide +kernel
theorem dX10_tongue_12 : decode cX10_tongue 12 = .ok (.invokevirtual 90, 3) := by decide +kernel
theorem dX10_tongue_15 : decode cX10_tongue 15 = .ok (.iload_n 1, 1) := by decide +kernel
theorem dX10_tongue_16 : decode cX10_tongue 16 = .ok (.ireturn, 1) := by decide +kernel
set_option maxRecDepth 20000 in
theorem ggX10_word_X10_fits : GoodIn wsX10_word wsX10_fits := goodIn_r _ [6] (by decide +kernel) (by decide +kernel)
set_option maxRecDepth 20000 in
theorem gX10_word_X10_fits : GoodIn wsX10_word (va_wsS RX10 93 yX10_fits wsX10_fits) := goodIn_app (goodIn_of _ (by decide +kernel)) ggX10_word_X10_fits
set_option maxRecDepth 20000 in
theorem ggX10_word_X10_refuse : GoodIn wsX10_word wsX10_refuse := goodIn_r _ [10, 11, 12, 13, 24, 25, 26, 27, 28, 29, 30, 31, 32, 33, 34, 35, 36, 37, 38, 39, 40] (by decide +kernel) (by decide +kernel)
set_option maxRecDepth 20000 in
theorem gX10_word_X10_refuse : GoodIn wsX10_word (wsV RX10 97 RX10 yX10_refuse wsX10_refuse) := goodIn_app (goodIn_of _ (by decide +kernel)) ggX10_word_X10_refuse
set_option maxRecDepth 20000 in
theorem ggX10_word_X9_addWord : GoodIn wsX10_word wsX9_addWord := goodIn_r _ [18, 19, 20, 21, 22, 23, 41, 42, 43, 44, 45, 46, 47, 48, 49, 50, 51, 52, 53, 54] (by decide +kernel) (by decide +kernel)
set_option maxRecDepth 20000 in
theorem gX10_word_X9_addWord : GoodIn wsX10_word (wsV RX10 101 RX9 yX9_addWord wsX9_addWord) := goodIn_app (goodIn_of _ (by decide +kernel)) ggX10_word_X9_addWord
theorem dX10_word_0 : decode cX10_word 0 = .ok (.iload_n 1, 1) := by decide +kernel
theorem dX10_word_1 : decode cX10_word 1 = .ok (.bipush 8, 2) := by decide +kernel
theorem dX10_word_3 : decode cX10_word 3 = .ok (.invokestatic 93, 3) := by decide +kernel
theorem dX10_word_6 : decode cX10_word 6 = .ok (.ifCond .eq 21, 3) := by decide +kernel
theorem dX10_word_9 : decode cX10_word 9 = .ok (.iload_n 2, 1) := by decide +kernel
theorem dX10_word_10 : decode cX10_word 10 = .ok (.bipush 8, 2) := by decide +kernel
theorem dX10_word_12 : decode cX10_word 12 = .ok (.invokestatic 93, 3) := by decide +kernel
theorem dX10_word_15 : decode cX10_word 15 = .ok (.ifCond .eq 12, 3) := by decide +kernel
theorem dX10_word_18 : decode cX10_word 18 = .ok (.iload_n 3, 1) := by decide +kernel
theorem dX10_word_19 : decode cX10_word 19 = .ok (.bipush 21, 2) := by decide +kernel
theorem dX10_word_21 : decode cX10_word 21 = .ok (.invokestatic 93, 3) := by decide +kernel
theorem dX10_word_24 : decode cX10_word 24 = .ok (.ifCond .ne 10, 3) := by decide +kernel
theorem dX10_word_27 : decode cX10_word 27 = .ok (.aload_n 0, 1) := by decide +kernel
theorem dX10_word_28 : decode cX10_word 28 = .ok (.bipush (-2), 2) := by decide +kernel
theorem dX10_word_30 : decode cX10_word 30 = .ok (.invokevirtual 97, 3) := by decide +kernel
theorem dX10_word_33 : decode cX10_word 33 = .ok (.ireturn, 1) := by decide +kernel
theorem dX10_word_34 : decode cX10_word 34 = .ok (.aload_n 0, 1) := by decide +kernel
theorem dX10_word_35 : decode cX10_word 35 = .ok (.getfield 12, 3) := by decide +kernel
theorem dX10_word_38 : decode cX10_word 38 = .ok (.getfield 86, 3) := by decide +kernel
theorem dX10_word_41 : decode cX10_word 41 = .ok (.bipush 10, 2) := by decide +kernel
theorem dX10_word_43 : decode cX10_word 43 = .ok (.if_icmp .lt 10, 3) := by decide +kernel
theorem dX10_word_46 : decode cX10_word 46 = .ok (.aload_n 0, 1) := by decide +kernel
theorem dX10_word_47 : decode cX10_word 47 = .ok (.bipush (-4), 2) := by decide +kernel
theorem dX10_word_49 : decode cX10_word 49 = .ok (.invokevirtual 97, 3) := by decide +kernel
theorem dX10_word_52 : decode cX10_word 52 = .ok (.ireturn, 1) := by decide +kernel
theorem dX10_word_53 : decode cX10_word 53 = .ok (.aload_n 0, 1) := by decide +kernel
theorem dX10_word_54 : decode cX10_word 54 = .ok (.getfield 12, 3) := by decide +kernel
theorem dX10_word_57 : decode cX10_word 57 = .ok (.iload_n 1, 1) := by decide +kernel
theorem dX10_word_58 : decode cX10_word 58 = .ok (.iload_n 2, 1) := by decide +kernel
theorem dX10_word_59 : decode cX10_word 59 = .ok (.iload_n 3, 1) := by decide +kernel
theorem dX10_word_60 : decode cX10_word 60 = .ok (.invokevirtual 101, 3) := by decide +kernel
theorem dX10_word_63 : decode cX10_word 63 = .ok (.ireturn, 1) := by decide +kernel
set_option maxRecDepth 20000 in
theorem ggX10_alike_X10_fits : GoodIn wsX10_alike wsX10_fits := goodIn_r _ [5] (by decide +kernel) (by decide +kernel)
set_option maxRecDepth 20000 in
theorem gX10_alike_X10_fits : GoodIn wsX10_alike (va_wsS RX10 93 yX10_fits wsX10_fits) := goodIn_app (goodIn_of _ (by decide +kernel)) ggX10_alike_X10_fits
set_option maxRecDepth 20000 in
theorem ggX10_alike_X10_refuse : GoodIn wsX10_alike wsX10_refuse := goodIn_r _ [9, 10, 11, 12, 23, 24, 25, 26, 27, 28, 29, 30, 31, 32, 33, 34, 35, 36, 37, 38, 39] (by decide +kernel) (by decide +kernel)
set_option maxRecDepth 20000 in
theorem gX10_alike_X10_refuse : GoodIn wsX10_alike (wsV RX10 97 RX10 yX10_refuse wsX10_refuse) := goodIn_app (goodIn_of _ (by decide +kernel)) ggX10_alike_X10_refuse
set_option maxRecDepth 20000 in
theorem ggX10_alike_X9_areAlike : GoodIn wsX10_alike wsX9_areAlike := goodIn_r _ [17, 18, 40, 41, 42, 43, 44, 45, 46, 47, 48, 49, 50, 51, 52, 53] (by decide +kernel) (by decide +kernel)
set_option maxRecDepth 20000 in
theorem gX10_alike_X9_areAlike : GoodIn wsX10_alike (wsV RX10 105 RX9 yX9_areAlike wsX9_areAlike) := goodIn_app (goodIn_of _ (by decide +kernel)) ggX10_alike_X9_areAlike
set_option maxRecDepth 20000 in
theorem ggX10_alike_X9_setAlike : GoodIn wsX10_alike wsX9_setAlike := goodIn_r _ [22, 18, 40, 41, 42, 43, 44, 45, 46, 47, 48, 49, 50, 51, 52, 53] (by decide +kernel) (by decide +kernel)
set_option maxRecDepth 20000 in
theorem gX10_alike_X9_setAlike : GoodIn wsX10_alike (wsV RX10 108 RX9 yX9_setAlike wsX9_setAlike) := goodIn_app (goodIn_of _ (by decide +kernel)) ggX10_alike_X9_setAlike
theorem dX10_alike_0 : decode cX10_alike 0 = .ok (.iload_n 1, 1) := by decide +kernel
theorem dX10_alike_1 : decode cX10_alike 1 = .ok (.bipush 8, 2) := by decide +kernel
theorem dX10_alike_3 : decode cX10_alike 3 = .ok (.invokestatic 93, 3) := by decide +kernel
theorem dX10_alike_6 : decode cX10_alike 6 = .ok (.ifCond .eq 25, 3) := by decide +kernel
theorem dX10_alike_9 : decode cX10_alike 9 = .ok (.iload_n 2, 1) := by decide +kernel
theorem dX10_alike_10 : decode cX10_alike 10 = .ok (.bipush 8, 2) := by decide +kernel
theorem dX10_alike_12 : decode cX10_alike 12 = .ok (.invokestatic 93, 3) := by decide +kernel
theorem dX10_alike_15 : decode cX10_alike 15 = .ok (.ifCond .eq 16, 3) := by decide +kernel
theorem dX10_alike_18 : decode cX10_alike 18 = .ok (.iload_n 1, 1) := by decide +kernel
theorem dX10_alike_19 : decode cX10_alike 19 = .ok (.iload_n 2, 1) := by decide +kernel
theorem dX10_alike_20 : decode cX10_alike 20 = .ok (.if_icmp .eq 11, 3) := by decide +kernel
theorem dX10_alike_23 : decode cX10_alike 23 = .ok (.iload_n 3, 1) := by decide +kernel
theorem dX10_alike_24 : decode cX10_alike 24 = .ok (.iconst 2, 1) := by decide +kernel
theorem dX10_alike_25 : decode cX10_alike 25 = .ok (.invokestatic 93, 3) := by decide +kernel
theorem dX10_alike_28 : decode cX10_alike 28 = .ok (.ifCond .ne 10, 3) := by decide +kernel
theorem dX10_alike_31 : decode cX10_alike 31 = .ok (.aload_n 0, 1) := by decide +kernel
theorem dX10_alike_32 : decode cX10_alike 32 = .ok (.bipush (-2), 2) := by decide +kernel
theorem dX10_alike_34 : decode cX10_alike 34 = .ok (.invokevirtual 97, 3) := by decide +kernel
theorem dX10_alike_37 : decode cX10_alike 37 = .ok (.ireturn, 1) := by decide +kernel
theorem dX10_alike_38 : decode cX10_alike 38 = .ok (.aload_n 0, 1) := by decide +kernel
theorem dX10_alike_39 : decode cX10_alike 39 = .ok (.getfield 12, 3) := by decide +kernel
theorem dX10_alike_42 : decode cX10_alike 42 = .ok (.iload_n 1, 1) := by decide +kernel
theorem dX10_alike_43 : decode cX10_alike 43 = .ok (.iload_n 2, 1) := by decide +kernel
theorem dX10_alike_44 : decode cX10_alike 44 = .ok (.invokevirtual 105, 3) := by decide +kernel
theorem dX10_alike_47 : decode cX10_alike 47 = .ok (.istore 4, 2) := by decide +kernel
theorem dX10_alike_49 : decode cX10_alike 49 = .ok (.aload_n 0, 1) := by decide +kernel
theorem dX10_alike_50 : decode cX10_alike 50 = .ok (.getfield 12, 3) := by decide +kernel
theorem dX10_alike_53 : decode cX10_alike 53 = .ok (.iload_n 1, 1) := by decide +kernel
theorem dX10_alike_54 : decode cX10_alike 54 = .ok (.iload_n 2, 1) := by decide +kernel
theorem dX10_alike_55 : decode cX10_alike 55 = .ok (.iload_n 3, 1) := by decide +kernel
theorem dX10_alike_56 : decode cX10_alike 56 = .ok (.iconst 1, 1) := by decide +kernel
theorem dX10_alike_57 : decode cX10_alike 57 = .ok (.if_icmp .ne 7, 3) := by decide +kernel
theorem dX10_alike_60 : decode cX10_alike 60 = .ok (.iconst 1, 1) := by decide +kernel
theorem dX10_alike_61 : decode cX10_alike 61 = .ok (.goto 4, 3) := by decide +kernel
theorem dX10_alike_64 : decode cX10_alike 64 = .ok (.iconst 0, 1) := by decide +kernel
theorem dX10_alike_65 : decode cX10_alike 65 = .ok (.invokevirtual 108, 3) := by decide +kernel
theorem dX10_alike_68 : decode cX10_alike 68 = .ok (.iload 4, 2) := by decide +kernel
theorem dX10_alike_70 : decode cX10_alike 70 = .ok (.ifCond .eq 7, 3) := by decide +kernel
theorem dX10_alike_73 : decode cX10_alike 73 = .ok (.iconst 1, 1) := by decide +kernel
theorem dX10_alike_74 : decode cX10_alike 74 = .ok (.goto 4, 3) := by decide +kernel
theorem dX10_alike_77 : decode cX10_alike 77 = .ok (.iconst 0, 1) := by decide +kernel
theorem dX10_alike_78 : decode cX10_alike 78 = .ok (.ireturn, 1) := by decide +kernel
set_option maxRecDepth 20000 in
theorem ggX10_person_X10_fits : GoodIn wsX10_person wsX10_fits := goodIn_r _ [6] (by decide +kernel) (by decide +kernel)
set_option maxRecDepth 20000 in
theorem gX10_person_X10_fits : GoodIn wsX10_person (va_wsS RX10 93 yX10_fits wsX10_fits) := goodIn_app (goodIn_of _ (by decide +kernel)) ggX10_person_X10_fits
set_option maxRecDepth 20000 in
theorem ggX10_person_X10_refuse : GoodIn wsX10_person wsX10_refuse := goodIn_r _ [10, 11, 12, 13, 22, 23, 24, 25, 26, 27, 28, 29, 30, 31, 32, 33, 34, 35, 36, 37, 38] (by decide +kernel) (by decide +kernel)
set_option maxRecDepth 20000 in
theorem gX10_person_X10_refuse : GoodIn wsX10_person (wsV RX10 97 RX10 yX10_refuse wsX10_refuse) := goodIn_app (goodIn_of _ (by decide +kernel)) ggX10_person_X10_refuse
set_option maxRecDepth 20000 in
theorem ggX10_person_X9_addPerson : GoodIn wsX10_person wsX9_addPerson := goodIn_r _ [18, 19, 20, 21, 39, 40, 41, 42, 43, 44, 45, 46, 47, 48, 49, 50, 51, 52] (by decide +kernel) (by decide +kernel)
set_option maxRecDepth 20000 in
theorem gX10_person_X9_addPerson : GoodIn wsX10_person (wsV RX10 115 RX9 yX9_addPerson wsX9_addPerson) := goodIn_app (goodIn_of _ (by decide +kernel)) ggX10_person_X9_addPerson
theorem dX10_person_0 : decode cX10_person 0 = .ok (.iload_n 1, 1) := by decide +kernel
theorem dX10_person_1 : decode cX10_person 1 = .ok (.bipush 6, 2) := by decide +kernel
theorem dX10_person_3 : decode cX10_person 3 = .ok (.invokestatic 93, 3) := by decide +kernel
theorem dX10_person_6 : decode cX10_person 6 = .ok (.ifCond .eq 12, 3) := by decide +kernel
theorem dX10_person_9 : decode cX10_person 9 = .ok (.iload_n 2, 1) := by decide +kernel
theorem dX10_person_10 : decode cX10_person 10 = .ok (.bipush 8, 2) := by decide +kernel
