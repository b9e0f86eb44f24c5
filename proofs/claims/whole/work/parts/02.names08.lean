set_option maxRecDepth 20000 in
theorem ggX10_fewest_X10_sayableBits : GoodIn wsX10_fewest wsX10_sayableBits := goodIn_r _ [25, 1, 26, 27, 28, 9, 29, 30, 31, 32, 33, 34, 35, 36, 37, 38, 39, 40, 41, 42, 43, 44, 45, 46, 47, 48, 49, 50, 51, 52, 53, 54, 55, 56, 57, 58, 59, 60, 61, 62, 63, 64, 65, 66, 67, 68, 69, 70, 71, 72, 73, 74, 75, 76, 77, 78, 79, 80, 81, 82, 83, 84, 85, 86, 87, 88, 89, 90, 91, 92, 93, 94, 95, 114, 115, 116, 117, 118, 119, 120, 121, 122, 123, 124, 125, 126, 127, 128, 129, 130, 131, 132, 133, 134, 135, 136, 137, 138, 139, 140, 141, 142, 143, 144] (by decide +kernel) (by decide +kernel)
set_option maxRecDepth 20000 in
theorem gX10_fewest_X10_sayableBits : GoodIn wsX10_fewest (wsV RX10 183 RX10 yX10_sayableBits wsX10_sayableBits) := goodIn_app (goodIn_of _ (by decide +kernel)) ggX10_fewest_X10_sayableBits
set_option maxRecDepth 20000 in
theorem ggX10_fewest_X1_cheapest : GoodIn wsX10_fewest wsX1_cheapest := goodIn_r _ [100, 101, 102, 103, 104, 105, 106, 107, 108, 109, 110, 111, 112, 113, 145, 146, 147, 148] (by decide +kernel) (by decide +kernel)
set_option maxRecDepth 20000 in
theorem gX10_fewest_X1_cheapest : GoodIn wsX10_fewest (wsV RX10 192 RX1 yX1_cheapest wsX1_cheapest) := goodIn_app (goodIn_of _ (by decide +kernel)) ggX10_fewest_X1_cheapest
theorem dX10_fewest_0 : decode cX10_fewest 0 = .ok (.aload_n 0, 1) := by decide +kernel
theorem dX10_fewest_1 : decode cX10_fewest 1 = .ok (.iload_n 1, 1) := by decide +kernel
theorem dX10_fewest_2 : decode cX10_fewest 2 = .ok (.invokevirtual 136, 3) := by decide +kernel
theorem dX10_fewest_5 : decode cX10_fewest 5 = .ok (.ifCond .eq 13, 3) := by decide +kernel
theorem dX10_fewest_8 : decode cX10_fewest 8 = .ok (.iload_n 2, 1) := by decide +kernel
theorem dX10_fewest_9 : decode cX10_fewest 9 = .ok (.sipush 256, 3) := by decide +kernel
theorem dX10_fewest_12 : decode cX10_fewest 12 = .ok (.invokestatic 93, 3) := by decide +kernel
theorem dX10_fewest_15 : decode cX10_fewest 15 = .ok (.ifCond .ne 10, 3) := by decide +kernel
theorem dX10_fewest_18 : decode cX10_fewest 18 = .ok (.aload_n 0, 1) := by decide +kernel
theorem dX10_fewest_19 : decode cX10_fewest 19 = .ok (.bipush (-2), 2) := by decide +kernel
theorem dX10_fewest_21 : decode cX10_fewest 21 = .ok (.invokevirtual 97, 3) := by decide +kernel
theorem dX10_fewest_24 : decode cX10_fewest 24 = .ok (.ireturn, 1) := by decide +kernel
theorem dX10_fewest_25 : decode cX10_fewest 25 = .ok (.iconst 0, 1) := by decide +kernel
theorem dX10_fewest_26 : decode cX10_fewest 26 = .ok (.istore_n 3, 1) := by decide +kernel
theorem dX10_fewest_27 : decode cX10_fewest 27 = .ok (.iload_n 3, 1) := by decide +kernel
theorem dX10_fewest_28 : decode cX10_fewest 28 = .ok (.aload_n 0, 1) := by decide +kernel
theorem dX10_fewest_29 : decode cX10_fewest 29 = .ok (.getfield 12, 3) := by decide +kernel
theorem dX10_fewest_32 : decode cX10_fewest 32 = .ok (.getfield 86, 3) := by decide +kernel
theorem dX10_fewest_35 : decode cX10_fewest 35 = .ok (.if_icmp .ge 34, 3) := by decide +kernel
theorem dX10_fewest_38 : decode cX10_fewest 38 = .ok (.aload_n 0, 1) := by decide +kernel
theorem dX10_fewest_39 : decode cX10_fewest 39 = .ok (.getfield 46, 3) := by decide +kernel
theorem dX10_fewest_42 : decode cX10_fewest 42 = .ok (.getfield 186, 3) := by decide +kernel
theorem dX10_fewest_45 : decode cX10_fewest 45 = .ok (.iload_n 3, 1) := by decide +kernel
theorem dX10_fewest_46 : decode cX10_fewest 46 = .ok (.aload_n 0, 1) := by decide +kernel
theorem dX10_fewest_47 : decode cX10_fewest 47 = .ok (.iload_n 1, 1) := by decide +kernel
theorem dX10_fewest_48 : decode cX10_fewest 48 = .ok (.iload_n 3, 1) := by decide +kernel
theorem dX10_fewest_49 : decode cX10_fewest 49 = .ok (.invokevirtual 183, 3) := by decide +kernel
theorem dX10_fewest_52 : decode cX10_fewest 52 = .ok (.iastore, 1) := by decide +kernel
theorem dX10_fewest_53 : decode cX10_fewest 53 = .ok (.aload_n 0, 1) := by decide +kernel
theorem dX10_fewest_54 : decode cX10_fewest 54 = .ok (.getfield 46, 3) := by decide +kernel
theorem dX10_fewest_57 : decode cX10_fewest 57 = .ok (.getfield 189, 3) := by decide +kernel
theorem dX10_fewest_60 : decode cX10_fewest 60 = .ok (.iload_n 3, 1) := by decide +kernel
theorem dX10_fewest_61 : decode cX10_fewest 61 = .ok (.iconst 1, 1) := by decide +kernel
theorem dX10_fewest_62 : decode cX10_fewest 62 = .ok (.iastore, 1) := by decide +kernel
theorem dX10_fewest_63 : decode cX10_fewest 63 = .ok (.iinc 3 1, 3) := by decide +kernel
theorem dX10_fewest_66 : decode cX10_fewest 66 = .ok (.goto (-39), 3) := by decide +kernel
theorem dX10_fewest_69 : decode cX10_fewest 69 = .ok (.aload_n 0, 1) := by decide +kernel
theorem dX10_fewest_70 : decode cX10_fewest 70 = .ok (.getfield 46, 3) := by decide +kernel
theorem dX10_fewest_73 : decode cX10_fewest 73 = .ok (.aload_n 0, 1) := by decide +kernel
theorem dX10_fewest_74 : decode cX10_fewest 74 = .ok (.getfield 12, 3) := by decide +kernel
theorem dX10_fewest_77 : decode cX10_fewest 77 = .ok (.getfield 86, 3) := by decide +kernel
theorem dX10_fewest_80 : decode cX10_fewest 80 = .ok (.iload_n 2, 1) := by decide +kernel
theorem dX10_fewest_81 : decode cX10_fewest 81 = .ok (.invokevirtual 192, 3) := by decide +kernel
theorem dX10_fewest_84 : decode cX10_fewest 84 = .ok (.ireturn, 1) := by decide +kernel
set_option maxRecDepth 20000 in
theorem ggX10_errand_X10_fits : GoodIn wsX10_errand wsX10_fits := goodIn_r _ [11] (by decide +kernel) (by decide +kernel)
set_option maxRecDepth 20000 in
theorem gX10_errand_X10_fits : GoodIn wsX10_errand (va_wsS RX10 93 yX10_fits wsX10_fits) := goodIn_app (goodIn_of _ (by decide +kernel)) ggX10_errand_X10_fits
set_option maxRecDepth 20000 in
theorem ggX10_errand_X10_refuse : GoodIn wsX10_errand wsX10_refuse := goodIn_r _ [15, 16, 17, 18, 116, 117, 118, 119, 120, 121, 122, 123, 124, 125, 126, 127, 128, 129, 130, 131, 132] (by decide +kernel) (by decide +kernel)
set_option maxRecDepth 20000 in
theorem gX10_errand_X10_refuse : GoodIn wsX10_errand (wsV RX10 97 RX10 yX10_refuse wsX10_refuse) := goodIn_app (goodIn_of _ (by decide +kernel)) ggX10_errand_X10_refuse
set_option maxRecDepth 20000 in
theorem ggX10_errand_X10_sayableBits : GoodIn wsX10_errand wsX10_sayableBits := goodIn_r _ [22, 1, 23, 24, 25, 10, 26, 27, 28, 29, 30, 31, 32, 33, 34, 35, 36, 37, 38, 39, 40, 41, 42, 43, 44, 45, 46, 47, 48, 49, 50, 51, 52, 53, 54, 55, 56, 57, 58, 59, 60, 61, 62, 63, 64, 65, 66, 67, 68, 69, 70, 71, 72, 73, 74, 75, 76, 77, 78, 79, 80, 81, 82, 83, 84, 85, 86, 87, 88, 89, 90, 91, 92, 116, 117, 118, 119, 120, 121, 122, 123, 124, 125, 126, 127, 128, 129, 130, 131, 132, 133, 134, 135, 136, 137, 138, 139, 140, 141, 142, 143, 144, 145, 146] (by decide +kernel) (by decide +kernel)
set_option maxRecDepth 20000 in
theorem gX10_errand_X10_sayableBits : GoodIn wsX10_errand (wsV RX10 183 RX10 yX10_sayableBits wsX10_sayableBits) := goodIn_app (goodIn_of _ (by decide +kernel)) ggX10_errand_X10_sayableBits
set_option maxRecDepth 20000 in
theorem ggX10_errand_X1_cheapest : GoodIn wsX10_errand wsX1_cheapest := goodIn_r _ [97, 98, 99, 100, 101, 102, 103, 104, 105, 106, 107, 108, 109, 110, 147, 148, 149, 150] (by decide +kernel) (by decide +kernel)
set_option maxRecDepth 20000 in
theorem gX10_errand_X1_cheapest : GoodIn wsX10_errand (wsV RX10 192 RX1 yX1_cheapest wsX1_cheapest) := goodIn_app (goodIn_of _ (by decide +kernel)) ggX10_errand_X1_cheapest
set_option maxRecDepth 20000 in
theorem ggX10_errand_X9_costOf : GoodIn wsX10_errand wsX9_costOf := goodIn_r _ [114, 57, 115, 133, 134, 135, 136, 137, 138, 139, 140, 141, 142, 143, 144, 145, 146] (by decide +kernel) (by decide +kernel)
set_option maxRecDepth 20000 in
theorem gX10_errand_X9_costOf : GoodIn wsX10_errand (wsV RX10 195 RX9 yX9_costOf wsX9_costOf) := goodIn_app (goodIn_of _ (by decide +kernel)) ggX10_errand_X9_costOf
theorem dX10_errand_0 : decode cX10_errand 0 = .ok (.iload_n 1, 1) := by decide +kernel
theorem dX10_errand_1 : decode cX10_errand 1 = .ok (.sipush 256, 3) := by decide +kernel
theorem dX10_errand_4 : decode cX10_errand 4 = .ok (.invokestatic 93, 3) := by decide +kernel
theorem dX10_errand_7 : decode cX10_errand 7 = .ok (.ifCond .eq 11, 3) := by decide +kernel
theorem dX10_errand_10 : decode cX10_errand 10 = .ok (.iload_n 2, 1) := by decide +kernel
theorem dX10_errand_11 : decode cX10_errand 11 = .ok (.iconst 2, 1) := by decide +kernel
theorem dX10_errand_12 : decode cX10_errand 12 = .ok (.invokestatic 93, 3) := by decide +kernel
theorem dX10_errand_15 : decode cX10_errand 15 = .ok (.ifCond .ne 13, 3) := by decide +kernel
theorem dX10_errand_18 : decode cX10_errand 18 = .ok (.aload_n 0, 1) := by decide +kernel
theorem dX10_errand_19 : decode cX10_errand 19 = .ok (.bipush (-2), 2) := by decide +kernel
theorem dX10_errand_21 : decode cX10_errand 21 = .ok (.invokevirtual 97, 3) := by decide +kernel
theorem dX10_errand_24 : decode cX10_errand 24 = .ok (.pop, 1) := by decide +kernel
theorem dX10_errand_25 : decode cX10_errand 25 = .ok (.bipush (-10), 2) := by decide +kernel
theorem dX10_errand_27 : decode cX10_errand 27 = .ok (.ireturn, 1) := by decide +kernel
theorem dX10_errand_28 : decode cX10_errand 28 = .ok (.iconst 0, 1) := by decide +kernel
theorem dX10_errand_29 : decode cX10_errand 29 = .ok (.istore_n 3, 1) := by decide +kernel
theorem dX10_errand_30 : decode cX10_errand 30 = .ok (.iload_n 3, 1) := by decide +kernel
theorem dX10_errand_31 : decode cX10_errand 31 = .ok (.aload_n 0, 1) := by decide +kernel
theorem dX10_errand_32 : decode cX10_errand 32 = .ok (.getfield 12, 3) := by decide +kernel
theorem dX10_errand_35 : decode cX10_errand 35 = .ok (.getfield 86, 3) := by decide +kernel
theorem dX10_errand_38 : decode cX10_errand 38 = .ok (.if_icmp .ge 77, 3) := by decide +kernel
theorem dX10_errand_41 : decode cX10_errand 41 = .ok (.aload_n 0, 1) := by decide +kernel
theorem dX10_errand_42 : decode cX10_errand 42 = .ok (.getfield 46, 3) := by decide +kernel
theorem dX10_errand_45 : decode cX10_errand 45 = .ok (.getfield 189, 3) := by decide +kernel
theorem dX10_errand_48 : decode cX10_errand 48 = .ok (.iload_n 3, 1) := by decide +kernel
theorem dX10_errand_49 : decode cX10_errand 49 = .ok (.aload_n 0, 1) := by decide +kernel
theorem dX10_errand_50 : decode cX10_errand 50 = .ok (.getfield 12, 3) := by decide +kernel
theorem dX10_errand_53 : decode cX10_errand 53 = .ok (.getfield 170, 3) := by decide +kernel
theorem dX10_errand_56 : decode cX10_errand 56 = .ok (.iload_n 3, 1) := by decide +kernel
theorem dX10_errand_57 : decode cX10_errand 57 = .ok (.iaload, 1) := by decide +kernel
theorem dX10_errand_58 : decode cX10_errand 58 = .ok (.iastore, 1) := by decide +kernel
theorem dX10_errand_59 : decode cX10_errand 59 = .ok (.aload_n 0, 1) := by decide +kernel
theorem dX10_errand_60 : decode cX10_errand 60 = .ok (.getfield 46, 3) := by decide +kernel
theorem dX10_errand_63 : decode cX10_errand 63 = .ok (.getfield 186, 3) := by decide +kernel
theorem dX10_errand_66 : decode cX10_errand 66 = .ok (.iload_n 3, 1) := by decide +kernel
theorem dX10_errand_67 : decode cX10_errand 67 = .ok (.iconst 0, 1) := by decide +kernel
theorem dX10_errand_68 : decode cX10_errand 68 = .ok (.iastore, 1) := by decide +kernel
theorem dX10_errand_69 : decode cX10_errand 69 = .ok (.iconst 0, 1) := by decide +kernel
theorem dX10_errand_70 : decode cX10_errand 70 = .ok (.istore 4, 2) := by decide +kernel
theorem dX10_errand_72 : decode cX10_errand 72 = .ok (.iload 4, 2) := by decide +kernel
theorem dX10_errand_74 : decode cX10_errand 74 = .ok (.aload_n 0, 1) := by decide +kernel
theorem dX10_errand_75 : decode cX10_errand 75 = .ok (.getfield 12, 3) := by decide +kernel
theorem dX10_errand_78 : decode cX10_errand 78 = .ok (.getfield 112, 3) := by decide +kernel
theorem dX10_errand_81 : decode cX10_errand 81 = .ok (.if_icmp .ge 28, 3) := by decide +kernel
theorem dX10_errand_84 : decode cX10_errand 84 = .ok (.aload_n 0, 1) := by decide +kernel
theorem dX10_errand_85 : decode cX10_errand 85 = .ok (.getfield 46, 3) := by decide +kernel
theorem dX10_errand_88 : decode cX10_errand 88 = .ok (.getfield 186, 3) := by decide +kernel
theorem dX10_errand_91 : decode cX10_errand 91 = .ok (.iload_n 3, 1) := by decide +kernel
theorem dX10_errand_92 : decode cX10_errand 92 = .ok (.dup2, 1) := by decide +kernel
theorem dX10_errand_93 : decode cX10_errand 93 = .ok (.iaload, 1) := by decide +kernel
theorem dX10_errand_94 : decode cX10_errand 94 = .ok (.aload_n 0, 1) := by decide +kernel
theorem dX10_errand_95 : decode cX10_errand 95 = .ok (.iload 4, 2) := by decide +kernel
theorem dX10_errand_97 : decode cX10_errand 97 = .ok (.iload_n 3, 1) := by decide +kernel
theorem dX10_errand_98 : decode cX10_errand 98 = .ok (.invokevirtual 183, 3) := by decide +kernel
theorem dX10_errand_101 : decode cX10_errand 101 = .ok (.ior, 1) := by decide +kernel
theorem dX10_errand_102 : decode cX10_errand 102 = .ok (.iastore, 1) := by decide +kernel
theorem dX10_errand_103 : decode cX10_errand 103 = .ok (.iinc 4 1, 3) := by decide +kernel
theorem dX10_errand_106 : decode cX10_errand 106 = .ok (.goto (-34), 3) := by decide +kernel
theorem dX10_errand_109 : decode cX10_errand 109 = .ok (.iinc 3 1, 3) := by decide +kernel
theorem dX10_errand_112 : decode cX10_errand 112 = .ok (.goto (-82), 3) := by decide +kernel
theorem dX10_errand_115 : decode cX10_errand 115 = .ok (.aload_n 0, 1) := by decide +kernel
theorem dX10_errand_116 : decode cX10_errand 116 = .ok (.getfield 46, 3) := by decide +kernel
theorem dX10_errand_119 : decode cX10_errand 119 = .ok (.aload_n 0, 1) := by decide +kernel
theorem dX10_errand_120 : decode cX10_errand 120 = .ok (.getfield 12, 3) := by decide +kernel
theorem dX10_errand_123 : decode cX10_errand 123 = .ok (.getfield 86, 3) := by decide +kernel
theorem dX10_errand_126 : decode cX10_errand 126 = .ok (.iload_n 1, 1) := by decide +kernel
theorem dX10_errand_127 : decode cX10_errand 127 = .ok (.invokevirtual 192, 3) := by decide +kernel
theorem dX10_errand_130 : decode cX10_errand 130 = .ok (.istore_n 3, 1) := by decide +kernel
theorem dX10_errand_131 : decode cX10_errand 131 = .ok (.iload_n 3, 1) := by decide +kernel
theorem dX10_errand_132 : decode cX10_errand 132 = .ok (.iconst (-1), 1) := by decide +kernel
theorem dX10_errand_133 : decode cX10_errand 133 = .ok (.if_icmp .eq 8, 3) := by decide +kernel
theorem dX10_errand_136 : decode cX10_errand 136 = .ok (.iload_n 2, 1) := by decide +kernel
theorem dX10_errand_137 : decode cX10_errand 137 = .ok (.iconst 1, 1) := by decide +kernel
theorem dX10_errand_138 : decode cX10_errand 138 = .ok (.if_icmp .ne 5, 3) := by decide +kernel
theorem dX10_errand_141 : decode cX10_errand 141 = .ok (.iload_n 3, 1) := by decide +kernel
theorem dX10_errand_142 : decode cX10_errand 142 = .ok (.ireturn, 1) := by decide +kernel
theorem dX10_errand_143 : decode cX10_errand 143 = .ok (.aload_n 0, 1) := by decide +kernel
theorem dX10_errand_144 : decode cX10_errand 144 = .ok (.getfield 12, 3) := by decide +kernel
theorem dX10_errand_147 : decode cX10_errand 147 = .ok (.iload_n 3, 1) := by decide +kernel
theorem dX10_errand_148 : decode cX10_errand 148 = .ok (.invokevirtual 195, 3) := by decide +kernel
theorem dX10_errand_151 : decode cX10_errand 151 = .ok (.ireturn, 1) := by decide +kernel
set_option maxRecDepth 20000 in
theorem ggX10_hear_X10_isWord : GoodIn wsX10_hear wsX10_isWord := goodIn_r _ [7, 1, 8, 9, 10, 6, 11, 27, 28, 29, 30, 31, 32, 33, 34, 35, 36, 37, 38, 39, 40, 41, 42, 43, 44, 45, 46, 47, 48, 49, 50, 51, 52, 53, 54, 55, 56, 57] (by decide +kernel) (by decide +kernel)
set_option maxRecDepth 20000 in
theorem gX10_hear_X10_isWord : GoodIn wsX10_hear (wsV RX10 140 RX10 yX10_isWord wsX10_isWord) := goodIn_app (goodIn_of _ (by decide +kernel)) ggX10_hear_X10_isWord
set_option maxRecDepth 20000 in
theorem ggX10_hear_X10_refuse : GoodIn wsX10_hear wsX10_refuse := goodIn_r _ [15, 16, 17, 18, 27, 28, 29, 30, 31, 32, 33, 34, 35, 36, 37, 38, 39, 40, 41, 42, 43] (by decide +kernel) (by decide +kernel)
set_option maxRecDepth 20000 in
theorem gX10_hear_X10_refuse : GoodIn wsX10_hear (wsV RX10 97 RX10 yX10_refuse wsX10_refuse) := goodIn_app (goodIn_of _ (by decide +kernel)) ggX10_hear_X10_refuse
set_option maxRecDepth 20000 in
theorem ggX10_hear_X9_addHeard : GoodIn wsX10_hear wsX9_addHeard := goodIn_r _ [23, 24, 25, 26, 44, 45, 46, 47, 48, 49, 50, 51, 52, 53, 54, 55, 56, 57] (by decide +kernel) (by decide +kernel)
set_option maxRecDepth 20000 in
theorem gX10_hear_X9_addHeard : GoodIn wsX10_hear (wsV RX10 201 RX9 yX9_addHeard wsX9_addHeard) := goodIn_app (goodIn_of _ (by decide +kernel)) ggX10_hear_X9_addHeard
theorem dX10_hear_0 : decode cX10_hear 0 = .ok (.aload_n 0, 1) := by decide +kernel
theorem dX10_hear_1 : decode cX10_hear 1 = .ok (.iload_n 1, 1) := by decide +kernel
theorem dX10_hear_2 : decode cX10_hear 2 = .ok (.invokevirtual 140, 3) := by decide +kernel
theorem dX10_hear_5 : decode cX10_hear 5 = .ok (.ifCond .eq 16, 3) := by decide +kernel
theorem dX10_hear_8 : decode cX10_hear 8 = .ok (.iload_n 2, 1) := by decide +kernel
theorem dX10_hear_9 : decode cX10_hear 9 = .ok (.iconst (-1), 1) := by decide +kernel
theorem dX10_hear_10 : decode cX10_hear 10 = .ok (.if_icmp .eq 18, 3) := by decide +kernel
theorem dX10_hear_13 : decode cX10_hear 13 = .ok (.aload_n 0, 1) := by decide +kernel
theorem dX10_hear_14 : decode cX10_hear 14 = .ok (.iload_n 2, 1) := by decide +kernel
theorem dX10_hear_15 : decode cX10_hear 15 = .ok (.invokevirtual 140, 3) := by decide +kernel
theorem dX10_hear_18 : decode cX10_hear 18 = .ok (.ifCond .ne 10, 3) := by decide +kernel
theorem dX10_hear_21 : decode cX10_hear 21 = .ok (.aload_n 0, 1) := by decide +kernel
theorem dX10_hear_22 : decode cX10_hear 22 = .ok (.bipush (-2), 2) := by decide +kernel
theorem dX10_hear_24 : decode cX10_hear 24 = .ok (.invokevirtual 97, 3) := by decide +kernel
theorem dX10_hear_27 : decode cX10_hear 27 = .ok (.ireturn, 1) := by decide +kernel
theorem dX10_hear_28 : decode cX10_hear 28 = .ok (.aload_n 0, 1) := by decide +kernel
theorem dX10_hear_29 : decode cX10_hear 29 = .ok (.getfield 12, 3) := by decide +kernel
theorem dX10_hear_32 : decode cX10_hear 32 = .ok (.getfield 198, 3) := by decide +kernel
theorem dX10_hear_35 : decode cX10_hear 35 = .ok (.bipush 6, 2) := by decide +kernel
theorem dX10_hear_37 : decode cX10_hear 37 = .ok (.if_icmp .lt 10, 3) := by decide +kernel
theorem dX10_hear_40 : decode cX10_hear 40 = .ok (.aload_n 0, 1) := by decide +kernel
theorem dX10_hear_41 : decode cX10_hear 41 = .ok (.bipush (-4), 2) := by decide +kernel
theorem dX10_hear_43 : decode cX10_hear 43 = .ok (.invokevirtual 97, 3) := by decide +kernel
theorem dX10_hear_46 : decode cX10_hear 46 = .ok (.ireturn, 1) := by decide +kernel
theorem dX10_hear_47 : decode cX10_hear 47 = .ok (.aload_n 0, 1) := by decide +kernel
theorem dX10_hear_48 : decode cX10_hear 48 = .ok (.getfield 12, 3) := by decide +kernel
theorem dX10_hear_51 : decode cX10_hear 51 = .ok (.iload_n 1, 1) := by decide +kernel
theorem dX10_hear_52 : decode cX10_hear 52 = .ok (.iload_n 2, 1) := by decide +kernel
theorem dX10_hear_53 : decode cX10_hear 53 = .ok (.invokevirtual 201, 3) := by decide +kernel
theorem dX10_hear_56 : decode cX10_hear 56 = .ok (.ireturn, 1) := by decide +kernel
theorem dX10_forget_0 : decode cX10_forget 0 = .ok (.aload_n 0, 1) := by decide +kernel
theorem dX10_forget_1 : decode cX10_forget 1 = .ok (.getfield 12, 3) := by decide +kernel
theorem dX10_forget_4 : decode cX10_forget 4 = .ok (.getfield 198, 3) := by decide +kernel
theorem dX10_forget_7 : decode cX10_forget 7 = .ok (.istore_n 1, 1) := by decide +kernel
theorem dX10_forget_8 : decode cX10_forget 8 = .ok (.aload_n 0, 1) := by decide +kernel
theorem dX10_forget_9 : decode cX10_forget 9 = .ok (.getfield 12, 3) := by decide +kernel
theorem dX10_forget_12 : decode cX10_forget 12 = .ok (.iconst 0, 1) := by decide +kernel
theorem dX10_forget_13 : decode cX10_forget 13 = .ok (.putfield 198, 3) := by decide +kernel
theorem dX10_forget_16 : decode cX10_forget 16 = .ok (.iload_n 1, 1) := by decide +kernel
theorem dX10_forget_17 : decode cX10_forget 17 = .ok (.ireturn, 1) := by decide +kernel
set_option maxRecDepth 20000 in
theorem ggX10_wants_X10_fits : GoodIn wsX10_wants wsX10_fits := goodIn_r _ [4] (by decide +kernel) (by decide +kernel)
set_option maxRecDepth 20000 in
theorem gX10_wants_X10_fits : GoodIn wsX10_wants (va_wsS RX10 93 yX10_fits wsX10_fits) := goodIn_app (goodIn_of _ (by decide +kernel)) ggX10_wants_X10_fits
set_option maxRecDepth 20000 in
theorem ggX10_wants_X10_refuse : GoodIn wsX10_wants wsX10_refuse := goodIn_r _ [8, 9, 10, 11, 87, 88, 89, 90, 91, 92, 93, 94, 95, 96, 97, 98, 99, 100, 101, 102, 103] (by decide +kernel) (by decide +kernel)
set_option maxRecDepth 20000 in
theorem gX10_wants_X10_refuse : GoodIn wsX10_wants (wsV RX10 97 RX10 yX10_refuse wsX10_refuse) := goodIn_app (goodIn_of _ (by decide +kernel)) ggX10_wants_X10_refuse
set_option maxRecDepth 20000 in
theorem ggX10_wants_X10_wantBits : GoodIn wsX10_wants wsX10_wantBits := goodIn_r _ [15, 16, 17, 18, 19, 20, 21, 22, 3, 23, 24, 25, 26, 27, 28, 29, 30, 31, 32, 33, 34, 35, 36, 37, 38, 39, 40, 41, 42, 43, 44, 45, 46, 47, 48, 49, 50, 51, 52, 53, 54, 55, 56, 57, 58, 59, 60, 61, 62, 63, 64, 65, 66, 67, 68, 69, 70, 71, 72, 73, 74, 75, 76, 77, 78, 79, 80, 81, 82, 83, 84, 85, 86, 87, 88, 89, 90, 91, 92, 93, 94, 95, 96, 97, 98, 99, 100, 101, 102, 103, 104, 105, 106, 107, 108, 109, 110, 111, 112, 113, 114, 115, 116, 117] (by decide +kernel) (by decide +kernel)
set_option maxRecDepth 20000 in
theorem gX10_wants_X10_wantBits : GoodIn wsX10_wants (wsV RX10 204 RX10 yX10_wantBits wsX10_wantBits) := goodIn_app (goodIn_of _ (by decide +kernel)) ggX10_wants_X10_wantBits
theorem dX10_wants_0 : decode cX10_wants 0 = .ok (.iload_n 1, 1) := by decide +kernel
theorem dX10_wants_1 : decode cX10_wants 1 = .ok (.bipush 6, 2) := by decide +kernel
theorem dX10_wants_3 : decode cX10_wants 3 = .ok (.invokestatic 93, 3) := by decide +kernel
theorem dX10_wants_6 : decode cX10_wants 6 = .ok (.ifCond .ne 10, 3) := by decide +kernel
theorem dX10_wants_9 : decode cX10_wants 9 = .ok (.aload_n 0, 1) := by decide +kernel
theorem dX10_wants_10 : decode cX10_wants 10 = .ok (.bipush (-2), 2) := by decide +kernel
theorem dX10_wants_12 : decode cX10_wants 12 = .ok (.invokevirtual 97, 3) := by decide +kernel
theorem dX10_wants_15 : decode cX10_wants 15 = .ok (.ireturn, 1) := by decide +kernel
theorem dX10_wants_16 : decode cX10_wants 16 = .ok (.aload_n 0, 1) := by decide +kernel
theorem dX10_wants_17 : decode cX10_wants 17 = .ok (.iload_n 1, 1) := by decide +kernel
theorem dX10_wants_18 : decode cX10_wants 18 = .ok (.invokevirtual 204, 3) := by decide +kernel
theorem dX10_wants_21 : decode cX10_wants 21 = .ok (.ireturn, 1) := by decide +kernel
set_option maxRecDepth 20000 in
theorem ggX10_next_X10_fits : GoodIn wsX10_next wsX10_fits := goodIn_r _ [6] (by decide +kernel) (by decide +kernel)
set_option maxRecDepth 20000 in
theorem gX10_next_X10_fits : GoodIn wsX10_next (va_wsS RX10 93 yX10_fits wsX10_fits) := goodIn_app (goodIn_of _ (by decide +kernel)) ggX10_next_X10_fits
set_option maxRecDepth 20000 in
theorem ggX10_next_X10_refuse : GoodIn wsX10_next wsX10_refuse := goodIn_r _ [10, 11, 12, 13, 97, 98, 99, 100, 101, 102, 103, 104, 105, 106, 107, 108, 109, 110, 111, 112, 113] (by decide +kernel) (by decide +kernel)
set_option maxRecDepth 20000 in
theorem gX10_next_X10_refuse : GoodIn wsX10_next (wsV RX10 97 RX10 yX10_refuse wsX10_refuse) := goodIn_app (goodIn_of _ (by decide +kernel)) ggX10_next_X10_refuse
set_option maxRecDepth 20000 in
theorem ggX10_next_X10_wantBits : GoodIn wsX10_next wsX10_wantBits := goodIn_r _ [17, 1, 18, 19, 20, 21, 22, 23, 5, 24, 25, 26, 27, 28, 29, 30, 31, 32, 33, 34, 35, 36, 37, 38, 39, 40, 41, 42, 43, 44, 45, 46, 47, 48, 49, 50, 51, 52, 53, 54, 55, 56, 57, 58, 59, 60, 61, 62, 63, 64, 65, 66, 67, 68, 69, 70, 71, 72, 73, 74, 75, 76, 77, 78, 79, 80, 81, 82, 83, 84, 85, 86, 87, 97, 98, 99, 100, 101, 102, 103, 104, 105, 106, 107, 108, 109, 110, 111, 112, 113, 114, 115, 116, 117, 118, 119, 120, 121, 122, 123, 124, 125, 126, 127] (by decide +kernel) (by decide +kernel)
set_option maxRecDepth 20000 in
theorem gX10_next_X10_wantBits : GoodIn wsX10_next (wsV RX10 204 RX10 yX10_wantBits wsX10_wantBits) := goodIn_app (goodIn_of _ (by decide +kernel)) ggX10_next_X10_wantBits
set_option maxRecDepth 20000 in
theorem ggX10_next_X10_mostLeft : GoodIn wsX10_next wsX10_mostLeft := goodIn_r _ [91, 92, 93, 94, 95, 96, 21, 22, 23, 5, 24, 1, 25, 26, 27, 28, 29, 30, 31, 32, 33, 34, 35, 36, 37, 38, 39, 40, 41, 42, 43, 44, 45, 46, 47, 48, 49, 50, 51, 52, 53, 54, 55, 56, 57, 58, 59, 60, 61, 62, 63, 64, 65, 66, 67, 68, 69, 70, 71, 72, 73, 74, 75, 76, 77, 78, 79, 80, 81, 82, 83, 84, 85, 86, 87, 97, 98, 99, 100, 101, 102, 103, 104, 105, 106, 107, 108, 109, 110, 111, 112, 113, 114, 115, 116, 117, 118, 119, 120, 121, 122, 123, 124, 125, 126, 127] (by decide +kernel) (by decide +kernel)
set_option maxRecDepth 20000 in
theorem gX10_next_X10_mostLeft : GoodIn wsX10_next (wsV RX10 207 RX10 yX10_mostLeft wsX10_mostLeft) := goodIn_app (goodIn_of _ (by decide +kernel)) ggX10_next_X10_mostLeft
theorem dX10_next_0 : decode cX10_next 0 = .ok (.iload_n 1, 1) := by decide +kernel
theorem dX10_next_1 : decode cX10_next 1 = .ok (.bipush 6, 2) := by decide +kernel
theorem dX10_next_3 : decode cX10_next 3 = .ok (.invokestatic 93, 3) := by decide +kernel
theorem dX10_next_6 : decode cX10_next 6 = .ok (.ifCond .eq 11, 3) := by decide +kernel
theorem dX10_next_9 : decode cX10_next 9 = .ok (.iload_n 2, 1) := by decide +kernel
theorem dX10_next_10 : decode cX10_next 10 = .ok (.iconst 2, 1) := by decide +kernel
theorem dX10_next_11 : decode cX10_next 11 = .ok (.invokestatic 93, 3) := by decide +kernel
theorem dX10_next_14 : decode cX10_next 14 = .ok (.ifCond .ne 10, 3) := by decide +kernel
theorem dX10_next_17 : decode cX10_next 17 = .ok (.aload_n 0, 1) := by decide +kernel
theorem dX10_next_18 : decode cX10_next 18 = .ok (.bipush (-2), 2) := by decide +kernel
theorem dX10_next_20 : decode cX10_next 20 = .ok (.invokevirtual 97, 3) := by decide +kernel
theorem dX10_next_23 : decode cX10_next 23 = .ok (.ireturn, 1) := by decide +kernel
theorem dX10_next_24 : decode cX10_next 24 = .ok (.aload_n 0, 1) := by decide +kernel
theorem dX10_next_25 : decode cX10_next 25 = .ok (.iload_n 1, 1) := by decide +kernel
theorem dX10_next_26 : decode cX10_next 26 = .ok (.invokevirtual 204, 3) := by decide +kernel
theorem dX10_next_29 : decode cX10_next 29 = .ok (.istore_n 3, 1) := by decide +kernel
theorem dX10_next_30 : decode cX10_next 30 = .ok (.iconst (-1), 1) := by decide +kernel
theorem dX10_next_31 : decode cX10_next 31 = .ok (.istore 4, 2) := by decide +kernel
theorem dX10_next_33 : decode cX10_next 33 = .ok (.iconst 0, 1) := by decide +kernel
theorem dX10_next_34 : decode cX10_next 34 = .ok (.istore 5, 2) := by decide +kernel
theorem dX10_next_36 : decode cX10_next 36 = .ok (.iconst 0, 1) := by decide +kernel
theorem dX10_next_37 : decode cX10_next 37 = .ok (.istore 6, 2) := by decide +kernel
theorem dX10_next_39 : decode cX10_next 39 = .ok (.iload 6, 2) := by decide +kernel
theorem dX10_next_41 : decode cX10_next 41 = .ok (.aload_n 0, 1) := by decide +kernel
theorem dX10_next_42 : decode cX10_next 42 = .ok (.getfield 12, 3) := by decide +kernel
theorem dX10_next_45 : decode cX10_next 45 = .ok (.getfield 86, 3) := by decide +kernel
theorem dX10_next_48 : decode cX10_next 48 = .ok (.if_icmp .ge 44, 3) := by decide +kernel
theorem dX10_next_51 : decode cX10_next 51 = .ok (.iload_n 3, 1) := by decide +kernel
theorem dX10_next_52 : decode cX10_next 52 = .ok (.ifCond .eq 40, 3) := by decide +kernel
theorem dX10_next_55 : decode cX10_next 55 = .ok (.aload_n 0, 1) := by decide +kernel
theorem dX10_next_56 : decode cX10_next 56 = .ok (.iload_n 1, 1) := by decide +kernel
theorem dX10_next_57 : decode cX10_next 57 = .ok (.iload_n 3, 1) := by decide +kernel
theorem dX10_next_58 : decode cX10_next 58 = .ok (.iload 6, 2) := by decide +kernel
theorem dX10_next_60 : decode cX10_next 60 = .ok (.invokevirtual 207, 3) := by decide +kernel
theorem dX10_next_63 : decode cX10_next 63 = .ok (.istore 7, 2) := by decide +kernel
theorem dX10_next_65 : decode cX10_next 65 = .ok (.iload 4, 2) := by decide +kernel
theorem dX10_next_67 : decode cX10_next 67 = .ok (.iconst (-1), 1) := by decide +kernel
theorem dX10_next_68 : decode cX10_next 68 = .ok (.if_icmp .eq 10, 3) := by decide +kernel
theorem dX10_next_71 : decode cX10_next 71 = .ok (.iload 7, 2) := by decide +kernel
theorem dX10_next_73 : decode cX10_next 73 = .ok (.iload 5, 2) := by decide +kernel
theorem dX10_next_75 : decode cX10_next 75 = .ok (.if_icmp .ge 11, 3) := by decide +kernel
theorem dX10_next_78 : decode cX10_next 78 = .ok (.iload 6, 2) := by decide +kernel
theorem dX10_next_80 : decode cX10_next 80 = .ok (.istore 4, 2) := by decide +kernel
theorem dX10_next_82 : decode cX10_next 82 = .ok (.iload 7, 2) := by decide +kernel
theorem dX10_next_84 : decode cX10_next 84 = .ok (.istore 5, 2) := by decide +kernel
theorem dX10_next_86 : decode cX10_next 86 = .ok (.iinc 6 1, 3) := by decide +kernel
theorem dX10_next_89 : decode cX10_next 89 = .ok (.goto (-50), 3) := by decide +kernel
theorem dX10_next_92 : decode cX10_next 92 = .ok (.iload_n 2, 1) := by decide +kernel
theorem dX10_next_93 : decode cX10_next 93 = .ok (.ifCond .ne 8, 3) := by decide +kernel
theorem dX10_next_96 : decode cX10_next 96 = .ok (.iload 4, 2) := by decide +kernel
theorem dX10_next_98 : decode cX10_next 98 = .ok (.goto 5, 3) := by decide +kernel
theorem dX10_next_101 : decode cX10_next 101 = .ok (.iload 5, 2) := by decide +kernel
theorem dX10_next_103 : decode cX10_next 103 = .ok (.ireturn, 1) := by decide +kernel
set_option maxRecDepth 20000 in
theorem ggX10_two_X10_isPerson : GoodIn wsX10_two wsX10_isPerson := goodIn_r _ [16, 1, 17, 18, 19, 15, 20, 141, 142, 143, 144, 145, 146, 147, 148, 149, 150, 151, 152, 153, 154, 155, 156, 157, 158, 159, 160, 161, 162, 163, 164, 165, 166, 167, 168, 169, 170, 171] (by decide +kernel) (by decide +kernel)
set_option maxRecDepth 20000 in
theorem gX10_two_X10_isPerson : GoodIn wsX10_two (wsV RX10 136 RX10 yX10_isPerson wsX10_isPerson) := goodIn_app (goodIn_of _ (by decide +kernel)) ggX10_two_X10_isPerson
set_option maxRecDepth 20000 in
theorem ggX10_two_X10_isWord : GoodIn wsX10_two wsX10_isWord := goodIn_r _ [24, 1, 2, 18, 19, 15, 20, 141, 142, 143, 144, 145, 146, 147, 148, 149, 150, 151, 152, 153, 154, 155, 156, 157, 158, 159, 160, 161, 162, 163, 164, 165, 166, 167, 168, 169, 170, 171] (by decide +kernel) (by decide +kernel)
set_option maxRecDepth 20000 in
theorem gX10_two_X10_isWord : GoodIn wsX10_two (wsV RX10 140 RX10 yX10_isWord wsX10_isWord) := goodIn_app (goodIn_of _ (by decide +kernel)) ggX10_two_X10_isWord
set_option maxRecDepth 20000 in
theorem ggX10_two_X10_fits : GoodIn wsX10_two wsX10_fits := goodIn_r _ [20] (by decide +kernel) (by decide +kernel)
set_option maxRecDepth 20000 in
theorem gX10_two_X10_fits : GoodIn wsX10_two (va_wsS RX10 93 yX10_fits wsX10_fits) := goodIn_app (goodIn_of _ (by decide +kernel)) ggX10_two_X10_fits
set_option maxRecDepth 20000 in
theorem ggX10_two_X10_refuse : GoodIn wsX10_two wsX10_refuse := goodIn_r _ [28, 29, 30, 31, 141, 142, 143, 144, 145, 146, 147, 148, 149, 150, 151, 152, 153, 154, 155, 156, 157] (by decide +kernel) (by decide +kernel)
set_option maxRecDepth 20000 in
theorem gX10_two_X10_refuse : GoodIn wsX10_two (wsV RX10 97 RX10 yX10_refuse wsX10_refuse) := goodIn_app (goodIn_of _ (by decide +kernel)) ggX10_two_X10_refuse
set_option maxRecDepth 20000 in
theorem ggX10_two_X0_chimes : GoodIn wsX10_two wsX0_chimes := goodIn_r _ [38, 39, 40, 41, 42, 43, 44, 45, 46, 47, 33, 48, 49, 50, 51, 52, 53, 54, 55, 56, 57, 58, 59, 60, 61, 62, 63, 64, 65, 158, 159, 160, 161, 162, 163, 164, 165, 166, 167, 168, 169, 170, 171] (by decide +kernel) (by decide +kernel)
set_option maxRecDepth 20000 in
theorem gX10_two_X0_chimes_u179X0 : GoodIn wsX10_two (va_wsO RX10 179 RX0 "OnlyRhymes$Rhymer" ⟨"OnlyRhymes$Rhymer", "chimes", "(LOnlyRhymes$Tongue;II)I"⟩ yX0_chimes wsX0_chimes) := goodIn_app (goodIn_of _ (by decide +kernel)) ggX10_two_X0_chimes
set_option maxRecDepth 20000 in
theorem ggX10_two_X3_chimes : GoodIn wsX10_two wsX3_chimes := goodIn_r _ [69, 70, 33, 71, 49, 50, 51, 52, 53, 54, 55, 56, 57, 58, 59, 158, 159, 160, 161, 162, 163, 164, 165, 166, 167, 168, 169, 170, 171] (by decide +kernel) (by decide +kernel)
set_option maxRecDepth 20000 in
theorem gX10_two_X3_chimes_u179X3 : GoodIn wsX10_two (va_wsO RX10 179 RX3 "OnlyRhymes$Rhymer" ⟨"OnlyRhymes$Rhymer", "chimes", "(LOnlyRhymes$Tongue;II)I"⟩ yX3_chimes wsX3_chimes) := goodIn_app (goodIn_of _ (by decide +kernel)) ggX10_two_X3_chimes
set_option maxRecDepth 20000 in
theorem ggX10_two_X4_chimes : GoodIn wsX10_two wsX4_chimes := goodIn_r _ [44, 45, 46, 47, 33, 48, 49, 50, 51, 52, 53, 54, 55, 56, 57, 58, 59, 60, 158, 159, 160, 161, 162, 163, 164, 165, 166, 167, 168, 169, 170, 171] (by decide +kernel) (by decide +kernel)
set_option maxRecDepth 20000 in
theorem gX10_two_X4_chimes_u179X4 : GoodIn wsX10_two (va_wsO RX10 179 RX4 "OnlyRhymes$Rhymer" ⟨"OnlyRhymes$Rhymer", "chimes", "(LOnlyRhymes$Tongue;II)I"⟩ yX4_chimes wsX4_chimes) := goodIn_app (goodIn_of _ (by decide +kernel)) ggX10_two_X4_chimes
set_option maxRecDepth 20000 in
theorem ggX10_two_X5_chimes : GoodIn wsX10_two wsX5_chimes := goodIn_r _ [76, 77, 78, 40, 79, 42, 43, 44, 45, 46, 47, 33, 48, 49, 50, 51, 52, 53, 54, 55, 56, 57, 58, 59, 60, 80, 62, 63, 64, 65, 158, 159, 160, 161, 162, 163, 164, 165, 166, 167, 168, 169, 170, 171] (by decide +kernel) (by decide +kernel)
set_option maxRecDepth 20000 in
theorem gX10_two_X5_chimes_u179X5 : GoodIn wsX10_two (va_wsO RX10 179 RX5 "OnlyRhymes$Rhymer" ⟨"OnlyRhymes$Rhymer", "chimes", "(LOnlyRhymes$Tongue;II)I"⟩ yX5_chimes wsX5_chimes) := goodIn_app (goodIn_of _ (by decide +kernel)) ggX10_two_X5_chimes
set_option maxRecDepth 20000 in
theorem ggX10_two_X7_chimes : GoodIn wsX10_two wsX7_chimes := goodIn_r _ [51, 52, 53, 54, 55, 56, 57, 58, 59, 158, 159, 160, 161, 162, 163, 164, 165, 166, 167, 168, 169, 170, 171] (by decide +kernel) (by decide +kernel)
set_option maxRecDepth 20000 in
theorem gX10_two_X7_chimes : GoodIn wsX10_two (wsV RX10 179 RX7 yX7_chimes wsX7_chimes) := goodIn_app (goodIn_of _ (by decide +kernel)) ggX10_two_X7_chimes
set_option maxRecDepth 20000 in
theorem ggX10_two_X8_chimes : GoodIn wsX10_two wsX8_chimes := goodIn_r _ [86, 87, 88, 89, 67, 68, 69, 70, 33, 71, 49, 50, 51, 52, 53, 54, 55, 56, 57, 58, 59, 158, 159, 160, 161, 162, 163, 164, 165, 166, 167, 168, 169, 170, 171] (by decide +kernel) (by decide +kernel)
set_option maxRecDepth 20000 in
theorem gX10_two_X8_chimes_u179X8 : GoodIn wsX10_two (va_wsO RX10 179 RX8 "OnlyRhymes$Rhymer" ⟨"OnlyRhymes$Rhymer", "chimes", "(LOnlyRhymes$Tongue;II)I"⟩ yX8_chimes wsX8_chimes) := goodIn_app (goodIn_of _ (by decide +kernel)) ggX10_two_X8_chimes
set_option maxRecDepth 20000 in
theorem ggX10_two_X2_begin : GoodIn wsX10_two wsX2_begin := goodIn_r _ [94, 95, 96, 97, 98, 99, 100, 101, 172, 173, 174, 175, 176, 177, 178, 179] (by decide +kernel) (by decide +kernel)
set_option maxRecDepth 20000 in
theorem gX10_two_X2_begin : GoodIn wsX10_two (wsV RX10 216 RX2 yX2_begin wsX2_begin) := goodIn_app (goodIn_of _ (by decide +kernel)) ggX10_two_X2_begin
set_option maxRecDepth 20000 in
theorem ggX10_two_X2_firstWins : GoodIn wsX10_two wsX2_firstWins := goodIn_r _ [105, 99, 100, 106, 101, 107, 108, 109, 93, 110, 111, 112, 113, 114, 115, 116, 117, 118, 119, 120, 121, 122, 123, 124, 125, 126, 127, 172, 173, 174, 175, 176, 177, 178, 179] (by decide +kernel) (by decide +kernel)
set_option maxRecDepth 20000 in
theorem gX10_two_X2_firstWins : GoodIn wsX10_two (wsV RX10 220 RX2 yX2_firstWins wsX2_firstWins) := goodIn_app (goodIn_of _ (by decide +kernel)) ggX10_two_X2_firstWins
set_option maxRecDepth 20000 in
theorem ggX10_two_X2_findEnds : GoodIn wsX10_two wsX2_findEnds := goodIn_r _ [131, 99, 106, 100, 101, 132, 133, 134, 135, 136, 93, 137, 138, 139, 97, 140, 95, 96, 98, 107, 108, 109, 110, 111, 112, 113, 114, 115, 116, 117, 118, 119, 120, 121, 122, 123, 172, 173, 174, 175, 176, 177, 178, 179] (by decide +kernel) (by decide +kernel)
set_option maxRecDepth 20000 in
theorem gX10_two_X2_findEnds : GoodIn wsX10_two (wsV RX10 224 RX2 yX2_findEnds wsX2_findEnds) := goodIn_app (goodIn_of _ (by decide +kernel)) ggX10_two_X2_findEnds
theorem dX10_two_0 : decode cX10_two 0 = .ok (.aload_n 0, 1) := by decide +kernel
theorem dX10_two_1 : decode cX10_two 1 = .ok (.iload_n 1, 1) := by decide +kernel
theorem dX10_two_2 : decode cX10_two 2 = .ok (.invokevirtual 136, 3) := by decide +kernel
theorem dX10_two_5 : decode cX10_two 5 = .ok (.ifCond .eq 33, 3) := by decide +kernel
theorem dX10_two_8 : decode cX10_two 8 = .ok (.aload_n 0, 1) := by decide +kernel
theorem dX10_two_9 : decode cX10_two 9 = .ok (.iload_n 2, 1) := by decide +kernel
theorem dX10_two_10 : decode cX10_two 10 = .ok (.invokevirtual 136, 3) := by decide +kernel
theorem dX10_two_13 : decode cX10_two 13 = .ok (.ifCond .eq 25, 3) := by decide +kernel
theorem dX10_two_16 : decode cX10_two 16 = .ok (.iload_n 1, 1) := by decide +kernel
theorem dX10_two_17 : decode cX10_two 17 = .ok (.iload_n 2, 1) := by decide +kernel
theorem dX10_two_18 : decode cX10_two 18 = .ok (.if_icmp .eq 20, 3) := by decide +kernel
theorem dX10_two_21 : decode cX10_two 21 = .ok (.aload_n 0, 1) := by decide +kernel
theorem dX10_two_22 : decode cX10_two 22 = .ok (.iload_n 3, 1) := by decide +kernel
theorem dX10_two_23 : decode cX10_two 23 = .ok (.invokevirtual 140, 3) := by decide +kernel
theorem dX10_two_26 : decode cX10_two 26 = .ok (.ifCond .eq 12, 3) := by decide +kernel
theorem dX10_two_29 : decode cX10_two 29 = .ok (.iload 4, 2) := by decide +kernel
theorem dX10_two_31 : decode cX10_two 31 = .ok (.iconst 3, 1) := by decide +kernel
theorem dX10_two_32 : decode cX10_two 32 = .ok (.invokestatic 93, 3) := by decide +kernel
theorem dX10_two_35 : decode cX10_two 35 = .ok (.ifCond .ne 10, 3) := by decide +kernel
theorem dX10_two_38 : decode cX10_two 38 = .ok (.aload_n 0, 1) := by decide +kernel
theorem dX10_two_39 : decode cX10_two 39 = .ok (.bipush (-2), 2) := by decide +kernel
theorem dX10_two_41 : decode cX10_two 41 = .ok (.invokevirtual 97, 3) := by decide +kernel
theorem dX10_two_44 : decode cX10_two 44 = .ok (.ireturn, 1) := by decide +kernel
theorem dX10_two_45 : decode cX10_two 45 = .ok (.iconst 0, 1) := by decide +kernel
theorem dX10_two_46 : decode cX10_two 46 = .ok (.istore 5, 2) := by decide +kernel
theorem dX10_two_48 : decode cX10_two 48 = .ok (.iload 5, 2) := by decide +kernel
theorem dX10_two_50 : decode cX10_two 50 = .ok (.aload_n 0, 1) := by decide +kernel
theorem dX10_two_51 : decode cX10_two 51 = .ok (.getfield 12, 3) := by decide +kernel
theorem dX10_two_54 : decode cX10_two 54 = .ok (.getfield 86, 3) := by decide +kernel
theorem dX10_two_57 : decode cX10_two 57 = .ok (.if_icmp .ge 93, 3) := by decide +kernel
theorem dX10_two_60 : decode cX10_two 60 = .ok (.aload_n 0, 1) := by decide +kernel
theorem dX10_two_61 : decode cX10_two 61 = .ok (.getfield 39, 3) := by decide +kernel
theorem dX10_two_64 : decode cX10_two 64 = .ok (.getfield 210, 3) := by decide +kernel
theorem dX10_two_67 : decode cX10_two 67 = .ok (.iload 5, 2) := by decide +kernel
theorem dX10_two_69 : decode cX10_two 69 = .ok (.aload_n 0, 1) := by decide +kernel
theorem dX10_two_70 : decode cX10_two 70 = .ok (.getfield 25, 3) := by decide +kernel
theorem dX10_two_73 : decode cX10_two 73 = .ok (.aload_n 0, 1) := by decide +kernel
theorem dX10_two_74 : decode cX10_two 74 = .ok (.getfield 12, 3) := by decide +kernel
theorem dX10_two_77 : decode cX10_two 77 = .ok (.getfield 173, 3) := by decide +kernel
theorem dX10_two_80 : decode cX10_two 80 = .ok (.iload_n 1, 1) := by decide +kernel
theorem dX10_two_81 : decode cX10_two 81 = .ok (.iaload, 1) := by decide +kernel
theorem dX10_two_82 : decode cX10_two 82 = .ok (.aaload, 1) := by decide +kernel
theorem dX10_two_83 : decode cX10_two 83 = .ok (.aload_n 0, 1) := by decide +kernel
theorem dX10_two_84 : decode cX10_two 84 = .ok (.getfield 12, 3) := by decide +kernel
theorem dX10_two_87 : decode cX10_two 87 = .ok (.aload_n 0, 1) := by decide +kernel
theorem dX10_two_88 : decode cX10_two 88 = .ok (.getfield 12, 3) := by decide +kernel
theorem dX10_two_91 : decode cX10_two 91 = .ok (.getfield 176, 3) := by decide +kernel
theorem dX10_two_94 : decode cX10_two 94 = .ok (.iload_n 1, 1) := by decide +kernel
theorem dX10_two_95 : decode cX10_two 95 = .ok (.iaload, 1) := by decide +kernel
theorem dX10_two_96 : decode cX10_two 96 = .ok (.iload 5, 2) := by decide +kernel
theorem dX10_two_98 : decode cX10_two 98 = .ok (.invokevirtual 179, 3) := by decide +kernel
theorem dX10_two_101 : decode cX10_two 101 = .ok (.iastore, 1) := by decide +kernel
theorem dX10_two_102 : decode cX10_two 102 = .ok (.aload_n 0, 1) := by decide +kernel
theorem dX10_two_103 : decode cX10_two 103 = .ok (.getfield 39, 3) := by decide +kernel
theorem dX10_two_106 : decode cX10_two 106 = .ok (.getfield 213, 3) := by decide +kernel
theorem dX10_two_109 : decode cX10_two 109 = .ok (.iload 5, 2) := by decide +kernel
theorem dX10_two_111 : decode cX10_two 111 = .ok (.aload_n 0, 1) := by decide +kernel
theorem dX10_two_112 : decode cX10_two 112 = .ok (.getfield 25, 3) := by decide +kernel
theorem dX10_two_115 : decode cX10_two 115 = .ok (.aload_n 0, 1) := by decide +kernel
theorem dX10_two_116 : decode cX10_two 116 = .ok (.getfield 12, 3) := by decide +kernel
theorem dX10_two_119 : decode cX10_two 119 = .ok (.getfield 173, 3) := by decide +kernel
theorem dX10_two_122 : decode cX10_two 122 = .ok (.iload_n 2, 1) := by decide +kernel
theorem dX10_two_123 : decode cX10_two 123 = .ok (.iaload, 1) := by decide +kernel
theorem dX10_two_124 : decode cX10_two 124 = .ok (.aaload, 1) := by decide +kernel
theorem dX10_two_125 : decode cX10_two 125 = .ok (.aload_n 0, 1) := by decide +kernel
theorem dX10_two_126 : decode cX10_two 126 = .ok (.getfield 12, 3) := by decide +kernel
theorem dX10_two_129 : decode cX10_two 129 = .ok (.aload_n 0, 1) := by decide +kernel
theorem dX10_two_130 : decode cX10_two 130 = .ok (.getfield 12, 3) := by decide +kernel
theorem dX10_two_133 : decode cX10_two 133 = .ok (.getfield 176, 3) := by decide +kernel
theorem dX10_two_136 : decode cX10_two 136 = .ok (.iload_n 2, 1) := by decide +kernel
theorem dX10_two_137 : decode cX10_two 137 = .ok (.iaload, 1) := by decide +kernel
theorem dX10_two_138 : decode cX10_two 138 = .ok (.iload 5, 2) := by decide +kernel
theorem dX10_two_140 : decode cX10_two 140 = .ok (.invokevirtual 179, 3) := by decide +kernel
theorem dX10_two_143 : decode cX10_two 143 = .ok (.iastore, 1) := by decide +kernel
theorem dX10_two_144 : decode cX10_two 144 = .ok (.iinc 5 1, 3) := by decide +kernel
theorem dX10_two_147 : decode cX10_two 147 = .ok (.goto (-99), 3) := by decide +kernel
theorem dX10_two_150 : decode cX10_two 150 = .ok (.aload_n 0, 1) := by decide +kernel
theorem dX10_two_151 : decode cX10_two 151 = .ok (.getfield 39, 3) := by decide +kernel
theorem dX10_two_154 : decode cX10_two 154 = .ok (.aload_n 0, 1) := by decide +kernel
theorem dX10_two_155 : decode cX10_two 155 = .ok (.getfield 12, 3) := by decide +kernel
theorem dX10_two_158 : decode cX10_two 158 = .ok (.getfield 86, 3) := by decide +kernel
theorem dX10_two_161 : decode cX10_two 161 = .ok (.aload_n 0, 1) := by decide +kernel
theorem dX10_two_162 : decode cX10_two 162 = .ok (.getfield 12, 3) := by decide +kernel
theorem dX10_two_165 : decode cX10_two 165 = .ok (.getfield 153, 3) := by decide +kernel
theorem dX10_two_168 : decode cX10_two 168 = .ok (.iload_n 3, 1) := by decide +kernel
theorem dX10_two_169 : decode cX10_two 169 = .ok (.invokevirtual 216, 3) := by decide +kernel
theorem dX10_two_172 : decode cX10_two 172 = .ok (.iload 4, 2) := by decide +kernel
theorem dX10_two_174 : decode cX10_two 174 = .ok (.ifCond .ne 19, 3) := by decide +kernel
theorem dX10_two_177 : decode cX10_two 177 = .ok (.aload_n 0, 1) := by decide +kernel
theorem dX10_two_178 : decode cX10_two 178 = .ok (.getfield 39, 3) := by decide +kernel
theorem dX10_two_181 : decode cX10_two 181 = .ok (.invokevirtual 220, 3) := by decide +kernel
theorem dX10_two_184 : decode cX10_two 184 = .ok (.ifCond .eq 7, 3) := by decide +kernel
theorem dX10_two_187 : decode cX10_two 187 = .ok (.iconst 1, 1) := by decide +kernel
theorem dX10_two_188 : decode cX10_two 188 = .ok (.goto 4, 3) := by decide +kernel
theorem dX10_two_191 : decode cX10_two 191 = .ok (.iconst 0, 1) := by decide +kernel
theorem dX10_two_192 : decode cX10_two 192 = .ok (.ireturn, 1) := by decide +kernel
theorem dX10_two_193 : decode cX10_two 193 = .ok (.aload_n 0, 1) := by decide +kernel
theorem dX10_two_194 : decode cX10_two 194 = .ok (.getfield 39, 3) := by decide +kernel
theorem dX10_two_197 : decode cX10_two 197 = .ok (.invokevirtual 224, 3) := by decide +kernel
theorem dX10_two_200 : decode cX10_two 200 = .ok (.iload 4, 2) := by decide +kernel
