theorem dX10_two_202 : decode cX10_two 202 = .ok (.iconst 1, 1) := by decide +kernel
theorem dX10_two_203 : decode cX10_two 203 = .ok (.if_icmp .ne 13, 3) := by decide +kernel
theorem dX10_two_206 : decode cX10_two 206 = .ok (.aload_n 0, 1) := by decide +kernel
theorem dX10_two_207 : decode cX10_two 207 = .ok (.getfield 39, 3) := by decide +kernel
theorem dX10_two_210 : decode cX10_two 210 = .ok (.getfield 227, 3) := by decide +kernel
theorem dX10_two_213 : decode cX10_two 213 = .ok (.goto 10, 3) := by decide +kernel
theorem dX10_two_216 : decode cX10_two 216 = .ok (.aload_n 0, 1) := by decide +kernel
theorem dX10_two_217 : decode cX10_two 217 = .ok (.getfield 39, 3) := by decide +kernel
theorem dX10_two_220 : decode cX10_two 220 = .ok (.getfield 230, 3) := by decide +kernel
theorem dX10_two_223 : decode cX10_two 223 = .ok (.ireturn, 1) := by decide +kernel
set_option maxRecDepth 20000 in
theorem ggX10_will_X10_fits : GoodIn wsX10_will wsX10_fits := goodIn_r _ [6] (by decide +kernel) (by decide +kernel)
set_option maxRecDepth 20000 in
theorem gX10_will_X10_fits : GoodIn wsX10_will (va_wsS RX10 93 yX10_fits wsX10_fits) := goodIn_app (goodIn_of _ (by decide +kernel)) ggX10_will_X10_fits
set_option maxRecDepth 20000 in
theorem ggX10_will_X10_refuse : GoodIn wsX10_will wsX10_refuse := goodIn_r _ [10, 11, 12, 13, 89, 90, 91, 92, 93, 94, 95, 96, 97, 98, 99, 100, 101, 102, 103, 104, 105] (by decide +kernel) (by decide +kernel)
set_option maxRecDepth 20000 in
theorem gX10_will_X10_refuse : GoodIn wsX10_will (wsV RX10 97 RX10 yX10_refuse wsX10_refuse) := goodIn_app (goodIn_of _ (by decide +kernel)) ggX10_will_X10_refuse
set_option maxRecDepth 20000 in
theorem ggX10_will_X10_fillClashes : GoodIn wsX10_will wsX10_fillClashes := goodIn_r _ [17, 1, 2, 18, 19, 20, 21, 22, 23, 24, 25, 26, 27, 28, 29, 30, 31, 32, 33, 34, 35, 36, 37, 38, 39, 40, 41, 42, 43, 44, 45, 46, 47, 48, 49, 50, 51, 52, 53, 54, 55, 56, 57, 58, 59, 60, 61, 62, 63, 64, 65, 66, 67, 68, 69, 70, 71, 72, 73, 74, 75, 76, 77, 89, 90, 91, 92, 93, 94, 95, 96, 97, 98, 99, 100, 101, 102, 103, 104, 105, 106, 107, 108, 109, 110, 111, 112, 113, 114, 115, 116, 117, 118, 119] (by decide +kernel) (by decide +kernel)
set_option maxRecDepth 20000 in
theorem gX10_will_X10_fillClashes : GoodIn wsX10_will (wsV RX10 233 RX10 yX10_fillClashes wsX10_fillClashes) := goodIn_app (goodIn_of _ (by decide +kernel)) ggX10_will_X10_fillClashes
set_option maxRecDepth 20000 in
theorem ggX10_will_J6_bitCount_0f7a4 : GoodIn wsX10_will wsJ6_bitCount_0f7a4 := goodIn_r _ [81, 82, 83, 84] (by decide +kernel) (by decide +kernel)
set_option maxRecDepth 20000 in
theorem gX10_will_J6_bitCount_0f7a4 : GoodIn wsX10_will (va_wsS RX10 156 yJ6_bitCount_0f7a4 wsJ6_bitCount_0f7a4) := goodIn_app (goodIn_of _ (by decide +kernel)) ggX10_will_J6_bitCount_0f7a4
set_option maxRecDepth 20000 in
theorem ggX10_will_X10_isPeaceful : GoodIn wsX10_will wsX10_isPeaceful := goodIn_r _ [88, 1, 2, 18, 89, 90, 91, 92, 93, 94, 95, 96, 97, 98, 99, 100, 101, 102, 103, 104, 105, 106, 107, 108, 109, 110, 111, 112, 113, 114, 115, 116, 117, 118, 119] (by decide +kernel) (by decide +kernel)
set_option maxRecDepth 20000 in
theorem gX10_will_X10_isPeaceful : GoodIn wsX10_will (wsV RX10 237 RX10 yX10_isPeaceful wsX10_isPeaceful) := goodIn_app (goodIn_of _ (by decide +kernel)) ggX10_will_X10_isPeaceful
theorem dX10_will_0 : decode cX10_will 0 = .ok (.iload_n 1, 1) := by decide +kernel
theorem dX10_will_1 : decode cX10_will 1 = .ok (.bipush 6, 2) := by decide +kernel
theorem dX10_will_3 : decode cX10_will 3 = .ok (.invokestatic 93, 3) := by decide +kernel
theorem dX10_will_6 : decode cX10_will 6 = .ok (.ifCond .eq 12, 3) := by decide +kernel
theorem dX10_will_9 : decode cX10_will 9 = .ok (.iload_n 2, 1) := by decide +kernel
theorem dX10_will_10 : decode cX10_will 10 = .ok (.bipush 8, 2) := by decide +kernel
theorem dX10_will_12 : decode cX10_will 12 = .ok (.invokestatic 93, 3) := by decide +kernel
theorem dX10_will_15 : decode cX10_will 15 = .ok (.ifCond .ne 10, 3) := by decide +kernel
theorem dX10_will_18 : decode cX10_will 18 = .ok (.aload_n 0, 1) := by decide +kernel
theorem dX10_will_19 : decode cX10_will 19 = .ok (.bipush (-2), 2) := by decide +kernel
theorem dX10_will_21 : decode cX10_will 21 = .ok (.invokevirtual 97, 3) := by decide +kernel
theorem dX10_will_24 : decode cX10_will 24 = .ok (.ireturn, 1) := by decide +kernel
theorem dX10_will_25 : decode cX10_will 25 = .ok (.aload_n 0, 1) := by decide +kernel
theorem dX10_will_26 : decode cX10_will 26 = .ok (.iload_n 1, 1) := by decide +kernel
theorem dX10_will_27 : decode cX10_will 27 = .ok (.iload_n 2, 1) := by decide +kernel
theorem dX10_will_28 : decode cX10_will 28 = .ok (.invokevirtual 233, 3) := by decide +kernel
theorem dX10_will_31 : decode cX10_will 31 = .ok (.iconst 0, 1) := by decide +kernel
theorem dX10_will_32 : decode cX10_will 32 = .ok (.istore_n 3, 1) := by decide +kernel
theorem dX10_will_33 : decode cX10_will 33 = .ok (.iconst 1, 1) := by decide +kernel
theorem dX10_will_34 : decode cX10_will 34 = .ok (.aload_n 0, 1) := by decide +kernel
theorem dX10_will_35 : decode cX10_will 35 = .ok (.getfield 12, 3) := by decide +kernel
theorem dX10_will_38 : decode cX10_will 38 = .ok (.getfield 86, 3) := by decide +kernel
theorem dX10_will_41 : decode cX10_will 41 = .ok (.ishl, 1) := by decide +kernel
theorem dX10_will_42 : decode cX10_will 42 = .ok (.istore 4, 2) := by decide +kernel
theorem dX10_will_44 : decode cX10_will 44 = .ok (.iconst 1, 1) := by decide +kernel
theorem dX10_will_45 : decode cX10_will 45 = .ok (.istore 5, 2) := by decide +kernel
theorem dX10_will_47 : decode cX10_will 47 = .ok (.iload 5, 2) := by decide +kernel
theorem dX10_will_49 : decode cX10_will 49 = .ok (.iload 4, 2) := by decide +kernel
theorem dX10_will_51 : decode cX10_will 51 = .ok (.if_icmp .ge 33, 3) := by decide +kernel
theorem dX10_will_54 : decode cX10_will 54 = .ok (.iload 5, 2) := by decide +kernel
theorem dX10_will_56 : decode cX10_will 56 = .ok (.invokestatic 156, 3) := by decide +kernel
theorem dX10_will_59 : decode cX10_will 59 = .ok (.iload_n 3, 1) := by decide +kernel
theorem dX10_will_60 : decode cX10_will 60 = .ok (.invokestatic 156, 3) := by decide +kernel
theorem dX10_will_63 : decode cX10_will 63 = .ok (.if_icmp .le 15, 3) := by decide +kernel
theorem dX10_will_66 : decode cX10_will 66 = .ok (.aload_n 0, 1) := by decide +kernel
theorem dX10_will_67 : decode cX10_will 67 = .ok (.iload 5, 2) := by decide +kernel
theorem dX10_will_69 : decode cX10_will 69 = .ok (.invokevirtual 237, 3) := by decide +kernel
theorem dX10_will_72 : decode cX10_will 72 = .ok (.ifCond .eq 6, 3) := by decide +kernel
theorem dX10_will_75 : decode cX10_will 75 = .ok (.iload 5, 2) := by decide +kernel
theorem dX10_will_77 : decode cX10_will 77 = .ok (.istore_n 3, 1) := by decide +kernel
theorem dX10_will_78 : decode cX10_will 78 = .ok (.iinc 5 1, 3) := by decide +kernel
theorem dX10_will_81 : decode cX10_will 81 = .ok (.goto (-34), 3) := by decide +kernel
theorem dX10_will_84 : decode cX10_will 84 = .ok (.iload_n 3, 1) := by decide +kernel
theorem dX10_will_85 : decode cX10_will 85 = .ok (.ireturn, 1) := by decide +kernel
set_option maxRecDepth 20000 in
theorem ggX10_worst_X10_isPerson : GoodIn wsX10_worst wsX10_isPerson := goodIn_r _ [7, 1, 8, 9, 10, 6, 11, 100, 101, 102, 103, 104, 105, 106, 107, 108, 109, 110, 111, 112, 113, 114, 115, 116, 117, 118, 119, 120, 121, 122, 123, 124, 125, 126, 127, 128, 129, 130] (by decide +kernel) (by decide +kernel)
set_option maxRecDepth 20000 in
theorem gX10_worst_X10_isPerson : GoodIn wsX10_worst (wsV RX10 136 RX10 yX10_isPerson wsX10_isPerson) := goodIn_app (goodIn_of _ (by decide +kernel)) ggX10_worst_X10_isPerson
set_option maxRecDepth 20000 in
theorem ggX10_worst_X10_refuse : GoodIn wsX10_worst wsX10_refuse := goodIn_r _ [15, 16, 17, 18, 100, 101, 102, 103, 104, 105, 106, 107, 108, 109, 110, 111, 112, 113, 114, 115, 116] (by decide +kernel) (by decide +kernel)
set_option maxRecDepth 20000 in
theorem gX10_worst_X10_refuse : GoodIn wsX10_worst (wsV RX10 97 RX10 yX10_refuse wsX10_refuse) := goodIn_app (goodIn_of _ (by decide +kernel)) ggX10_worst_X10_refuse
set_option maxRecDepth 20000 in
theorem ggX10_worst_X10_sayableBits : GoodIn wsX10_worst wsX10_sayableBits := goodIn_r _ [22, 1, 23, 24, 25, 6, 26, 27, 28, 29, 30, 31, 32, 33, 34, 35, 36, 37, 38, 39, 40, 41, 42, 43, 44, 45, 46, 47, 48, 49, 50, 51, 52, 53, 54, 55, 56, 57, 58, 59, 60, 61, 62, 63, 64, 65, 66, 67, 68, 69, 70, 71, 72, 73, 74, 75, 76, 77, 78, 79, 80, 81, 82, 83, 84, 85, 86, 87, 88, 89, 90, 91, 92, 100, 101, 102, 103, 104, 105, 106, 107, 108, 109, 110, 111, 112, 113, 114, 115, 116, 117, 118, 119, 120, 121, 122, 123, 124, 125, 126, 127, 128, 129, 130] (by decide +kernel) (by decide +kernel)
set_option maxRecDepth 20000 in
theorem gX10_worst_X10_sayableBits : GoodIn wsX10_worst (wsV RX10 183 RX10 yX10_sayableBits wsX10_sayableBits) := goodIn_app (goodIn_of _ (by decide +kernel)) ggX10_worst_X10_sayableBits
set_option maxRecDepth 20000 in
theorem ggX10_worst_J6_bitCount_0f7a4 : GoodIn wsX10_worst wsJ6_bitCount_0f7a4 := goodIn_r _ [96, 97, 98, 99] (by decide +kernel) (by decide +kernel)
set_option maxRecDepth 20000 in
theorem gX10_worst_J6_bitCount_0f7a4 : GoodIn wsX10_worst (va_wsS RX10 156 yJ6_bitCount_0f7a4 wsJ6_bitCount_0f7a4) := goodIn_app (goodIn_of _ (by decide +kernel)) ggX10_worst_J6_bitCount_0f7a4
theorem dX10_worst_0 : decode cX10_worst 0 = .ok (.aload_n 0, 1) := by decide +kernel
theorem dX10_worst_1 : decode cX10_worst 1 = .ok (.iload_n 1, 1) := by decide +kernel
theorem dX10_worst_2 : decode cX10_worst 2 = .ok (.invokevirtual 136, 3) := by decide +kernel
theorem dX10_worst_5 : decode cX10_worst 5 = .ok (.ifCond .ne 10, 3) := by decide +kernel
theorem dX10_worst_8 : decode cX10_worst 8 = .ok (.aload_n 0, 1) := by decide +kernel
theorem dX10_worst_9 : decode cX10_worst 9 = .ok (.bipush (-2), 2) := by decide +kernel
theorem dX10_worst_11 : decode cX10_worst 11 = .ok (.invokevirtual 97, 3) := by decide +kernel
theorem dX10_worst_14 : decode cX10_worst 14 = .ok (.ireturn, 1) := by decide +kernel
theorem dX10_worst_15 : decode cX10_worst 15 = .ok (.iconst (-1), 1) := by decide +kernel
theorem dX10_worst_16 : decode cX10_worst 16 = .ok (.istore_n 2, 1) := by decide +kernel
theorem dX10_worst_17 : decode cX10_worst 17 = .ok (.bipush 9, 2) := by decide +kernel
theorem dX10_worst_19 : decode cX10_worst 19 = .ok (.istore_n 3, 1) := by decide +kernel
theorem dX10_worst_20 : decode cX10_worst 20 = .ok (.iconst 0, 1) := by decide +kernel
theorem dX10_worst_21 : decode cX10_worst 21 = .ok (.istore 4, 2) := by decide +kernel
theorem dX10_worst_23 : decode cX10_worst 23 = .ok (.iload 4, 2) := by decide +kernel
theorem dX10_worst_25 : decode cX10_worst 25 = .ok (.aload_n 0, 1) := by decide +kernel
theorem dX10_worst_26 : decode cX10_worst 26 = .ok (.getfield 12, 3) := by decide +kernel
theorem dX10_worst_29 : decode cX10_worst 29 = .ok (.getfield 86, 3) := by decide +kernel
theorem dX10_worst_32 : decode cX10_worst 32 = .ok (.if_icmp .ge 33, 3) := by decide +kernel
theorem dX10_worst_35 : decode cX10_worst 35 = .ok (.aload_n 0, 1) := by decide +kernel
theorem dX10_worst_36 : decode cX10_worst 36 = .ok (.iload_n 1, 1) := by decide +kernel
theorem dX10_worst_37 : decode cX10_worst 37 = .ok (.iload 4, 2) := by decide +kernel
theorem dX10_worst_39 : decode cX10_worst 39 = .ok (.invokevirtual 183, 3) := by decide +kernel
theorem dX10_worst_42 : decode cX10_worst 42 = .ok (.invokestatic 156, 3) := by decide +kernel
theorem dX10_worst_45 : decode cX10_worst 45 = .ok (.istore 5, 2) := by decide +kernel
theorem dX10_worst_47 : decode cX10_worst 47 = .ok (.iload 5, 2) := by decide +kernel
theorem dX10_worst_49 : decode cX10_worst 49 = .ok (.iload_n 3, 1) := by decide +kernel
theorem dX10_worst_50 : decode cX10_worst 50 = .ok (.if_icmp .ge 9, 3) := by decide +kernel
theorem dX10_worst_53 : decode cX10_worst 53 = .ok (.iload 4, 2) := by decide +kernel
theorem dX10_worst_55 : decode cX10_worst 55 = .ok (.istore_n 2, 1) := by decide +kernel
theorem dX10_worst_56 : decode cX10_worst 56 = .ok (.iload 5, 2) := by decide +kernel
theorem dX10_worst_58 : decode cX10_worst 58 = .ok (.istore_n 3, 1) := by decide +kernel
theorem dX10_worst_59 : decode cX10_worst 59 = .ok (.iinc 4 1, 3) := by decide +kernel
theorem dX10_worst_62 : decode cX10_worst 62 = .ok (.goto (-39), 3) := by decide +kernel
theorem dX10_worst_65 : decode cX10_worst 65 = .ok (.iload_n 2, 1) := by decide +kernel
theorem dX10_worst_66 : decode cX10_worst 66 = .ok (.ireturn, 1) := by decide +kernel
set_option maxRecDepth 20000 in
theorem ggX10_allow_X10_isPerson : GoodIn wsX10_allow wsX10_isPerson := goodIn_r _ [7, 1, 8, 9, 10, 6, 11, 128, 129, 130, 131, 132, 133, 134, 135, 136, 137, 138, 139, 140, 141, 142, 143, 144, 145, 146, 147, 148, 149, 150, 151, 152, 153, 154, 155, 156, 157, 158] (by decide +kernel) (by decide +kernel)
set_option maxRecDepth 20000 in
theorem gX10_allow_X10_isPerson : GoodIn wsX10_allow (wsV RX10 136 RX10 yX10_isPerson wsX10_isPerson) := goodIn_app (goodIn_of _ (by decide +kernel)) ggX10_allow_X10_isPerson
set_option maxRecDepth 20000 in
theorem ggX10_allow_X10_fits : GoodIn wsX10_allow wsX10_fits := goodIn_r _ [11] (by decide +kernel) (by decide +kernel)
set_option maxRecDepth 20000 in
theorem gX10_allow_X10_fits : GoodIn wsX10_allow (va_wsS RX10 93 yX10_fits wsX10_fits) := goodIn_app (goodIn_of _ (by decide +kernel)) ggX10_allow_X10_fits
set_option maxRecDepth 20000 in
theorem ggX10_allow_X10_refuse : GoodIn wsX10_allow wsX10_refuse := goodIn_r _ [15, 16, 17, 18, 128, 129, 130, 131, 132, 133, 134, 135, 136, 137, 138, 139, 140, 141, 142, 143, 144] (by decide +kernel) (by decide +kernel)
set_option maxRecDepth 20000 in
theorem gX10_allow_X10_refuse : GoodIn wsX10_allow (wsV RX10 97 RX10 yX10_refuse wsX10_refuse) := goodIn_app (goodIn_of _ (by decide +kernel)) ggX10_allow_X10_refuse
set_option maxRecDepth 20000 in
theorem ggX10_allow_X10_fillSayableByPair : GoodIn wsX10_allow wsX10_fillSayableByPair := goodIn_r _ [22, 23, 1, 24, 25, 26, 27, 28, 29, 30, 31, 32, 33, 34, 35, 36, 37, 38, 39, 40, 41, 42, 43, 44, 45, 46, 47, 48, 49, 50, 51, 52, 53, 54, 55, 56, 57, 58, 59, 6, 60, 61, 62, 63, 64, 65, 66, 67, 68, 69, 70, 71, 72, 73, 74, 75, 76, 77, 78, 79, 80, 81, 82, 83, 84, 85, 86, 87, 88, 89, 90, 91, 92, 93, 94, 95, 96, 97, 98, 99, 100, 101, 102, 103, 104, 105, 106, 107, 108, 109, 110, 111, 112, 113, 114, 115, 116, 117, 118, 119, 120, 121, 122, 123, 128, 129, 130, 131, 132, 133, 134, 135, 136, 137, 138, 139, 140, 141, 142, 143, 144, 145, 146, 147, 148, 149, 150, 151, 152, 153, 154, 155, 156, 157, 158] (by decide +kernel) (by decide +kernel)
set_option maxRecDepth 20000 in
theorem gX10_allow_X10_fillSayableByPair : GoodIn wsX10_allow (wsV RX10 240 RX10 yX10_fillSayableByPair wsX10_fillSayableByPair) := goodIn_app (goodIn_of _ (by decide +kernel)) ggX10_allow_X10_fillSayableByPair
set_option maxRecDepth 20000 in
theorem ggX10_allow_X10_sayableByAnyWord : GoodIn wsX10_allow wsX10_sayableByAnyWord := goodIn_r _ [60, 61, 62, 63, 64, 65, 66, 67, 68, 69, 70, 71, 72, 73, 74, 75, 76, 77, 78, 79, 80, 81, 82, 83, 84, 85, 86, 87, 88, 89, 29, 90, 38, 31, 91, 92, 93, 94, 95, 36, 96, 97, 98, 99, 100, 101, 102, 103, 104, 105, 106, 107, 108, 109, 110, 111, 112, 113, 114, 115, 116, 117, 118, 119, 120, 121, 122, 123, 128, 129, 130, 131, 132, 133, 134, 135, 136, 137, 138, 139, 140, 141, 142, 143, 144, 145, 146, 147, 148, 149, 150, 151, 152, 153, 154, 155, 156, 157, 158] (by decide +kernel) (by decide +kernel)
set_option maxRecDepth 20000 in
theorem gX10_allow_X10_sayableByAnyWord : GoodIn wsX10_allow (wsV RX10 243 RX10 yX10_sayableByAnyWord wsX10_sayableByAnyWord) := goodIn_app (goodIn_of _ (by decide +kernel)) ggX10_allow_X10_sayableByAnyWord
set_option maxRecDepth 20000 in
theorem ggX10_allow_X10_choosePairs : GoodIn wsX10_allow wsX10_choosePairs := goodIn_r _ [127, 24, 25, 2, 128, 129, 130, 131, 132, 133, 134, 135, 136, 137, 138, 139, 140, 141, 142, 143, 144] (by decide +kernel) (by decide +kernel)
set_option maxRecDepth 20000 in
theorem gX10_allow_X10_choosePairs : GoodIn wsX10_allow (wsV RX10 247 RX10 yX10_choosePairs wsX10_choosePairs) := goodIn_app (goodIn_of _ (by decide +kernel)) ggX10_allow_X10_choosePairs
theorem dX10_allow_0 : decode cX10_allow 0 = .ok (.aload_n 0, 1) := by decide +kernel
theorem dX10_allow_1 : decode cX10_allow 1 = .ok (.iload_n 1, 1) := by decide +kernel
theorem dX10_allow_2 : decode cX10_allow 2 = .ok (.invokevirtual 136, 3) := by decide +kernel
theorem dX10_allow_5 : decode cX10_allow 5 = .ok (.ifCond .eq 18, 3) := by decide +kernel
theorem dX10_allow_8 : decode cX10_allow 8 = .ok (.iload_n 2, 1) := by decide +kernel
theorem dX10_allow_9 : decode cX10_allow 9 = .ok (.sipush 256, 3) := by decide +kernel
theorem dX10_allow_12 : decode cX10_allow 12 = .ok (.invokestatic 93, 3) := by decide +kernel
theorem dX10_allow_15 : decode cX10_allow 15 = .ok (.ifCond .eq 8, 3) := by decide +kernel
theorem dX10_allow_18 : decode cX10_allow 18 = .ok (.iload_n 3, 1) := by decide +kernel
theorem dX10_allow_19 : decode cX10_allow 19 = .ok (.iconst (-1), 1) := by decide +kernel
theorem dX10_allow_20 : decode cX10_allow 20 = .ok (.if_icmp .ge 13, 3) := by decide +kernel
theorem dX10_allow_23 : decode cX10_allow 23 = .ok (.aload_n 0, 1) := by decide +kernel
theorem dX10_allow_24 : decode cX10_allow 24 = .ok (.bipush (-2), 2) := by decide +kernel
theorem dX10_allow_26 : decode cX10_allow 26 = .ok (.invokevirtual 97, 3) := by decide +kernel
theorem dX10_allow_29 : decode cX10_allow 29 = .ok (.pop, 1) := by decide +kernel
theorem dX10_allow_30 : decode cX10_allow 30 = .ok (.bipush (-10), 2) := by decide +kernel
theorem dX10_allow_32 : decode cX10_allow 32 = .ok (.ireturn, 1) := by decide +kernel
theorem dX10_allow_33 : decode cX10_allow 33 = .ok (.aload_n 0, 1) := by decide +kernel
theorem dX10_allow_34 : decode cX10_allow 34 = .ok (.iload_n 1, 1) := by decide +kernel
theorem dX10_allow_35 : decode cX10_allow 35 = .ok (.invokevirtual 240, 3) := by decide +kernel
theorem dX10_allow_38 : decode cX10_allow 38 = .ok (.aload_n 0, 1) := by decide +kernel
theorem dX10_allow_39 : decode cX10_allow 39 = .ok (.aload_n 0, 1) := by decide +kernel
theorem dX10_allow_40 : decode cX10_allow 40 = .ok (.aload_n 0, 1) := by decide +kernel
theorem dX10_allow_41 : decode cX10_allow 41 = .ok (.getfield 12, 3) := by decide +kernel
theorem dX10_allow_44 : decode cX10_allow 44 = .ok (.iload_n 1, 1) := by decide +kernel
theorem dX10_allow_45 : decode cX10_allow 45 = .ok (.invokevirtual 243, 3) := by decide +kernel
theorem dX10_allow_48 : decode cX10_allow 48 = .ok (.iload_n 2, 1) := by decide +kernel
theorem dX10_allow_49 : decode cX10_allow 49 = .ok (.invokevirtual 247, 3) := by decide +kernel
theorem dX10_allow_52 : decode cX10_allow 52 = .ok (.istore 4, 2) := by decide +kernel
theorem dX10_allow_54 : decode cX10_allow 54 = .ok (.iload 4, 2) := by decide +kernel
theorem dX10_allow_56 : decode cX10_allow 56 = .ok (.iconst (-1), 1) := by decide +kernel
theorem dX10_allow_57 : decode cX10_allow 57 = .ok (.if_icmp .eq 8, 3) := by decide +kernel
theorem dX10_allow_60 : decode cX10_allow 60 = .ok (.iload_n 3, 1) := by decide +kernel
theorem dX10_allow_61 : decode cX10_allow 61 = .ok (.iconst (-1), 1) := by decide +kernel
theorem dX10_allow_62 : decode cX10_allow 62 = .ok (.if_icmp .ne 6, 3) := by decide +kernel
theorem dX10_allow_65 : decode cX10_allow 65 = .ok (.iload 4, 2) := by decide +kernel
theorem dX10_allow_67 : decode cX10_allow 67 = .ok (.ireturn, 1) := by decide +kernel
theorem dX10_allow_68 : decode cX10_allow 68 = .ok (.iload_n 3, 1) := by decide +kernel
theorem dX10_allow_69 : decode cX10_allow 69 = .ok (.iload 4, 2) := by decide +kernel
theorem dX10_allow_71 : decode cX10_allow 71 = .ok (.if_icmp .ge 12, 3) := by decide +kernel
theorem dX10_allow_74 : decode cX10_allow 74 = .ok (.aload_n 0, 1) := by decide +kernel
theorem dX10_allow_75 : decode cX10_allow 75 = .ok (.getfield 67, 3) := by decide +kernel
theorem dX10_allow_78 : decode cX10_allow 78 = .ok (.iload_n 3, 1) := by decide +kernel
theorem dX10_allow_79 : decode cX10_allow 79 = .ok (.iaload, 1) := by decide +kernel
theorem dX10_allow_80 : decode cX10_allow 80 = .ok (.goto 5, 3) := by decide +kernel
theorem dX10_allow_83 : decode cX10_allow 83 = .ok (.bipush (-5), 2) := by decide +kernel
theorem dX10_allow_85 : decode cX10_allow 85 = .ok (.ireturn, 1) := by decide +kernel
set_option maxRecDepth 20000 in
theorem ggX10_misheard_X10_isPerson : GoodIn wsX10_misheard wsX10_isPerson := goodIn_r _ [7, 1, 8, 9, 10, 6, 11, 104, 105, 106, 107, 108, 109, 110, 111, 112, 113, 114, 115, 116, 117, 118, 119, 120, 121, 122, 123, 124, 125, 126, 127, 128, 129, 130, 131, 132, 133, 134] (by decide +kernel) (by decide +kernel)
set_option maxRecDepth 20000 in
theorem gX10_misheard_X10_isPerson : GoodIn wsX10_misheard (wsV RX10 136 RX10 yX10_isPerson wsX10_isPerson) := goodIn_app (goodIn_of _ (by decide +kernel)) ggX10_misheard_X10_isPerson
set_option maxRecDepth 20000 in
theorem ggX10_misheard_X10_isWord : GoodIn wsX10_misheard wsX10_isWord := goodIn_r _ [15, 1, 2, 9, 10, 6, 11, 104, 105, 106, 107, 108, 109, 110, 111, 112, 113, 114, 115, 116, 117, 118, 119, 120, 121, 122, 123, 124, 125, 126, 127, 128, 129, 130, 131, 132, 133, 134] (by decide +kernel) (by decide +kernel)
set_option maxRecDepth 20000 in
theorem gX10_misheard_X10_isWord : GoodIn wsX10_misheard (wsV RX10 140 RX10 yX10_isWord wsX10_isWord) := goodIn_app (goodIn_of _ (by decide +kernel)) ggX10_misheard_X10_isWord
set_option maxRecDepth 20000 in
theorem ggX10_misheard_X10_fits : GoodIn wsX10_misheard wsX10_fits := goodIn_r _ [11] (by decide +kernel) (by decide +kernel)
set_option maxRecDepth 20000 in
theorem gX10_misheard_X10_fits : GoodIn wsX10_misheard (va_wsS RX10 93 yX10_fits wsX10_fits) := goodIn_app (goodIn_of _ (by decide +kernel)) ggX10_misheard_X10_fits
set_option maxRecDepth 20000 in
theorem ggX10_misheard_X10_refuse : GoodIn wsX10_misheard wsX10_refuse := goodIn_r _ [19, 20, 21, 22, 104, 105, 106, 107, 108, 109, 110, 111, 112, 113, 114, 115, 116, 117, 118, 119, 120] (by decide +kernel) (by decide +kernel)
set_option maxRecDepth 20000 in
theorem gX10_misheard_X10_refuse : GoodIn wsX10_misheard (wsV RX10 97 RX10 yX10_refuse wsX10_refuse) := goodIn_app (goodIn_of _ (by decide +kernel)) ggX10_misheard_X10_refuse
set_option maxRecDepth 20000 in
theorem ggX10_misheard_X10_sayableBits : GoodIn wsX10_misheard wsX10_sayableBits := goodIn_r _ [26, 1, 27, 28, 29, 6, 30, 31, 32, 33, 34, 35, 36, 37, 38, 39, 40, 41, 42, 43, 44, 45, 46, 47, 48, 49, 50, 51, 52, 53, 54, 55, 56, 57, 58, 59, 60, 61, 62, 63, 64, 65, 66, 67, 68, 69, 70, 71, 72, 73, 74, 75, 76, 77, 78, 79, 80, 81, 82, 83, 84, 85, 86, 87, 88, 89, 90, 91, 92, 93, 94, 95, 96, 104, 105, 106, 107, 108, 109, 110, 111, 112, 113, 114, 115, 116, 117, 118, 119, 120, 121, 122, 123, 124, 125, 126, 127, 128, 129, 130, 131, 132, 133, 134] (by decide +kernel) (by decide +kernel)
set_option maxRecDepth 20000 in
theorem gX10_misheard_X10_sayableBits : GoodIn wsX10_misheard (wsV RX10 183 RX10 yX10_sayableBits wsX10_sayableBits) := goodIn_app (goodIn_of _ (by decide +kernel)) ggX10_misheard_X10_sayableBits
set_option maxRecDepth 20000 in
theorem ggX10_misheard_X10_setFraction : GoodIn wsX10_misheard wsX10_setFraction := goodIn_r _ [100, 101, 102, 103, 104, 105, 106, 107, 108, 109, 110, 111, 112, 113, 114, 115, 116, 117, 118, 119, 120] (by decide +kernel) (by decide +kernel)
set_option maxRecDepth 20000 in
theorem gX10_misheard_X10_setFraction : GoodIn wsX10_misheard (wsV RX10 250 RX10 yX10_setFraction wsX10_setFraction) := goodIn_app (goodIn_of _ (by decide +kernel)) ggX10_misheard_X10_setFraction
theorem dX10_misheard_0 : decode cX10_misheard 0 = .ok (.aload_n 0, 1) := by decide +kernel
theorem dX10_misheard_1 : decode cX10_misheard 1 = .ok (.iload_n 1, 1) := by decide +kernel
theorem dX10_misheard_2 : decode cX10_misheard 2 = .ok (.invokevirtual 136, 3) := by decide +kernel
theorem dX10_misheard_5 : decode cX10_misheard 5 = .ok (.ifCond .eq 30, 3) := by decide +kernel
theorem dX10_misheard_8 : decode cX10_misheard 8 = .ok (.aload_n 0, 1) := by decide +kernel
theorem dX10_misheard_9 : decode cX10_misheard 9 = .ok (.iload_n 2, 1) := by decide +kernel
theorem dX10_misheard_10 : decode cX10_misheard 10 = .ok (.invokevirtual 140, 3) := by decide +kernel
theorem dX10_misheard_13 : decode cX10_misheard 13 = .ok (.ifCond .eq 22, 3) := by decide +kernel
theorem dX10_misheard_16 : decode cX10_misheard 16 = .ok (.iload_n 3, 1) := by decide +kernel
theorem dX10_misheard_17 : decode cX10_misheard 17 = .ok (.bipush 8, 2) := by decide +kernel
theorem dX10_misheard_19 : decode cX10_misheard 19 = .ok (.invokestatic 93, 3) := by decide +kernel
theorem dX10_misheard_22 : decode cX10_misheard 22 = .ok (.ifCond .eq 13, 3) := by decide +kernel
theorem dX10_misheard_25 : decode cX10_misheard 25 = .ok (.iload 4, 2) := by decide +kernel
theorem dX10_misheard_27 : decode cX10_misheard 27 = .ok (.bipush 11, 2) := by decide +kernel
theorem dX10_misheard_29 : decode cX10_misheard 29 = .ok (.invokestatic 93, 3) := by decide +kernel
theorem dX10_misheard_32 : decode cX10_misheard 32 = .ok (.ifCond .ne 10, 3) := by decide +kernel
theorem dX10_misheard_35 : decode cX10_misheard 35 = .ok (.aload_n 0, 1) := by decide +kernel
theorem dX10_misheard_36 : decode cX10_misheard 36 = .ok (.bipush (-2), 2) := by decide +kernel
theorem dX10_misheard_38 : decode cX10_misheard 38 = .ok (.invokevirtual 97, 3) := by decide +kernel
theorem dX10_misheard_41 : decode cX10_misheard 41 = .ok (.ireturn, 1) := by decide +kernel
theorem dX10_misheard_42 : decode cX10_misheard 42 = .ok (.iload_n 2, 1) := by decide +kernel
theorem dX10_misheard_43 : decode cX10_misheard 43 = .ok (.iconst 1, 1) := by decide +kernel
theorem dX10_misheard_44 : decode cX10_misheard 44 = .ok (.iadd, 1) := by decide +kernel
theorem dX10_misheard_45 : decode cX10_misheard 45 = .ok (.aload_n 0, 1) := by decide +kernel
theorem dX10_misheard_46 : decode cX10_misheard 46 = .ok (.getfield 12, 3) := by decide +kernel
theorem dX10_misheard_49 : decode cX10_misheard 49 = .ok (.getfield 86, 3) := by decide +kernel
theorem dX10_misheard_52 : decode cX10_misheard 52 = .ok (.if_icmp .ge 9, 3) := by decide +kernel
theorem dX10_misheard_55 : decode cX10_misheard 55 = .ok (.iload_n 2, 1) := by decide +kernel
theorem dX10_misheard_56 : decode cX10_misheard 56 = .ok (.iconst 1, 1) := by decide +kernel
theorem dX10_misheard_57 : decode cX10_misheard 57 = .ok (.iadd, 1) := by decide +kernel
theorem dX10_misheard_58 : decode cX10_misheard 58 = .ok (.goto 4, 3) := by decide +kernel
theorem dX10_misheard_61 : decode cX10_misheard 61 = .ok (.iconst 0, 1) := by decide +kernel
theorem dX10_misheard_62 : decode cX10_misheard 62 = .ok (.istore 5, 2) := by decide +kernel
theorem dX10_misheard_64 : decode cX10_misheard 64 = .ok (.aload_n 0, 1) := by decide +kernel
theorem dX10_misheard_65 : decode cX10_misheard 65 = .ok (.iload_n 1, 1) := by decide +kernel
theorem dX10_misheard_66 : decode cX10_misheard 66 = .ok (.iload_n 2, 1) := by decide +kernel
theorem dX10_misheard_67 : decode cX10_misheard 67 = .ok (.invokevirtual 183, 3) := by decide +kernel
theorem dX10_misheard_70 : decode cX10_misheard 70 = .ok (.iload_n 3, 1) := by decide +kernel
theorem dX10_misheard_71 : decode cX10_misheard 71 = .ok (.ishr, 1) := by decide +kernel
theorem dX10_misheard_72 : decode cX10_misheard 72 = .ok (.iconst 1, 1) := by decide +kernel
theorem dX10_misheard_73 : decode cX10_misheard 73 = .ok (.iand, 1) := by decide +kernel
theorem dX10_misheard_74 : decode cX10_misheard 74 = .ok (.istore 6, 2) := by decide +kernel
theorem dX10_misheard_76 : decode cX10_misheard 76 = .ok (.aload_n 0, 1) := by decide +kernel
theorem dX10_misheard_77 : decode cX10_misheard 77 = .ok (.iload_n 1, 1) := by decide +kernel
theorem dX10_misheard_78 : decode cX10_misheard 78 = .ok (.iload 5, 2) := by decide +kernel
theorem dX10_misheard_80 : decode cX10_misheard 80 = .ok (.invokevirtual 183, 3) := by decide +kernel
theorem dX10_misheard_83 : decode cX10_misheard 83 = .ok (.iload_n 3, 1) := by decide +kernel
theorem dX10_misheard_84 : decode cX10_misheard 84 = .ok (.ishr, 1) := by decide +kernel
theorem dX10_misheard_85 : decode cX10_misheard 85 = .ok (.iconst 1, 1) := by decide +kernel
theorem dX10_misheard_86 : decode cX10_misheard 86 = .ok (.iand, 1) := by decide +kernel
theorem dX10_misheard_87 : decode cX10_misheard 87 = .ok (.istore 7, 2) := by decide +kernel
theorem dX10_misheard_89 : decode cX10_misheard 89 = .ok (.aload_n 0, 1) := by decide +kernel
theorem dX10_misheard_90 : decode cX10_misheard 90 = .ok (.bipush 10, 2) := by decide +kernel
theorem dX10_misheard_92 : decode cX10_misheard 92 = .ok (.iload 4, 2) := by decide +kernel
theorem dX10_misheard_94 : decode cX10_misheard 94 = .ok (.isub, 1) := by decide +kernel
theorem dX10_misheard_95 : decode cX10_misheard 95 = .ok (.iload 6, 2) := by decide +kernel
theorem dX10_misheard_97 : decode cX10_misheard 97 = .ok (.imul, 1) := by decide +kernel
theorem dX10_misheard_98 : decode cX10_misheard 98 = .ok (.iload 4, 2) := by decide +kernel
theorem dX10_misheard_100 : decode cX10_misheard 100 = .ok (.iload 7, 2) := by decide +kernel
theorem dX10_misheard_102 : decode cX10_misheard 102 = .ok (.imul, 1) := by decide +kernel
theorem dX10_misheard_103 : decode cX10_misheard 103 = .ok (.iadd, 1) := by decide +kernel
theorem dX10_misheard_104 : decode cX10_misheard 104 = .ok (.invokevirtual 250, 3) := by decide +kernel
theorem dX10_misheard_107 : decode cX10_misheard 107 = .ok (.iconst 1, 1) := by decide +kernel
theorem dX10_misheard_108 : decode cX10_misheard 108 = .ok (.ireturn, 1) := by decide +kernel
set_option maxRecDepth 20000 in
theorem ggX10_talks_X10_fits : GoodIn wsX10_talks wsX10_fits := goodIn_r _ [16] (by decide +kernel) (by decide +kernel)
set_option maxRecDepth 20000 in
theorem gX10_talks_X10_fits : GoodIn wsX10_talks (va_wsS RX10 93 yX10_fits wsX10_fits) := goodIn_app (goodIn_of _ (by decide +kernel)) ggX10_talks_X10_fits
set_option maxRecDepth 20000 in
theorem ggX10_talks_X10_refuse : GoodIn wsX10_talks wsX10_refuse := goodIn_r _ [20, 21, 22, 23, 86, 87, 88, 89, 90, 91, 92, 93, 94, 95, 96, 97, 98, 99, 100, 101, 102] (by decide +kernel) (by decide +kernel)
set_option maxRecDepth 20000 in
theorem gX10_talks_X10_refuse : GoodIn wsX10_talks (wsV RX10 97 RX10 yX10_refuse wsX10_refuse) := goodIn_app (goodIn_of _ (by decide +kernel)) ggX10_talks_X10_refuse
set_option maxRecDepth 20000 in
theorem ggX10_talks_X0_chimes : GoodIn wsX10_talks wsX0_chimes := goodIn_r _ [30, 31, 32, 33, 34, 35, 36, 37, 38, 39, 25, 40, 41, 42, 43, 44, 45, 46, 47, 48, 49, 50, 51, 52, 53, 54, 55, 56, 57, 103, 104, 105, 106, 107, 108, 109, 110, 111, 112, 113, 114, 115, 116] (by decide +kernel) (by decide +kernel)
set_option maxRecDepth 20000 in
theorem gX10_talks_X0_chimes_u179X0 : GoodIn wsX10_talks (va_wsO RX10 179 RX0 "OnlyRhymes$Rhymer" ⟨"OnlyRhymes$Rhymer", "chimes", "(LOnlyRhymes$Tongue;II)I"⟩ yX0_chimes wsX0_chimes) := goodIn_app (goodIn_of _ (by decide +kernel)) ggX10_talks_X0_chimes
set_option maxRecDepth 20000 in
theorem ggX10_talks_X3_chimes : GoodIn wsX10_talks wsX3_chimes := goodIn_r _ [61, 62, 25, 63, 41, 42, 43, 44, 45, 46, 47, 48, 49, 50, 51, 103, 104, 105, 106, 107, 108, 109, 110, 111, 112, 113, 114, 115, 116] (by decide +kernel) (by decide +kernel)
set_option maxRecDepth 20000 in
theorem gX10_talks_X3_chimes_u179X3 : GoodIn wsX10_talks (va_wsO RX10 179 RX3 "OnlyRhymes$Rhymer" ⟨"OnlyRhymes$Rhymer", "chimes", "(LOnlyRhymes$Tongue;II)I"⟩ yX3_chimes wsX3_chimes) := goodIn_app (goodIn_of _ (by decide +kernel)) ggX10_talks_X3_chimes
set_option maxRecDepth 20000 in
theorem ggX10_talks_X4_chimes : GoodIn wsX10_talks wsX4_chimes := goodIn_r _ [36, 37, 38, 39, 25, 40, 41, 42, 43, 44, 45, 46, 47, 48, 49, 50, 51, 52, 103, 104, 105, 106, 107, 108, 109, 110, 111, 112, 113, 114, 115, 116] (by decide +kernel) (by decide +kernel)
set_option maxRecDepth 20000 in
theorem gX10_talks_X4_chimes_u179X4 : GoodIn wsX10_talks (va_wsO RX10 179 RX4 "OnlyRhymes$Rhymer" ⟨"OnlyRhymes$Rhymer", "chimes", "(LOnlyRhymes$Tongue;II)I"⟩ yX4_chimes wsX4_chimes) := goodIn_app (goodIn_of _ (by decide +kernel)) ggX10_talks_X4_chimes
set_option maxRecDepth 20000 in
theorem ggX10_talks_X5_chimes : GoodIn wsX10_talks wsX5_chimes := goodIn_r _ [68, 69, 70, 32, 71, 34, 35, 36, 37, 38, 39, 25, 40, 41, 42, 43, 44, 45, 46, 47, 48, 49, 50, 51, 52, 72, 54, 55, 56, 57, 103, 104, 105, 106, 107, 108, 109, 110, 111, 112, 113, 114, 115, 116] (by decide +kernel) (by decide +kernel)
set_option maxRecDepth 20000 in
theorem gX10_talks_X5_chimes_u179X5 : GoodIn wsX10_talks (va_wsO RX10 179 RX5 "OnlyRhymes$Rhymer" ⟨"OnlyRhymes$Rhymer", "chimes", "(LOnlyRhymes$Tongue;II)I"⟩ yX5_chimes wsX5_chimes) := goodIn_app (goodIn_of _ (by decide +kernel)) ggX10_talks_X5_chimes
set_option maxRecDepth 20000 in
theorem ggX10_talks_X7_chimes : GoodIn wsX10_talks wsX7_chimes := goodIn_r _ [43, 44, 45, 46, 47, 48, 49, 50, 51, 103, 104, 105, 106, 107, 108, 109, 110, 111, 112, 113, 114, 115, 116] (by decide +kernel) (by decide +kernel)
set_option maxRecDepth 20000 in
theorem gX10_talks_X7_chimes : GoodIn wsX10_talks (wsV RX10 179 RX7 yX7_chimes wsX7_chimes) := goodIn_app (goodIn_of _ (by decide +kernel)) ggX10_talks_X7_chimes
set_option maxRecDepth 20000 in
theorem ggX10_talks_X8_chimes : GoodIn wsX10_talks wsX8_chimes := goodIn_r _ [78, 79, 80, 81, 59, 60, 61, 62, 25, 63, 41, 42, 43, 44, 45, 46, 47, 48, 49, 50, 51, 103, 104, 105, 106, 107, 108, 109, 110, 111, 112, 113, 114, 115, 116] (by decide +kernel) (by decide +kernel)
set_option maxRecDepth 20000 in
theorem gX10_talks_X8_chimes_u179X8 : GoodIn wsX10_talks (va_wsO RX10 179 RX8 "OnlyRhymes$Rhymer" ⟨"OnlyRhymes$Rhymer", "chimes", "(LOnlyRhymes$Tongue;II)I"⟩ yX8_chimes wsX8_chimes) := goodIn_app (goodIn_of _ (by decide +kernel)) ggX10_talks_X8_chimes
set_option maxRecDepth 20000 in
theorem ggX10_talks_X9_firstOf : GoodIn wsX10_talks wsX9_firstOf := goodIn_r _ [85, 50, 57, 103, 104, 105, 106, 107, 108, 109, 110, 111, 112, 113, 114, 115, 116] (by decide +kernel) (by decide +kernel)
set_option maxRecDepth 20000 in
theorem gX10_talks_X9_firstOf : GoodIn wsX10_talks (wsV RX10 262 RX9 yX9_firstOf wsX9_firstOf) := goodIn_app (goodIn_of _ (by decide +kernel)) ggX10_talks_X9_firstOf
theorem dX10_talks_0 : decode cX10_talks 0 = .ok (.iload_n 1, 1) := by decide +kernel
theorem dX10_talks_1 : decode cX10_talks 1 = .ok (.ldc 253, 2) := by decide +kernel
theorem dX10_talks_3 : decode cX10_talks 3 = .ok (.invokestatic 93, 3) := by decide +kernel
theorem dX10_talks_6 : decode cX10_talks 6 = .ok (.ifCond .eq 12, 3) := by decide +kernel
theorem dX10_talks_9 : decode cX10_talks 9 = .ok (.iload_n 2, 1) := by decide +kernel
theorem dX10_talks_10 : decode cX10_talks 10 = .ok (.bipush 61, 2) := by decide +kernel
theorem dX10_talks_12 : decode cX10_talks 12 = .ok (.invokestatic 93, 3) := by decide +kernel
theorem dX10_talks_15 : decode cX10_talks 15 = .ok (.ifCond .ne 10, 3) := by decide +kernel
theorem dX10_talks_18 : decode cX10_talks 18 = .ok (.aload_n 0, 1) := by decide +kernel
theorem dX10_talks_19 : decode cX10_talks 19 = .ok (.bipush (-2), 2) := by decide +kernel
theorem dX10_talks_21 : decode cX10_talks 21 = .ok (.invokevirtual 97, 3) := by decide +kernel
theorem dX10_talks_24 : decode cX10_talks 24 = .ok (.ireturn, 1) := by decide +kernel
theorem dX10_talks_25 : decode cX10_talks 25 = .ok (.aload_n 0, 1) := by decide +kernel
theorem dX10_talks_26 : decode cX10_talks 26 = .ok (.getfield 12, 3) := by decide +kernel
theorem dX10_talks_29 : decode cX10_talks 29 = .ok (.getfield 86, 3) := by decide +kernel
theorem dX10_talks_32 : decode cX10_talks 32 = .ok (.ifCond .eq 13, 3) := by decide +kernel
theorem dX10_talks_35 : decode cX10_talks 35 = .ok (.aload_n 0, 1) := by decide +kernel
theorem dX10_talks_36 : decode cX10_talks 36 = .ok (.getfield 12, 3) := by decide +kernel
theorem dX10_talks_39 : decode cX10_talks 39 = .ok (.getfield 112, 3) := by decide +kernel
theorem dX10_talks_42 : decode cX10_talks 42 = .ok (.ifCond .ne 5, 3) := by decide +kernel
theorem dX10_talks_45 : decode cX10_talks 45 = .ok (.iconst (-1), 1) := by decide +kernel
theorem dX10_talks_46 : decode cX10_talks 46 = .ok (.ireturn, 1) := by decide +kernel
theorem dX10_talks_47 : decode cX10_talks 47 = .ok (.iload_n 1, 1) := by decide +kernel
theorem dX10_talks_48 : decode cX10_talks 48 = .ok (.i2l, 1) := by decide +kernel
theorem dX10_talks_49 : decode cX10_talks 49 = .ok (.lstore_n 3, 1) := by decide +kernel
theorem dX10_talks_50 : decode cX10_talks 50 = .ok (.aload_n 0, 1) := by decide +kernel
theorem dX10_talks_51 : decode cX10_talks 51 = .ok (.getfield 12, 3) := by decide +kernel
theorem dX10_talks_54 : decode cX10_talks 54 = .ok (.getfield 153, 3) := by decide +kernel
theorem dX10_talks_57 : decode cX10_talks 57 = .ok (.istore 5, 2) := by decide +kernel
theorem dX10_talks_59 : decode cX10_talks 59 = .ok (.iconst 0, 1) := by decide +kernel
theorem dX10_talks_60 : decode cX10_talks 60 = .ok (.istore 6, 2) := by decide +kernel
theorem dX10_talks_62 : decode cX10_talks 62 = .ok (.iconst 0, 1) := by decide +kernel
theorem dX10_talks_63 : decode cX10_talks 63 = .ok (.istore 7, 2) := by decide +kernel
theorem dX10_talks_65 : decode cX10_talks 65 = .ok (.iload 7, 2) := by decide +kernel
theorem dX10_talks_67 : decode cX10_talks 67 = .ok (.iload_n 2, 1) := by decide +kernel
theorem dX10_talks_68 : decode cX10_talks 68 = .ok (.if_icmp .ge 138, 3) := by decide +kernel
theorem dX10_talks_71 : decode cX10_talks 71 = .ok (.lload_n 3, 1) := by decide +kernel
theorem dX10_talks_72 : decode cX10_talks 72 = .ok (.ldc2_w 254, 3) := by decide +kernel
theorem dX10_talks_75 : decode cX10_talks 75 = .ok (.lmul, 1) := by decide +kernel
theorem dX10_talks_76 : decode cX10_talks 76 = .ok (.ldc2_w 256, 3) := by decide +kernel
theorem dX10_talks_79 : decode cX10_talks 79 = .ok (.ladd, 1) := by decide +kernel
theorem dX10_talks_80 : decode cX10_talks 80 = .ok (.ldc2_w 258, 3) := by decide +kernel
theorem dX10_talks_83 : decode cX10_talks 83 = .ok (.lrem, 1) := by decide +kernel
theorem dX10_talks_84 : decode cX10_talks 84 = .ok (.lstore_n 3, 1) := by decide +kernel
theorem dX10_talks_85 : decode cX10_talks 85 = .ok (.lload_n 3, 1) := by decide +kernel
theorem dX10_talks_86 : decode cX10_talks 86 = .ok (.ldc2_w 260, 3) := by decide +kernel
theorem dX10_talks_89 : decode cX10_talks 89 = .ok (.ldiv, 1) := by decide +kernel
theorem dX10_talks_90 : decode cX10_talks 90 = .ok (.aload_n 0, 1) := by decide +kernel
theorem dX10_talks_91 : decode cX10_talks 91 = .ok (.getfield 12, 3) := by decide +kernel
theorem dX10_talks_94 : decode cX10_talks 94 = .ok (.getfield 86, 3) := by decide +kernel
theorem dX10_talks_97 : decode cX10_talks 97 = .ok (.i2l, 1) := by decide +kernel
theorem dX10_talks_98 : decode cX10_talks 98 = .ok (.lrem, 1) := by decide +kernel
theorem dX10_talks_99 : decode cX10_talks 99 = .ok (.l2i, 1) := by decide +kernel
theorem dX10_talks_100 : decode cX10_talks 100 = .ok (.istore 8, 2) := by decide +kernel
theorem dX10_talks_102 : decode cX10_talks 102 = .ok (.iload 7, 2) := by decide +kernel
theorem dX10_talks_104 : decode cX10_talks 104 = .ok (.aload_n 0, 1) := by decide +kernel
theorem dX10_talks_105 : decode cX10_talks 105 = .ok (.getfield 12, 3) := by decide +kernel
theorem dX10_talks_108 : decode cX10_talks 108 = .ok (.getfield 112, 3) := by decide +kernel
theorem dX10_talks_111 : decode cX10_talks 111 = .ok (.irem, 1) := by decide +kernel
theorem dX10_talks_112 : decode cX10_talks 112 = .ok (.istore 9, 2) := by decide +kernel
theorem dX10_talks_114 : decode cX10_talks 114 = .ok (.aload_n 0, 1) := by decide +kernel
theorem dX10_talks_115 : decode cX10_talks 115 = .ok (.getfield 25, 3) := by decide +kernel
theorem dX10_talks_118 : decode cX10_talks 118 = .ok (.aload_n 0, 1) := by decide +kernel
theorem dX10_talks_119 : decode cX10_talks 119 = .ok (.getfield 12, 3) := by decide +kernel
theorem dX10_talks_122 : decode cX10_talks 122 = .ok (.getfield 173, 3) := by decide +kernel
theorem dX10_talks_125 : decode cX10_talks 125 = .ok (.iload 9, 2) := by decide +kernel
theorem dX10_talks_127 : decode cX10_talks 127 = .ok (.iaload, 1) := by decide +kernel
theorem dX10_talks_128 : decode cX10_talks 128 = .ok (.aaload, 1) := by decide +kernel
theorem dX10_talks_129 : decode cX10_talks 129 = .ok (.aload_n 0, 1) := by decide +kernel
theorem dX10_talks_130 : decode cX10_talks 130 = .ok (.getfield 12, 3) := by decide +kernel
theorem dX10_talks_133 : decode cX10_talks 133 = .ok (.aload_n 0, 1) := by decide +kernel
theorem dX10_talks_134 : decode cX10_talks 134 = .ok (.getfield 12, 3) := by decide +kernel
theorem dX10_talks_137 : decode cX10_talks 137 = .ok (.getfield 176, 3) := by decide +kernel
theorem dX10_talks_140 : decode cX10_talks 140 = .ok (.iload 9, 2) := by decide +kernel
theorem dX10_talks_142 : decode cX10_talks 142 = .ok (.iaload, 1) := by decide +kernel
theorem dX10_talks_143 : decode cX10_talks 143 = .ok (.iload 8, 2) := by decide +kernel
theorem dX10_talks_145 : decode cX10_talks 145 = .ok (.invokevirtual 179, 3) := by decide +kernel
theorem dX10_talks_148 : decode cX10_talks 148 = .ok (.istore 10, 2) := by decide +kernel
theorem dX10_talks_150 : decode cX10_talks 150 = .ok (.aload_n 0, 1) := by decide +kernel
theorem dX10_talks_151 : decode cX10_talks 151 = .ok (.getfield 12, 3) := by decide +kernel
theorem dX10_talks_154 : decode cX10_talks 154 = .ok (.iload 10, 2) := by decide +kernel
theorem dX10_talks_156 : decode cX10_talks 156 = .ok (.iload 5, 2) := by decide +kernel
theorem dX10_talks_158 : decode cX10_talks 158 = .ok (.iconst (-1), 1) := by decide +kernel
theorem dX10_talks_159 : decode cX10_talks 159 = .ok (.ixor, 1) := by decide +kernel
theorem dX10_talks_160 : decode cX10_talks 160 = .ok (.iand, 1) := by decide +kernel
theorem dX10_talks_161 : decode cX10_talks 161 = .ok (.aload_n 0, 1) := by decide +kernel
theorem dX10_talks_162 : decode cX10_talks 162 = .ok (.getfield 12, 3) := by decide +kernel
theorem dX10_talks_165 : decode cX10_talks 165 = .ok (.getfield 176, 3) := by decide +kernel
theorem dX10_talks_168 : decode cX10_talks 168 = .ok (.iload 9, 2) := by decide +kernel
theorem dX10_talks_170 : decode cX10_talks 170 = .ok (.iaload, 1) := by decide +kernel
theorem dX10_talks_171 : decode cX10_talks 171 = .ok (.invokevirtual 262, 3) := by decide +kernel
theorem dX10_talks_174 : decode cX10_talks 174 = .ok (.istore 11, 2) := by decide +kernel
theorem dX10_talks_176 : decode cX10_talks 176 = .ok (.iload 11, 2) := by decide +kernel
theorem dX10_talks_178 : decode cX10_talks 178 = .ok (.iconst (-1), 1) := by decide +kernel
theorem dX10_talks_179 : decode cX10_talks 179 = .ok (.if_icmp .ne 9, 3) := by decide +kernel
theorem dX10_talks_182 : decode cX10_talks 182 = .ok (.iconst 0, 1) := by decide +kernel
theorem dX10_talks_183 : decode cX10_talks 183 = .ok (.istore 5, 2) := by decide +kernel
theorem dX10_talks_185 : decode cX10_talks 185 = .ok (.goto 15, 3) := by decide +kernel
theorem dX10_talks_188 : decode cX10_talks 188 = .ok (.iload 5, 2) := by decide +kernel
theorem dX10_talks_190 : decode cX10_talks 190 = .ok (.iconst 1, 1) := by decide +kernel
theorem dX10_talks_191 : decode cX10_talks 191 = .ok (.iload 11, 2) := by decide +kernel
theorem dX10_talks_193 : decode cX10_talks 193 = .ok (.ishl, 1) := by decide +kernel
theorem dX10_talks_194 : decode cX10_talks 194 = .ok (.ior, 1) := by decide +kernel
theorem dX10_talks_195 : decode cX10_talks 195 = .ok (.istore 5, 2) := by decide +kernel
theorem dX10_talks_197 : decode cX10_talks 197 = .ok (.iinc 6 1, 3) := by decide +kernel
theorem dX10_talks_200 : decode cX10_talks 200 = .ok (.iinc 7 1, 3) := by decide +kernel
theorem dX10_talks_203 : decode cX10_talks 203 = .ok (.goto (-138), 3) := by decide +kernel
theorem dX10_talks_206 : decode cX10_talks 206 = .ok (.iload 6, 2) := by decide +kernel
theorem dX10_talks_208 : decode cX10_talks 208 = .ok (.ireturn, 1) := by decide +kernel
set_option maxRecDepth 20000 in
theorem ggX10_part_X10_fits : GoodIn wsX10_part wsX10_fits := goodIn_r _ [6] (by decide +kernel) (by decide +kernel)
set_option maxRecDepth 20000 in
theorem gX10_part_X10_fits : GoodIn wsX10_part (va_wsS RX10 93 yX10_fits wsX10_fits) := goodIn_app (goodIn_of _ (by decide +kernel)) ggX10_part_X10_fits
set_option maxRecDepth 20000 in
theorem ggX10_part_X10_refuse : GoodIn wsX10_part wsX10_refuse := goodIn_r _ [10, 11, 12, 13, 14, 15, 16, 17, 18, 19, 20, 21, 22, 23, 24, 25, 26, 27, 28, 29, 30] (by decide +kernel) (by decide +kernel)
set_option maxRecDepth 20000 in
theorem gX10_part_X10_refuse : GoodIn wsX10_part (wsV RX10 97 RX10 yX10_refuse wsX10_refuse) := goodIn_app (goodIn_of _ (by decide +kernel)) ggX10_part_X10_refuse
theorem dX10_part_0 : decode cX10_part 0 = .ok (.iload_n 1, 1) := by decide +kernel
theorem dX10_part_1 : decode cX10_part 1 = .ok (.iconst 2, 1) := by decide +kernel
theorem dX10_part_2 : decode cX10_part 2 = .ok (.invokestatic 93, 3) := by decide +kernel
theorem dX10_part_5 : decode cX10_part 5 = .ok (.ifCond .ne 11, 3) := by decide +kernel
theorem dX10_part_8 : decode cX10_part 8 = .ok (.aload_n 0, 1) := by decide +kernel
theorem dX10_part_9 : decode cX10_part 9 = .ok (.bipush (-2), 2) := by decide +kernel
theorem dX10_part_11 : decode cX10_part 11 = .ok (.invokevirtual 97, 3) := by decide +kernel
theorem dX10_part_14 : decode cX10_part 14 = .ok (.i2l, 1) := by decide +kernel
theorem dX10_part_15 : decode cX10_part 15 = .ok (.lreturn, 1) := by decide +kernel
theorem dX10_part_16 : decode cX10_part 16 = .ok (.iload_n 1, 1) := by decide +kernel
theorem dX10_part_17 : decode cX10_part 17 = .ok (.ifCond .ne 10, 3) := by decide +kernel
theorem dX10_part_20 : decode cX10_part 20 = .ok (.aload_n 0, 1) := by decide +kernel
