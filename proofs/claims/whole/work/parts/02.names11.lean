theorem dX10_wantBits_8 : decode cX10_wantBits 8 = .ok (.getfield 12, 3) := by decide +kernel
theorem dX10_wantBits_11 : decode cX10_wantBits 11 = .ok (.getfield 198, 3) := by decide +kernel
theorem dX10_wantBits_14 : decode cX10_wantBits 14 = .ok (.if_icmp .ge 62, 3) := by decide +kernel
theorem dX10_wantBits_17 : decode cX10_wantBits 17 = .ok (.iconst 0, 1) := by decide +kernel
theorem dX10_wantBits_18 : decode cX10_wantBits 18 = .ok (.istore 4, 2) := by decide +kernel
theorem dX10_wantBits_20 : decode cX10_wantBits 20 = .ok (.iload 4, 2) := by decide +kernel
theorem dX10_wantBits_22 : decode cX10_wantBits 22 = .ok (.bipush 8, 2) := by decide +kernel
theorem dX10_wantBits_24 : decode cX10_wantBits 24 = .ok (.if_icmp .ge 46, 3) := by decide +kernel
theorem dX10_wantBits_27 : decode cX10_wantBits 27 = .ok (.aload_n 0, 1) := by decide +kernel
theorem dX10_wantBits_28 : decode cX10_wantBits 28 = .ok (.iload_n 1, 1) := by decide +kernel
theorem dX10_wantBits_29 : decode cX10_wantBits 29 = .ok (.iload 4, 2) := by decide +kernel
theorem dX10_wantBits_31 : decode cX10_wantBits 31 = .ok (.aload_n 0, 1) := by decide +kernel
theorem dX10_wantBits_32 : decode cX10_wantBits 32 = .ok (.getfield 12, 3) := by decide +kernel
theorem dX10_wantBits_35 : decode cX10_wantBits 35 = .ok (.getfield 298, 3) := by decide +kernel
theorem dX10_wantBits_38 : decode cX10_wantBits 38 = .ok (.iload_n 3, 1) := by decide +kernel
theorem dX10_wantBits_39 : decode cX10_wantBits 39 = .ok (.iaload, 1) := by decide +kernel
theorem dX10_wantBits_40 : decode cX10_wantBits 40 = .ok (.invokevirtual 301, 3) := by decide +kernel
theorem dX10_wantBits_43 : decode cX10_wantBits 43 = .ok (.aload_n 0, 1) := by decide +kernel
theorem dX10_wantBits_44 : decode cX10_wantBits 44 = .ok (.getfield 12, 3) := by decide +kernel
theorem dX10_wantBits_47 : decode cX10_wantBits 47 = .ok (.getfield 304, 3) := by decide +kernel
theorem dX10_wantBits_50 : decode cX10_wantBits 50 = .ok (.iload_n 3, 1) := by decide +kernel
theorem dX10_wantBits_51 : decode cX10_wantBits 51 = .ok (.iaload, 1) := by decide +kernel
theorem dX10_wantBits_52 : decode cX10_wantBits 52 = .ok (.if_icmp .eq 12, 3) := by decide +kernel
theorem dX10_wantBits_55 : decode cX10_wantBits 55 = .ok (.iload_n 2, 1) := by decide +kernel
theorem dX10_wantBits_56 : decode cX10_wantBits 56 = .ok (.iconst 1, 1) := by decide +kernel
theorem dX10_wantBits_57 : decode cX10_wantBits 57 = .ok (.iload 4, 2) := by decide +kernel
theorem dX10_wantBits_59 : decode cX10_wantBits 59 = .ok (.ishl, 1) := by decide +kernel
theorem dX10_wantBits_60 : decode cX10_wantBits 60 = .ok (.iconst (-1), 1) := by decide +kernel
theorem dX10_wantBits_61 : decode cX10_wantBits 61 = .ok (.ixor, 1) := by decide +kernel
theorem dX10_wantBits_62 : decode cX10_wantBits 62 = .ok (.iand, 1) := by decide +kernel
theorem dX10_wantBits_63 : decode cX10_wantBits 63 = .ok (.istore_n 2, 1) := by decide +kernel
theorem dX10_wantBits_64 : decode cX10_wantBits 64 = .ok (.iinc 4 1, 3) := by decide +kernel
theorem dX10_wantBits_67 : decode cX10_wantBits 67 = .ok (.goto (-47), 3) := by decide +kernel
theorem dX10_wantBits_70 : decode cX10_wantBits 70 = .ok (.iinc 3 1, 3) := by decide +kernel
theorem dX10_wantBits_73 : decode cX10_wantBits 73 = .ok (.goto (-67), 3) := by decide +kernel
theorem dX10_wantBits_76 : decode cX10_wantBits 76 = .ok (.iload_n 2, 1) := by decide +kernel
theorem dX10_wantBits_77 : decode cX10_wantBits 77 = .ok (.ireturn, 1) := by decide +kernel
set_option maxRecDepth 20000 in
theorem ggX10_mostLeft_X10_reply : GoodIn wsX10_mostLeft wsX10_reply := goodIn_r _ [10, 11, 12, 13, 14, 15, 16, 17, 18, 19, 20, 21, 22, 23, 24, 25, 26, 27, 28, 29, 30, 31, 32, 33, 34, 35, 36, 37, 38, 39, 40, 41, 42, 43, 44, 45, 46, 47, 48, 49, 50, 51, 52, 53, 54, 55, 56, 57, 58, 59, 60, 61, 62, 63, 64, 65, 66, 67, 68, 69, 70, 71, 72, 73, 74, 75, 76, 77, 78, 79, 80, 81, 82, 83, 84, 85, 86, 87, 88, 89, 90, 91, 92, 93, 94, 95, 96, 97, 98, 99, 100, 101, 102, 103, 104, 105] (by decide +kernel) (by decide +kernel)
set_option maxRecDepth 20000 in
theorem gX10_mostLeft_X10_reply : GoodIn wsX10_mostLeft (wsV RX10 301 RX10 yX10_reply wsX10_reply) := goodIn_app (goodIn_of _ (by decide +kernel)) ggX10_mostLeft_X10_reply
theorem dX10_mostLeft_0 : decode cX10_mostLeft 0 = .ok (.iconst 0, 1) := by decide +kernel
theorem dX10_mostLeft_1 : decode cX10_mostLeft 1 = .ok (.istore 4, 2) := by decide +kernel
theorem dX10_mostLeft_3 : decode cX10_mostLeft 3 = .ok (.iload 4, 2) := by decide +kernel
theorem dX10_mostLeft_5 : decode cX10_mostLeft 5 = .ok (.aload_n 0, 1) := by decide +kernel
theorem dX10_mostLeft_6 : decode cX10_mostLeft 6 = .ok (.getfield 58, 3) := by decide +kernel
theorem dX10_mostLeft_9 : decode cX10_mostLeft 9 = .ok (.arraylength, 1) := by decide +kernel
theorem dX10_mostLeft_10 : decode cX10_mostLeft 10 = .ok (.if_icmp .ge 17, 3) := by decide +kernel
theorem dX10_mostLeft_13 : decode cX10_mostLeft 13 = .ok (.aload_n 0, 1) := by decide +kernel
theorem dX10_mostLeft_14 : decode cX10_mostLeft 14 = .ok (.getfield 58, 3) := by decide +kernel
theorem dX10_mostLeft_17 : decode cX10_mostLeft 17 = .ok (.iload 4, 2) := by decide +kernel
theorem dX10_mostLeft_19 : decode cX10_mostLeft 19 = .ok (.iconst 0, 1) := by decide +kernel
theorem dX10_mostLeft_20 : decode cX10_mostLeft 20 = .ok (.iastore, 1) := by decide +kernel
theorem dX10_mostLeft_21 : decode cX10_mostLeft 21 = .ok (.iinc 4 1, 3) := by decide +kernel
theorem dX10_mostLeft_24 : decode cX10_mostLeft 24 = .ok (.goto (-21), 3) := by decide +kernel
theorem dX10_mostLeft_27 : decode cX10_mostLeft 27 = .ok (.iconst 0, 1) := by decide +kernel
theorem dX10_mostLeft_28 : decode cX10_mostLeft 28 = .ok (.istore 4, 2) := by decide +kernel
theorem dX10_mostLeft_30 : decode cX10_mostLeft 30 = .ok (.iconst 0, 1) := by decide +kernel
theorem dX10_mostLeft_31 : decode cX10_mostLeft 31 = .ok (.istore 5, 2) := by decide +kernel
theorem dX10_mostLeft_33 : decode cX10_mostLeft 33 = .ok (.iload 5, 2) := by decide +kernel
theorem dX10_mostLeft_35 : decode cX10_mostLeft 35 = .ok (.bipush 8, 2) := by decide +kernel
theorem dX10_mostLeft_37 : decode cX10_mostLeft 37 = .ok (.if_icmp .ge 56, 3) := by decide +kernel
theorem dX10_mostLeft_40 : decode cX10_mostLeft 40 = .ok (.iload_n 2, 1) := by decide +kernel
theorem dX10_mostLeft_41 : decode cX10_mostLeft 41 = .ok (.iload 5, 2) := by decide +kernel
theorem dX10_mostLeft_43 : decode cX10_mostLeft 43 = .ok (.ishr, 1) := by decide +kernel
theorem dX10_mostLeft_44 : decode cX10_mostLeft 44 = .ok (.iconst 1, 1) := by decide +kernel
theorem dX10_mostLeft_45 : decode cX10_mostLeft 45 = .ok (.iand, 1) := by decide +kernel
theorem dX10_mostLeft_46 : decode cX10_mostLeft 46 = .ok (.iconst 1, 1) := by decide +kernel
theorem dX10_mostLeft_47 : decode cX10_mostLeft 47 = .ok (.if_icmp .ne 40, 3) := by decide +kernel
theorem dX10_mostLeft_50 : decode cX10_mostLeft 50 = .ok (.aload_n 0, 1) := by decide +kernel
theorem dX10_mostLeft_51 : decode cX10_mostLeft 51 = .ok (.iload_n 1, 1) := by decide +kernel
theorem dX10_mostLeft_52 : decode cX10_mostLeft 52 = .ok (.iload 5, 2) := by decide +kernel
theorem dX10_mostLeft_54 : decode cX10_mostLeft 54 = .ok (.iload_n 3, 1) := by decide +kernel
theorem dX10_mostLeft_55 : decode cX10_mostLeft 55 = .ok (.invokevirtual 301, 3) := by decide +kernel
theorem dX10_mostLeft_58 : decode cX10_mostLeft 58 = .ok (.iconst 1, 1) := by decide +kernel
theorem dX10_mostLeft_59 : decode cX10_mostLeft 59 = .ok (.iadd, 1) := by decide +kernel
theorem dX10_mostLeft_60 : decode cX10_mostLeft 60 = .ok (.istore 6, 2) := by decide +kernel
theorem dX10_mostLeft_62 : decode cX10_mostLeft 62 = .ok (.aload_n 0, 1) := by decide +kernel
theorem dX10_mostLeft_63 : decode cX10_mostLeft 63 = .ok (.getfield 58, 3) := by decide +kernel
theorem dX10_mostLeft_66 : decode cX10_mostLeft 66 = .ok (.iload 6, 2) := by decide +kernel
theorem dX10_mostLeft_68 : decode cX10_mostLeft 68 = .ok (.dup2, 1) := by decide +kernel
theorem dX10_mostLeft_69 : decode cX10_mostLeft 69 = .ok (.iaload, 1) := by decide +kernel
theorem dX10_mostLeft_70 : decode cX10_mostLeft 70 = .ok (.iconst 1, 1) := by decide +kernel
theorem dX10_mostLeft_71 : decode cX10_mostLeft 71 = .ok (.iadd, 1) := by decide +kernel
theorem dX10_mostLeft_72 : decode cX10_mostLeft 72 = .ok (.iastore, 1) := by decide +kernel
theorem dX10_mostLeft_73 : decode cX10_mostLeft 73 = .ok (.iload 4, 2) := by decide +kernel
theorem dX10_mostLeft_75 : decode cX10_mostLeft 75 = .ok (.aload_n 0, 1) := by decide +kernel
theorem dX10_mostLeft_76 : decode cX10_mostLeft 76 = .ok (.getfield 58, 3) := by decide +kernel
theorem dX10_mostLeft_79 : decode cX10_mostLeft 79 = .ok (.iload 6, 2) := by decide +kernel
theorem dX10_mostLeft_81 : decode cX10_mostLeft 81 = .ok (.iaload, 1) := by decide +kernel
theorem dX10_mostLeft_82 : decode cX10_mostLeft 82 = .ok (.invokestatic 307, 3) := by decide +kernel
theorem dX10_mostLeft_85 : decode cX10_mostLeft 85 = .ok (.istore 4, 2) := by decide +kernel
theorem dX10_mostLeft_87 : decode cX10_mostLeft 87 = .ok (.iinc 5 1, 3) := by decide +kernel
theorem dX10_mostLeft_90 : decode cX10_mostLeft 90 = .ok (.goto (-57), 3) := by decide +kernel
theorem dX10_mostLeft_93 : decode cX10_mostLeft 93 = .ok (.iload 4, 2) := by decide +kernel
theorem dX10_mostLeft_95 : decode cX10_mostLeft 95 = .ok (.ireturn, 1) := by decide +kernel
set_option maxRecDepth 20000 in
theorem ggX10_fillClashes_X0_chimes : GoodIn wsX10_fillClashes wsX0_chimes := goodIn_r _ [11, 12, 13, 14, 15, 16, 17, 18, 19, 20, 6, 21, 22, 23, 24, 25, 26, 27, 28, 29, 30, 31, 32, 33, 34, 35, 36, 37, 38, 80, 81, 82, 83, 84, 85, 86, 87, 88, 89, 90, 91, 92, 93] (by decide +kernel) (by decide +kernel)
set_option maxRecDepth 20000 in
theorem gX10_fillClashes_X0_chimes_u179X0 : GoodIn wsX10_fillClashes (va_wsO RX10 179 RX0 "OnlyRhymes$Rhymer" ⟨"OnlyRhymes$Rhymer", "chimes", "(LOnlyRhymes$Tongue;II)I"⟩ yX0_chimes wsX0_chimes) := goodIn_app (goodIn_of _ (by decide +kernel)) ggX10_fillClashes_X0_chimes
set_option maxRecDepth 20000 in
theorem ggX10_fillClashes_X3_chimes : GoodIn wsX10_fillClashes wsX3_chimes := goodIn_r _ [42, 43, 6, 44, 22, 23, 24, 25, 26, 27, 28, 29, 30, 31, 32, 80, 81, 82, 83, 84, 85, 86, 87, 88, 89, 90, 91, 92, 93] (by decide +kernel) (by decide +kernel)
set_option maxRecDepth 20000 in
theorem gX10_fillClashes_X3_chimes_u179X3 : GoodIn wsX10_fillClashes (va_wsO RX10 179 RX3 "OnlyRhymes$Rhymer" ⟨"OnlyRhymes$Rhymer", "chimes", "(LOnlyRhymes$Tongue;II)I"⟩ yX3_chimes wsX3_chimes) := goodIn_app (goodIn_of _ (by decide +kernel)) ggX10_fillClashes_X3_chimes
set_option maxRecDepth 20000 in
theorem ggX10_fillClashes_X4_chimes : GoodIn wsX10_fillClashes wsX4_chimes := goodIn_r _ [17, 18, 19, 20, 6, 21, 22, 23, 24, 25, 26, 27, 28, 29, 30, 31, 32, 33, 80, 81, 82, 83, 84, 85, 86, 87, 88, 89, 90, 91, 92, 93] (by decide +kernel) (by decide +kernel)
set_option maxRecDepth 20000 in
theorem gX10_fillClashes_X4_chimes_u179X4 : GoodIn wsX10_fillClashes (va_wsO RX10 179 RX4 "OnlyRhymes$Rhymer" ⟨"OnlyRhymes$Rhymer", "chimes", "(LOnlyRhymes$Tongue;II)I"⟩ yX4_chimes wsX4_chimes) := goodIn_app (goodIn_of _ (by decide +kernel)) ggX10_fillClashes_X4_chimes
set_option maxRecDepth 20000 in
theorem ggX10_fillClashes_X5_chimes : GoodIn wsX10_fillClashes wsX5_chimes := goodIn_r _ [49, 50, 51, 13, 52, 15, 16, 17, 18, 19, 20, 6, 21, 22, 23, 24, 25, 26, 27, 28, 29, 30, 31, 32, 33, 53, 35, 36, 37, 38, 80, 81, 82, 83, 84, 85, 86, 87, 88, 89, 90, 91, 92, 93] (by decide +kernel) (by decide +kernel)
set_option maxRecDepth 20000 in
theorem gX10_fillClashes_X5_chimes_u179X5 : GoodIn wsX10_fillClashes (va_wsO RX10 179 RX5 "OnlyRhymes$Rhymer" ⟨"OnlyRhymes$Rhymer", "chimes", "(LOnlyRhymes$Tongue;II)I"⟩ yX5_chimes wsX5_chimes) := goodIn_app (goodIn_of _ (by decide +kernel)) ggX10_fillClashes_X5_chimes
set_option maxRecDepth 20000 in
theorem ggX10_fillClashes_X7_chimes : GoodIn wsX10_fillClashes wsX7_chimes := goodIn_r _ [24, 25, 26, 27, 28, 29, 30, 31, 32, 80, 81, 82, 83, 84, 85, 86, 87, 88, 89, 90, 91, 92, 93] (by decide +kernel) (by decide +kernel)
set_option maxRecDepth 20000 in
theorem gX10_fillClashes_X7_chimes : GoodIn wsX10_fillClashes (wsV RX10 179 RX7 yX7_chimes wsX7_chimes) := goodIn_app (goodIn_of _ (by decide +kernel)) ggX10_fillClashes_X7_chimes
set_option maxRecDepth 20000 in
theorem ggX10_fillClashes_X8_chimes : GoodIn wsX10_fillClashes wsX8_chimes := goodIn_r _ [59, 60, 61, 62, 40, 41, 42, 43, 6, 44, 22, 23, 24, 25, 26, 27, 28, 29, 30, 31, 32, 80, 81, 82, 83, 84, 85, 86, 87, 88, 89, 90, 91, 92, 93] (by decide +kernel) (by decide +kernel)
set_option maxRecDepth 20000 in
theorem gX10_fillClashes_X8_chimes_u179X8 : GoodIn wsX10_fillClashes (va_wsO RX10 179 RX8 "OnlyRhymes$Rhymer" ⟨"OnlyRhymes$Rhymer", "chimes", "(LOnlyRhymes$Tongue;II)I"⟩ yX8_chimes wsX8_chimes) := goodIn_app (goodIn_of _ (by decide +kernel)) ggX10_fillClashes_X8_chimes
theorem dX10_fillClashes_0 : decode cX10_fillClashes 0 = .ok (.iconst 0, 1) := by decide +kernel
theorem dX10_fillClashes_1 : decode cX10_fillClashes 1 = .ok (.istore_n 3, 1) := by decide +kernel
theorem dX10_fillClashes_2 : decode cX10_fillClashes 2 = .ok (.iload_n 3, 1) := by decide +kernel
theorem dX10_fillClashes_3 : decode cX10_fillClashes 3 = .ok (.aload_n 0, 1) := by decide +kernel
theorem dX10_fillClashes_4 : decode cX10_fillClashes 4 = .ok (.getfield 12, 3) := by decide +kernel
theorem dX10_fillClashes_7 : decode cX10_fillClashes 7 = .ok (.getfield 86, 3) := by decide +kernel
theorem dX10_fillClashes_10 : decode cX10_fillClashes 10 = .ok (.if_icmp .ge 36, 3) := by decide +kernel
theorem dX10_fillClashes_13 : decode cX10_fillClashes 13 = .ok (.aload_n 0, 1) := by decide +kernel
theorem dX10_fillClashes_14 : decode cX10_fillClashes 14 = .ok (.getfield 54, 3) := by decide +kernel
theorem dX10_fillClashes_17 : decode cX10_fillClashes 17 = .ok (.iload_n 3, 1) := by decide +kernel
theorem dX10_fillClashes_18 : decode cX10_fillClashes 18 = .ok (.aload_n 0, 1) := by decide +kernel
theorem dX10_fillClashes_19 : decode cX10_fillClashes 19 = .ok (.getfield 25, 3) := by decide +kernel
theorem dX10_fillClashes_22 : decode cX10_fillClashes 22 = .ok (.iload_n 1, 1) := by decide +kernel
theorem dX10_fillClashes_23 : decode cX10_fillClashes 23 = .ok (.aaload, 1) := by decide +kernel
theorem dX10_fillClashes_24 : decode cX10_fillClashes 24 = .ok (.aload_n 0, 1) := by decide +kernel
theorem dX10_fillClashes_25 : decode cX10_fillClashes 25 = .ok (.getfield 12, 3) := by decide +kernel
theorem dX10_fillClashes_28 : decode cX10_fillClashes 28 = .ok (.iload_n 2, 1) := by decide +kernel
theorem dX10_fillClashes_29 : decode cX10_fillClashes 29 = .ok (.iload_n 3, 1) := by decide +kernel
theorem dX10_fillClashes_30 : decode cX10_fillClashes 30 = .ok (.invokevirtual 179, 3) := by decide +kernel
theorem dX10_fillClashes_33 : decode cX10_fillClashes 33 = .ok (.iconst 1, 1) := by decide +kernel
theorem dX10_fillClashes_34 : decode cX10_fillClashes 34 = .ok (.iload_n 3, 1) := by decide +kernel
theorem dX10_fillClashes_35 : decode cX10_fillClashes 35 = .ok (.ishl, 1) := by decide +kernel
theorem dX10_fillClashes_36 : decode cX10_fillClashes 36 = .ok (.iconst (-1), 1) := by decide +kernel
theorem dX10_fillClashes_37 : decode cX10_fillClashes 37 = .ok (.ixor, 1) := by decide +kernel
theorem dX10_fillClashes_38 : decode cX10_fillClashes 38 = .ok (.iand, 1) := by decide +kernel
theorem dX10_fillClashes_39 : decode cX10_fillClashes 39 = .ok (.iastore, 1) := by decide +kernel
theorem dX10_fillClashes_40 : decode cX10_fillClashes 40 = .ok (.iinc 3 1, 3) := by decide +kernel
theorem dX10_fillClashes_43 : decode cX10_fillClashes 43 = .ok (.goto (-41), 3) := by decide +kernel
theorem dX10_fillClashes_46 : decode cX10_fillClashes 46 = .ok (.return_, 1) := by decide +kernel
theorem dX10_isPeaceful_0 : decode cX10_isPeaceful 0 = .ok (.iconst 0, 1) := by decide +kernel
theorem dX10_isPeaceful_1 : decode cX10_isPeaceful 1 = .ok (.istore_n 2, 1) := by decide +kernel
theorem dX10_isPeaceful_2 : decode cX10_isPeaceful 2 = .ok (.iload_n 2, 1) := by decide +kernel
theorem dX10_isPeaceful_3 : decode cX10_isPeaceful 3 = .ok (.aload_n 0, 1) := by decide +kernel
theorem dX10_isPeaceful_4 : decode cX10_isPeaceful 4 = .ok (.getfield 12, 3) := by decide +kernel
theorem dX10_isPeaceful_7 : decode cX10_isPeaceful 7 = .ok (.getfield 86, 3) := by decide +kernel
theorem dX10_isPeaceful_10 : decode cX10_isPeaceful 10 = .ok (.if_icmp .ge 31, 3) := by decide +kernel
theorem dX10_isPeaceful_13 : decode cX10_isPeaceful 13 = .ok (.iload_n 1, 1) := by decide +kernel
theorem dX10_isPeaceful_14 : decode cX10_isPeaceful 14 = .ok (.iload_n 2, 1) := by decide +kernel
theorem dX10_isPeaceful_15 : decode cX10_isPeaceful 15 = .ok (.ishr, 1) := by decide +kernel
theorem dX10_isPeaceful_16 : decode cX10_isPeaceful 16 = .ok (.iconst 1, 1) := by decide +kernel
theorem dX10_isPeaceful_17 : decode cX10_isPeaceful 17 = .ok (.iand, 1) := by decide +kernel
theorem dX10_isPeaceful_18 : decode cX10_isPeaceful 18 = .ok (.iconst 1, 1) := by decide +kernel
theorem dX10_isPeaceful_19 : decode cX10_isPeaceful 19 = .ok (.if_icmp .ne 16, 3) := by decide +kernel
theorem dX10_isPeaceful_22 : decode cX10_isPeaceful 22 = .ok (.aload_n 0, 1) := by decide +kernel
theorem dX10_isPeaceful_23 : decode cX10_isPeaceful 23 = .ok (.getfield 54, 3) := by decide +kernel
theorem dX10_isPeaceful_26 : decode cX10_isPeaceful 26 = .ok (.iload_n 2, 1) := by decide +kernel
theorem dX10_isPeaceful_27 : decode cX10_isPeaceful 27 = .ok (.iaload, 1) := by decide +kernel
theorem dX10_isPeaceful_28 : decode cX10_isPeaceful 28 = .ok (.iload_n 1, 1) := by decide +kernel
theorem dX10_isPeaceful_29 : decode cX10_isPeaceful 29 = .ok (.iand, 1) := by decide +kernel
theorem dX10_isPeaceful_30 : decode cX10_isPeaceful 30 = .ok (.ifCond .eq 5, 3) := by decide +kernel
theorem dX10_isPeaceful_33 : decode cX10_isPeaceful 33 = .ok (.iconst 0, 1) := by decide +kernel
theorem dX10_isPeaceful_34 : decode cX10_isPeaceful 34 = .ok (.ireturn, 1) := by decide +kernel
theorem dX10_isPeaceful_35 : decode cX10_isPeaceful 35 = .ok (.iinc 2 1, 3) := by decide +kernel
theorem dX10_isPeaceful_38 : decode cX10_isPeaceful 38 = .ok (.goto (-36), 3) := by decide +kernel
theorem dX10_isPeaceful_41 : decode cX10_isPeaceful 41 = .ok (.iconst 1, 1) := by decide +kernel
theorem dX10_isPeaceful_42 : decode cX10_isPeaceful 42 = .ok (.ireturn, 1) := by decide +kernel
theorem dX10_choosePairs_0 : decode cX10_choosePairs 0 = .ok (.iload_n 2, 1) := by decide +kernel
theorem dX10_choosePairs_1 : decode cX10_choosePairs 1 = .ok (.iload_n 1, 1) := by decide +kernel
theorem dX10_choosePairs_2 : decode cX10_choosePairs 2 = .ok (.iconst (-1), 1) := by decide +kernel
theorem dX10_choosePairs_3 : decode cX10_choosePairs 3 = .ok (.ixor, 1) := by decide +kernel
theorem dX10_choosePairs_4 : decode cX10_choosePairs 4 = .ok (.iand, 1) := by decide +kernel
theorem dX10_choosePairs_5 : decode cX10_choosePairs 5 = .ok (.ifCond .ne 5, 3) := by decide +kernel
theorem dX10_choosePairs_8 : decode cX10_choosePairs 8 = .ok (.iconst 0, 1) := by decide +kernel
theorem dX10_choosePairs_9 : decode cX10_choosePairs 9 = .ok (.ireturn, 1) := by decide +kernel
theorem dX10_choosePairs_10 : decode cX10_choosePairs 10 = .ok (.iconst 0, 1) := by decide +kernel
theorem dX10_choosePairs_11 : decode cX10_choosePairs 11 = .ok (.istore_n 3, 1) := by decide +kernel
theorem dX10_choosePairs_12 : decode cX10_choosePairs 12 = .ok (.iload_n 3, 1) := by decide +kernel
theorem dX10_choosePairs_13 : decode cX10_choosePairs 13 = .ok (.getstatic 61, 3) := by decide +kernel
theorem dX10_choosePairs_16 : decode cX10_choosePairs 16 = .ok (.arraylength, 1) := by decide +kernel
theorem dX10_choosePairs_17 : decode cX10_choosePairs 17 = .ok (.if_icmp .ge 35, 3) := by decide +kernel
theorem dX10_choosePairs_20 : decode cX10_choosePairs 20 = .ok (.iload_n 2, 1) := by decide +kernel
theorem dX10_choosePairs_21 : decode cX10_choosePairs 21 = .ok (.aload_n 0, 1) := by decide +kernel
theorem dX10_choosePairs_22 : decode cX10_choosePairs 22 = .ok (.getfield 64, 3) := by decide +kernel
theorem dX10_choosePairs_25 : decode cX10_choosePairs 25 = .ok (.iload_n 3, 1) := by decide +kernel
theorem dX10_choosePairs_26 : decode cX10_choosePairs 26 = .ok (.iaload, 1) := by decide +kernel
theorem dX10_choosePairs_27 : decode cX10_choosePairs 27 = .ok (.iconst (-1), 1) := by decide +kernel
theorem dX10_choosePairs_28 : decode cX10_choosePairs 28 = .ok (.ixor, 1) := by decide +kernel
theorem dX10_choosePairs_29 : decode cX10_choosePairs 29 = .ok (.iand, 1) := by decide +kernel
theorem dX10_choosePairs_30 : decode cX10_choosePairs 30 = .ok (.ifCond .ne 16, 3) := by decide +kernel
theorem dX10_choosePairs_33 : decode cX10_choosePairs 33 = .ok (.aload_n 0, 1) := by decide +kernel
theorem dX10_choosePairs_34 : decode cX10_choosePairs 34 = .ok (.getfield 67, 3) := by decide +kernel
theorem dX10_choosePairs_37 : decode cX10_choosePairs 37 = .ok (.iconst 0, 1) := by decide +kernel
theorem dX10_choosePairs_38 : decode cX10_choosePairs 38 = .ok (.getstatic 61, 3) := by decide +kernel
theorem dX10_choosePairs_41 : decode cX10_choosePairs 41 = .ok (.iload_n 3, 1) := by decide +kernel
theorem dX10_choosePairs_42 : decode cX10_choosePairs 42 = .ok (.iaload, 1) := by decide +kernel
theorem dX10_choosePairs_43 : decode cX10_choosePairs 43 = .ok (.iastore, 1) := by decide +kernel
theorem dX10_choosePairs_44 : decode cX10_choosePairs 44 = .ok (.iconst 1, 1) := by decide +kernel
theorem dX10_choosePairs_45 : decode cX10_choosePairs 45 = .ok (.ireturn, 1) := by decide +kernel
theorem dX10_choosePairs_46 : decode cX10_choosePairs 46 = .ok (.iinc 3 1, 3) := by decide +kernel
theorem dX10_choosePairs_49 : decode cX10_choosePairs 49 = .ok (.goto (-37), 3) := by decide +kernel
theorem dX10_choosePairs_52 : decode cX10_choosePairs 52 = .ok (.iconst 0, 1) := by decide +kernel
theorem dX10_choosePairs_53 : decode cX10_choosePairs 53 = .ok (.istore_n 3, 1) := by decide +kernel
theorem dX10_choosePairs_54 : decode cX10_choosePairs 54 = .ok (.iload_n 3, 1) := by decide +kernel
theorem dX10_choosePairs_55 : decode cX10_choosePairs 55 = .ok (.getstatic 61, 3) := by decide +kernel
theorem dX10_choosePairs_58 : decode cX10_choosePairs 58 = .ok (.arraylength, 1) := by decide +kernel
theorem dX10_choosePairs_59 : decode cX10_choosePairs 59 = .ok (.if_icmp .ge 75, 3) := by decide +kernel
theorem dX10_choosePairs_62 : decode cX10_choosePairs 62 = .ok (.iload_n 3, 1) := by decide +kernel
theorem dX10_choosePairs_63 : decode cX10_choosePairs 63 = .ok (.iconst 1, 1) := by decide +kernel
theorem dX10_choosePairs_64 : decode cX10_choosePairs 64 = .ok (.iadd, 1) := by decide +kernel
theorem dX10_choosePairs_65 : decode cX10_choosePairs 65 = .ok (.istore 4, 2) := by decide +kernel
theorem dX10_choosePairs_67 : decode cX10_choosePairs 67 = .ok (.iload 4, 2) := by decide +kernel
theorem dX10_choosePairs_69 : decode cX10_choosePairs 69 = .ok (.getstatic 61, 3) := by decide +kernel
theorem dX10_choosePairs_72 : decode cX10_choosePairs 72 = .ok (.arraylength, 1) := by decide +kernel
theorem dX10_choosePairs_73 : decode cX10_choosePairs 73 = .ok (.if_icmp .ge 55, 3) := by decide +kernel
theorem dX10_choosePairs_76 : decode cX10_choosePairs 76 = .ok (.iload_n 2, 1) := by decide +kernel
theorem dX10_choosePairs_77 : decode cX10_choosePairs 77 = .ok (.aload_n 0, 1) := by decide +kernel
theorem dX10_choosePairs_78 : decode cX10_choosePairs 78 = .ok (.getfield 64, 3) := by decide +kernel
theorem dX10_choosePairs_81 : decode cX10_choosePairs 81 = .ok (.iload_n 3, 1) := by decide +kernel
theorem dX10_choosePairs_82 : decode cX10_choosePairs 82 = .ok (.iaload, 1) := by decide +kernel
theorem dX10_choosePairs_83 : decode cX10_choosePairs 83 = .ok (.aload_n 0, 1) := by decide +kernel
theorem dX10_choosePairs_84 : decode cX10_choosePairs 84 = .ok (.getfield 64, 3) := by decide +kernel
theorem dX10_choosePairs_87 : decode cX10_choosePairs 87 = .ok (.iload 4, 2) := by decide +kernel
theorem dX10_choosePairs_89 : decode cX10_choosePairs 89 = .ok (.iaload, 1) := by decide +kernel
theorem dX10_choosePairs_90 : decode cX10_choosePairs 90 = .ok (.ior, 1) := by decide +kernel
theorem dX10_choosePairs_91 : decode cX10_choosePairs 91 = .ok (.iconst (-1), 1) := by decide +kernel
theorem dX10_choosePairs_92 : decode cX10_choosePairs 92 = .ok (.ixor, 1) := by decide +kernel
theorem dX10_choosePairs_93 : decode cX10_choosePairs 93 = .ok (.iand, 1) := by decide +kernel
theorem dX10_choosePairs_94 : decode cX10_choosePairs 94 = .ok (.ifCond .ne 28, 3) := by decide +kernel
theorem dX10_choosePairs_97 : decode cX10_choosePairs 97 = .ok (.aload_n 0, 1) := by decide +kernel
theorem dX10_choosePairs_98 : decode cX10_choosePairs 98 = .ok (.getfield 67, 3) := by decide +kernel
theorem dX10_choosePairs_101 : decode cX10_choosePairs 101 = .ok (.iconst 0, 1) := by decide +kernel
theorem dX10_choosePairs_102 : decode cX10_choosePairs 102 = .ok (.getstatic 61, 3) := by decide +kernel
theorem dX10_choosePairs_105 : decode cX10_choosePairs 105 = .ok (.iload_n 3, 1) := by decide +kernel
theorem dX10_choosePairs_106 : decode cX10_choosePairs 106 = .ok (.iaload, 1) := by decide +kernel
theorem dX10_choosePairs_107 : decode cX10_choosePairs 107 = .ok (.iastore, 1) := by decide +kernel
theorem dX10_choosePairs_108 : decode cX10_choosePairs 108 = .ok (.aload_n 0, 1) := by decide +kernel
theorem dX10_choosePairs_109 : decode cX10_choosePairs 109 = .ok (.getfield 67, 3) := by decide +kernel
theorem dX10_choosePairs_112 : decode cX10_choosePairs 112 = .ok (.iconst 1, 1) := by decide +kernel
theorem dX10_choosePairs_113 : decode cX10_choosePairs 113 = .ok (.getstatic 61, 3) := by decide +kernel
theorem dX10_choosePairs_116 : decode cX10_choosePairs 116 = .ok (.iload 4, 2) := by decide +kernel
theorem dX10_choosePairs_118 : decode cX10_choosePairs 118 = .ok (.iaload, 1) := by decide +kernel
theorem dX10_choosePairs_119 : decode cX10_choosePairs 119 = .ok (.iastore, 1) := by decide +kernel
theorem dX10_choosePairs_120 : decode cX10_choosePairs 120 = .ok (.iconst 2, 1) := by decide +kernel
theorem dX10_choosePairs_121 : decode cX10_choosePairs 121 = .ok (.ireturn, 1) := by decide +kernel
theorem dX10_choosePairs_122 : decode cX10_choosePairs 122 = .ok (.iinc 4 1, 3) := by decide +kernel
theorem dX10_choosePairs_125 : decode cX10_choosePairs 125 = .ok (.goto (-58), 3) := by decide +kernel
theorem dX10_choosePairs_128 : decode cX10_choosePairs 128 = .ok (.iinc 3 1, 3) := by decide +kernel
theorem dX10_choosePairs_131 : decode cX10_choosePairs 131 = .ok (.goto (-77), 3) := by decide +kernel
theorem dX10_choosePairs_134 : decode cX10_choosePairs 134 = .ok (.iconst (-1), 1) := by decide +kernel
theorem dX10_choosePairs_135 : decode cX10_choosePairs 135 = .ok (.ireturn, 1) := by decide +kernel
set_option maxRecDepth 20000 in
theorem ggX10_fillSayableByPair_X9_copyFrom : GoodIn wsX10_fillSayableByPair wsX9_copyFrom := goodIn_r _ [9, 10, 11, 12, 13, 14, 15, 16, 17, 18, 19, 20, 21, 22, 23, 24, 25, 26, 27, 121, 122, 123, 124, 125, 126, 127, 128, 129, 130, 131, 132, 133, 134] (by decide +kernel) (by decide +kernel)
set_option maxRecDepth 20000 in
theorem gX10_fillSayableByPair_X9_copyFrom : GoodIn wsX10_fillSayableByPair (wsV RX10 129 RX9 yX9_copyFrom wsX9_copyFrom) := goodIn_app (goodIn_of _ (by decide +kernel)) ggX10_fillSayableByPair_X9_copyFrom
set_option maxRecDepth 20000 in
theorem ggX10_fillSayableByPair_X9_areAlike : GoodIn wsX10_fillSayableByPair wsX9_areAlike := goodIn_r _ [31, 18, 121, 122, 123, 124, 125, 126, 127, 128, 129, 130, 131, 132, 133, 134] (by decide +kernel) (by decide +kernel)
set_option maxRecDepth 20000 in
theorem gX10_fillSayableByPair_X9_areAlike : GoodIn wsX10_fillSayableByPair (wsV RX10 105 RX9 yX9_areAlike wsX9_areAlike) := goodIn_app (goodIn_of _ (by decide +kernel)) ggX10_fillSayableByPair_X9_areAlike
set_option maxRecDepth 20000 in
theorem ggX10_fillSayableByPair_X9_setAlike : GoodIn wsX10_fillSayableByPair wsX9_setAlike := goodIn_r _ [35, 18, 121, 122, 123, 124, 125, 126, 127, 128, 129, 130, 131, 132, 133, 134] (by decide +kernel) (by decide +kernel)
set_option maxRecDepth 20000 in
theorem gX10_fillSayableByPair_X9_setAlike : GoodIn wsX10_fillSayableByPair (wsV RX10 108 RX9 yX9_setAlike wsX9_setAlike) := goodIn_app (goodIn_of _ (by decide +kernel)) ggX10_fillSayableByPair_X9_setAlike
set_option maxRecDepth 20000 in
theorem ggX10_fillSayableByPair_X10_sayableByAnyWord : GoodIn wsX10_fillSayableByPair wsX10_sayableByAnyWord := goodIn_r _ [40, 41, 42, 43, 44, 45, 46, 47, 48, 49, 50, 51, 52, 53, 54, 55, 56, 57, 58, 59, 60, 61, 62, 63, 64, 65, 66, 67, 68, 69, 8, 70, 17, 10, 71, 72, 73, 74, 75, 15, 76, 77, 78, 79, 80, 81, 82, 83, 84, 85, 86, 87, 88, 89, 90, 91, 92, 93, 94, 95, 96, 97, 98, 99, 100, 101, 102, 103, 104, 105, 106, 107, 108, 109, 110, 111, 112, 113, 114, 115, 116, 117, 118, 119, 120, 121, 122, 123, 124, 125, 126, 127, 128, 129, 130, 131, 132, 133, 134] (by decide +kernel) (by decide +kernel)
set_option maxRecDepth 20000 in
theorem gX10_fillSayableByPair_X10_sayableByAnyWord : GoodIn wsX10_fillSayableByPair (wsV RX10 243 RX10 yX10_sayableByAnyWord wsX10_sayableByAnyWord) := goodIn_app (goodIn_of _ (by decide +kernel)) ggX10_fillSayableByPair_X10_sayableByAnyWord
theorem dX10_fillSayableByPair_0 : decode cX10_fillSayableByPair 0 = .ok (.aload_n 0, 1) := by decide +kernel
theorem dX10_fillSayableByPair_1 : decode cX10_fillSayableByPair 1 = .ok (.getfield 16, 3) := by decide +kernel
theorem dX10_fillSayableByPair_4 : decode cX10_fillSayableByPair 4 = .ok (.aload_n 0, 1) := by decide +kernel
theorem dX10_fillSayableByPair_5 : decode cX10_fillSayableByPair 5 = .ok (.getfield 12, 3) := by decide +kernel
theorem dX10_fillSayableByPair_8 : decode cX10_fillSayableByPair 8 = .ok (.invokevirtual 129, 3) := by decide +kernel
theorem dX10_fillSayableByPair_11 : decode cX10_fillSayableByPair 11 = .ok (.iconst 0, 1) := by decide +kernel
theorem dX10_fillSayableByPair_12 : decode cX10_fillSayableByPair 12 = .ok (.istore_n 2, 1) := by decide +kernel
theorem dX10_fillSayableByPair_13 : decode cX10_fillSayableByPair 13 = .ok (.iload_n 2, 1) := by decide +kernel
theorem dX10_fillSayableByPair_14 : decode cX10_fillSayableByPair 14 = .ok (.getstatic 61, 3) := by decide +kernel
theorem dX10_fillSayableByPair_17 : decode cX10_fillSayableByPair 17 = .ok (.arraylength, 1) := by decide +kernel
theorem dX10_fillSayableByPair_18 : decode cX10_fillSayableByPair 18 = .ok (.if_icmp .ge 78, 3) := by decide +kernel
theorem dX10_fillSayableByPair_21 : decode cX10_fillSayableByPair 21 = .ok (.getstatic 61, 3) := by decide +kernel
theorem dX10_fillSayableByPair_24 : decode cX10_fillSayableByPair 24 = .ok (.iload_n 2, 1) := by decide +kernel
theorem dX10_fillSayableByPair_25 : decode cX10_fillSayableByPair 25 = .ok (.iaload, 1) := by decide +kernel
theorem dX10_fillSayableByPair_26 : decode cX10_fillSayableByPair 26 = .ok (.bipush 10, 2) := by decide +kernel
theorem dX10_fillSayableByPair_28 : decode cX10_fillSayableByPair 28 = .ok (.idiv, 1) := by decide +kernel
theorem dX10_fillSayableByPair_29 : decode cX10_fillSayableByPair 29 = .ok (.istore_n 3, 1) := by decide +kernel
theorem dX10_fillSayableByPair_30 : decode cX10_fillSayableByPair 30 = .ok (.getstatic 61, 3) := by decide +kernel
theorem dX10_fillSayableByPair_33 : decode cX10_fillSayableByPair 33 = .ok (.iload_n 2, 1) := by decide +kernel
theorem dX10_fillSayableByPair_34 : decode cX10_fillSayableByPair 34 = .ok (.iaload, 1) := by decide +kernel
theorem dX10_fillSayableByPair_35 : decode cX10_fillSayableByPair 35 = .ok (.bipush 10, 2) := by decide +kernel
theorem dX10_fillSayableByPair_37 : decode cX10_fillSayableByPair 37 = .ok (.irem, 1) := by decide +kernel
theorem dX10_fillSayableByPair_38 : decode cX10_fillSayableByPair 38 = .ok (.istore 4, 2) := by decide +kernel
theorem dX10_fillSayableByPair_40 : decode cX10_fillSayableByPair 40 = .ok (.aload_n 0, 1) := by decide +kernel
theorem dX10_fillSayableByPair_41 : decode cX10_fillSayableByPair 41 = .ok (.getfield 16, 3) := by decide +kernel
theorem dX10_fillSayableByPair_44 : decode cX10_fillSayableByPair 44 = .ok (.iload_n 3, 1) := by decide +kernel
theorem dX10_fillSayableByPair_45 : decode cX10_fillSayableByPair 45 = .ok (.iload 4, 2) := by decide +kernel
theorem dX10_fillSayableByPair_47 : decode cX10_fillSayableByPair 47 = .ok (.invokevirtual 105, 3) := by decide +kernel
theorem dX10_fillSayableByPair_50 : decode cX10_fillSayableByPair 50 = .ok (.istore 5, 2) := by decide +kernel
theorem dX10_fillSayableByPair_52 : decode cX10_fillSayableByPair 52 = .ok (.aload_n 0, 1) := by decide +kernel
theorem dX10_fillSayableByPair_53 : decode cX10_fillSayableByPair 53 = .ok (.getfield 16, 3) := by decide +kernel
theorem dX10_fillSayableByPair_56 : decode cX10_fillSayableByPair 56 = .ok (.iload_n 3, 1) := by decide +kernel
theorem dX10_fillSayableByPair_57 : decode cX10_fillSayableByPair 57 = .ok (.iload 4, 2) := by decide +kernel
theorem dX10_fillSayableByPair_59 : decode cX10_fillSayableByPair 59 = .ok (.iconst 1, 1) := by decide +kernel
theorem dX10_fillSayableByPair_60 : decode cX10_fillSayableByPair 60 = .ok (.invokevirtual 108, 3) := by decide +kernel
theorem dX10_fillSayableByPair_63 : decode cX10_fillSayableByPair 63 = .ok (.aload_n 0, 1) := by decide +kernel
theorem dX10_fillSayableByPair_64 : decode cX10_fillSayableByPair 64 = .ok (.getfield 64, 3) := by decide +kernel
theorem dX10_fillSayableByPair_67 : decode cX10_fillSayableByPair 67 = .ok (.iload_n 2, 1) := by decide +kernel
theorem dX10_fillSayableByPair_68 : decode cX10_fillSayableByPair 68 = .ok (.aload_n 0, 1) := by decide +kernel
theorem dX10_fillSayableByPair_69 : decode cX10_fillSayableByPair 69 = .ok (.aload_n 0, 1) := by decide +kernel
theorem dX10_fillSayableByPair_70 : decode cX10_fillSayableByPair 70 = .ok (.getfield 16, 3) := by decide +kernel
theorem dX10_fillSayableByPair_73 : decode cX10_fillSayableByPair 73 = .ok (.iload_n 1, 1) := by decide +kernel
theorem dX10_fillSayableByPair_74 : decode cX10_fillSayableByPair 74 = .ok (.invokevirtual 243, 3) := by decide +kernel
theorem dX10_fillSayableByPair_77 : decode cX10_fillSayableByPair 77 = .ok (.iastore, 1) := by decide +kernel
theorem dX10_fillSayableByPair_78 : decode cX10_fillSayableByPair 78 = .ok (.aload_n 0, 1) := by decide +kernel
theorem dX10_fillSayableByPair_79 : decode cX10_fillSayableByPair 79 = .ok (.getfield 16, 3) := by decide +kernel
theorem dX10_fillSayableByPair_82 : decode cX10_fillSayableByPair 82 = .ok (.iload_n 3, 1) := by decide +kernel
theorem dX10_fillSayableByPair_83 : decode cX10_fillSayableByPair 83 = .ok (.iload 4, 2) := by decide +kernel
theorem dX10_fillSayableByPair_85 : decode cX10_fillSayableByPair 85 = .ok (.iload 5, 2) := by decide +kernel
theorem dX10_fillSayableByPair_87 : decode cX10_fillSayableByPair 87 = .ok (.invokevirtual 108, 3) := by decide +kernel
theorem dX10_fillSayableByPair_90 : decode cX10_fillSayableByPair 90 = .ok (.iinc 2 1, 3) := by decide +kernel
theorem dX10_fillSayableByPair_93 : decode cX10_fillSayableByPair 93 = .ok (.goto (-80), 3) := by decide +kernel
theorem dX10_fillSayableByPair_96 : decode cX10_fillSayableByPair 96 = .ok (.return_, 1) := by decide +kernel
theorem dX10_setFraction_0 : decode cX10_setFraction 0 = .ok (.aload_n 0, 1) := by decide +kernel
theorem dX10_setFraction_1 : decode cX10_setFraction 1 = .ok (.iload_n 1, 1) := by decide +kernel
theorem dX10_setFraction_2 : decode cX10_setFraction 2 = .ok (.i2l, 1) := by decide +kernel
theorem dX10_setFraction_3 : decode cX10_setFraction 3 = .ok (.putfield 265, 3) := by decide +kernel
theorem dX10_setFraction_6 : decode cX10_setFraction 6 = .ok (.aload_n 0, 1) := by decide +kernel
theorem dX10_setFraction_7 : decode cX10_setFraction 7 = .ok (.ldc2_w 312, 3) := by decide +kernel
theorem dX10_setFraction_10 : decode cX10_setFraction 10 = .ok (.putfield 50, 3) := by decide +kernel
theorem dX10_setFraction_13 : decode cX10_setFraction 13 = .ok (.bipush 10, 2) := by decide +kernel
theorem dX10_setFraction_15 : decode cX10_setFraction 15 = .ok (.istore_n 2, 1) := by decide +kernel
theorem dX10_setFraction_16 : decode cX10_setFraction 16 = .ok (.iload_n 2, 1) := by decide +kernel
theorem dX10_setFraction_17 : decode cX10_setFraction 17 = .ok (.iconst 1, 1) := by decide +kernel
theorem dX10_setFraction_18 : decode cX10_setFraction 18 = .ok (.if_icmp .le 55, 3) := by decide +kernel
theorem dX10_setFraction_21 : decode cX10_setFraction 21 = .ok (.aload_n 0, 1) := by decide +kernel
theorem dX10_setFraction_22 : decode cX10_setFraction 22 = .ok (.getfield 265, 3) := by decide +kernel
theorem dX10_setFraction_25 : decode cX10_setFraction 25 = .ok (.iload_n 2, 1) := by decide +kernel
theorem dX10_setFraction_26 : decode cX10_setFraction 26 = .ok (.i2l, 1) := by decide +kernel
theorem dX10_setFraction_27 : decode cX10_setFraction 27 = .ok (.lrem, 1) := by decide +kernel
theorem dX10_setFraction_28 : decode cX10_setFraction 28 = .ok (.lconst 0, 1) := by decide +kernel
theorem dX10_setFraction_29 : decode cX10_setFraction 29 = .ok (.lcmp, 1) := by decide +kernel
theorem dX10_setFraction_30 : decode cX10_setFraction 30 = .ok (.ifCond .ne 37, 3) := by decide +kernel
theorem dX10_setFraction_33 : decode cX10_setFraction 33 = .ok (.aload_n 0, 1) := by decide +kernel
theorem dX10_setFraction_34 : decode cX10_setFraction 34 = .ok (.getfield 50, 3) := by decide +kernel
theorem dX10_setFraction_37 : decode cX10_setFraction 37 = .ok (.iload_n 2, 1) := by decide +kernel
theorem dX10_setFraction_38 : decode cX10_setFraction 38 = .ok (.i2l, 1) := by decide +kernel
theorem dX10_setFraction_39 : decode cX10_setFraction 39 = .ok (.lrem, 1) := by decide +kernel
theorem dX10_setFraction_40 : decode cX10_setFraction 40 = .ok (.lconst 0, 1) := by decide +kernel
theorem dX10_setFraction_41 : decode cX10_setFraction 41 = .ok (.lcmp, 1) := by decide +kernel
theorem dX10_setFraction_42 : decode cX10_setFraction 42 = .ok (.ifCond .ne 25, 3) := by decide +kernel
theorem dX10_setFraction_45 : decode cX10_setFraction 45 = .ok (.aload_n 0, 1) := by decide +kernel
theorem dX10_setFraction_46 : decode cX10_setFraction 46 = .ok (.dup, 1) := by decide +kernel
theorem dX10_setFraction_47 : decode cX10_setFraction 47 = .ok (.getfield 265, 3) := by decide +kernel
theorem dX10_setFraction_50 : decode cX10_setFraction 50 = .ok (.iload_n 2, 1) := by decide +kernel
theorem dX10_setFraction_51 : decode cX10_setFraction 51 = .ok (.i2l, 1) := by decide +kernel
theorem dX10_setFraction_52 : decode cX10_setFraction 52 = .ok (.ldiv, 1) := by decide +kernel
theorem dX10_setFraction_53 : decode cX10_setFraction 53 = .ok (.putfield 265, 3) := by decide +kernel
theorem dX10_setFraction_56 : decode cX10_setFraction 56 = .ok (.aload_n 0, 1) := by decide +kernel
theorem dX10_setFraction_57 : decode cX10_setFraction 57 = .ok (.dup, 1) := by decide +kernel
theorem dX10_setFraction_58 : decode cX10_setFraction 58 = .ok (.getfield 50, 3) := by decide +kernel
theorem dX10_setFraction_61 : decode cX10_setFraction 61 = .ok (.iload_n 2, 1) := by decide +kernel
theorem dX10_setFraction_62 : decode cX10_setFraction 62 = .ok (.i2l, 1) := by decide +kernel
theorem dX10_setFraction_63 : decode cX10_setFraction 63 = .ok (.ldiv, 1) := by decide +kernel
theorem dX10_setFraction_64 : decode cX10_setFraction 64 = .ok (.putfield 50, 3) := by decide +kernel
theorem dX10_setFraction_67 : decode cX10_setFraction 67 = .ok (.iinc 2 (-1), 3) := by decide +kernel
theorem dX10_setFraction_70 : decode cX10_setFraction 70 = .ok (.goto (-54), 3) := by decide +kernel
theorem dX10_setFraction_73 : decode cX10_setFraction 73 = .ok (.return_, 1) := by decide +kernel
theorem dX11_init_0 : decode cX11_init 0 = .ok (.aload_n 0, 1) := by decide +kernel
theorem dX11_init_1 : decode cX11_init 1 = .ok (.invokespecial 1, 3) := by decide +kernel
theorem dX11_init_4 : decode cX11_init 4 = .ok (.aload_n 0, 1) := by decide +kernel
theorem dX11_init_5 : decode cX11_init 5 = .ok (.iconst 3, 1) := by decide +kernel
theorem dX11_init_6 : decode cX11_init 6 = .ok (.newarray .int, 2) := by decide +kernel
theorem dX11_init_8 : decode cX11_init 8 = .ok (.putfield 7, 3) := by decide +kernel
theorem dX11_init_11 : decode cX11_init 11 = .ok (.aload_n 0, 1) := by decide +kernel
theorem dX11_init_12 : decode cX11_init 12 = .ok (.bipush 73, 2) := by decide +kernel
theorem dX11_init_14 : decode cX11_init 14 = .ok (.newarray .int, 2) := by decide +kernel
theorem dX11_init_16 : decode cX11_init 16 = .ok (.putfield 13, 3) := by decide +kernel
theorem dX11_init_19 : decode cX11_init 19 = .ok (.aload_n 0, 1) := by decide +kernel
theorem dX11_init_20 : decode cX11_init 20 = .ok (.bipush 73, 2) := by decide +kernel
theorem dX11_init_22 : decode cX11_init 22 = .ok (.newarray .int, 2) := by decide +kernel
theorem dX11_init_24 : decode cX11_init 24 = .ok (.putfield 16, 3) := by decide +kernel
theorem dX11_init_27 : decode cX11_init 27 = .ok (.aload_n 0, 1) := by decide +kernel
theorem dX11_init_28 : decode cX11_init 28 = .ok (.sipush 146, 3) := by decide +kernel
theorem dX11_init_31 : decode cX11_init 31 = .ok (.newarray .int, 2) := by decide +kernel
theorem dX11_init_33 : decode cX11_init 33 = .ok (.putfield 19, 3) := by decide +kernel
theorem dX11_init_36 : decode cX11_init 36 = .ok (.aload_n 0, 1) := by decide +kernel
theorem dX11_init_37 : decode cX11_init 37 = .ok (.iconst 2, 1) := by decide +kernel
theorem dX11_init_38 : decode cX11_init 38 = .ok (.newarray .boolean, 2) := by decide +kernel
theorem dX11_init_40 : decode cX11_init 40 = .ok (.putfield 22, 3) := by decide +kernel
theorem dX11_init_43 : decode cX11_init 43 = .ok (.aload_n 0, 1) := by decide +kernel
theorem dX11_init_44 : decode cX11_init 44 = .ok (.sipush 150, 3) := by decide +kernel
theorem dX11_init_47 : decode cX11_init 47 = .ok (.newarray .int, 2) := by decide +kernel
theorem dX11_init_49 : decode cX11_init 49 = .ok (.putfield 26, 3) := by decide +kernel
theorem dX11_init_52 : decode cX11_init 52 = .ok (.aload_n 0, 1) := by decide +kernel
theorem dX11_init_53 : decode cX11_init 53 = .ok (.bipush 10, 2) := by decide +kernel
theorem dX11_init_55 : decode cX11_init 55 = .ok (.newarray .int, 2) := by decide +kernel
theorem dX11_init_57 : decode cX11_init 57 = .ok (.putfield 29, 3) := by decide +kernel
theorem dX11_init_60 : decode cX11_init 60 = .ok (.aload_n 0, 1) := by decide +kernel
theorem dX11_init_61 : decode cX11_init 61 = .ok (.sipush 20480, 3) := by decide +kernel
theorem dX11_init_64 : decode cX11_init 64 = .ok (.newarray .int, 2) := by decide +kernel
theorem dX11_init_66 : decode cX11_init 66 = .ok (.putfield 32, 3) := by decide +kernel
theorem dX11_init_69 : decode cX11_init 69 = .ok (.aload_n 0, 1) := by decide +kernel
theorem dX11_init_70 : decode cX11_init 70 = .ok (.lconst 1, 1) := by decide +kernel
theorem dX11_init_71 : decode cX11_init 71 = .ok (.putfield 35, 3) := by decide +kernel
theorem dX11_init_74 : decode cX11_init 74 = .ok (.return_, 1) := by decide +kernel
theorem dX11_in_0 : decode cX11_in 0 = .ok (.lload_n 0, 1) := by decide +kernel
theorem dX11_in_1 : decode cX11_in 1 = .ok (.lload_n 2, 1) := by decide +kernel
theorem dX11_in_2 : decode cX11_in 2 = .ok (.lcmp, 1) := by decide +kernel
theorem dX11_in_3 : decode cX11_in 3 = .ok (.ifCond .lt 14, 3) := by decide +kernel
theorem dX11_in_6 : decode cX11_in 6 = .ok (.lload_n 0, 1) := by decide +kernel
theorem dX11_in_7 : decode cX11_in 7 = .ok (.lload 4, 2) := by decide +kernel
theorem dX11_in_9 : decode cX11_in 9 = .ok (.lcmp, 1) := by decide +kernel
theorem dX11_in_10 : decode cX11_in 10 = .ok (.ifCond .gt 7, 3) := by decide +kernel
theorem dX11_in_13 : decode cX11_in 13 = .ok (.iconst 1, 1) := by decide +kernel
theorem dX11_in_14 : decode cX11_in 14 = .ok (.goto 4, 3) := by decide +kernel
theorem dX11_in_17 : decode cX11_in 17 = .ok (.iconst 0, 1) := by decide +kernel
theorem dX11_in_18 : decode cX11_in 18 = .ok (.ireturn, 1) := by decide +kernel
theorem dX11_has_0 : decode cX11_has 0 = .ok (.iload_n 0, 1) := by decide +kernel
theorem dX11_has_1 : decode cX11_has 1 = .ok (.iload_n 1, 1) := by decide +kernel
theorem dX11_has_2 : decode cX11_has 2 = .ok (.ishr, 1) := by decide +kernel
theorem dX11_has_3 : decode cX11_has 3 = .ok (.iconst 1, 1) := by decide +kernel
theorem dX11_has_4 : decode cX11_has 4 = .ok (.iand, 1) := by decide +kernel
theorem dX11_has_5 : decode cX11_has 5 = .ok (.iconst 1, 1) := by decide +kernel
theorem dX11_has_6 : decode cX11_has 6 = .ok (.if_icmp .ne 7, 3) := by decide +kernel
theorem dX11_has_9 : decode cX11_has 9 = .ok (.iconst 1, 1) := by decide +kernel
theorem dX11_has_10 : decode cX11_has 10 = .ok (.goto 4, 3) := by decide +kernel
theorem dX11_has_13 : decode cX11_has 13 = .ok (.iconst 0, 1) := by decide +kernel
theorem dX11_has_14 : decode cX11_has 14 = .ok (.ireturn, 1) := by decide +kernel
theorem dX11_bits_0 : decode cX11_bits 0 = .ok (.iconst 0, 1) := by decide +kernel
theorem dX11_bits_1 : decode cX11_bits 1 = .ok (.istore_n 1, 1) := by decide +kernel
theorem dX11_bits_2 : decode cX11_bits 2 = .ok (.iconst 0, 1) := by decide +kernel
theorem dX11_bits_3 : decode cX11_bits 3 = .ok (.istore_n 2, 1) := by decide +kernel
theorem dX11_bits_4 : decode cX11_bits 4 = .ok (.iload_n 2, 1) := by decide +kernel
theorem dX11_bits_5 : decode cX11_bits 5 = .ok (.bipush 10, 2) := by decide +kernel
theorem dX11_bits_7 : decode cX11_bits 7 = .ok (.if_icmp .ge 17, 3) := by decide +kernel
theorem dX11_bits_10 : decode cX11_bits 10 = .ok (.iload_n 1, 1) := by decide +kernel
theorem dX11_bits_11 : decode cX11_bits 11 = .ok (.iload_n 0, 1) := by decide +kernel
theorem dX11_bits_12 : decode cX11_bits 12 = .ok (.iload_n 2, 1) := by decide +kernel
theorem dX11_bits_13 : decode cX11_bits 13 = .ok (.ishr, 1) := by decide +kernel
theorem dX11_bits_14 : decode cX11_bits 14 = .ok (.iconst 1, 1) := by decide +kernel
theorem dX11_bits_15 : decode cX11_bits 15 = .ok (.iand, 1) := by decide +kernel
theorem dX11_bits_16 : decode cX11_bits 16 = .ok (.iadd, 1) := by decide +kernel
theorem dX11_bits_17 : decode cX11_bits 17 = .ok (.istore_n 1, 1) := by decide +kernel
