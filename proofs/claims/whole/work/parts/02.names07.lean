theorem dX10_person_12 : decode cX10_person 12 = .ok (.invokestatic 93, 3) := by decide +kernel
theorem dX10_person_15 : decode cX10_person 15 = .ok (.ifCond .ne 10, 3) := by decide +kernel
theorem dX10_person_18 : decode cX10_person 18 = .ok (.aload_n 0, 1) := by decide +kernel
theorem dX10_person_19 : decode cX10_person 19 = .ok (.bipush (-2), 2) := by decide +kernel
theorem dX10_person_21 : decode cX10_person 21 = .ok (.invokevirtual 97, 3) := by decide +kernel
theorem dX10_person_24 : decode cX10_person 24 = .ok (.ireturn, 1) := by decide +kernel
theorem dX10_person_25 : decode cX10_person 25 = .ok (.aload_n 0, 1) := by decide +kernel
theorem dX10_person_26 : decode cX10_person 26 = .ok (.getfield 12, 3) := by decide +kernel
theorem dX10_person_29 : decode cX10_person 29 = .ok (.getfield 112, 3) := by decide +kernel
theorem dX10_person_32 : decode cX10_person 32 = .ok (.iconst 5, 1) := by decide +kernel
theorem dX10_person_33 : decode cX10_person 33 = .ok (.if_icmp .lt 10, 3) := by decide +kernel
theorem dX10_person_36 : decode cX10_person 36 = .ok (.aload_n 0, 1) := by decide +kernel
theorem dX10_person_37 : decode cX10_person 37 = .ok (.bipush (-4), 2) := by decide +kernel
theorem dX10_person_39 : decode cX10_person 39 = .ok (.invokevirtual 97, 3) := by decide +kernel
theorem dX10_person_42 : decode cX10_person 42 = .ok (.ireturn, 1) := by decide +kernel
theorem dX10_person_43 : decode cX10_person 43 = .ok (.aload_n 0, 1) := by decide +kernel
theorem dX10_person_44 : decode cX10_person 44 = .ok (.getfield 12, 3) := by decide +kernel
theorem dX10_person_47 : decode cX10_person 47 = .ok (.iload_n 1, 1) := by decide +kernel
theorem dX10_person_48 : decode cX10_person 48 = .ok (.iload_n 2, 1) := by decide +kernel
theorem dX10_person_49 : decode cX10_person 49 = .ok (.invokevirtual 115, 3) := by decide +kernel
theorem dX10_person_52 : decode cX10_person 52 = .ok (.ireturn, 1) := by decide +kernel
set_option maxRecDepth 20000 in
theorem ggX10_type_X10_fits : GoodIn wsX10_type wsX10_fits := goodIn_r _ [6] (by decide +kernel) (by decide +kernel)
set_option maxRecDepth 20000 in
theorem gX10_type_X10_fits : GoodIn wsX10_type (va_wsS RX10 93 yX10_fits wsX10_fits) := goodIn_app (goodIn_of _ (by decide +kernel)) ggX10_type_X10_fits
set_option maxRecDepth 20000 in
theorem ggX10_type_X10_refuse : GoodIn wsX10_type wsX10_refuse := goodIn_r _ [10, 11, 12, 13, 21, 22, 23, 24, 25, 26, 27, 28, 29, 30, 31, 32, 33, 34, 35, 36, 37] (by decide +kernel) (by decide +kernel)
set_option maxRecDepth 20000 in
theorem gX10_type_X10_refuse : GoodIn wsX10_type (wsV RX10 97 RX10 yX10_refuse wsX10_refuse) := goodIn_app (goodIn_of _ (by decide +kernel)) ggX10_type_X10_refuse
set_option maxRecDepth 20000 in
theorem ggX10_type_X6_put : GoodIn wsX10_type wsX6_put := goodIn_r _ [18, 19, 20, 38, 39, 40, 41, 42, 43, 44] (by decide +kernel) (by decide +kernel)
set_option maxRecDepth 20000 in
theorem gX10_type_X6_put : GoodIn wsX10_type (wsV RX10 122 RX6 yX6_put wsX6_put) := goodIn_app (goodIn_of _ (by decide +kernel)) ggX10_type_X6_put
theorem dX10_type_0 : decode cX10_type 0 = .ok (.iload_n 1, 1) := by decide +kernel
theorem dX10_type_1 : decode cX10_type 1 = .ok (.sipush 128, 3) := by decide +kernel
theorem dX10_type_4 : decode cX10_type 4 = .ok (.invokestatic 93, 3) := by decide +kernel
theorem dX10_type_7 : decode cX10_type 7 = .ok (.ifCond .ne 10, 3) := by decide +kernel
theorem dX10_type_10 : decode cX10_type 10 = .ok (.aload_n 0, 1) := by decide +kernel
theorem dX10_type_11 : decode cX10_type 11 = .ok (.bipush (-2), 2) := by decide +kernel
theorem dX10_type_13 : decode cX10_type 13 = .ok (.invokevirtual 97, 3) := by decide +kernel
theorem dX10_type_16 : decode cX10_type 16 = .ok (.ireturn, 1) := by decide +kernel
theorem dX10_type_17 : decode cX10_type 17 = .ok (.aload_n 0, 1) := by decide +kernel
theorem dX10_type_18 : decode cX10_type 18 = .ok (.getfield 32, 3) := by decide +kernel
theorem dX10_type_21 : decode cX10_type 21 = .ok (.getfield 119, 3) := by decide +kernel
theorem dX10_type_24 : decode cX10_type 24 = .ok (.sipush 150, 3) := by decide +kernel
theorem dX10_type_27 : decode cX10_type 27 = .ok (.if_icmp .lt 10, 3) := by decide +kernel
theorem dX10_type_30 : decode cX10_type 30 = .ok (.aload_n 0, 1) := by decide +kernel
theorem dX10_type_31 : decode cX10_type 31 = .ok (.bipush (-4), 2) := by decide +kernel
theorem dX10_type_33 : decode cX10_type 33 = .ok (.invokevirtual 97, 3) := by decide +kernel
theorem dX10_type_36 : decode cX10_type 36 = .ok (.ireturn, 1) := by decide +kernel
theorem dX10_type_37 : decode cX10_type 37 = .ok (.aload_n 0, 1) := by decide +kernel
theorem dX10_type_38 : decode cX10_type 38 = .ok (.getfield 32, 3) := by decide +kernel
theorem dX10_type_41 : decode cX10_type 41 = .ok (.iload_n 1, 1) := by decide +kernel
theorem dX10_type_42 : decode cX10_type 42 = .ok (.invokevirtual 122, 3) := by decide +kernel
theorem dX10_type_45 : decode cX10_type 45 = .ok (.ireturn, 1) := by decide +kernel
theorem dX10_clear_0 : decode cX10_clear 0 = .ok (.aload_n 0, 1) := by decide +kernel
theorem dX10_clear_1 : decode cX10_clear 1 = .ok (.getfield 32, 3) := by decide +kernel
theorem dX10_clear_4 : decode cX10_clear 4 = .ok (.getfield 119, 3) := by decide +kernel
theorem dX10_clear_7 : decode cX10_clear 7 = .ok (.istore_n 1, 1) := by decide +kernel
theorem dX10_clear_8 : decode cX10_clear 8 = .ok (.aload_n 0, 1) := by decide +kernel
theorem dX10_clear_9 : decode cX10_clear 9 = .ok (.getfield 32, 3) := by decide +kernel
theorem dX10_clear_12 : decode cX10_clear 12 = .ok (.iconst 0, 1) := by decide +kernel
theorem dX10_clear_13 : decode cX10_clear 13 = .ok (.putfield 119, 3) := by decide +kernel
theorem dX10_clear_16 : decode cX10_clear 16 = .ok (.iload_n 1, 1) := by decide +kernel
theorem dX10_clear_17 : decode cX10_clear 17 = .ok (.ireturn, 1) := by decide +kernel
set_option maxRecDepth 20000 in
theorem ggX10_read_X6_parseInto : GoodIn wsX10_read wsX6_parseInto := goodIn_r _ [9, 10, 11, 12, 13, 14, 15, 16, 17, 18, 19, 20, 21, 22, 23, 24, 25, 26, 27, 8, 28, 29, 30, 31, 32, 33, 34, 35, 36, 37, 38, 39, 40, 41, 42, 43, 44, 45, 46, 47, 48, 49, 50, 51, 52, 53, 54, 55, 56, 57, 58, 59, 60, 61, 62, 63, 64, 65, 66, 67, 68, 69, 70, 71, 72, 73, 74, 75, 76, 77, 78, 79, 80, 81, 82, 83, 84, 85, 86, 87, 88, 89, 90, 91, 92, 93, 94, 95, 96, 97, 98, 99, 100, 101, 102, 103, 104, 105, 106, 107, 108, 109, 110, 111, 112, 113, 114, 115, 116, 117, 118, 119, 120, 121, 122, 123, 124, 125, 126, 127, 128, 129, 130, 131, 132, 133, 134, 163, 164, 165, 166, 167, 168, 169, 170, 171, 172, 173, 174, 175, 176, 177, 178, 179, 180, 181, 182, 183] (by decide +kernel) (by decide +kernel)
set_option maxRecDepth 20000 in
theorem gX10_read_X6_parseInto : GoodIn wsX10_read (wsV RX10 125 RX6 yX6_parseInto wsX6_parseInto) := goodIn_app (goodIn_of _ (by decide +kernel)) ggX10_read_X6_parseInto
set_option maxRecDepth 20000 in
theorem ggX10_read_X9_copyFrom : GoodIn wsX10_read wsX9_copyFrom := goodIn_r _ [138, 114, 139, 140, 141, 142, 115, 116, 19, 24, 133, 134, 20, 21, 143, 22, 144, 145, 23, 170, 171, 172, 173, 174, 175, 176, 177, 178, 179, 180, 181, 182, 183] (by decide +kernel) (by decide +kernel)
set_option maxRecDepth 20000 in
theorem gX10_read_X9_copyFrom : GoodIn wsX10_read (wsV RX10 129 RX9 yX9_copyFrom wsX9_copyFrom) := goodIn_app (goodIn_of _ (by decide +kernel)) ggX10_read_X9_copyFrom
theorem dX10_read_0 : decode cX10_read 0 = .ok (.aload_n 0, 1) := by decide +kernel
theorem dX10_read_1 : decode cX10_read 1 = .ok (.getfield 32, 3) := by decide +kernel
theorem dX10_read_4 : decode cX10_read 4 = .ok (.aload_n 0, 1) := by decide +kernel
theorem dX10_read_5 : decode cX10_read 5 = .ok (.getfield 16, 3) := by decide +kernel
theorem dX10_read_8 : decode cX10_read 8 = .ok (.invokevirtual 125, 3) := by decide +kernel
theorem dX10_read_11 : decode cX10_read 11 = .ok (.istore_n 1, 1) := by decide +kernel
theorem dX10_read_12 : decode cX10_read 12 = .ok (.iload_n 1, 1) := by decide +kernel
theorem dX10_read_13 : decode cX10_read 13 = .ok (.iconst (-1), 1) := by decide +kernel
theorem dX10_read_14 : decode cX10_read 14 = .ok (.if_icmp .eq 8, 3) := by decide +kernel
theorem dX10_read_17 : decode cX10_read 17 = .ok (.bipush (-10), 2) := by decide +kernel
theorem dX10_read_19 : decode cX10_read 19 = .ok (.iload_n 1, 1) := by decide +kernel
theorem dX10_read_20 : decode cX10_read 20 = .ok (.isub, 1) := by decide +kernel
theorem dX10_read_21 : decode cX10_read 21 = .ok (.ireturn, 1) := by decide +kernel
theorem dX10_read_22 : decode cX10_read 22 = .ok (.aload_n 0, 1) := by decide +kernel
theorem dX10_read_23 : decode cX10_read 23 = .ok (.getfield 12, 3) := by decide +kernel
theorem dX10_read_26 : decode cX10_read 26 = .ok (.aload_n 0, 1) := by decide +kernel
theorem dX10_read_27 : decode cX10_read 27 = .ok (.getfield 16, 3) := by decide +kernel
theorem dX10_read_30 : decode cX10_read 30 = .ok (.invokevirtual 129, 3) := by decide +kernel
theorem dX10_read_33 : decode cX10_read 33 = .ok (.aload_n 0, 1) := by decide +kernel
theorem dX10_read_34 : decode cX10_read 34 = .ok (.getfield 32, 3) := by decide +kernel
theorem dX10_read_37 : decode cX10_read 37 = .ok (.getfield 133, 3) := by decide +kernel
theorem dX10_read_40 : decode cX10_read 40 = .ok (.ireturn, 1) := by decide +kernel
set_option maxRecDepth 20000 in
theorem ggX10_ask_X10_isPerson : GoodIn wsX10_ask wsX10_isPerson := goodIn_r _ [7, 1, 8, 9, 10, 6, 11, 101, 102, 103, 104, 105, 106, 107, 108, 109, 110, 111, 112, 113, 114, 115, 116, 117, 118, 119, 120, 121, 122, 123, 124, 125, 126, 127, 128, 129, 130, 131] (by decide +kernel) (by decide +kernel)
set_option maxRecDepth 20000 in
theorem gX10_ask_X10_isPerson : GoodIn wsX10_ask (wsV RX10 136 RX10 yX10_isPerson wsX10_isPerson) := goodIn_app (goodIn_of _ (by decide +kernel)) ggX10_ask_X10_isPerson
set_option maxRecDepth 20000 in
theorem ggX10_ask_X10_isWord : GoodIn wsX10_ask wsX10_isWord := goodIn_r _ [15, 1, 16, 9, 10, 6, 11, 101, 102, 103, 104, 105, 106, 107, 108, 109, 110, 111, 112, 113, 114, 115, 116, 117, 118, 119, 120, 121, 122, 123, 124, 125, 126, 127, 128, 129, 130, 131] (by decide +kernel) (by decide +kernel)
set_option maxRecDepth 20000 in
theorem gX10_ask_X10_isWord : GoodIn wsX10_ask (wsV RX10 140 RX10 yX10_isWord wsX10_isWord) := goodIn_app (goodIn_of _ (by decide +kernel)) ggX10_ask_X10_isWord
set_option maxRecDepth 20000 in
theorem ggX10_ask_X10_refuse : GoodIn wsX10_ask wsX10_refuse := goodIn_r _ [20, 21, 22, 23, 101, 102, 103, 104, 105, 106, 107, 108, 109, 110, 111, 112, 113, 114, 115, 116, 117] (by decide +kernel) (by decide +kernel)
set_option maxRecDepth 20000 in
theorem gX10_ask_X10_refuse : GoodIn wsX10_ask (wsV RX10 97 RX10 yX10_refuse wsX10_refuse) := goodIn_app (goodIn_of _ (by decide +kernel)) ggX10_ask_X10_refuse
set_option maxRecDepth 20000 in
theorem ggX10_ask_X10_answerBits : GoodIn wsX10_ask wsX10_answerBits := goodIn_r _ [27, 28, 1, 29, 30, 31, 32, 33, 34, 35, 36, 37, 38, 39, 40, 41, 42, 43, 44, 45, 46, 47, 48, 49, 50, 51, 52, 53, 54, 55, 56, 57, 58, 59, 60, 61, 62, 63, 64, 65, 66, 67, 68, 69, 70, 71, 72, 73, 74, 75, 76, 77, 78, 79, 80, 81, 82, 83, 84, 85, 86, 87, 88, 89, 101, 102, 103, 104, 105, 106, 107, 108, 109, 110, 111, 112, 113, 114, 115, 116, 117, 118, 119, 120, 121, 122, 123, 124, 125, 126, 127, 128, 129, 130, 131] (by decide +kernel) (by decide +kernel)
set_option maxRecDepth 20000 in
theorem gX10_ask_X10_answerBits : GoodIn wsX10_ask (wsV RX10 143 RX10 yX10_answerBits wsX10_answerBits) := goodIn_app (goodIn_of _ (by decide +kernel)) ggX10_ask_X10_answerBits
set_option maxRecDepth 20000 in
theorem ggX10_ask_X9_say : GoodIn wsX10_ask wsX9_say := goodIn_r _ [93, 94, 95, 96, 97, 98, 99, 100, 118, 119, 120, 121, 122, 123, 124, 125, 126, 127, 128, 129, 130, 131] (by decide +kernel) (by decide +kernel)
set_option maxRecDepth 20000 in
theorem gX10_ask_X9_say : GoodIn wsX10_ask (wsV RX10 146 RX9 yX9_say wsX9_say) := goodIn_app (goodIn_of _ (by decide +kernel)) ggX10_ask_X9_say
theorem dX10_ask_0 : decode cX10_ask 0 = .ok (.aload_n 0, 1) := by decide +kernel
theorem dX10_ask_1 : decode cX10_ask 1 = .ok (.iload_n 1, 1) := by decide +kernel
theorem dX10_ask_2 : decode cX10_ask 2 = .ok (.invokevirtual 136, 3) := by decide +kernel
theorem dX10_ask_5 : decode cX10_ask 5 = .ok (.ifCond .eq 19, 3) := by decide +kernel
theorem dX10_ask_8 : decode cX10_ask 8 = .ok (.aload_n 0, 1) := by decide +kernel
theorem dX10_ask_9 : decode cX10_ask 9 = .ok (.iload_n 2, 1) := by decide +kernel
theorem dX10_ask_10 : decode cX10_ask 10 = .ok (.invokevirtual 140, 3) := by decide +kernel
theorem dX10_ask_13 : decode cX10_ask 13 = .ok (.ifCond .eq 11, 3) := by decide +kernel
theorem dX10_ask_16 : decode cX10_ask 16 = .ok (.aload_n 0, 1) := by decide +kernel
theorem dX10_ask_17 : decode cX10_ask 17 = .ok (.iload_n 3, 1) := by decide +kernel
theorem dX10_ask_18 : decode cX10_ask 18 = .ok (.invokevirtual 140, 3) := by decide +kernel
theorem dX10_ask_21 : decode cX10_ask 21 = .ok (.ifCond .ne 10, 3) := by decide +kernel
theorem dX10_ask_24 : decode cX10_ask 24 = .ok (.aload_n 0, 1) := by decide +kernel
theorem dX10_ask_25 : decode cX10_ask 25 = .ok (.bipush (-2), 2) := by decide +kernel
theorem dX10_ask_27 : decode cX10_ask 27 = .ok (.invokevirtual 97, 3) := by decide +kernel
theorem dX10_ask_30 : decode cX10_ask 30 = .ok (.ireturn, 1) := by decide +kernel
theorem dX10_ask_31 : decode cX10_ask 31 = .ok (.aload_n 0, 1) := by decide +kernel
theorem dX10_ask_32 : decode cX10_ask 32 = .ok (.iload_n 1, 1) := by decide +kernel
theorem dX10_ask_33 : decode cX10_ask 33 = .ok (.iload_n 2, 1) := by decide +kernel
theorem dX10_ask_34 : decode cX10_ask 34 = .ok (.invokevirtual 143, 3) := by decide +kernel
theorem dX10_ask_37 : decode cX10_ask 37 = .ok (.iload_n 3, 1) := by decide +kernel
theorem dX10_ask_38 : decode cX10_ask 38 = .ok (.ishr, 1) := by decide +kernel
theorem dX10_ask_39 : decode cX10_ask 39 = .ok (.iconst 1, 1) := by decide +kernel
theorem dX10_ask_40 : decode cX10_ask 40 = .ok (.iand, 1) := by decide +kernel
theorem dX10_ask_41 : decode cX10_ask 41 = .ok (.ifCond .ne 10, 3) := by decide +kernel
theorem dX10_ask_44 : decode cX10_ask 44 = .ok (.aload_n 0, 1) := by decide +kernel
theorem dX10_ask_45 : decode cX10_ask 45 = .ok (.bipush (-3), 2) := by decide +kernel
theorem dX10_ask_47 : decode cX10_ask 47 = .ok (.invokevirtual 97, 3) := by decide +kernel
theorem dX10_ask_50 : decode cX10_ask 50 = .ok (.ireturn, 1) := by decide +kernel
theorem dX10_ask_51 : decode cX10_ask 51 = .ok (.aload_n 0, 1) := by decide +kernel
theorem dX10_ask_52 : decode cX10_ask 52 = .ok (.getfield 12, 3) := by decide +kernel
theorem dX10_ask_55 : decode cX10_ask 55 = .ok (.iload_n 3, 1) := by decide +kernel
theorem dX10_ask_56 : decode cX10_ask 56 = .ok (.invokevirtual 146, 3) := by decide +kernel
theorem dX10_ask_59 : decode cX10_ask 59 = .ok (.aload_n 0, 1) := by decide +kernel
theorem dX10_ask_60 : decode cX10_ask 60 = .ok (.getfield 12, 3) := by decide +kernel
theorem dX10_ask_63 : decode cX10_ask 63 = .ok (.getfield 150, 3) := by decide +kernel
theorem dX10_ask_66 : decode cX10_ask 66 = .ok (.iload_n 3, 1) := by decide +kernel
theorem dX10_ask_67 : decode cX10_ask 67 = .ok (.iaload, 1) := by decide +kernel
theorem dX10_ask_68 : decode cX10_ask 68 = .ok (.ireturn, 1) := by decide +kernel
set_option maxRecDepth 20000 in
theorem ggX10_rest_J6_bitCount_0f7a4 : GoodIn wsX10_rest wsJ6_bitCount_0f7a4 := goodIn_r _ [7, 8, 9, 10] (by decide +kernel) (by decide +kernel)
set_option maxRecDepth 20000 in
theorem gX10_rest_J6_bitCount_0f7a4 : GoodIn wsX10_rest (va_wsS RX10 156 yJ6_bitCount_0f7a4 wsJ6_bitCount_0f7a4) := goodIn_app (goodIn_of _ (by decide +kernel)) ggX10_rest_J6_bitCount_0f7a4
theorem dX10_rest_0 : decode cX10_rest 0 = .ok (.aload_n 0, 1) := by decide +kernel
theorem dX10_rest_1 : decode cX10_rest 1 = .ok (.getfield 12, 3) := by decide +kernel
theorem dX10_rest_4 : decode cX10_rest 4 = .ok (.getfield 153, 3) := by decide +kernel
theorem dX10_rest_7 : decode cX10_rest 7 = .ok (.invokestatic 156, 3) := by decide +kernel
theorem dX10_rest_10 : decode cX10_rest 10 = .ok (.istore_n 1, 1) := by decide +kernel
theorem dX10_rest_11 : decode cX10_rest 11 = .ok (.aload_n 0, 1) := by decide +kernel
theorem dX10_rest_12 : decode cX10_rest 12 = .ok (.getfield 12, 3) := by decide +kernel
theorem dX10_rest_15 : decode cX10_rest 15 = .ok (.iconst 0, 1) := by decide +kernel
theorem dX10_rest_16 : decode cX10_rest 16 = .ok (.putfield 153, 3) := by decide +kernel
theorem dX10_rest_19 : decode cX10_rest 19 = .ok (.aload_n 0, 1) := by decide +kernel
theorem dX10_rest_20 : decode cX10_rest 20 = .ok (.getfield 12, 3) := by decide +kernel
theorem dX10_rest_23 : decode cX10_rest 23 = .ok (.iconst 0, 1) := by decide +kernel
theorem dX10_rest_24 : decode cX10_rest 24 = .ok (.putfield 161, 3) := by decide +kernel
theorem dX10_rest_27 : decode cX10_rest 27 = .ok (.iload_n 1, 1) := by decide +kernel
theorem dX10_rest_28 : decode cX10_rest 28 = .ok (.ireturn, 1) := by decide +kernel
set_option maxRecDepth 20000 in
theorem ggX10_undo_X10_refuse : GoodIn wsX10_undo wsX10_refuse := goodIn_r _ [8, 9, 10, 11, 27, 28, 29, 30, 31, 32, 33, 34, 35, 36, 37, 38, 39, 40, 41, 42, 43] (by decide +kernel) (by decide +kernel)
set_option maxRecDepth 20000 in
theorem gX10_undo_X10_refuse : GoodIn wsX10_undo (wsV RX10 97 RX10 yX10_refuse wsX10_refuse) := goodIn_app (goodIn_of _ (by decide +kernel)) ggX10_undo_X10_refuse
set_option maxRecDepth 20000 in
theorem ggX10_undo_X9_takeBack : GoodIn wsX10_undo wsX9_takeBack := goodIn_r _ [16, 17, 18, 19, 44, 45, 46, 47, 48, 49, 50, 51, 52, 53, 54, 55, 56, 57] (by decide +kernel) (by decide +kernel)
set_option maxRecDepth 20000 in
theorem gX10_undo_X9_takeBack : GoodIn wsX10_undo (wsV RX10 164 RX9 yX9_takeBack wsX9_takeBack) := goodIn_app (goodIn_of _ (by decide +kernel)) ggX10_undo_X9_takeBack
set_option maxRecDepth 20000 in
theorem ggX10_undo_J6_bitCount_0f7a4 : GoodIn wsX10_undo wsJ6_bitCount_0f7a4 := goodIn_r _ [23, 24, 25, 26] (by decide +kernel) (by decide +kernel)
set_option maxRecDepth 20000 in
theorem gX10_undo_J6_bitCount_0f7a4 : GoodIn wsX10_undo (va_wsS RX10 156 yJ6_bitCount_0f7a4 wsJ6_bitCount_0f7a4) := goodIn_app (goodIn_of _ (by decide +kernel)) ggX10_undo_J6_bitCount_0f7a4
theorem dX10_undo_0 : decode cX10_undo 0 = .ok (.aload_n 0, 1) := by decide +kernel
theorem dX10_undo_1 : decode cX10_undo 1 = .ok (.getfield 12, 3) := by decide +kernel
theorem dX10_undo_4 : decode cX10_undo 4 = .ok (.getfield 161, 3) := by decide +kernel
theorem dX10_undo_7 : decode cX10_undo 7 = .ok (.ifCond .ne 10, 3) := by decide +kernel
theorem dX10_undo_10 : decode cX10_undo 10 = .ok (.aload_n 0, 1) := by decide +kernel
theorem dX10_undo_11 : decode cX10_undo 11 = .ok (.bipush (-3), 2) := by decide +kernel
theorem dX10_undo_13 : decode cX10_undo 13 = .ok (.invokevirtual 97, 3) := by decide +kernel
theorem dX10_undo_16 : decode cX10_undo 16 = .ok (.ireturn, 1) := by decide +kernel
theorem dX10_undo_17 : decode cX10_undo 17 = .ok (.aload_n 0, 1) := by decide +kernel
theorem dX10_undo_18 : decode cX10_undo 18 = .ok (.getfield 12, 3) := by decide +kernel
theorem dX10_undo_21 : decode cX10_undo 21 = .ok (.invokevirtual 164, 3) := by decide +kernel
theorem dX10_undo_24 : decode cX10_undo 24 = .ok (.aload_n 0, 1) := by decide +kernel
theorem dX10_undo_25 : decode cX10_undo 25 = .ok (.getfield 12, 3) := by decide +kernel
theorem dX10_undo_28 : decode cX10_undo 28 = .ok (.getfield 153, 3) := by decide +kernel
theorem dX10_undo_31 : decode cX10_undo 31 = .ok (.invokestatic 156, 3) := by decide +kernel
theorem dX10_undo_34 : decode cX10_undo 34 = .ok (.ireturn, 1) := by decide +kernel
set_option maxRecDepth 20000 in
theorem ggX10_of_X10_isWord : GoodIn wsX10_of wsX10_isWord := goodIn_r _ [10, 1, 11, 12, 13, 9, 14, 22, 23, 24, 25, 26, 27, 28, 29, 30, 31, 32, 33, 34, 35, 36, 37, 38, 39, 40, 41, 42, 43, 44, 45, 46, 47, 48, 49, 50, 51, 52] (by decide +kernel) (by decide +kernel)
set_option maxRecDepth 20000 in
theorem gX10_of_X10_isWord : GoodIn wsX10_of (wsV RX10 140 RX10 yX10_isWord wsX10_isWord) := goodIn_app (goodIn_of _ (by decide +kernel)) ggX10_of_X10_isWord
set_option maxRecDepth 20000 in
theorem ggX10_of_X10_fits : GoodIn wsX10_of wsX10_fits := goodIn_r _ [14] (by decide +kernel) (by decide +kernel)
set_option maxRecDepth 20000 in
theorem gX10_of_X10_fits : GoodIn wsX10_of (va_wsS RX10 93 yX10_fits wsX10_fits) := goodIn_app (goodIn_of _ (by decide +kernel)) ggX10_of_X10_fits
set_option maxRecDepth 20000 in
theorem ggX10_of_X10_refuse : GoodIn wsX10_of wsX10_refuse := goodIn_r _ [18, 19, 20, 21, 22, 23, 24, 25, 26, 27, 28, 29, 30, 31, 32, 33, 34, 35, 36, 37, 38] (by decide +kernel) (by decide +kernel)
set_option maxRecDepth 20000 in
theorem gX10_of_X10_refuse : GoodIn wsX10_of (wsV RX10 97 RX10 yX10_refuse wsX10_refuse) := goodIn_app (goodIn_of _ (by decide +kernel)) ggX10_of_X10_refuse
theorem dX10_of_0 : decode cX10_of 0 = .ok (.aload_n 0, 1) := by decide +kernel
theorem dX10_of_1 : decode cX10_of 1 = .ok (.iload_n 1, 1) := by decide +kernel
theorem dX10_of_2 : decode cX10_of 2 = .ok (.invokevirtual 140, 3) := by decide +kernel
theorem dX10_of_5 : decode cX10_of 5 = .ok (.ifCond .eq 11, 3) := by decide +kernel
theorem dX10_of_8 : decode cX10_of 8 = .ok (.iload_n 2, 1) := by decide +kernel
theorem dX10_of_9 : decode cX10_of 9 = .ok (.iconst 4, 1) := by decide +kernel
theorem dX10_of_10 : decode cX10_of 10 = .ok (.invokestatic 93, 3) := by decide +kernel
theorem dX10_of_13 : decode cX10_of 13 = .ok (.ifCond .ne 10, 3) := by decide +kernel
theorem dX10_of_16 : decode cX10_of 16 = .ok (.aload_n 0, 1) := by decide +kernel
theorem dX10_of_17 : decode cX10_of 17 = .ok (.bipush (-2), 2) := by decide +kernel
theorem dX10_of_19 : decode cX10_of 19 = .ok (.invokevirtual 97, 3) := by decide +kernel
theorem dX10_of_22 : decode cX10_of 22 = .ok (.ireturn, 1) := by decide +kernel
theorem dX10_of_23 : decode cX10_of 23 = .ok (.iload_n 2, 1) := by decide +kernel
theorem dX10_of_24 : decode cX10_of 24 = .ok (.tableswitch 58 0 2 #[28, 38, 48], 28) := by decide +kernel
theorem dX10_of_52 : decode cX10_of 52 = .ok (.aload_n 0, 1) := by decide +kernel
theorem dX10_of_53 : decode cX10_of 53 = .ok (.getfield 12, 3) := by decide +kernel
theorem dX10_of_56 : decode cX10_of 56 = .ok (.getfield 167, 3) := by decide +kernel
theorem dX10_of_59 : decode cX10_of 59 = .ok (.iload_n 1, 1) := by decide +kernel
theorem dX10_of_60 : decode cX10_of 60 = .ok (.iaload, 1) := by decide +kernel
theorem dX10_of_61 : decode cX10_of 61 = .ok (.ireturn, 1) := by decide +kernel
theorem dX10_of_62 : decode cX10_of 62 = .ok (.aload_n 0, 1) := by decide +kernel
theorem dX10_of_63 : decode cX10_of 63 = .ok (.getfield 12, 3) := by decide +kernel
theorem dX10_of_66 : decode cX10_of 66 = .ok (.getfield 150, 3) := by decide +kernel
theorem dX10_of_69 : decode cX10_of 69 = .ok (.iload_n 1, 1) := by decide +kernel
theorem dX10_of_70 : decode cX10_of 70 = .ok (.iaload, 1) := by decide +kernel
theorem dX10_of_71 : decode cX10_of 71 = .ok (.ireturn, 1) := by decide +kernel
theorem dX10_of_72 : decode cX10_of 72 = .ok (.aload_n 0, 1) := by decide +kernel
theorem dX10_of_73 : decode cX10_of 73 = .ok (.getfield 12, 3) := by decide +kernel
theorem dX10_of_76 : decode cX10_of 76 = .ok (.getfield 170, 3) := by decide +kernel
theorem dX10_of_79 : decode cX10_of 79 = .ok (.iload_n 1, 1) := by decide +kernel
theorem dX10_of_80 : decode cX10_of 80 = .ok (.iaload, 1) := by decide +kernel
theorem dX10_of_81 : decode cX10_of 81 = .ok (.ireturn, 1) := by decide +kernel
theorem dX10_of_82 : decode cX10_of 82 = .ok (.aload_n 0, 1) := by decide +kernel
theorem dX10_of_83 : decode cX10_of 83 = .ok (.getfield 12, 3) := by decide +kernel
theorem dX10_of_86 : decode cX10_of 86 = .ok (.getfield 153, 3) := by decide +kernel
theorem dX10_of_89 : decode cX10_of 89 = .ok (.iload_n 1, 1) := by decide +kernel
theorem dX10_of_90 : decode cX10_of 90 = .ok (.ishr, 1) := by decide +kernel
theorem dX10_of_91 : decode cX10_of 91 = .ok (.iconst 1, 1) := by decide +kernel
theorem dX10_of_92 : decode cX10_of 92 = .ok (.iand, 1) := by decide +kernel
theorem dX10_of_93 : decode cX10_of 93 = .ok (.ireturn, 1) := by decide +kernel
set_option maxRecDepth 20000 in
theorem ggX10_about_X10_isPerson : GoodIn wsX10_about wsX10_isPerson := goodIn_r _ [8, 1, 9, 10, 11, 7, 12, 20, 21, 22, 23, 24, 25, 26, 27, 28, 29, 30, 31, 32, 33, 34, 35, 36, 37, 38, 39, 40, 41, 42, 43, 44, 45, 46, 47, 48, 49, 50] (by decide +kernel) (by decide +kernel)
set_option maxRecDepth 20000 in
theorem gX10_about_X10_isPerson : GoodIn wsX10_about (wsV RX10 136 RX10 yX10_isPerson wsX10_isPerson) := goodIn_app (goodIn_of _ (by decide +kernel)) ggX10_about_X10_isPerson
set_option maxRecDepth 20000 in
theorem ggX10_about_X10_fits : GoodIn wsX10_about wsX10_fits := goodIn_r _ [12] (by decide +kernel) (by decide +kernel)
set_option maxRecDepth 20000 in
theorem gX10_about_X10_fits : GoodIn wsX10_about (va_wsS RX10 93 yX10_fits wsX10_fits) := goodIn_app (goodIn_of _ (by decide +kernel)) ggX10_about_X10_fits
set_option maxRecDepth 20000 in
theorem ggX10_about_X10_refuse : GoodIn wsX10_about wsX10_refuse := goodIn_r _ [16, 17, 18, 19, 20, 21, 22, 23, 24, 25, 26, 27, 28, 29, 30, 31, 32, 33, 34, 35, 36] (by decide +kernel) (by decide +kernel)
set_option maxRecDepth 20000 in
theorem gX10_about_X10_refuse : GoodIn wsX10_about (wsV RX10 97 RX10 yX10_refuse wsX10_refuse) := goodIn_app (goodIn_of _ (by decide +kernel)) ggX10_about_X10_refuse
theorem dX10_about_0 : decode cX10_about 0 = .ok (.aload_n 0, 1) := by decide +kernel
theorem dX10_about_1 : decode cX10_about 1 = .ok (.iload_n 1, 1) := by decide +kernel
theorem dX10_about_2 : decode cX10_about 2 = .ok (.invokevirtual 136, 3) := by decide +kernel
theorem dX10_about_5 : decode cX10_about 5 = .ok (.ifCond .eq 11, 3) := by decide +kernel
theorem dX10_about_8 : decode cX10_about 8 = .ok (.iload_n 2, 1) := by decide +kernel
theorem dX10_about_9 : decode cX10_about 9 = .ok (.iconst 2, 1) := by decide +kernel
theorem dX10_about_10 : decode cX10_about 10 = .ok (.invokestatic 93, 3) := by decide +kernel
theorem dX10_about_13 : decode cX10_about 13 = .ok (.ifCond .ne 10, 3) := by decide +kernel
theorem dX10_about_16 : decode cX10_about 16 = .ok (.aload_n 0, 1) := by decide +kernel
theorem dX10_about_17 : decode cX10_about 17 = .ok (.bipush (-2), 2) := by decide +kernel
theorem dX10_about_19 : decode cX10_about 19 = .ok (.invokevirtual 97, 3) := by decide +kernel
theorem dX10_about_22 : decode cX10_about 22 = .ok (.ireturn, 1) := by decide +kernel
theorem dX10_about_23 : decode cX10_about 23 = .ok (.iload_n 2, 1) := by decide +kernel
theorem dX10_about_24 : decode cX10_about 24 = .ok (.ifCond .ne 15, 3) := by decide +kernel
theorem dX10_about_27 : decode cX10_about 27 = .ok (.aload_n 0, 1) := by decide +kernel
theorem dX10_about_28 : decode cX10_about 28 = .ok (.getfield 12, 3) := by decide +kernel
theorem dX10_about_31 : decode cX10_about 31 = .ok (.getfield 173, 3) := by decide +kernel
theorem dX10_about_34 : decode cX10_about 34 = .ok (.iload_n 1, 1) := by decide +kernel
theorem dX10_about_35 : decode cX10_about 35 = .ok (.iaload, 1) := by decide +kernel
theorem dX10_about_36 : decode cX10_about 36 = .ok (.goto 12, 3) := by decide +kernel
theorem dX10_about_39 : decode cX10_about 39 = .ok (.aload_n 0, 1) := by decide +kernel
theorem dX10_about_40 : decode cX10_about 40 = .ok (.getfield 12, 3) := by decide +kernel
theorem dX10_about_43 : decode cX10_about 43 = .ok (.getfield 176, 3) := by decide +kernel
theorem dX10_about_46 : decode cX10_about 46 = .ok (.iload_n 1, 1) := by decide +kernel
theorem dX10_about_47 : decode cX10_about 47 = .ok (.iaload, 1) := by decide +kernel
theorem dX10_about_48 : decode cX10_about 48 = .ok (.ireturn, 1) := by decide +kernel
set_option maxRecDepth 20000 in
theorem ggX10_answers_X10_isPerson : GoodIn wsX10_answers wsX10_isPerson := goodIn_r _ [9, 2, 10, 11, 12, 8, 13, 97, 98, 99, 100, 101, 102, 103, 104, 105, 106, 107, 108, 109, 110, 111, 112, 113, 114, 115, 116, 117, 118, 119, 120, 121, 122, 123, 124, 125, 126, 127] (by decide +kernel) (by decide +kernel)
set_option maxRecDepth 20000 in
theorem gX10_answers_X10_isPerson : GoodIn wsX10_answers (wsV RX10 136 RX10 yX10_isPerson wsX10_isPerson) := goodIn_app (goodIn_of _ (by decide +kernel)) ggX10_answers_X10_isPerson
set_option maxRecDepth 20000 in
theorem ggX10_answers_X10_isWord : GoodIn wsX10_answers wsX10_isWord := goodIn_r _ [17, 2, 18, 11, 12, 8, 13, 97, 98, 99, 100, 101, 102, 103, 104, 105, 106, 107, 108, 109, 110, 111, 112, 113, 114, 115, 116, 117, 118, 119, 120, 121, 122, 123, 124, 125, 126, 127] (by decide +kernel) (by decide +kernel)
set_option maxRecDepth 20000 in
theorem gX10_answers_X10_isWord : GoodIn wsX10_answers (wsV RX10 140 RX10 yX10_isWord wsX10_isWord) := goodIn_app (goodIn_of _ (by decide +kernel)) ggX10_answers_X10_isWord
set_option maxRecDepth 20000 in
theorem ggX10_answers_X10_fits : GoodIn wsX10_answers wsX10_fits := goodIn_r _ [13] (by decide +kernel) (by decide +kernel)
set_option maxRecDepth 20000 in
theorem gX10_answers_X10_fits : GoodIn wsX10_answers (va_wsS RX10 93 yX10_fits wsX10_fits) := goodIn_app (goodIn_of _ (by decide +kernel)) ggX10_answers_X10_fits
set_option maxRecDepth 20000 in
theorem ggX10_answers_X10_refuse : GoodIn wsX10_answers wsX10_refuse := goodIn_r _ [22, 23, 24, 25, 97, 98, 99, 100, 101, 102, 103, 104, 105, 106, 107, 108, 109, 110, 111, 112, 113] (by decide +kernel) (by decide +kernel)
set_option maxRecDepth 20000 in
theorem gX10_answers_X10_refuse : GoodIn wsX10_answers (wsV RX10 97 RX10 yX10_refuse wsX10_refuse) := goodIn_app (goodIn_of _ (by decide +kernel)) ggX10_answers_X10_refuse
set_option maxRecDepth 20000 in
theorem ggX10_answers_X0_chimes : GoodIn wsX10_answers wsX0_chimes := goodIn_r _ [32, 33, 34, 35, 36, 37, 38, 39, 40, 41, 27, 42, 43, 44, 45, 46, 47, 48, 49, 50, 51, 52, 53, 54, 55, 56, 57, 58, 59, 114, 115, 116, 117, 118, 119, 120, 121, 122, 123, 124, 125, 126, 127] (by decide +kernel) (by decide +kernel)
set_option maxRecDepth 20000 in
theorem gX10_answers_X0_chimes_u179X0 : GoodIn wsX10_answers (va_wsO RX10 179 RX0 "OnlyRhymes$Rhymer" ⟨"OnlyRhymes$Rhymer", "chimes", "(LOnlyRhymes$Tongue;II)I"⟩ yX0_chimes wsX0_chimes) := goodIn_app (goodIn_of _ (by decide +kernel)) ggX10_answers_X0_chimes
set_option maxRecDepth 20000 in
theorem ggX10_answers_X3_chimes : GoodIn wsX10_answers wsX3_chimes := goodIn_r _ [63, 64, 27, 65, 43, 44, 45, 46, 47, 48, 49, 50, 51, 52, 53, 114, 115, 116, 117, 118, 119, 120, 121, 122, 123, 124, 125, 126, 127] (by decide +kernel) (by decide +kernel)
set_option maxRecDepth 20000 in
theorem gX10_answers_X3_chimes_u179X3 : GoodIn wsX10_answers (va_wsO RX10 179 RX3 "OnlyRhymes$Rhymer" ⟨"OnlyRhymes$Rhymer", "chimes", "(LOnlyRhymes$Tongue;II)I"⟩ yX3_chimes wsX3_chimes) := goodIn_app (goodIn_of _ (by decide +kernel)) ggX10_answers_X3_chimes
set_option maxRecDepth 20000 in
theorem ggX10_answers_X4_chimes : GoodIn wsX10_answers wsX4_chimes := goodIn_r _ [38, 39, 40, 41, 27, 42, 43, 44, 45, 46, 47, 48, 49, 50, 51, 52, 53, 54, 114, 115, 116, 117, 118, 119, 120, 121, 122, 123, 124, 125, 126, 127] (by decide +kernel) (by decide +kernel)
set_option maxRecDepth 20000 in
theorem gX10_answers_X4_chimes_u179X4 : GoodIn wsX10_answers (va_wsO RX10 179 RX4 "OnlyRhymes$Rhymer" ⟨"OnlyRhymes$Rhymer", "chimes", "(LOnlyRhymes$Tongue;II)I"⟩ yX4_chimes wsX4_chimes) := goodIn_app (goodIn_of _ (by decide +kernel)) ggX10_answers_X4_chimes
set_option maxRecDepth 20000 in
theorem ggX10_answers_X5_chimes : GoodIn wsX10_answers wsX5_chimes := goodIn_r _ [70, 71, 72, 34, 73, 36, 37, 38, 39, 40, 41, 27, 42, 43, 44, 45, 46, 47, 48, 49, 50, 51, 52, 53, 54, 74, 56, 57, 58, 59, 114, 115, 116, 117, 118, 119, 120, 121, 122, 123, 124, 125, 126, 127] (by decide +kernel) (by decide +kernel)
set_option maxRecDepth 20000 in
theorem gX10_answers_X5_chimes_u179X5 : GoodIn wsX10_answers (va_wsO RX10 179 RX5 "OnlyRhymes$Rhymer" ⟨"OnlyRhymes$Rhymer", "chimes", "(LOnlyRhymes$Tongue;II)I"⟩ yX5_chimes wsX5_chimes) := goodIn_app (goodIn_of _ (by decide +kernel)) ggX10_answers_X5_chimes
set_option maxRecDepth 20000 in
theorem ggX10_answers_X7_chimes : GoodIn wsX10_answers wsX7_chimes := goodIn_r _ [45, 46, 47, 48, 49, 50, 51, 52, 53, 114, 115, 116, 117, 118, 119, 120, 121, 122, 123, 124, 125, 126, 127] (by decide +kernel) (by decide +kernel)
set_option maxRecDepth 20000 in
theorem gX10_answers_X7_chimes : GoodIn wsX10_answers (wsV RX10 179 RX7 yX7_chimes wsX7_chimes) := goodIn_app (goodIn_of _ (by decide +kernel)) ggX10_answers_X7_chimes
set_option maxRecDepth 20000 in
theorem ggX10_answers_X8_chimes : GoodIn wsX10_answers wsX8_chimes := goodIn_r _ [80, 81, 82, 83, 61, 62, 63, 64, 27, 65, 43, 44, 45, 46, 47, 48, 49, 50, 51, 52, 53, 114, 115, 116, 117, 118, 119, 120, 121, 122, 123, 124, 125, 126, 127] (by decide +kernel) (by decide +kernel)
set_option maxRecDepth 20000 in
theorem gX10_answers_X8_chimes_u179X8 : GoodIn wsX10_answers (va_wsO RX10 179 RX8 "OnlyRhymes$Rhymer" ⟨"OnlyRhymes$Rhymer", "chimes", "(LOnlyRhymes$Tongue;II)I"⟩ yX8_chimes wsX8_chimes) := goodIn_app (goodIn_of _ (by decide +kernel)) ggX10_answers_X8_chimes
set_option maxRecDepth 20000 in
theorem ggX10_answers_X10_answerBits : GoodIn wsX10_answers wsX10_answerBits := goodIn_r _ [87, 1, 2, 3, 4, 88, 26, 27, 28, 29, 30, 31, 32, 33, 34, 35, 36, 37, 38, 39, 40, 41, 42, 43, 44, 45, 46, 47, 48, 49, 50, 51, 52, 53, 54, 55, 56, 57, 58, 59, 60, 61, 62, 63, 64, 65, 66, 67, 68, 69, 70, 71, 72, 73, 74, 75, 76, 77, 78, 79, 80, 81, 82, 83, 97, 98, 99, 100, 101, 102, 103, 104, 105, 106, 107, 108, 109, 110, 111, 112, 113, 114, 115, 116, 117, 118, 119, 120, 121, 122, 123, 124, 125, 126, 127] (by decide +kernel) (by decide +kernel)
set_option maxRecDepth 20000 in
theorem gX10_answers_X10_answerBits : GoodIn wsX10_answers (wsV RX10 143 RX10 yX10_answerBits wsX10_answerBits) := goodIn_app (goodIn_of _ (by decide +kernel)) ggX10_answers_X10_answerBits
set_option maxRecDepth 20000 in
theorem ggX10_answers_X10_sayableBits : GoodIn wsX10_answers wsX10_sayableBits := goodIn_r _ [92, 2, 84, 85, 86, 8, 87, 1, 3, 4, 88, 26, 27, 28, 29, 30, 31, 32, 33, 34, 35, 36, 37, 38, 39, 40, 41, 42, 43, 44, 45, 46, 47, 48, 49, 50, 51, 52, 53, 54, 55, 56, 57, 58, 59, 60, 61, 62, 63, 64, 65, 66, 67, 68, 69, 70, 71, 72, 73, 74, 75, 76, 77, 78, 79, 80, 81, 82, 83, 93, 94, 95, 96, 97, 98, 99, 100, 101, 102, 103, 104, 105, 106, 107, 108, 109, 110, 111, 112, 113, 114, 115, 116, 117, 118, 119, 120, 121, 122, 123, 124, 125, 126, 127] (by decide +kernel) (by decide +kernel)
set_option maxRecDepth 20000 in
theorem gX10_answers_X10_sayableBits : GoodIn wsX10_answers (wsV RX10 183 RX10 yX10_sayableBits wsX10_sayableBits) := goodIn_app (goodIn_of _ (by decide +kernel)) ggX10_answers_X10_sayableBits
theorem dX10_answers_0 : decode cX10_answers 0 = .ok (.aload_n 0, 1) := by decide +kernel
theorem dX10_answers_1 : decode cX10_answers 1 = .ok (.iload_n 1, 1) := by decide +kernel
theorem dX10_answers_2 : decode cX10_answers 2 = .ok (.invokevirtual 136, 3) := by decide +kernel
theorem dX10_answers_5 : decode cX10_answers 5 = .ok (.ifCond .eq 19, 3) := by decide +kernel
theorem dX10_answers_8 : decode cX10_answers 8 = .ok (.aload_n 0, 1) := by decide +kernel
theorem dX10_answers_9 : decode cX10_answers 9 = .ok (.iload_n 2, 1) := by decide +kernel
theorem dX10_answers_10 : decode cX10_answers 10 = .ok (.invokevirtual 140, 3) := by decide +kernel
theorem dX10_answers_13 : decode cX10_answers 13 = .ok (.ifCond .eq 11, 3) := by decide +kernel
theorem dX10_answers_16 : decode cX10_answers 16 = .ok (.iload_n 3, 1) := by decide +kernel
theorem dX10_answers_17 : decode cX10_answers 17 = .ok (.iconst 3, 1) := by decide +kernel
theorem dX10_answers_18 : decode cX10_answers 18 = .ok (.invokestatic 93, 3) := by decide +kernel
theorem dX10_answers_21 : decode cX10_answers 21 = .ok (.ifCond .ne 10, 3) := by decide +kernel
theorem dX10_answers_24 : decode cX10_answers 24 = .ok (.aload_n 0, 1) := by decide +kernel
theorem dX10_answers_25 : decode cX10_answers 25 = .ok (.bipush (-2), 2) := by decide +kernel
theorem dX10_answers_27 : decode cX10_answers 27 = .ok (.invokevirtual 97, 3) := by decide +kernel
theorem dX10_answers_30 : decode cX10_answers 30 = .ok (.ireturn, 1) := by decide +kernel
theorem dX10_answers_31 : decode cX10_answers 31 = .ok (.iload_n 3, 1) := by decide +kernel
theorem dX10_answers_32 : decode cX10_answers 32 = .ok (.lookupswitch 67 #[(0, 28), (1, 60)], 28) := by decide +kernel
theorem dX10_answers_60 : decode cX10_answers 60 = .ok (.aload_n 0, 1) := by decide +kernel
theorem dX10_answers_61 : decode cX10_answers 61 = .ok (.getfield 25, 3) := by decide +kernel
theorem dX10_answers_64 : decode cX10_answers 64 = .ok (.aload_n 0, 1) := by decide +kernel
theorem dX10_answers_65 : decode cX10_answers 65 = .ok (.getfield 12, 3) := by decide +kernel
theorem dX10_answers_68 : decode cX10_answers 68 = .ok (.getfield 173, 3) := by decide +kernel
theorem dX10_answers_71 : decode cX10_answers 71 = .ok (.iload_n 1, 1) := by decide +kernel
theorem dX10_answers_72 : decode cX10_answers 72 = .ok (.iaload, 1) := by decide +kernel
theorem dX10_answers_73 : decode cX10_answers 73 = .ok (.aaload, 1) := by decide +kernel
theorem dX10_answers_74 : decode cX10_answers 74 = .ok (.aload_n 0, 1) := by decide +kernel
theorem dX10_answers_75 : decode cX10_answers 75 = .ok (.getfield 12, 3) := by decide +kernel
theorem dX10_answers_78 : decode cX10_answers 78 = .ok (.aload_n 0, 1) := by decide +kernel
theorem dX10_answers_79 : decode cX10_answers 79 = .ok (.getfield 12, 3) := by decide +kernel
theorem dX10_answers_82 : decode cX10_answers 82 = .ok (.getfield 176, 3) := by decide +kernel
theorem dX10_answers_85 : decode cX10_answers 85 = .ok (.iload_n 1, 1) := by decide +kernel
theorem dX10_answers_86 : decode cX10_answers 86 = .ok (.iaload, 1) := by decide +kernel
theorem dX10_answers_87 : decode cX10_answers 87 = .ok (.iload_n 2, 1) := by decide +kernel
theorem dX10_answers_88 : decode cX10_answers 88 = .ok (.invokevirtual 179, 3) := by decide +kernel
theorem dX10_answers_91 : decode cX10_answers 91 = .ok (.ireturn, 1) := by decide +kernel
theorem dX10_answers_92 : decode cX10_answers 92 = .ok (.aload_n 0, 1) := by decide +kernel
theorem dX10_answers_93 : decode cX10_answers 93 = .ok (.iload_n 1, 1) := by decide +kernel
theorem dX10_answers_94 : decode cX10_answers 94 = .ok (.iload_n 2, 1) := by decide +kernel
theorem dX10_answers_95 : decode cX10_answers 95 = .ok (.invokevirtual 143, 3) := by decide +kernel
theorem dX10_answers_98 : decode cX10_answers 98 = .ok (.ireturn, 1) := by decide +kernel
theorem dX10_answers_99 : decode cX10_answers 99 = .ok (.aload_n 0, 1) := by decide +kernel
theorem dX10_answers_100 : decode cX10_answers 100 = .ok (.iload_n 1, 1) := by decide +kernel
theorem dX10_answers_101 : decode cX10_answers 101 = .ok (.iload_n 2, 1) := by decide +kernel
theorem dX10_answers_102 : decode cX10_answers 102 = .ok (.invokevirtual 183, 3) := by decide +kernel
theorem dX10_answers_105 : decode cX10_answers 105 = .ok (.ireturn, 1) := by decide +kernel
set_option maxRecDepth 20000 in
theorem ggX10_asks_X10_isPerson : GoodIn wsX10_asks wsX10_isPerson := goodIn_r _ [7, 1, 8, 9, 10, 6, 11, 93, 94, 95, 96, 97, 98, 99, 100, 101, 102, 103, 104, 105, 106, 107, 108, 109, 110, 111, 112, 113, 114, 115, 116, 117, 118, 119, 120, 121, 122, 123] (by decide +kernel) (by decide +kernel)
set_option maxRecDepth 20000 in
theorem gX10_asks_X10_isPerson : GoodIn wsX10_asks (wsV RX10 136 RX10 yX10_isPerson wsX10_isPerson) := goodIn_app (goodIn_of _ (by decide +kernel)) ggX10_asks_X10_isPerson
set_option maxRecDepth 20000 in
theorem ggX10_asks_X10_fits : GoodIn wsX10_asks wsX10_fits := goodIn_r _ [11] (by decide +kernel) (by decide +kernel)
set_option maxRecDepth 20000 in
theorem gX10_asks_X10_fits : GoodIn wsX10_asks (va_wsS RX10 93 yX10_fits wsX10_fits) := goodIn_app (goodIn_of _ (by decide +kernel)) ggX10_asks_X10_fits
set_option maxRecDepth 20000 in
theorem ggX10_asks_X10_refuse : GoodIn wsX10_asks wsX10_refuse := goodIn_r _ [15, 16, 17, 18, 93, 94, 95, 96, 97, 98, 99, 100, 101, 102, 103, 104, 105, 106, 107, 108, 109] (by decide +kernel) (by decide +kernel)
set_option maxRecDepth 20000 in
theorem gX10_asks_X10_refuse : GoodIn wsX10_asks (wsV RX10 97 RX10 yX10_refuse wsX10_refuse) := goodIn_app (goodIn_of _ (by decide +kernel)) ggX10_asks_X10_refuse
set_option maxRecDepth 20000 in
theorem ggX10_asks_X10_sayableBits : GoodIn wsX10_asks wsX10_sayableBits := goodIn_r _ [22, 1, 23, 24, 25, 6, 26, 27, 28, 29, 30, 31, 32, 33, 34, 35, 36, 37, 38, 39, 40, 41, 42, 43, 44, 45, 46, 47, 48, 49, 50, 51, 52, 53, 54, 55, 56, 57, 58, 59, 60, 61, 62, 63, 64, 65, 66, 67, 68, 69, 70, 71, 72, 73, 74, 75, 76, 77, 78, 79, 80, 81, 82, 83, 84, 85, 86, 87, 88, 89, 90, 91, 92, 93, 94, 95, 96, 97, 98, 99, 100, 101, 102, 103, 104, 105, 106, 107, 108, 109, 110, 111, 112, 113, 114, 115, 116, 117, 118, 119, 120, 121, 122, 123] (by decide +kernel) (by decide +kernel)
set_option maxRecDepth 20000 in
theorem gX10_asks_X10_sayableBits : GoodIn wsX10_asks (wsV RX10 183 RX10 yX10_sayableBits wsX10_sayableBits) := goodIn_app (goodIn_of _ (by decide +kernel)) ggX10_asks_X10_sayableBits
theorem dX10_asks_0 : decode cX10_asks 0 = .ok (.aload_n 0, 1) := by decide +kernel
theorem dX10_asks_1 : decode cX10_asks 1 = .ok (.iload_n 1, 1) := by decide +kernel
theorem dX10_asks_2 : decode cX10_asks 2 = .ok (.invokevirtual 136, 3) := by decide +kernel
theorem dX10_asks_5 : decode cX10_asks 5 = .ok (.ifCond .eq 12, 3) := by decide +kernel
theorem dX10_asks_8 : decode cX10_asks 8 = .ok (.iload_n 2, 1) := by decide +kernel
theorem dX10_asks_9 : decode cX10_asks 9 = .ok (.bipush 8, 2) := by decide +kernel
theorem dX10_asks_11 : decode cX10_asks 11 = .ok (.invokestatic 93, 3) := by decide +kernel
theorem dX10_asks_14 : decode cX10_asks 14 = .ok (.ifCond .ne 10, 3) := by decide +kernel
theorem dX10_asks_17 : decode cX10_asks 17 = .ok (.aload_n 0, 1) := by decide +kernel
theorem dX10_asks_18 : decode cX10_asks 18 = .ok (.bipush (-2), 2) := by decide +kernel
theorem dX10_asks_20 : decode cX10_asks 20 = .ok (.invokevirtual 97, 3) := by decide +kernel
theorem dX10_asks_23 : decode cX10_asks 23 = .ok (.ireturn, 1) := by decide +kernel
theorem dX10_asks_24 : decode cX10_asks 24 = .ok (.iconst 0, 1) := by decide +kernel
theorem dX10_asks_25 : decode cX10_asks 25 = .ok (.istore_n 3, 1) := by decide +kernel
theorem dX10_asks_26 : decode cX10_asks 26 = .ok (.iconst 0, 1) := by decide +kernel
theorem dX10_asks_27 : decode cX10_asks 27 = .ok (.istore 4, 2) := by decide +kernel
theorem dX10_asks_29 : decode cX10_asks 29 = .ok (.iload 4, 2) := by decide +kernel
theorem dX10_asks_31 : decode cX10_asks 31 = .ok (.aload_n 0, 1) := by decide +kernel
theorem dX10_asks_32 : decode cX10_asks 32 = .ok (.getfield 12, 3) := by decide +kernel
theorem dX10_asks_35 : decode cX10_asks 35 = .ok (.getfield 86, 3) := by decide +kernel
theorem dX10_asks_38 : decode cX10_asks 38 = .ok (.if_icmp .ge 26, 3) := by decide +kernel
theorem dX10_asks_41 : decode cX10_asks 41 = .ok (.iload_n 3, 1) := by decide +kernel
theorem dX10_asks_42 : decode cX10_asks 42 = .ok (.aload_n 0, 1) := by decide +kernel
theorem dX10_asks_43 : decode cX10_asks 43 = .ok (.iload_n 1, 1) := by decide +kernel
theorem dX10_asks_44 : decode cX10_asks 44 = .ok (.iload 4, 2) := by decide +kernel
theorem dX10_asks_46 : decode cX10_asks 46 = .ok (.invokevirtual 183, 3) := by decide +kernel
theorem dX10_asks_49 : decode cX10_asks 49 = .ok (.iload_n 2, 1) := by decide +kernel
theorem dX10_asks_50 : decode cX10_asks 50 = .ok (.ishr, 1) := by decide +kernel
theorem dX10_asks_51 : decode cX10_asks 51 = .ok (.iconst 1, 1) := by decide +kernel
theorem dX10_asks_52 : decode cX10_asks 52 = .ok (.iand, 1) := by decide +kernel
theorem dX10_asks_53 : decode cX10_asks 53 = .ok (.iload 4, 2) := by decide +kernel
theorem dX10_asks_55 : decode cX10_asks 55 = .ok (.ishl, 1) := by decide +kernel
theorem dX10_asks_56 : decode cX10_asks 56 = .ok (.ior, 1) := by decide +kernel
theorem dX10_asks_57 : decode cX10_asks 57 = .ok (.istore_n 3, 1) := by decide +kernel
theorem dX10_asks_58 : decode cX10_asks 58 = .ok (.iinc 4 1, 3) := by decide +kernel
theorem dX10_asks_61 : decode cX10_asks 61 = .ok (.goto (-32), 3) := by decide +kernel
theorem dX10_asks_64 : decode cX10_asks 64 = .ok (.iload_n 3, 1) := by decide +kernel
theorem dX10_asks_65 : decode cX10_asks 65 = .ok (.ireturn, 1) := by decide +kernel
set_option maxRecDepth 20000 in
theorem ggX10_fewest_X10_isPerson : GoodIn wsX10_fewest wsX10_isPerson := goodIn_r _ [10, 1, 11, 12, 13, 9, 14, 114, 115, 116, 117, 118, 119, 120, 121, 122, 123, 124, 125, 126, 127, 128, 129, 130, 131, 132, 133, 134, 135, 136, 137, 138, 139, 140, 141, 142, 143, 144] (by decide +kernel) (by decide +kernel)
set_option maxRecDepth 20000 in
theorem gX10_fewest_X10_isPerson : GoodIn wsX10_fewest (wsV RX10 136 RX10 yX10_isPerson wsX10_isPerson) := goodIn_app (goodIn_of _ (by decide +kernel)) ggX10_fewest_X10_isPerson
set_option maxRecDepth 20000 in
theorem ggX10_fewest_X10_fits : GoodIn wsX10_fewest wsX10_fits := goodIn_r _ [14] (by decide +kernel) (by decide +kernel)
set_option maxRecDepth 20000 in
theorem gX10_fewest_X10_fits : GoodIn wsX10_fewest (va_wsS RX10 93 yX10_fits wsX10_fits) := goodIn_app (goodIn_of _ (by decide +kernel)) ggX10_fewest_X10_fits
set_option maxRecDepth 20000 in
theorem ggX10_fewest_X10_refuse : GoodIn wsX10_fewest wsX10_refuse := goodIn_r _ [18, 19, 20, 21, 114, 115, 116, 117, 118, 119, 120, 121, 122, 123, 124, 125, 126, 127, 128, 129, 130] (by decide +kernel) (by decide +kernel)
set_option maxRecDepth 20000 in
theorem gX10_fewest_X10_refuse : GoodIn wsX10_fewest (wsV RX10 97 RX10 yX10_refuse wsX10_refuse) := goodIn_app (goodIn_of _ (by decide +kernel)) ggX10_fewest_X10_refuse
