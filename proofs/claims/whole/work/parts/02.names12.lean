theorem dX11_bits_18 : decode cX11_bits 18 = .ok (.iinc 2 1, 3) := by decide +kernel
theorem dX11_bits_21 : decode cX11_bits 21 = .ok (.goto (-17), 3) := by decide +kernel
theorem dX11_bits_24 : decode cX11_bits 24 = .ok (.iload_n 1, 1) := by decide +kernel
theorem dX11_bits_25 : decode cX11_bits 25 = .ok (.ireturn, 1) := by decide +kernel
theorem dX11_refuse_0 : decode cX11_refuse 0 = .ok (.aload_n 0, 1) := by decide +kernel
theorem dX11_refuse_1 : decode cX11_refuse 1 = .ok (.getfield 7, 3) := by decide +kernel
theorem dX11_refuse_4 : decode cX11_refuse 4 = .ok (.iload_n 1, 1) := by decide +kernel
theorem dX11_refuse_5 : decode cX11_refuse 5 = .ok (.dup2, 1) := by decide +kernel
theorem dX11_refuse_6 : decode cX11_refuse 6 = .ok (.iaload, 1) := by decide +kernel
theorem dX11_refuse_7 : decode cX11_refuse 7 = .ok (.iconst 1, 1) := by decide +kernel
theorem dX11_refuse_8 : decode cX11_refuse 8 = .ok (.iadd, 1) := by decide +kernel
theorem dX11_refuse_9 : decode cX11_refuse 9 = .ok (.iastore, 1) := by decide +kernel
theorem dX11_refuse_10 : decode cX11_refuse 10 = .ok (.iload_n 2, 1) := by decide +kernel
theorem dX11_refuse_11 : decode cX11_refuse 11 = .ok (.ireturn, 1) := by decide +kernel
set_option maxRecDepth 20000 in
theorem ggX11_bad_X11_refuse : GoodIn wsX11_bad wsX11_refuse := goodIn_r _ [5, 6, 7, 8, 9, 10, 11, 12, 13, 14, 15, 16, 17, 18, 19, 20, 21, 22, 23, 24, 25, 26] (by decide +kernel) (by decide +kernel)
set_option maxRecDepth 20000 in
theorem gX11_bad_X11_refuse : GoodIn wsX11_bad (wsV RX11 43 RX11 yX11_refuse wsX11_refuse) := goodIn_app (goodIn_of _ (by decide +kernel)) ggX11_bad_X11_refuse
theorem dX11_bad_0 : decode cX11_bad 0 = .ok (.aload_n 0, 1) := by decide +kernel
theorem dX11_bad_1 : decode cX11_bad 1 = .ok (.iconst 0, 1) := by decide +kernel
theorem dX11_bad_2 : decode cX11_bad 2 = .ok (.bipush (-2), 2) := by decide +kernel
theorem dX11_bad_4 : decode cX11_bad 4 = .ok (.invokevirtual 43, 3) := by decide +kernel
theorem dX11_bad_7 : decode cX11_bad 7 = .ok (.ireturn, 1) := by decide +kernel
set_option maxRecDepth 20000 in
theorem ggX11_badTen_X11_refuse : GoodIn wsX11_badTen wsX11_refuse := goodIn_r _ [5, 6, 7, 8, 9, 10, 11, 12, 13, 14, 15, 16, 17, 18, 19, 20, 21, 22, 23, 24, 25, 26] (by decide +kernel) (by decide +kernel)
set_option maxRecDepth 20000 in
theorem gX11_badTen_X11_refuse : GoodIn wsX11_badTen (wsV RX11 43 RX11 yX11_refuse wsX11_refuse) := goodIn_app (goodIn_of _ (by decide +kernel)) ggX11_badTen_X11_refuse
theorem dX11_badTen_0 : decode cX11_badTen 0 = .ok (.aload_n 0, 1) := by decide +kernel
theorem dX11_badTen_1 : decode cX11_badTen 1 = .ok (.iconst 0, 1) := by decide +kernel
theorem dX11_badTen_2 : decode cX11_badTen 2 = .ok (.bipush (-10), 2) := by decide +kernel
theorem dX11_badTen_4 : decode cX11_badTen 4 = .ok (.invokevirtual 43, 3) := by decide +kernel
theorem dX11_badTen_7 : decode cX11_badTen 7 = .ok (.ireturn, 1) := by decide +kernel
set_option maxRecDepth 20000 in
theorem ggX11_no_X11_refuse : GoodIn wsX11_no wsX11_refuse := goodIn_r _ [5, 6, 7, 8, 9, 10, 11, 12, 13, 14, 15, 16, 17, 18, 19, 20, 21, 22, 23, 24, 25, 26] (by decide +kernel) (by decide +kernel)
set_option maxRecDepth 20000 in
theorem gX11_no_X11_refuse : GoodIn wsX11_no (wsV RX11 43 RX11 yX11_refuse wsX11_refuse) := goodIn_app (goodIn_of _ (by decide +kernel)) ggX11_no_X11_refuse
theorem dX11_no_0 : decode cX11_no 0 = .ok (.aload_n 0, 1) := by decide +kernel
theorem dX11_no_1 : decode cX11_no 1 = .ok (.iconst 1, 1) := by decide +kernel
theorem dX11_no_2 : decode cX11_no 2 = .ok (.bipush (-3), 2) := by decide +kernel
theorem dX11_no_4 : decode cX11_no 4 = .ok (.invokevirtual 43, 3) := by decide +kernel
theorem dX11_no_7 : decode cX11_no 7 = .ok (.ireturn, 1) := by decide +kernel
set_option maxRecDepth 20000 in
theorem ggX11_full_X11_refuse : GoodIn wsX11_full wsX11_refuse := goodIn_r _ [5, 6, 7, 8, 9, 10, 11, 12, 13, 14, 15, 16, 17, 18, 19, 20, 21, 22, 23, 24, 25, 26] (by decide +kernel) (by decide +kernel)
set_option maxRecDepth 20000 in
theorem gX11_full_X11_refuse : GoodIn wsX11_full (wsV RX11 43 RX11 yX11_refuse wsX11_refuse) := goodIn_app (goodIn_of _ (by decide +kernel)) ggX11_full_X11_refuse
theorem dX11_full_0 : decode cX11_full 0 = .ok (.aload_n 0, 1) := by decide +kernel
theorem dX11_full_1 : decode cX11_full 1 = .ok (.iconst 2, 1) := by decide +kernel
theorem dX11_full_2 : decode cX11_full 2 = .ok (.bipush (-4), 2) := by decide +kernel
theorem dX11_full_4 : decode cX11_full 4 = .ok (.invokevirtual 43, 3) := by decide +kernel
theorem dX11_full_7 : decode cX11_full 7 = .ok (.ireturn, 1) := by decide +kernel
set_option maxRecDepth 20000 in
theorem ggX11_noWord_X11_in : GoodIn wsX11_noWord wsX11_in := goodIn_r _ [5] (by decide +kernel) (by decide +kernel)
set_option maxRecDepth 20000 in
theorem gX11_noWord_X11_in : GoodIn wsX11_noWord (va_wsS RX11 47 yX11_in wsX11_in) := goodIn_app (goodIn_of _ (by decide +kernel)) ggX11_noWord_X11_in
theorem dX11_noWord_0 : decode cX11_noWord 0 = .ok (.iload_n 1, 1) := by decide +kernel
theorem dX11_noWord_1 : decode cX11_noWord 1 = .ok (.i2l, 1) := by decide +kernel
theorem dX11_noWord_2 : decode cX11_noWord 2 = .ok (.lconst 0, 1) := by decide +kernel
theorem dX11_noWord_3 : decode cX11_noWord 3 = .ok (.aload_n 0, 1) := by decide +kernel
theorem dX11_noWord_4 : decode cX11_noWord 4 = .ok (.getfield 13, 3) := by decide +kernel
theorem dX11_noWord_7 : decode cX11_noWord 7 = .ok (.iconst 0, 1) := by decide +kernel
theorem dX11_noWord_8 : decode cX11_noWord 8 = .ok (.iaload, 1) := by decide +kernel
theorem dX11_noWord_9 : decode cX11_noWord 9 = .ok (.iconst 1, 1) := by decide +kernel
theorem dX11_noWord_10 : decode cX11_noWord 10 = .ok (.isub, 1) := by decide +kernel
theorem dX11_noWord_11 : decode cX11_noWord 11 = .ok (.i2l, 1) := by decide +kernel
theorem dX11_noWord_12 : decode cX11_noWord 12 = .ok (.invokestatic 47, 3) := by decide +kernel
theorem dX11_noWord_15 : decode cX11_noWord 15 = .ok (.ifCond .ne 7, 3) := by decide +kernel
theorem dX11_noWord_18 : decode cX11_noWord 18 = .ok (.iconst 1, 1) := by decide +kernel
theorem dX11_noWord_19 : decode cX11_noWord 19 = .ok (.goto 4, 3) := by decide +kernel
theorem dX11_noWord_22 : decode cX11_noWord 22 = .ok (.iconst 0, 1) := by decide +kernel
theorem dX11_noWord_23 : decode cX11_noWord 23 = .ok (.ireturn, 1) := by decide +kernel
set_option maxRecDepth 20000 in
theorem ggX11_noPerson_X11_in : GoodIn wsX11_noPerson wsX11_in := goodIn_r _ [5] (by decide +kernel) (by decide +kernel)
set_option maxRecDepth 20000 in
theorem gX11_noPerson_X11_in : GoodIn wsX11_noPerson (va_wsS RX11 47 yX11_in wsX11_in) := goodIn_app (goodIn_of _ (by decide +kernel)) ggX11_noPerson_X11_in
theorem dX11_noPerson_0 : decode cX11_noPerson 0 = .ok (.iload_n 1, 1) := by decide +kernel
theorem dX11_noPerson_1 : decode cX11_noPerson 1 = .ok (.i2l, 1) := by decide +kernel
theorem dX11_noPerson_2 : decode cX11_noPerson 2 = .ok (.lconst 0, 1) := by decide +kernel
theorem dX11_noPerson_3 : decode cX11_noPerson 3 = .ok (.aload_n 0, 1) := by decide +kernel
theorem dX11_noPerson_4 : decode cX11_noPerson 4 = .ok (.getfield 13, 3) := by decide +kernel
theorem dX11_noPerson_7 : decode cX11_noPerson 7 = .ok (.iconst 1, 1) := by decide +kernel
theorem dX11_noPerson_8 : decode cX11_noPerson 8 = .ok (.iaload, 1) := by decide +kernel
theorem dX11_noPerson_9 : decode cX11_noPerson 9 = .ok (.iconst 1, 1) := by decide +kernel
theorem dX11_noPerson_10 : decode cX11_noPerson 10 = .ok (.isub, 1) := by decide +kernel
theorem dX11_noPerson_11 : decode cX11_noPerson 11 = .ok (.i2l, 1) := by decide +kernel
theorem dX11_noPerson_12 : decode cX11_noPerson 12 = .ok (.invokestatic 47, 3) := by decide +kernel
theorem dX11_noPerson_15 : decode cX11_noPerson 15 = .ok (.ifCond .ne 7, 3) := by decide +kernel
theorem dX11_noPerson_18 : decode cX11_noPerson 18 = .ok (.iconst 1, 1) := by decide +kernel
theorem dX11_noPerson_19 : decode cX11_noPerson 19 = .ok (.goto 4, 3) := by decide +kernel
theorem dX11_noPerson_22 : decode cX11_noPerson 22 = .ok (.iconst 0, 1) := by decide +kernel
theorem dX11_noPerson_23 : decode cX11_noPerson 23 = .ok (.ireturn, 1) := by decide +kernel
set_option maxRecDepth 20000 in
theorem ggX11_isEnding_X11_in : GoodIn wsX11_isEnding wsX11_in := goodIn_r _ [5] (by decide +kernel) (by decide +kernel)
set_option maxRecDepth 20000 in
theorem gX11_isEnding_X11_in : GoodIn wsX11_isEnding (va_wsS RX11 47 yX11_in wsX11_in) := goodIn_app (goodIn_of _ (by decide +kernel)) ggX11_isEnding_X11_in
theorem dX11_isEnding_0 : decode cX11_isEnding 0 = .ok (.iload_n 0, 1) := by decide +kernel
theorem dX11_isEnding_1 : decode cX11_isEnding 1 = .ok (.i2l, 1) := by decide +kernel
theorem dX11_isEnding_2 : decode cX11_isEnding 2 = .ok (.lconst 0, 1) := by decide +kernel
theorem dX11_isEnding_3 : decode cX11_isEnding 3 = .ok (.ldc2_w 51, 3) := by decide +kernel
theorem dX11_isEnding_6 : decode cX11_isEnding 6 = .ok (.invokestatic 47, 3) := by decide +kernel
theorem dX11_isEnding_9 : decode cX11_isEnding 9 = .ok (.ireturn, 1) := by decide +kernel
set_option maxRecDepth 20000 in
theorem ggX11_areMeanings_X11_in : GoodIn wsX11_areMeanings wsX11_in := goodIn_r _ [5] (by decide +kernel) (by decide +kernel)
set_option maxRecDepth 20000 in
theorem gX11_areMeanings_X11_in : GoodIn wsX11_areMeanings (va_wsS RX11 47 yX11_in wsX11_in) := goodIn_app (goodIn_of _ (by decide +kernel)) ggX11_areMeanings_X11_in
theorem dX11_areMeanings_0 : decode cX11_areMeanings 0 = .ok (.iload_n 0, 1) := by decide +kernel
theorem dX11_areMeanings_1 : decode cX11_areMeanings 1 = .ok (.i2l, 1) := by decide +kernel
theorem dX11_areMeanings_2 : decode cX11_areMeanings 2 = .ok (.lconst 0, 1) := by decide +kernel
theorem dX11_areMeanings_3 : decode cX11_areMeanings 3 = .ok (.ldc2_w 53, 3) := by decide +kernel
theorem dX11_areMeanings_6 : decode cX11_areMeanings 6 = .ok (.invokestatic 47, 3) := by decide +kernel
theorem dX11_areMeanings_9 : decode cX11_areMeanings 9 = .ok (.ireturn, 1) := by decide +kernel
theorem dX11_ending_0 : decode cX11_ending 0 = .ok (.aload_n 0, 1) := by decide +kernel
theorem dX11_ending_1 : decode cX11_ending 1 = .ok (.getfield 13, 3) := by decide +kernel
theorem dX11_ending_4 : decode cX11_ending 4 = .ok (.iconst 5, 1) := by decide +kernel
theorem dX11_ending_5 : decode cX11_ending 5 = .ok (.iconst 3, 1) := by decide +kernel
theorem dX11_ending_6 : decode cX11_ending 6 = .ok (.iload_n 1, 1) := by decide +kernel
theorem dX11_ending_7 : decode cX11_ending 7 = .ok (.imul, 1) := by decide +kernel
theorem dX11_ending_8 : decode cX11_ending 8 = .ok (.iadd, 1) := by decide +kernel
theorem dX11_ending_9 : decode cX11_ending 9 = .ok (.iaload, 1) := by decide +kernel
theorem dX11_ending_10 : decode cX11_ending 10 = .ok (.ireturn, 1) := by decide +kernel
theorem dX11_meaning_0 : decode cX11_meaning 0 = .ok (.aload_n 0, 1) := by decide +kernel
theorem dX11_meaning_1 : decode cX11_meaning 1 = .ok (.getfield 13, 3) := by decide +kernel
theorem dX11_meaning_4 : decode cX11_meaning 4 = .ok (.iconst 5, 1) := by decide +kernel
theorem dX11_meaning_5 : decode cX11_meaning 5 = .ok (.iconst 3, 1) := by decide +kernel
theorem dX11_meaning_6 : decode cX11_meaning 6 = .ok (.iload_n 1, 1) := by decide +kernel
theorem dX11_meaning_7 : decode cX11_meaning 7 = .ok (.imul, 1) := by decide +kernel
theorem dX11_meaning_8 : decode cX11_meaning 8 = .ok (.iadd, 1) := by decide +kernel
theorem dX11_meaning_9 : decode cX11_meaning 9 = .ok (.iconst 1, 1) := by decide +kernel
theorem dX11_meaning_10 : decode cX11_meaning 10 = .ok (.iadd, 1) := by decide +kernel
theorem dX11_meaning_11 : decode cX11_meaning 11 = .ok (.iaload, 1) := by decide +kernel
theorem dX11_meaning_12 : decode cX11_meaning 12 = .ok (.ireturn, 1) := by decide +kernel
theorem dX11_kind_0 : decode cX11_kind 0 = .ok (.aload_n 0, 1) := by decide +kernel
theorem dX11_kind_1 : decode cX11_kind 1 = .ok (.getfield 13, 3) := by decide +kernel
theorem dX11_kind_4 : decode cX11_kind 4 = .ok (.bipush 35, 2) := by decide +kernel
theorem dX11_kind_6 : decode cX11_kind 6 = .ok (.iconst 2, 1) := by decide +kernel
theorem dX11_kind_7 : decode cX11_kind 7 = .ok (.iload_n 1, 1) := by decide +kernel
theorem dX11_kind_8 : decode cX11_kind 8 = .ok (.imul, 1) := by decide +kernel
theorem dX11_kind_9 : decode cX11_kind 9 = .ok (.iadd, 1) := by decide +kernel
theorem dX11_kind_10 : decode cX11_kind 10 = .ok (.iaload, 1) := by decide +kernel
theorem dX11_kind_11 : decode cX11_kind 11 = .ok (.ireturn, 1) := by decide +kernel
theorem dX11_want_0 : decode cX11_want 0 = .ok (.aload_n 0, 1) := by decide +kernel
theorem dX11_want_1 : decode cX11_want 1 = .ok (.getfield 13, 3) := by decide +kernel
theorem dX11_want_4 : decode cX11_want 4 = .ok (.bipush 35, 2) := by decide +kernel
theorem dX11_want_6 : decode cX11_want 6 = .ok (.iconst 2, 1) := by decide +kernel
theorem dX11_want_7 : decode cX11_want 7 = .ok (.iload_n 1, 1) := by decide +kernel
theorem dX11_want_8 : decode cX11_want 8 = .ok (.imul, 1) := by decide +kernel
theorem dX11_want_9 : decode cX11_want 9 = .ok (.iadd, 1) := by decide +kernel
theorem dX11_want_10 : decode cX11_want 10 = .ok (.iconst 1, 1) := by decide +kernel
theorem dX11_want_11 : decode cX11_want 11 = .ok (.iadd, 1) := by decide +kernel
theorem dX11_want_12 : decode cX11_want 12 = .ok (.iaload, 1) := by decide +kernel
theorem dX11_want_13 : decode cX11_want 13 = .ok (.ireturn, 1) := by decide +kernel
theorem dX11_tongue_0 : decode cX11_tongue 0 = .ok (.aload_n 0, 1) := by decide +kernel
theorem dX11_tongue_1 : decode cX11_tongue 1 = .ok (.iconst 0, 1) := by decide +kernel
theorem dX11_tongue_2 : decode cX11_tongue 2 = .ok (.putfield 39, 3) := by decide +kernel
theorem dX11_tongue_5 : decode cX11_tongue 5 = .ok (.aload_n 0, 1) := by decide +kernel
theorem dX11_tongue_6 : decode cX11_tongue 6 = .ok (.getfield 13, 3) := by decide +kernel
theorem dX11_tongue_9 : decode cX11_tongue 9 = .ok (.iconst 0, 1) := by decide +kernel
theorem dX11_tongue_10 : decode cX11_tongue 10 = .ok (.iaload, 1) := by decide +kernel
theorem dX11_tongue_11 : decode cX11_tongue 11 = .ok (.istore_n 1, 1) := by decide +kernel
theorem dX11_tongue_12 : decode cX11_tongue 12 = .ok (.iconst 0, 1) := by decide +kernel
theorem dX11_tongue_13 : decode cX11_tongue 13 = .ok (.istore_n 2, 1) := by decide +kernel
theorem dX11_tongue_14 : decode cX11_tongue 14 = .ok (.iload_n 2, 1) := by decide +kernel
theorem dX11_tongue_15 : decode cX11_tongue 15 = .ok (.bipush 73, 2) := by decide +kernel
theorem dX11_tongue_17 : decode cX11_tongue 17 = .ok (.if_icmp .ge 16, 3) := by decide +kernel
theorem dX11_tongue_20 : decode cX11_tongue 20 = .ok (.aload_n 0, 1) := by decide +kernel
theorem dX11_tongue_21 : decode cX11_tongue 21 = .ok (.getfield 13, 3) := by decide +kernel
theorem dX11_tongue_24 : decode cX11_tongue 24 = .ok (.iload_n 2, 1) := by decide +kernel
theorem dX11_tongue_25 : decode cX11_tongue 25 = .ok (.iconst 0, 1) := by decide +kernel
theorem dX11_tongue_26 : decode cX11_tongue 26 = .ok (.iastore, 1) := by decide +kernel
theorem dX11_tongue_27 : decode cX11_tongue 27 = .ok (.iinc 2 1, 3) := by decide +kernel
theorem dX11_tongue_30 : decode cX11_tongue 30 = .ok (.goto (-16), 3) := by decide +kernel
theorem dX11_tongue_33 : decode cX11_tongue 33 = .ok (.iload_n 1, 1) := by decide +kernel
theorem dX11_tongue_34 : decode cX11_tongue 34 = .ok (.ireturn, 1) := by decide +kernel
theorem dX11_addWord_0 : decode cX11_addWord 0 = .ok (.iconst 5, 1) := by decide +kernel
theorem dX11_addWord_1 : decode cX11_addWord 1 = .ok (.iconst 3, 1) := by decide +kernel
theorem dX11_addWord_2 : decode cX11_addWord 2 = .ok (.aload_n 0, 1) := by decide +kernel
theorem dX11_addWord_3 : decode cX11_addWord 3 = .ok (.iconst 0, 1) := by decide +kernel
theorem dX11_addWord_4 : decode cX11_addWord 4 = .ok (.iaload, 1) := by decide +kernel
theorem dX11_addWord_5 : decode cX11_addWord 5 = .ok (.imul, 1) := by decide +kernel
theorem dX11_addWord_6 : decode cX11_addWord 6 = .ok (.iadd, 1) := by decide +kernel
theorem dX11_addWord_7 : decode cX11_addWord 7 = .ok (.istore 4, 2) := by decide +kernel
theorem dX11_addWord_9 : decode cX11_addWord 9 = .ok (.aload_n 0, 1) := by decide +kernel
theorem dX11_addWord_10 : decode cX11_addWord 10 = .ok (.iload 4, 2) := by decide +kernel
theorem dX11_addWord_12 : decode cX11_addWord 12 = .ok (.iload_n 1, 1) := by decide +kernel
theorem dX11_addWord_13 : decode cX11_addWord 13 = .ok (.iastore, 1) := by decide +kernel
theorem dX11_addWord_14 : decode cX11_addWord 14 = .ok (.aload_n 0, 1) := by decide +kernel
theorem dX11_addWord_15 : decode cX11_addWord 15 = .ok (.iload 4, 2) := by decide +kernel
theorem dX11_addWord_17 : decode cX11_addWord 17 = .ok (.iconst 1, 1) := by decide +kernel
theorem dX11_addWord_18 : decode cX11_addWord 18 = .ok (.iadd, 1) := by decide +kernel
theorem dX11_addWord_19 : decode cX11_addWord 19 = .ok (.iload_n 2, 1) := by decide +kernel
theorem dX11_addWord_20 : decode cX11_addWord 20 = .ok (.iastore, 1) := by decide +kernel
theorem dX11_addWord_21 : decode cX11_addWord 21 = .ok (.aload_n 0, 1) := by decide +kernel
theorem dX11_addWord_22 : decode cX11_addWord 22 = .ok (.iload 4, 2) := by decide +kernel
theorem dX11_addWord_24 : decode cX11_addWord 24 = .ok (.iconst 2, 1) := by decide +kernel
theorem dX11_addWord_25 : decode cX11_addWord 25 = .ok (.iadd, 1) := by decide +kernel
theorem dX11_addWord_26 : decode cX11_addWord 26 = .ok (.iload_n 3, 1) := by decide +kernel
theorem dX11_addWord_27 : decode cX11_addWord 27 = .ok (.iastore, 1) := by decide +kernel
theorem dX11_addWord_28 : decode cX11_addWord 28 = .ok (.aload_n 0, 1) := by decide +kernel
theorem dX11_addWord_29 : decode cX11_addWord 29 = .ok (.iconst 0, 1) := by decide +kernel
theorem dX11_addWord_30 : decode cX11_addWord 30 = .ok (.dup2, 1) := by decide +kernel
theorem dX11_addWord_31 : decode cX11_addWord 31 = .ok (.iaload, 1) := by decide +kernel
theorem dX11_addWord_32 : decode cX11_addWord 32 = .ok (.iconst 1, 1) := by decide +kernel
theorem dX11_addWord_33 : decode cX11_addWord 33 = .ok (.iadd, 1) := by decide +kernel
theorem dX11_addWord_34 : decode cX11_addWord 34 = .ok (.iastore, 1) := by decide +kernel
theorem dX11_addWord_35 : decode cX11_addWord 35 = .ok (.return_, 1) := by decide +kernel
theorem dX11_addPerson_0 : decode cX11_addPerson 0 = .ok (.bipush 35, 2) := by decide +kernel
theorem dX11_addPerson_2 : decode cX11_addPerson 2 = .ok (.iconst 2, 1) := by decide +kernel
theorem dX11_addPerson_3 : decode cX11_addPerson 3 = .ok (.aload_n 0, 1) := by decide +kernel
theorem dX11_addPerson_4 : decode cX11_addPerson 4 = .ok (.iconst 1, 1) := by decide +kernel
theorem dX11_addPerson_5 : decode cX11_addPerson 5 = .ok (.iaload, 1) := by decide +kernel
theorem dX11_addPerson_6 : decode cX11_addPerson 6 = .ok (.imul, 1) := by decide +kernel
theorem dX11_addPerson_7 : decode cX11_addPerson 7 = .ok (.iadd, 1) := by decide +kernel
theorem dX11_addPerson_8 : decode cX11_addPerson 8 = .ok (.istore_n 3, 1) := by decide +kernel
theorem dX11_addPerson_9 : decode cX11_addPerson 9 = .ok (.aload_n 0, 1) := by decide +kernel
theorem dX11_addPerson_10 : decode cX11_addPerson 10 = .ok (.iload_n 3, 1) := by decide +kernel
theorem dX11_addPerson_11 : decode cX11_addPerson 11 = .ok (.iload_n 1, 1) := by decide +kernel
theorem dX11_addPerson_12 : decode cX11_addPerson 12 = .ok (.iastore, 1) := by decide +kernel
theorem dX11_addPerson_13 : decode cX11_addPerson 13 = .ok (.aload_n 0, 1) := by decide +kernel
theorem dX11_addPerson_14 : decode cX11_addPerson 14 = .ok (.iload_n 3, 1) := by decide +kernel
theorem dX11_addPerson_15 : decode cX11_addPerson 15 = .ok (.iconst 1, 1) := by decide +kernel
theorem dX11_addPerson_16 : decode cX11_addPerson 16 = .ok (.iadd, 1) := by decide +kernel
theorem dX11_addPerson_17 : decode cX11_addPerson 17 = .ok (.iload_n 2, 1) := by decide +kernel
theorem dX11_addPerson_18 : decode cX11_addPerson 18 = .ok (.iastore, 1) := by decide +kernel
theorem dX11_addPerson_19 : decode cX11_addPerson 19 = .ok (.aload_n 0, 1) := by decide +kernel
theorem dX11_addPerson_20 : decode cX11_addPerson 20 = .ok (.iconst 1, 1) := by decide +kernel
theorem dX11_addPerson_21 : decode cX11_addPerson 21 = .ok (.dup2, 1) := by decide +kernel
theorem dX11_addPerson_22 : decode cX11_addPerson 22 = .ok (.iaload, 1) := by decide +kernel
theorem dX11_addPerson_23 : decode cX11_addPerson 23 = .ok (.iconst 1, 1) := by decide +kernel
theorem dX11_addPerson_24 : decode cX11_addPerson 24 = .ok (.iadd, 1) := by decide +kernel
theorem dX11_addPerson_25 : decode cX11_addPerson 25 = .ok (.iastore, 1) := by decide +kernel
theorem dX11_addPerson_26 : decode cX11_addPerson 26 = .ok (.return_, 1) := by decide +kernel
theorem dX11_setAlike_0 : decode cX11_setAlike 0 = .ok (.aload_n 0, 1) := by decide +kernel
theorem dX11_setAlike_1 : decode cX11_setAlike 1 = .ok (.bipush 45, 2) := by decide +kernel
theorem dX11_setAlike_3 : decode cX11_setAlike 3 = .ok (.iload_n 1, 1) := by decide +kernel
theorem dX11_setAlike_4 : decode cX11_setAlike 4 = .ok (.iadd, 1) := by decide +kernel
theorem dX11_setAlike_5 : decode cX11_setAlike 5 = .ok (.aload_n 0, 1) := by decide +kernel
theorem dX11_setAlike_6 : decode cX11_setAlike 6 = .ok (.bipush 45, 2) := by decide +kernel
theorem dX11_setAlike_8 : decode cX11_setAlike 8 = .ok (.iload_n 1, 1) := by decide +kernel
theorem dX11_setAlike_9 : decode cX11_setAlike 9 = .ok (.iadd, 1) := by decide +kernel
theorem dX11_setAlike_10 : decode cX11_setAlike 10 = .ok (.iaload, 1) := by decide +kernel
theorem dX11_setAlike_11 : decode cX11_setAlike 11 = .ok (.iconst 1, 1) := by decide +kernel
theorem dX11_setAlike_12 : decode cX11_setAlike 12 = .ok (.iload_n 2, 1) := by decide +kernel
theorem dX11_setAlike_13 : decode cX11_setAlike 13 = .ok (.ishl, 1) := by decide +kernel
theorem dX11_setAlike_14 : decode cX11_setAlike 14 = .ok (.iconst (-1), 1) := by decide +kernel
theorem dX11_setAlike_15 : decode cX11_setAlike 15 = .ok (.ixor, 1) := by decide +kernel
theorem dX11_setAlike_16 : decode cX11_setAlike 16 = .ok (.iand, 1) := by decide +kernel
theorem dX11_setAlike_17 : decode cX11_setAlike 17 = .ok (.iload_n 3, 1) := by decide +kernel
theorem dX11_setAlike_18 : decode cX11_setAlike 18 = .ok (.iload_n 2, 1) := by decide +kernel
theorem dX11_setAlike_19 : decode cX11_setAlike 19 = .ok (.ishl, 1) := by decide +kernel
theorem dX11_setAlike_20 : decode cX11_setAlike 20 = .ok (.ior, 1) := by decide +kernel
theorem dX11_setAlike_21 : decode cX11_setAlike 21 = .ok (.iastore, 1) := by decide +kernel
theorem dX11_setAlike_22 : decode cX11_setAlike 22 = .ok (.aload_n 0, 1) := by decide +kernel
theorem dX11_setAlike_23 : decode cX11_setAlike 23 = .ok (.bipush 45, 2) := by decide +kernel
theorem dX11_setAlike_25 : decode cX11_setAlike 25 = .ok (.iload_n 2, 1) := by decide +kernel
theorem dX11_setAlike_26 : decode cX11_setAlike 26 = .ok (.iadd, 1) := by decide +kernel
theorem dX11_setAlike_27 : decode cX11_setAlike 27 = .ok (.aload_n 0, 1) := by decide +kernel
theorem dX11_setAlike_28 : decode cX11_setAlike 28 = .ok (.bipush 45, 2) := by decide +kernel
theorem dX11_setAlike_30 : decode cX11_setAlike 30 = .ok (.iload_n 2, 1) := by decide +kernel
theorem dX11_setAlike_31 : decode cX11_setAlike 31 = .ok (.iadd, 1) := by decide +kernel
theorem dX11_setAlike_32 : decode cX11_setAlike 32 = .ok (.iaload, 1) := by decide +kernel
theorem dX11_setAlike_33 : decode cX11_setAlike 33 = .ok (.iconst 1, 1) := by decide +kernel
theorem dX11_setAlike_34 : decode cX11_setAlike 34 = .ok (.iload_n 1, 1) := by decide +kernel
theorem dX11_setAlike_35 : decode cX11_setAlike 35 = .ok (.ishl, 1) := by decide +kernel
theorem dX11_setAlike_36 : decode cX11_setAlike 36 = .ok (.iconst (-1), 1) := by decide +kernel
theorem dX11_setAlike_37 : decode cX11_setAlike 37 = .ok (.ixor, 1) := by decide +kernel
theorem dX11_setAlike_38 : decode cX11_setAlike 38 = .ok (.iand, 1) := by decide +kernel
theorem dX11_setAlike_39 : decode cX11_setAlike 39 = .ok (.iload_n 3, 1) := by decide +kernel
theorem dX11_setAlike_40 : decode cX11_setAlike 40 = .ok (.iload_n 1, 1) := by decide +kernel
theorem dX11_setAlike_41 : decode cX11_setAlike 41 = .ok (.ishl, 1) := by decide +kernel
theorem dX11_setAlike_42 : decode cX11_setAlike 42 = .ok (.ior, 1) := by decide +kernel
theorem dX11_setAlike_43 : decode cX11_setAlike 43 = .ok (.iastore, 1) := by decide +kernel
theorem dX11_setAlike_44 : decode cX11_setAlike 44 = .ok (.return_, 1) := by decide +kernel
set_option maxRecDepth 20000 in
theorem ggX11_word_X11_isEnding : GoodIn wsX11_word wsX11_isEnding := goodIn_r _ [8, 2, 9, 10, 7, 11] (by decide +kernel) (by decide +kernel)
set_option maxRecDepth 20000 in
theorem gX11_word_X11_isEnding : GoodIn wsX11_word (va_wsS RX11 55 yX11_isEnding wsX11_isEnding) := goodIn_app (goodIn_of _ (by decide +kernel)) ggX11_word_X11_isEnding
set_option maxRecDepth 20000 in
theorem ggX11_word_X11_in : GoodIn wsX11_word wsX11_in := goodIn_r _ [11] (by decide +kernel) (by decide +kernel)
set_option maxRecDepth 20000 in
theorem gX11_word_X11_in : GoodIn wsX11_word (va_wsS RX11 47 yX11_in wsX11_in) := goodIn_app (goodIn_of _ (by decide +kernel)) ggX11_word_X11_in
set_option maxRecDepth 20000 in
theorem ggX11_word_X11_bad : GoodIn wsX11_word wsX11_bad := goodIn_r _ [15, 16, 17, 18, 7, 19, 20, 28, 29, 30, 31, 32, 33, 34, 35, 36, 37, 38, 39, 40, 41, 42, 43, 44, 45, 46, 47] (by decide +kernel) (by decide +kernel)
set_option maxRecDepth 20000 in
theorem gX11_word_X11_bad : GoodIn wsX11_word (wsV RX11 61 RX11 yX11_bad wsX11_bad) := goodIn_app (goodIn_of _ (by decide +kernel)) ggX11_word_X11_bad
set_option maxRecDepth 20000 in
theorem ggX11_word_X11_full : GoodIn wsX11_word wsX11_full := goodIn_r _ [24, 16, 17, 18, 7, 19, 20, 28, 29, 30, 31, 32, 33, 34, 35, 36, 37, 38, 39, 40, 41, 42, 43, 44, 45, 46, 47] (by decide +kernel) (by decide +kernel)
set_option maxRecDepth 20000 in
theorem gX11_word_X11_full : GoodIn wsX11_word (wsV RX11 65 RX11 yX11_full wsX11_full) := goodIn_app (goodIn_of _ (by decide +kernel)) ggX11_word_X11_full
set_option maxRecDepth 20000 in
theorem ggX11_word_X11_addWord : GoodIn wsX11_word wsX11_addWord := goodIn_r _ [27] (by decide +kernel) (by decide +kernel)
set_option maxRecDepth 20000 in
theorem gX11_word_X11_addWord : GoodIn wsX11_word (va_wsS RX11 68 yX11_addWord wsX11_addWord) := goodIn_app (goodIn_of _ (by decide +kernel)) ggX11_word_X11_addWord
theorem dX11_word_0 : decode cX11_word 0 = .ok (.aload_n 0, 1) := by decide +kernel
theorem dX11_word_1 : decode cX11_word 1 = .ok (.iconst 0, 1) := by decide +kernel
theorem dX11_word_2 : decode cX11_word 2 = .ok (.putfield 39, 3) := by decide +kernel
theorem dX11_word_5 : decode cX11_word 5 = .ok (.iload_n 1, 1) := by decide +kernel
theorem dX11_word_6 : decode cX11_word 6 = .ok (.invokestatic 55, 3) := by decide +kernel
theorem dX11_word_9 : decode cX11_word 9 = .ok (.ifCond .eq 27, 3) := by decide +kernel
theorem dX11_word_12 : decode cX11_word 12 = .ok (.iload_n 2, 1) := by decide +kernel
theorem dX11_word_13 : decode cX11_word 13 = .ok (.i2l, 1) := by decide +kernel
theorem dX11_word_14 : decode cX11_word 14 = .ok (.lconst 0, 1) := by decide +kernel
theorem dX11_word_15 : decode cX11_word 15 = .ok (.ldc2_w 51, 3) := by decide +kernel
theorem dX11_word_18 : decode cX11_word 18 = .ok (.invokestatic 47, 3) := by decide +kernel
theorem dX11_word_21 : decode cX11_word 21 = .ok (.ifCond .eq 15, 3) := by decide +kernel
theorem dX11_word_24 : decode cX11_word 24 = .ok (.iload_n 3, 1) := by decide +kernel
theorem dX11_word_25 : decode cX11_word 25 = .ok (.i2l, 1) := by decide +kernel
theorem dX11_word_26 : decode cX11_word 26 = .ok (.lconst 0, 1) := by decide +kernel
theorem dX11_word_27 : decode cX11_word 27 = .ok (.ldc2_w 59, 3) := by decide +kernel
theorem dX11_word_30 : decode cX11_word 30 = .ok (.invokestatic 47, 3) := by decide +kernel
theorem dX11_word_33 : decode cX11_word 33 = .ok (.ifCond .ne 8, 3) := by decide +kernel
theorem dX11_word_36 : decode cX11_word 36 = .ok (.aload_n 0, 1) := by decide +kernel
theorem dX11_word_37 : decode cX11_word 37 = .ok (.invokevirtual 61, 3) := by decide +kernel
theorem dX11_word_40 : decode cX11_word 40 = .ok (.ireturn, 1) := by decide +kernel
theorem dX11_word_41 : decode cX11_word 41 = .ok (.aload_n 0, 1) := by decide +kernel
theorem dX11_word_42 : decode cX11_word 42 = .ok (.getfield 13, 3) := by decide +kernel
theorem dX11_word_45 : decode cX11_word 45 = .ok (.iconst 0, 1) := by decide +kernel
theorem dX11_word_46 : decode cX11_word 46 = .ok (.iaload, 1) := by decide +kernel
theorem dX11_word_47 : decode cX11_word 47 = .ok (.bipush 10, 2) := by decide +kernel
theorem dX11_word_49 : decode cX11_word 49 = .ok (.if_icmp .ne 8, 3) := by decide +kernel
theorem dX11_word_52 : decode cX11_word 52 = .ok (.aload_n 0, 1) := by decide +kernel
theorem dX11_word_53 : decode cX11_word 53 = .ok (.invokevirtual 65, 3) := by decide +kernel
theorem dX11_word_56 : decode cX11_word 56 = .ok (.ireturn, 1) := by decide +kernel
theorem dX11_word_57 : decode cX11_word 57 = .ok (.aload_n 0, 1) := by decide +kernel
theorem dX11_word_58 : decode cX11_word 58 = .ok (.getfield 13, 3) := by decide +kernel
theorem dX11_word_61 : decode cX11_word 61 = .ok (.iload_n 1, 1) := by decide +kernel
theorem dX11_word_62 : decode cX11_word 62 = .ok (.iload_n 2, 1) := by decide +kernel
theorem dX11_word_63 : decode cX11_word 63 = .ok (.iload_n 3, 1) := by decide +kernel
theorem dX11_word_64 : decode cX11_word 64 = .ok (.invokestatic 68, 3) := by decide +kernel
theorem dX11_word_67 : decode cX11_word 67 = .ok (.aload_n 0, 1) := by decide +kernel
theorem dX11_word_68 : decode cX11_word 68 = .ok (.getfield 13, 3) := by decide +kernel
theorem dX11_word_71 : decode cX11_word 71 = .ok (.iconst 4, 1) := by decide +kernel
theorem dX11_word_72 : decode cX11_word 72 = .ok (.iconst 0, 1) := by decide +kernel
theorem dX11_word_73 : decode cX11_word 73 = .ok (.iastore, 1) := by decide +kernel
theorem dX11_word_74 : decode cX11_word 74 = .ok (.aload_n 0, 1) := by decide +kernel
theorem dX11_word_75 : decode cX11_word 75 = .ok (.getfield 13, 3) := by decide +kernel
theorem dX11_word_78 : decode cX11_word 78 = .ok (.iconst 0, 1) := by decide +kernel
theorem dX11_word_79 : decode cX11_word 79 = .ok (.iaload, 1) := by decide +kernel
theorem dX11_word_80 : decode cX11_word 80 = .ok (.iconst 1, 1) := by decide +kernel
theorem dX11_word_81 : decode cX11_word 81 = .ok (.isub, 1) := by decide +kernel
theorem dX11_word_82 : decode cX11_word 82 = .ok (.ireturn, 1) := by decide +kernel
set_option maxRecDepth 20000 in
theorem ggX11_alike_X11_isEnding : GoodIn wsX11_alike wsX11_isEnding := goodIn_r _ [6, 7, 8, 9, 5, 10] (by decide +kernel) (by decide +kernel)
set_option maxRecDepth 20000 in
theorem gX11_alike_X11_isEnding : GoodIn wsX11_alike (va_wsS RX11 55 yX11_isEnding wsX11_isEnding) := goodIn_app (goodIn_of _ (by decide +kernel)) ggX11_alike_X11_isEnding
set_option maxRecDepth 20000 in
theorem ggX11_alike_X11_in : GoodIn wsX11_alike wsX11_in := goodIn_r _ [10] (by decide +kernel) (by decide +kernel)
set_option maxRecDepth 20000 in
theorem gX11_alike_X11_in : GoodIn wsX11_alike (va_wsS RX11 47 yX11_in wsX11_in) := goodIn_app (goodIn_of _ (by decide +kernel)) ggX11_alike_X11_in
set_option maxRecDepth 20000 in
theorem ggX11_alike_X11_bad : GoodIn wsX11_alike wsX11_bad := goodIn_r _ [14, 15, 16, 17, 5, 18, 19, 23, 24, 25, 26, 27, 28, 29, 30, 31, 32, 33, 34, 35, 36, 37, 38, 39, 40, 41, 42] (by decide +kernel) (by decide +kernel)
set_option maxRecDepth 20000 in
theorem gX11_alike_X11_bad : GoodIn wsX11_alike (wsV RX11 61 RX11 yX11_bad wsX11_bad) := goodIn_app (goodIn_of _ (by decide +kernel)) ggX11_alike_X11_bad
set_option maxRecDepth 20000 in
theorem ggX11_alike_X11_setAlike : GoodIn wsX11_alike wsX11_setAlike := goodIn_r _ [22] (by decide +kernel) (by decide +kernel)
set_option maxRecDepth 20000 in
theorem gX11_alike_X11_setAlike : GoodIn wsX11_alike (va_wsS RX11 72 yX11_setAlike wsX11_setAlike) := goodIn_app (goodIn_of _ (by decide +kernel)) ggX11_alike_X11_setAlike
theorem dX11_alike_0 : decode cX11_alike 0 = .ok (.aload_n 0, 1) := by decide +kernel
theorem dX11_alike_1 : decode cX11_alike 1 = .ok (.iconst 0, 1) := by decide +kernel
theorem dX11_alike_2 : decode cX11_alike 2 = .ok (.putfield 39, 3) := by decide +kernel
theorem dX11_alike_5 : decode cX11_alike 5 = .ok (.iload_n 1, 1) := by decide +kernel
theorem dX11_alike_6 : decode cX11_alike 6 = .ok (.invokestatic 55, 3) := by decide +kernel
theorem dX11_alike_9 : decode cX11_alike 9 = .ok (.ifCond .eq 25, 3) := by decide +kernel
theorem dX11_alike_12 : decode cX11_alike 12 = .ok (.iload_n 2, 1) := by decide +kernel
theorem dX11_alike_13 : decode cX11_alike 13 = .ok (.invokestatic 55, 3) := by decide +kernel
theorem dX11_alike_16 : decode cX11_alike 16 = .ok (.ifCond .eq 18, 3) := by decide +kernel
theorem dX11_alike_19 : decode cX11_alike 19 = .ok (.iload_n 1, 1) := by decide +kernel
theorem dX11_alike_20 : decode cX11_alike 20 = .ok (.iload_n 2, 1) := by decide +kernel
theorem dX11_alike_21 : decode cX11_alike 21 = .ok (.if_icmp .eq 13, 3) := by decide +kernel
theorem dX11_alike_24 : decode cX11_alike 24 = .ok (.iload_n 3, 1) := by decide +kernel
theorem dX11_alike_25 : decode cX11_alike 25 = .ok (.i2l, 1) := by decide +kernel
theorem dX11_alike_26 : decode cX11_alike 26 = .ok (.lconst 0, 1) := by decide +kernel
theorem dX11_alike_27 : decode cX11_alike 27 = .ok (.lconst 1, 1) := by decide +kernel
theorem dX11_alike_28 : decode cX11_alike 28 = .ok (.invokestatic 47, 3) := by decide +kernel
theorem dX11_alike_31 : decode cX11_alike 31 = .ok (.ifCond .ne 8, 3) := by decide +kernel
theorem dX11_alike_34 : decode cX11_alike 34 = .ok (.aload_n 0, 1) := by decide +kernel
theorem dX11_alike_35 : decode cX11_alike 35 = .ok (.invokevirtual 61, 3) := by decide +kernel
theorem dX11_alike_38 : decode cX11_alike 38 = .ok (.ireturn, 1) := by decide +kernel
theorem dX11_alike_39 : decode cX11_alike 39 = .ok (.aload_n 0, 1) := by decide +kernel
theorem dX11_alike_40 : decode cX11_alike 40 = .ok (.getfield 13, 3) := by decide +kernel
theorem dX11_alike_43 : decode cX11_alike 43 = .ok (.bipush 45, 2) := by decide +kernel
theorem dX11_alike_45 : decode cX11_alike 45 = .ok (.iload_n 1, 1) := by decide +kernel
theorem dX11_alike_46 : decode cX11_alike 46 = .ok (.iadd, 1) := by decide +kernel
theorem dX11_alike_47 : decode cX11_alike 47 = .ok (.iaload, 1) := by decide +kernel
theorem dX11_alike_48 : decode cX11_alike 48 = .ok (.iload_n 2, 1) := by decide +kernel
theorem dX11_alike_49 : decode cX11_alike 49 = .ok (.ishr, 1) := by decide +kernel
theorem dX11_alike_50 : decode cX11_alike 50 = .ok (.iconst 1, 1) := by decide +kernel
theorem dX11_alike_51 : decode cX11_alike 51 = .ok (.iand, 1) := by decide +kernel
theorem dX11_alike_52 : decode cX11_alike 52 = .ok (.istore 4, 2) := by decide +kernel
theorem dX11_alike_54 : decode cX11_alike 54 = .ok (.aload_n 0, 1) := by decide +kernel
theorem dX11_alike_55 : decode cX11_alike 55 = .ok (.getfield 13, 3) := by decide +kernel
theorem dX11_alike_58 : decode cX11_alike 58 = .ok (.iload_n 1, 1) := by decide +kernel
theorem dX11_alike_59 : decode cX11_alike 59 = .ok (.iload_n 2, 1) := by decide +kernel
theorem dX11_alike_60 : decode cX11_alike 60 = .ok (.iload_n 3, 1) := by decide +kernel
theorem dX11_alike_61 : decode cX11_alike 61 = .ok (.invokestatic 72, 3) := by decide +kernel
theorem dX11_alike_64 : decode cX11_alike 64 = .ok (.iload 4, 2) := by decide +kernel
theorem dX11_alike_66 : decode cX11_alike 66 = .ok (.ireturn, 1) := by decide +kernel
set_option maxRecDepth 20000 in
theorem ggX11_person_X11_in : GoodIn wsX11_person wsX11_in := goodIn_r _ [8] (by decide +kernel) (by decide +kernel)
set_option maxRecDepth 20000 in
theorem gX11_person_X11_in : GoodIn wsX11_person (va_wsS RX11 47 yX11_in wsX11_in) := goodIn_app (goodIn_of _ (by decide +kernel)) ggX11_person_X11_in
set_option maxRecDepth 20000 in
theorem ggX11_person_X11_bad : GoodIn wsX11_person wsX11_bad := goodIn_r _ [12, 13, 14, 15, 7, 16, 17, 25, 26, 27, 28, 29, 30, 31, 32, 33, 34, 35, 36, 37, 38, 39, 40, 41, 42, 43, 44] (by decide +kernel) (by decide +kernel)
set_option maxRecDepth 20000 in
theorem gX11_person_X11_bad : GoodIn wsX11_person (wsV RX11 61 RX11 yX11_bad wsX11_bad) := goodIn_app (goodIn_of _ (by decide +kernel)) ggX11_person_X11_bad
set_option maxRecDepth 20000 in
theorem ggX11_person_X11_full : GoodIn wsX11_person wsX11_full := goodIn_r _ [21, 13, 14, 15, 7, 16, 17, 25, 26, 27, 28, 29, 30, 31, 32, 33, 34, 35, 36, 37, 38, 39, 40, 41, 42, 43, 44] (by decide +kernel) (by decide +kernel)
set_option maxRecDepth 20000 in
theorem gX11_person_X11_full : GoodIn wsX11_person (wsV RX11 65 RX11 yX11_full wsX11_full) := goodIn_app (goodIn_of _ (by decide +kernel)) ggX11_person_X11_full
set_option maxRecDepth 20000 in
theorem ggX11_person_X11_addPerson : GoodIn wsX11_person wsX11_addPerson := goodIn_r _ [24] (by decide +kernel) (by decide +kernel)
set_option maxRecDepth 20000 in
theorem gX11_person_X11_addPerson : GoodIn wsX11_person (va_wsS RX11 77 yX11_addPerson wsX11_addPerson) := goodIn_app (goodIn_of _ (by decide +kernel)) ggX11_person_X11_addPerson
theorem dX11_person_0 : decode cX11_person 0 = .ok (.aload_n 0, 1) := by decide +kernel
theorem dX11_person_1 : decode cX11_person 1 = .ok (.iconst 0, 1) := by decide +kernel
theorem dX11_person_2 : decode cX11_person 2 = .ok (.putfield 39, 3) := by decide +kernel
theorem dX11_person_5 : decode cX11_person 5 = .ok (.iload_n 1, 1) := by decide +kernel
theorem dX11_person_6 : decode cX11_person 6 = .ok (.i2l, 1) := by decide +kernel
theorem dX11_person_7 : decode cX11_person 7 = .ok (.lconst 0, 1) := by decide +kernel
theorem dX11_person_8 : decode cX11_person 8 = .ok (.ldc2_w 75, 3) := by decide +kernel
theorem dX11_person_11 : decode cX11_person 11 = .ok (.invokestatic 47, 3) := by decide +kernel
theorem dX11_person_14 : decode cX11_person 14 = .ok (.ifCond .eq 15, 3) := by decide +kernel
theorem dX11_person_17 : decode cX11_person 17 = .ok (.iload_n 2, 1) := by decide +kernel
theorem dX11_person_18 : decode cX11_person 18 = .ok (.i2l, 1) := by decide +kernel
theorem dX11_person_19 : decode cX11_person 19 = .ok (.lconst 0, 1) := by decide +kernel
theorem dX11_person_20 : decode cX11_person 20 = .ok (.ldc2_w 51, 3) := by decide +kernel
theorem dX11_person_23 : decode cX11_person 23 = .ok (.invokestatic 47, 3) := by decide +kernel
theorem dX11_person_26 : decode cX11_person 26 = .ok (.ifCond .ne 8, 3) := by decide +kernel
theorem dX11_person_29 : decode cX11_person 29 = .ok (.aload_n 0, 1) := by decide +kernel
theorem dX11_person_30 : decode cX11_person 30 = .ok (.invokevirtual 61, 3) := by decide +kernel
theorem dX11_person_33 : decode cX11_person 33 = .ok (.ireturn, 1) := by decide +kernel
theorem dX11_person_34 : decode cX11_person 34 = .ok (.aload_n 0, 1) := by decide +kernel
theorem dX11_person_35 : decode cX11_person 35 = .ok (.getfield 13, 3) := by decide +kernel
theorem dX11_person_38 : decode cX11_person 38 = .ok (.iconst 1, 1) := by decide +kernel
theorem dX11_person_39 : decode cX11_person 39 = .ok (.iaload, 1) := by decide +kernel
theorem dX11_person_40 : decode cX11_person 40 = .ok (.iconst 5, 1) := by decide +kernel
theorem dX11_person_41 : decode cX11_person 41 = .ok (.if_icmp .ne 8, 3) := by decide +kernel
theorem dX11_person_44 : decode cX11_person 44 = .ok (.aload_n 0, 1) := by decide +kernel
theorem dX11_person_45 : decode cX11_person 45 = .ok (.invokevirtual 65, 3) := by decide +kernel
theorem dX11_person_48 : decode cX11_person 48 = .ok (.ireturn, 1) := by decide +kernel
theorem dX11_person_49 : decode cX11_person 49 = .ok (.aload_n 0, 1) := by decide +kernel
theorem dX11_person_50 : decode cX11_person 50 = .ok (.getfield 13, 3) := by decide +kernel
theorem dX11_person_53 : decode cX11_person 53 = .ok (.iload_n 1, 1) := by decide +kernel
theorem dX11_person_54 : decode cX11_person 54 = .ok (.iload_n 2, 1) := by decide +kernel
theorem dX11_person_55 : decode cX11_person 55 = .ok (.invokestatic 77, 3) := by decide +kernel
theorem dX11_person_58 : decode cX11_person 58 = .ok (.aload_n 0, 1) := by decide +kernel
theorem dX11_person_59 : decode cX11_person 59 = .ok (.getfield 13, 3) := by decide +kernel
theorem dX11_person_62 : decode cX11_person 62 = .ok (.iconst 1, 1) := by decide +kernel
theorem dX11_person_63 : decode cX11_person 63 = .ok (.iaload, 1) := by decide +kernel
theorem dX11_person_64 : decode cX11_person 64 = .ok (.iconst 1, 1) := by decide +kernel
theorem dX11_person_65 : decode cX11_person 65 = .ok (.isub, 1) := by decide +kernel
theorem dX11_person_66 : decode cX11_person 66 = .ok (.ireturn, 1) := by decide +kernel
