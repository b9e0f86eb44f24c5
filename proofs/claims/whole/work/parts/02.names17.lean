theorem dX11_leftBy_54 : decode cX11_leftBy 54 = .ok (.iconst 1, 1) := by decide +kernel
theorem dX11_leftBy_55 : decode cX11_leftBy 55 = .ok (.goto 4, 3) := by decide +kernel
theorem dX11_leftBy_58 : decode cX11_leftBy 58 = .ok (.iconst 0, 1) := by decide +kernel
theorem dX11_leftBy_59 : decode cX11_leftBy 59 = .ok (.iadd, 1) := by decide +kernel
theorem dX11_leftBy_60 : decode cX11_leftBy 60 = .ok (.istore 6, 2) := by decide +kernel
theorem dX11_leftBy_62 : decode cX11_leftBy 62 = .ok (.iinc 7 1, 3) := by decide +kernel
theorem dX11_leftBy_65 : decode cX11_leftBy 65 = .ok (.goto (-42), 3) := by decide +kernel
theorem dX11_leftBy_68 : decode cX11_leftBy 68 = .ok (.iload 6, 2) := by decide +kernel
theorem dX11_leftBy_70 : decode cX11_leftBy 70 = .ok (.iload 4, 2) := by decide +kernel
theorem dX11_leftBy_72 : decode cX11_leftBy 72 = .ok (.if_icmp .le 8, 3) := by decide +kernel
theorem dX11_leftBy_75 : decode cX11_leftBy 75 = .ok (.iload 6, 2) := by decide +kernel
theorem dX11_leftBy_77 : decode cX11_leftBy 77 = .ok (.goto 5, 3) := by decide +kernel
theorem dX11_leftBy_80 : decode cX11_leftBy 80 = .ok (.iload 4, 2) := by decide +kernel
theorem dX11_leftBy_82 : decode cX11_leftBy 82 = .ok (.istore 4, 2) := by decide +kernel
theorem dX11_leftBy_84 : decode cX11_leftBy 84 = .ok (.iinc 5 1, 3) := by decide +kernel
theorem dX11_leftBy_87 : decode cX11_leftBy 87 = .ok (.goto (-81), 3) := by decide +kernel
theorem dX11_leftBy_90 : decode cX11_leftBy 90 = .ok (.iload 4, 2) := by decide +kernel
theorem dX11_leftBy_92 : decode cX11_leftBy 92 = .ok (.ireturn, 1) := by decide +kernel
set_option maxRecDepth 20000 in
theorem ggX11_next__X11_in : GoodIn wsX11_next_ wsX11_in := goodIn_r _ [7] (by decide +kernel) (by decide +kernel)
set_option maxRecDepth 20000 in
theorem gX11_next__X11_in : GoodIn wsX11_next_ (va_wsS RX11 47 yX11_in wsX11_in) := goodIn_app (goodIn_of _ (by decide +kernel)) ggX11_next__X11_in
set_option maxRecDepth 20000 in
theorem ggX11_next__X11_bad : GoodIn wsX11_next_ wsX11_bad := goodIn_r _ [11, 12, 13, 14, 6, 15, 16, 56, 57, 58, 59, 60, 61, 62, 63, 64, 65, 66, 67, 68, 69, 70, 71, 72, 73, 74, 75] (by decide +kernel) (by decide +kernel)
set_option maxRecDepth 20000 in
theorem gX11_next__X11_bad : GoodIn wsX11_next_ (wsV RX11 61 RX11 yX11_bad wsX11_bad) := goodIn_app (goodIn_of _ (by decide +kernel)) ggX11_next__X11_bad
set_option maxRecDepth 20000 in
theorem ggX11_next__X11_wantsOf : GoodIn wsX11_next_ wsX11_wantsOf := goodIn_r _ [20, 3, 21, 22, 23, 6, 24, 25, 26, 27, 28, 29, 30, 31, 32, 33, 34, 35, 36, 37, 38, 39, 40, 41, 42, 43, 44, 45, 46, 47, 48, 49, 50, 51, 56, 57, 58, 59, 60, 61, 62, 63, 64, 65, 66, 67, 68, 69, 70, 71, 72, 73, 74, 75] (by decide +kernel) (by decide +kernel)
set_option maxRecDepth 20000 in
theorem gX11_next__X11_wantsOf : GoodIn wsX11_next_ (wsV RX11 218 RX11 yX11_wantsOf wsX11_wantsOf) := goodIn_app (goodIn_of _ (by decide +kernel)) ggX11_next__X11_wantsOf
set_option maxRecDepth 20000 in
theorem ggX11_next__X11_leftBy : GoodIn wsX11_next_ wsX11_leftBy := goodIn_r _ [55, 3, 41, 42, 6, 43, 21, 22, 23, 24, 25, 26, 27, 28, 29, 30, 31, 32, 33, 34, 35, 36, 37, 38, 39, 40, 44, 45, 46, 47, 48, 49, 50, 51, 56, 57, 58, 59, 60, 61, 62, 63, 64, 65, 66, 67, 68, 69, 70, 71, 72, 73, 74, 75] (by decide +kernel) (by decide +kernel)
set_option maxRecDepth 20000 in
theorem gX11_next__X11_leftBy : GoodIn wsX11_next_ (wsV RX11 221 RX11 yX11_leftBy wsX11_leftBy) := goodIn_app (goodIn_of _ (by decide +kernel)) ggX11_next__X11_leftBy
theorem dX11_next__0 : decode cX11_next_ 0 = .ok (.aload_n 0, 1) := by decide +kernel
theorem dX11_next__1 : decode cX11_next_ 1 = .ok (.iconst 0, 1) := by decide +kernel
theorem dX11_next__2 : decode cX11_next_ 2 = .ok (.putfield 39, 3) := by decide +kernel
theorem dX11_next__5 : decode cX11_next_ 5 = .ok (.iload_n 1, 1) := by decide +kernel
theorem dX11_next__6 : decode cX11_next_ 6 = .ok (.i2l, 1) := by decide +kernel
theorem dX11_next__7 : decode cX11_next_ 7 = .ok (.lconst 0, 1) := by decide +kernel
theorem dX11_next__8 : decode cX11_next_ 8 = .ok (.ldc2_w 75, 3) := by decide +kernel
theorem dX11_next__11 : decode cX11_next_ 11 = .ok (.invokestatic 47, 3) := by decide +kernel
theorem dX11_next__14 : decode cX11_next_ 14 = .ok (.ifCond .eq 13, 3) := by decide +kernel
theorem dX11_next__17 : decode cX11_next_ 17 = .ok (.iload_n 2, 1) := by decide +kernel
theorem dX11_next__18 : decode cX11_next_ 18 = .ok (.i2l, 1) := by decide +kernel
theorem dX11_next__19 : decode cX11_next_ 19 = .ok (.lconst 0, 1) := by decide +kernel
theorem dX11_next__20 : decode cX11_next_ 20 = .ok (.lconst 1, 1) := by decide +kernel
theorem dX11_next__21 : decode cX11_next_ 21 = .ok (.invokestatic 47, 3) := by decide +kernel
theorem dX11_next__24 : decode cX11_next_ 24 = .ok (.ifCond .ne 8, 3) := by decide +kernel
theorem dX11_next__27 : decode cX11_next_ 27 = .ok (.aload_n 0, 1) := by decide +kernel
theorem dX11_next__28 : decode cX11_next_ 28 = .ok (.invokevirtual 61, 3) := by decide +kernel
theorem dX11_next__31 : decode cX11_next_ 31 = .ok (.ireturn, 1) := by decide +kernel
theorem dX11_next__32 : decode cX11_next_ 32 = .ok (.aload_n 0, 1) := by decide +kernel
theorem dX11_next__33 : decode cX11_next_ 33 = .ok (.iload_n 1, 1) := by decide +kernel
theorem dX11_next__34 : decode cX11_next_ 34 = .ok (.invokevirtual 218, 3) := by decide +kernel
theorem dX11_next__37 : decode cX11_next_ 37 = .ok (.istore_n 3, 1) := by decide +kernel
theorem dX11_next__38 : decode cX11_next_ 38 = .ok (.iconst (-1), 1) := by decide +kernel
theorem dX11_next__39 : decode cX11_next_ 39 = .ok (.istore 4, 2) := by decide +kernel
theorem dX11_next__41 : decode cX11_next_ 41 = .ok (.iconst 0, 1) := by decide +kernel
theorem dX11_next__42 : decode cX11_next_ 42 = .ok (.istore 5, 2) := by decide +kernel
theorem dX11_next__44 : decode cX11_next_ 44 = .ok (.iconst 0, 1) := by decide +kernel
theorem dX11_next__45 : decode cX11_next_ 45 = .ok (.istore 6, 2) := by decide +kernel
theorem dX11_next__47 : decode cX11_next_ 47 = .ok (.iload 6, 2) := by decide +kernel
theorem dX11_next__49 : decode cX11_next_ 49 = .ok (.aload_n 0, 1) := by decide +kernel
theorem dX11_next__50 : decode cX11_next_ 50 = .ok (.getfield 13, 3) := by decide +kernel
theorem dX11_next__53 : decode cX11_next_ 53 = .ok (.iconst 0, 1) := by decide +kernel
theorem dX11_next__54 : decode cX11_next_ 54 = .ok (.iaload, 1) := by decide +kernel
theorem dX11_next__55 : decode cX11_next_ 55 = .ok (.if_icmp .ge 71, 3) := by decide +kernel
theorem dX11_next__58 : decode cX11_next_ 58 = .ok (.iload_n 3, 1) := by decide +kernel
theorem dX11_next__59 : decode cX11_next_ 59 = .ok (.ifCond .eq 67, 3) := by decide +kernel
theorem dX11_next__62 : decode cX11_next_ 62 = .ok (.aload_n 0, 1) := by decide +kernel
theorem dX11_next__63 : decode cX11_next_ 63 = .ok (.iload_n 1, 1) := by decide +kernel
theorem dX11_next__64 : decode cX11_next_ 64 = .ok (.iload_n 3, 1) := by decide +kernel
theorem dX11_next__65 : decode cX11_next_ 65 = .ok (.iload 6, 2) := by decide +kernel
theorem dX11_next__67 : decode cX11_next_ 67 = .ok (.invokevirtual 221, 3) := by decide +kernel
theorem dX11_next__70 : decode cX11_next_ 70 = .ok (.istore 7, 2) := by decide +kernel
theorem dX11_next__72 : decode cX11_next_ 72 = .ok (.iload 4, 2) := by decide +kernel
theorem dX11_next__74 : decode cX11_next_ 74 = .ok (.iconst (-1), 1) := by decide +kernel
theorem dX11_next__75 : decode cX11_next_ 75 = .ok (.if_icmp .eq 10, 3) := by decide +kernel
theorem dX11_next__78 : decode cX11_next_ 78 = .ok (.iload 7, 2) := by decide +kernel
theorem dX11_next__80 : decode cX11_next_ 80 = .ok (.iload 5, 2) := by decide +kernel
theorem dX11_next__82 : decode cX11_next_ 82 = .ok (.if_icmp .ge 7, 3) := by decide +kernel
theorem dX11_next__85 : decode cX11_next_ 85 = .ok (.iconst 1, 1) := by decide +kernel
theorem dX11_next__86 : decode cX11_next_ 86 = .ok (.goto 4, 3) := by decide +kernel
theorem dX11_next__89 : decode cX11_next_ 89 = .ok (.iconst 0, 1) := by decide +kernel
theorem dX11_next__90 : decode cX11_next_ 90 = .ok (.istore 8, 2) := by decide +kernel
theorem dX11_next__92 : decode cX11_next_ 92 = .ok (.iload 8, 2) := by decide +kernel
theorem dX11_next__94 : decode cX11_next_ 94 = .ok (.ifCond .eq 8, 3) := by decide +kernel
theorem dX11_next__97 : decode cX11_next_ 97 = .ok (.iload 6, 2) := by decide +kernel
theorem dX11_next__99 : decode cX11_next_ 99 = .ok (.goto 5, 3) := by decide +kernel
theorem dX11_next__102 : decode cX11_next_ 102 = .ok (.iload 4, 2) := by decide +kernel
theorem dX11_next__104 : decode cX11_next_ 104 = .ok (.istore 4, 2) := by decide +kernel
theorem dX11_next__106 : decode cX11_next_ 106 = .ok (.iload 8, 2) := by decide +kernel
theorem dX11_next__108 : decode cX11_next_ 108 = .ok (.ifCond .eq 8, 3) := by decide +kernel
theorem dX11_next__111 : decode cX11_next_ 111 = .ok (.iload 7, 2) := by decide +kernel
theorem dX11_next__113 : decode cX11_next_ 113 = .ok (.goto 5, 3) := by decide +kernel
theorem dX11_next__116 : decode cX11_next_ 116 = .ok (.iload 5, 2) := by decide +kernel
theorem dX11_next__118 : decode cX11_next_ 118 = .ok (.istore 5, 2) := by decide +kernel
theorem dX11_next__120 : decode cX11_next_ 120 = .ok (.iinc 6 1, 3) := by decide +kernel
theorem dX11_next__123 : decode cX11_next_ 123 = .ok (.goto (-76), 3) := by decide +kernel
theorem dX11_next__126 : decode cX11_next_ 126 = .ok (.iload_n 2, 1) := by decide +kernel
theorem dX11_next__127 : decode cX11_next_ 127 = .ok (.ifCond .ne 8, 3) := by decide +kernel
theorem dX11_next__130 : decode cX11_next_ 130 = .ok (.iload 4, 2) := by decide +kernel
theorem dX11_next__132 : decode cX11_next_ 132 = .ok (.goto 5, 3) := by decide +kernel
theorem dX11_next__135 : decode cX11_next_ 135 = .ok (.iload 5, 2) := by decide +kernel
theorem dX11_next__137 : decode cX11_next_ 137 = .ok (.ireturn, 1) := by decide +kernel
theorem dX11_spot_0 : decode cX11_spot 0 = .ok (.iload_n 0, 1) := by decide +kernel
theorem dX11_spot_1 : decode cX11_spot 1 = .ok (.bipush 10, 2) := by decide +kernel
theorem dX11_spot_3 : decode cX11_spot 3 = .ok (.imul, 1) := by decide +kernel
theorem dX11_spot_4 : decode cX11_spot 4 = .ok (.iload_n 1, 1) := by decide +kernel
theorem dX11_spot_5 : decode cX11_spot 5 = .ok (.iadd, 1) := by decide +kernel
theorem dX11_spot_6 : decode cX11_spot 6 = .ok (.iconst 2, 1) := by decide +kernel
theorem dX11_spot_7 : decode cX11_spot 7 = .ok (.imul, 1) := by decide +kernel
theorem dX11_spot_8 : decode cX11_spot 8 = .ok (.iload_n 2, 1) := by decide +kernel
theorem dX11_spot_9 : decode cX11_spot 9 = .ok (.iadd, 1) := by decide +kernel
theorem dX11_spot_10 : decode cX11_spot 10 = .ok (.ireturn, 1) := by decide +kernel
set_option maxRecDepth 20000 in
theorem ggX11_talkOf_X11_chimesWith : GoodIn wsX11_talkOf wsX11_chimesWith := goodIn_r _ [7, 1, 8, 9, 10, 6, 11, 12, 13, 14, 15, 16, 17, 18, 19, 20, 21, 22, 23, 24, 25, 26, 27, 28, 29, 30, 31, 32, 33, 34, 35, 36, 37, 38, 39, 40, 41, 42, 46, 47, 48, 49, 50, 51, 52, 53, 54, 55, 56, 57, 58, 59, 60, 61, 62, 63, 64, 65] (by decide +kernel) (by decide +kernel)
set_option maxRecDepth 20000 in
theorem gX11_talkOf_X11_chimesWith : GoodIn wsX11_talkOf (wsV RX11 177 RX11 yX11_chimesWith wsX11_chimesWith) := goodIn_app (goodIn_of _ (by decide +kernel)) ggX11_talkOf_X11_chimesWith
set_option maxRecDepth 20000 in
theorem ggX11_talkOf_X11_has : GoodIn wsX11_talkOf wsX11_has := goodIn_r _ [34] (by decide +kernel) (by decide +kernel)
set_option maxRecDepth 20000 in
theorem gX11_talkOf_X11_has : GoodIn wsX11_talkOf (va_wsS RX11 155 yX11_has wsX11_has) := goodIn_app (goodIn_of _ (by decide +kernel)) ggX11_talkOf_X11_has
set_option maxRecDepth 20000 in
theorem ggX11_talkOf_X11_spot : GoodIn wsX11_talkOf wsX11_spot := goodIn_r _ [45] (by decide +kernel) (by decide +kernel)
set_option maxRecDepth 20000 in
theorem gX11_talkOf_X11_spot : GoodIn wsX11_talkOf (va_wsS RX11 224 yX11_spot wsX11_spot) := goodIn_app (goodIn_of _ (by decide +kernel)) ggX11_talkOf_X11_spot
theorem dX11_talkOf_0 : decode cX11_talkOf 0 = .ok (.aload_n 0, 1) := by decide +kernel
theorem dX11_talkOf_1 : decode cX11_talkOf 1 = .ok (.iload_n 1, 1) := by decide +kernel
theorem dX11_talkOf_2 : decode cX11_talkOf 2 = .ok (.iload_n 3, 1) := by decide +kernel
theorem dX11_talkOf_3 : decode cX11_talkOf 3 = .ok (.invokevirtual 177, 3) := by decide +kernel
theorem dX11_talkOf_6 : decode cX11_talkOf 6 = .ok (.iload_n 2, 1) := by decide +kernel
theorem dX11_talkOf_7 : decode cX11_talkOf 7 = .ok (.iconst (-1), 1) := by decide +kernel
theorem dX11_talkOf_8 : decode cX11_talkOf 8 = .ok (.ixor, 1) := by decide +kernel
theorem dX11_talkOf_9 : decode cX11_talkOf 9 = .ok (.iand, 1) := by decide +kernel
theorem dX11_talkOf_10 : decode cX11_talkOf 10 = .ok (.istore 6, 2) := by decide +kernel
theorem dX11_talkOf_12 : decode cX11_talkOf 12 = .ok (.iload 5, 2) := by decide +kernel
theorem dX11_talkOf_14 : decode cX11_talkOf 14 = .ok (.ifCond .ne 8, 3) := by decide +kernel
theorem dX11_talkOf_17 : decode cX11_talkOf 17 = .ok (.iload 4, 2) := by decide +kernel
theorem dX11_talkOf_19 : decode cX11_talkOf 19 = .ok (.goto 4, 3) := by decide +kernel
theorem dX11_talkOf_22 : decode cX11_talkOf 22 = .ok (.iconst 0, 1) := by decide +kernel
theorem dX11_talkOf_23 : decode cX11_talkOf 23 = .ok (.istore 7, 2) := by decide +kernel
theorem dX11_talkOf_25 : decode cX11_talkOf 25 = .ok (.iconst 1, 1) := by decide +kernel
theorem dX11_talkOf_26 : decode cX11_talkOf 26 = .ok (.istore 8, 2) := by decide +kernel
theorem dX11_talkOf_28 : decode cX11_talkOf 28 = .ok (.iconst 0, 1) := by decide +kernel
theorem dX11_talkOf_29 : decode cX11_talkOf 29 = .ok (.istore 9, 2) := by decide +kernel
theorem dX11_talkOf_31 : decode cX11_talkOf 31 = .ok (.iload 9, 2) := by decide +kernel
theorem dX11_talkOf_33 : decode cX11_talkOf 33 = .ok (.aload_n 0, 1) := by decide +kernel
theorem dX11_talkOf_34 : decode cX11_talkOf 34 = .ok (.getfield 13, 3) := by decide +kernel
theorem dX11_talkOf_37 : decode cX11_talkOf 37 = .ok (.iconst 0, 1) := by decide +kernel
theorem dX11_talkOf_38 : decode cX11_talkOf 38 = .ok (.iaload, 1) := by decide +kernel
theorem dX11_talkOf_39 : decode cX11_talkOf 39 = .ok (.if_icmp .ge 113, 3) := by decide +kernel
theorem dX11_talkOf_42 : decode cX11_talkOf 42 = .ok (.iload 6, 2) := by decide +kernel
theorem dX11_talkOf_44 : decode cX11_talkOf 44 = .ok (.iload 9, 2) := by decide +kernel
theorem dX11_talkOf_46 : decode cX11_talkOf 46 = .ok (.invokestatic 155, 3) := by decide +kernel
theorem dX11_talkOf_49 : decode cX11_talkOf 49 = .ok (.ifCond .eq 97, 3) := by decide +kernel
theorem dX11_talkOf_52 : decode cX11_talkOf 52 = .ok (.aload_n 0, 1) := by decide +kernel
theorem dX11_talkOf_53 : decode cX11_talkOf 53 = .ok (.getfield 32, 3) := by decide +kernel
theorem dX11_talkOf_56 : decode cX11_talkOf 56 = .ok (.iload_n 2, 1) := by decide +kernel
theorem dX11_talkOf_57 : decode cX11_talkOf 57 = .ok (.iconst 1, 1) := by decide +kernel
theorem dX11_talkOf_58 : decode cX11_talkOf 58 = .ok (.iload 9, 2) := by decide +kernel
theorem dX11_talkOf_60 : decode cX11_talkOf 60 = .ok (.ishl, 1) := by decide +kernel
theorem dX11_talkOf_61 : decode cX11_talkOf 61 = .ok (.ior, 1) := by decide +kernel
theorem dX11_talkOf_62 : decode cX11_talkOf 62 = .ok (.iload 9, 2) := by decide +kernel
theorem dX11_talkOf_64 : decode cX11_talkOf 64 = .ok (.iconst 1, 1) := by decide +kernel
theorem dX11_talkOf_65 : decode cX11_talkOf 65 = .ok (.iload 4, 2) := by decide +kernel
theorem dX11_talkOf_67 : decode cX11_talkOf 67 = .ok (.isub, 1) := by decide +kernel
theorem dX11_talkOf_68 : decode cX11_talkOf 68 = .ok (.invokestatic 224, 3) := by decide +kernel
theorem dX11_talkOf_71 : decode cX11_talkOf 71 = .ok (.iaload, 1) := by decide +kernel
theorem dX11_talkOf_72 : decode cX11_talkOf 72 = .ok (.istore 10, 2) := by decide +kernel
theorem dX11_talkOf_74 : decode cX11_talkOf 74 = .ok (.iload 5, 2) := by decide +kernel
theorem dX11_talkOf_76 : decode cX11_talkOf 76 = .ok (.ifCond .ne 24, 3) := by decide +kernel
theorem dX11_talkOf_79 : decode cX11_talkOf 79 = .ok (.iload 10, 2) := by decide +kernel
theorem dX11_talkOf_81 : decode cX11_talkOf 81 = .ok (.iconst 1, 1) := by decide +kernel
theorem dX11_talkOf_82 : decode cX11_talkOf 82 = .ok (.iload 4, 2) := by decide +kernel
theorem dX11_talkOf_84 : decode cX11_talkOf 84 = .ok (.isub, 1) := by decide +kernel
theorem dX11_talkOf_85 : decode cX11_talkOf 85 = .ok (.if_icmp .ne 8, 3) := by decide +kernel
theorem dX11_talkOf_88 : decode cX11_talkOf 88 = .ok (.iload 10, 2) := by decide +kernel
theorem dX11_talkOf_90 : decode cX11_talkOf 90 = .ok (.goto 5, 3) := by decide +kernel
theorem dX11_talkOf_93 : decode cX11_talkOf 93 = .ok (.iload 7, 2) := by decide +kernel
theorem dX11_talkOf_95 : decode cX11_talkOf 95 = .ok (.istore 7, 2) := by decide +kernel
theorem dX11_talkOf_97 : decode cX11_talkOf 97 = .ok (.goto 46, 3) := by decide +kernel
theorem dX11_talkOf_100 : decode cX11_talkOf 100 = .ok (.iload 8, 2) := by decide +kernel
theorem dX11_talkOf_102 : decode cX11_talkOf 102 = .ok (.ifCond .ne 30, 3) := by decide +kernel
theorem dX11_talkOf_105 : decode cX11_talkOf 105 = .ok (.iload 5, 2) := by decide +kernel
theorem dX11_talkOf_107 : decode cX11_talkOf 107 = .ok (.iconst 1, 1) := by decide +kernel
theorem dX11_talkOf_108 : decode cX11_talkOf 108 = .ok (.if_icmp .ne 15, 3) := by decide +kernel
theorem dX11_talkOf_111 : decode cX11_talkOf 111 = .ok (.iload 10, 2) := by decide +kernel
theorem dX11_talkOf_113 : decode cX11_talkOf 113 = .ok (.iconst 1, 1) := by decide +kernel
theorem dX11_talkOf_114 : decode cX11_talkOf 114 = .ok (.iadd, 1) := by decide +kernel
theorem dX11_talkOf_115 : decode cX11_talkOf 115 = .ok (.iload 7, 2) := by decide +kernel
theorem dX11_talkOf_117 : decode cX11_talkOf 117 = .ok (.if_icmp .le 22, 3) := by decide +kernel
theorem dX11_talkOf_120 : decode cX11_talkOf 120 = .ok (.goto 12, 3) := by decide +kernel
theorem dX11_talkOf_123 : decode cX11_talkOf 123 = .ok (.iload 10, 2) := by decide +kernel
theorem dX11_talkOf_125 : decode cX11_talkOf 125 = .ok (.iconst 1, 1) := by decide +kernel
theorem dX11_talkOf_126 : decode cX11_talkOf 126 = .ok (.iadd, 1) := by decide +kernel
theorem dX11_talkOf_127 : decode cX11_talkOf 127 = .ok (.iload 7, 2) := by decide +kernel
theorem dX11_talkOf_129 : decode cX11_talkOf 129 = .ok (.if_icmp .ge 10, 3) := by decide +kernel
theorem dX11_talkOf_132 : decode cX11_talkOf 132 = .ok (.iload 10, 2) := by decide +kernel
theorem dX11_talkOf_134 : decode cX11_talkOf 134 = .ok (.iconst 1, 1) := by decide +kernel
theorem dX11_talkOf_135 : decode cX11_talkOf 135 = .ok (.iadd, 1) := by decide +kernel
theorem dX11_talkOf_136 : decode cX11_talkOf 136 = .ok (.goto 5, 3) := by decide +kernel
theorem dX11_talkOf_139 : decode cX11_talkOf 139 = .ok (.iload 7, 2) := by decide +kernel
theorem dX11_talkOf_141 : decode cX11_talkOf 141 = .ok (.istore 7, 2) := by decide +kernel
theorem dX11_talkOf_143 : decode cX11_talkOf 143 = .ok (.iconst 0, 1) := by decide +kernel
theorem dX11_talkOf_144 : decode cX11_talkOf 144 = .ok (.istore 8, 2) := by decide +kernel
theorem dX11_talkOf_146 : decode cX11_talkOf 146 = .ok (.iinc 9 1, 3) := by decide +kernel
theorem dX11_talkOf_149 : decode cX11_talkOf 149 = .ok (.goto (-118), 3) := by decide +kernel
theorem dX11_talkOf_152 : decode cX11_talkOf 152 = .ok (.iload 7, 2) := by decide +kernel
theorem dX11_talkOf_154 : decode cX11_talkOf 154 = .ok (.ireturn, 1) := by decide +kernel
set_option maxRecDepth 20000 in
theorem ggX11_two_X11_noPerson : GoodIn wsX11_two wsX11_noPerson := goodIn_r _ [9, 3, 10, 11, 8, 12, 72, 73, 74, 75, 76, 77, 78, 79, 80, 81, 82, 83, 84, 85, 86, 87, 88, 89, 90, 91] (by decide +kernel) (by decide +kernel)
set_option maxRecDepth 20000 in
theorem gX11_two_X11_noPerson : GoodIn wsX11_two (wsV RX11 186 RX11 yX11_noPerson wsX11_noPerson) := goodIn_app (goodIn_of _ (by decide +kernel)) ggX11_two_X11_noPerson
set_option maxRecDepth 20000 in
theorem ggX11_two_X11_noWord : GoodIn wsX11_two wsX11_noWord := goodIn_r _ [16, 3, 10, 11, 8, 12, 72, 73, 74, 75, 76, 77, 78, 79, 80, 81, 82, 83, 84, 85, 86, 87, 88, 89, 90, 91] (by decide +kernel) (by decide +kernel)
set_option maxRecDepth 20000 in
theorem gX11_two_X11_noWord : GoodIn wsX11_two (wsV RX11 189 RX11 yX11_noWord wsX11_noWord) := goodIn_app (goodIn_of _ (by decide +kernel)) ggX11_two_X11_noWord
set_option maxRecDepth 20000 in
theorem ggX11_two_X11_in : GoodIn wsX11_two wsX11_in := goodIn_r _ [12] (by decide +kernel) (by decide +kernel)
set_option maxRecDepth 20000 in
theorem gX11_two_X11_in : GoodIn wsX11_two (va_wsS RX11 47 yX11_in wsX11_in) := goodIn_app (goodIn_of _ (by decide +kernel)) ggX11_two_X11_in
set_option maxRecDepth 20000 in
theorem ggX11_two_X11_bad : GoodIn wsX11_two wsX11_bad := goodIn_r _ [20, 21, 22, 23, 8, 24, 25, 72, 73, 74, 75, 76, 77, 78, 79, 80, 81, 82, 83, 84, 85, 86, 87, 88, 89, 90, 91] (by decide +kernel) (by decide +kernel)
set_option maxRecDepth 20000 in
theorem gX11_two_X11_bad : GoodIn wsX11_two (wsV RX11 61 RX11 yX11_bad wsX11_bad) := goodIn_app (goodIn_of _ (by decide +kernel)) ggX11_two_X11_bad
set_option maxRecDepth 20000 in
theorem ggX11_two_X11_spot : GoodIn wsX11_two wsX11_spot := goodIn_r _ [28] (by decide +kernel) (by decide +kernel)
set_option maxRecDepth 20000 in
theorem gX11_two_X11_spot : GoodIn wsX11_two (va_wsS RX11 224 yX11_spot wsX11_spot) := goodIn_app (goodIn_of _ (by decide +kernel)) ggX11_two_X11_spot
set_option maxRecDepth 20000 in
theorem ggX11_two_X11_talkOf : GoodIn wsX11_two wsX11_talkOf := goodIn_r _ [32, 3, 4, 33, 34, 35, 8, 36, 37, 38, 39, 40, 41, 42, 43, 44, 45, 46, 47, 48, 49, 50, 51, 52, 53, 54, 55, 56, 57, 58, 59, 60, 61, 62, 63, 64, 65, 66, 67, 68, 69, 70, 71, 26, 27, 28, 72, 73, 74, 75, 76, 77, 78, 79, 80, 81, 82, 83, 84, 85, 86, 87, 88, 89, 90, 91] (by decide +kernel) (by decide +kernel)
set_option maxRecDepth 20000 in
theorem gX11_two_X11_talkOf : GoodIn wsX11_two (wsV RX11 227 RX11 yX11_talkOf wsX11_talkOf) := goodIn_app (goodIn_of _ (by decide +kernel)) ggX11_two_X11_talkOf
theorem dX11_two_0 : decode cX11_two 0 = .ok (.aload_n 0, 1) := by decide +kernel
theorem dX11_two_1 : decode cX11_two 1 = .ok (.iconst 0, 1) := by decide +kernel
theorem dX11_two_2 : decode cX11_two 2 = .ok (.putfield 39, 3) := by decide +kernel
theorem dX11_two_5 : decode cX11_two 5 = .ok (.aload_n 0, 1) := by decide +kernel
theorem dX11_two_6 : decode cX11_two 6 = .ok (.iload_n 1, 1) := by decide +kernel
theorem dX11_two_7 : decode cX11_two 7 = .ok (.invokevirtual 186, 3) := by decide +kernel
theorem dX11_two_10 : decode cX11_two 10 = .ok (.ifCond .ne 37, 3) := by decide +kernel
theorem dX11_two_13 : decode cX11_two 13 = .ok (.aload_n 0, 1) := by decide +kernel
theorem dX11_two_14 : decode cX11_two 14 = .ok (.iload_n 2, 1) := by decide +kernel
theorem dX11_two_15 : decode cX11_two 15 = .ok (.invokevirtual 186, 3) := by decide +kernel
theorem dX11_two_18 : decode cX11_two 18 = .ok (.ifCond .ne 29, 3) := by decide +kernel
theorem dX11_two_21 : decode cX11_two 21 = .ok (.iload_n 1, 1) := by decide +kernel
theorem dX11_two_22 : decode cX11_two 22 = .ok (.iload_n 2, 1) := by decide +kernel
theorem dX11_two_23 : decode cX11_two 23 = .ok (.if_icmp .eq 24, 3) := by decide +kernel
theorem dX11_two_26 : decode cX11_two 26 = .ok (.aload_n 0, 1) := by decide +kernel
theorem dX11_two_27 : decode cX11_two 27 = .ok (.iload_n 3, 1) := by decide +kernel
theorem dX11_two_28 : decode cX11_two 28 = .ok (.invokevirtual 189, 3) := by decide +kernel
theorem dX11_two_31 : decode cX11_two 31 = .ok (.ifCond .ne 16, 3) := by decide +kernel
theorem dX11_two_34 : decode cX11_two 34 = .ok (.iload 4, 2) := by decide +kernel
theorem dX11_two_36 : decode cX11_two 36 = .ok (.i2l, 1) := by decide +kernel
theorem dX11_two_37 : decode cX11_two 37 = .ok (.lconst 0, 1) := by decide +kernel
theorem dX11_two_38 : decode cX11_two 38 = .ok (.ldc2_w 200, 3) := by decide +kernel
theorem dX11_two_41 : decode cX11_two 41 = .ok (.invokestatic 47, 3) := by decide +kernel
theorem dX11_two_44 : decode cX11_two 44 = .ok (.ifCond .ne 8, 3) := by decide +kernel
theorem dX11_two_47 : decode cX11_two 47 = .ok (.aload_n 0, 1) := by decide +kernel
theorem dX11_two_48 : decode cX11_two 48 = .ok (.invokevirtual 61, 3) := by decide +kernel
theorem dX11_two_51 : decode cX11_two 51 = .ok (.ireturn, 1) := by decide +kernel
theorem dX11_two_52 : decode cX11_two 52 = .ok (.iconst 1, 1) := by decide +kernel
theorem dX11_two_53 : decode cX11_two 53 = .ok (.aload_n 0, 1) := by decide +kernel
theorem dX11_two_54 : decode cX11_two 54 = .ok (.getfield 13, 3) := by decide +kernel
theorem dX11_two_57 : decode cX11_two 57 = .ok (.iconst 0, 1) := by decide +kernel
theorem dX11_two_58 : decode cX11_two 58 = .ok (.iaload, 1) := by decide +kernel
theorem dX11_two_59 : decode cX11_two 59 = .ok (.ishl, 1) := by decide +kernel
theorem dX11_two_60 : decode cX11_two 60 = .ok (.iconst 1, 1) := by decide +kernel
theorem dX11_two_61 : decode cX11_two 61 = .ok (.isub, 1) := by decide +kernel
theorem dX11_two_62 : decode cX11_two 62 = .ok (.istore 5, 2) := by decide +kernel
theorem dX11_two_64 : decode cX11_two 64 = .ok (.iload 5, 2) := by decide +kernel
theorem dX11_two_66 : decode cX11_two 66 = .ok (.ifCond .lt 79, 3) := by decide +kernel
theorem dX11_two_69 : decode cX11_two 69 = .ok (.iconst 0, 1) := by decide +kernel
theorem dX11_two_70 : decode cX11_two 70 = .ok (.istore 6, 2) := by decide +kernel
theorem dX11_two_72 : decode cX11_two 72 = .ok (.iload 6, 2) := by decide +kernel
theorem dX11_two_74 : decode cX11_two 74 = .ok (.aload_n 0, 1) := by decide +kernel
theorem dX11_two_75 : decode cX11_two 75 = .ok (.getfield 13, 3) := by decide +kernel
theorem dX11_two_78 : decode cX11_two 78 = .ok (.iconst 0, 1) := by decide +kernel
theorem dX11_two_79 : decode cX11_two 79 = .ok (.iaload, 1) := by decide +kernel
theorem dX11_two_80 : decode cX11_two 80 = .ok (.if_icmp .ge 59, 3) := by decide +kernel
theorem dX11_two_83 : decode cX11_two 83 = .ok (.aload_n 0, 1) := by decide +kernel
theorem dX11_two_84 : decode cX11_two 84 = .ok (.getfield 32, 3) := by decide +kernel
theorem dX11_two_87 : decode cX11_two 87 = .ok (.iload 5, 2) := by decide +kernel
theorem dX11_two_89 : decode cX11_two 89 = .ok (.iload 6, 2) := by decide +kernel
theorem dX11_two_91 : decode cX11_two 91 = .ok (.iconst 0, 1) := by decide +kernel
theorem dX11_two_92 : decode cX11_two 92 = .ok (.invokestatic 224, 3) := by decide +kernel
theorem dX11_two_95 : decode cX11_two 95 = .ok (.aload_n 0, 1) := by decide +kernel
theorem dX11_two_96 : decode cX11_two 96 = .ok (.iload_n 1, 1) := by decide +kernel
theorem dX11_two_97 : decode cX11_two 97 = .ok (.iload 5, 2) := by decide +kernel
theorem dX11_two_99 : decode cX11_two 99 = .ok (.iload 6, 2) := by decide +kernel
theorem dX11_two_101 : decode cX11_two 101 = .ok (.iconst 0, 1) := by decide +kernel
theorem dX11_two_102 : decode cX11_two 102 = .ok (.iload 4, 2) := by decide +kernel
theorem dX11_two_104 : decode cX11_two 104 = .ok (.invokevirtual 227, 3) := by decide +kernel
theorem dX11_two_107 : decode cX11_two 107 = .ok (.iastore, 1) := by decide +kernel
theorem dX11_two_108 : decode cX11_two 108 = .ok (.aload_n 0, 1) := by decide +kernel
theorem dX11_two_109 : decode cX11_two 109 = .ok (.getfield 32, 3) := by decide +kernel
theorem dX11_two_112 : decode cX11_two 112 = .ok (.iload 5, 2) := by decide +kernel
theorem dX11_two_114 : decode cX11_two 114 = .ok (.iload 6, 2) := by decide +kernel
theorem dX11_two_116 : decode cX11_two 116 = .ok (.iconst 1, 1) := by decide +kernel
theorem dX11_two_117 : decode cX11_two 117 = .ok (.invokestatic 224, 3) := by decide +kernel
theorem dX11_two_120 : decode cX11_two 120 = .ok (.aload_n 0, 1) := by decide +kernel
theorem dX11_two_121 : decode cX11_two 121 = .ok (.iload_n 2, 1) := by decide +kernel
theorem dX11_two_122 : decode cX11_two 122 = .ok (.iload 5, 2) := by decide +kernel
theorem dX11_two_124 : decode cX11_two 124 = .ok (.iload 6, 2) := by decide +kernel
theorem dX11_two_126 : decode cX11_two 126 = .ok (.iconst 1, 1) := by decide +kernel
theorem dX11_two_127 : decode cX11_two 127 = .ok (.iload 4, 2) := by decide +kernel
theorem dX11_two_129 : decode cX11_two 129 = .ok (.invokevirtual 227, 3) := by decide +kernel
theorem dX11_two_132 : decode cX11_two 132 = .ok (.iastore, 1) := by decide +kernel
theorem dX11_two_133 : decode cX11_two 133 = .ok (.iinc 6 1, 3) := by decide +kernel
theorem dX11_two_136 : decode cX11_two 136 = .ok (.goto (-64), 3) := by decide +kernel
theorem dX11_two_139 : decode cX11_two 139 = .ok (.iinc 5 (-1), 3) := by decide +kernel
theorem dX11_two_142 : decode cX11_two 142 = .ok (.goto (-78), 3) := by decide +kernel
theorem dX11_two_145 : decode cX11_two 145 = .ok (.aload_n 0, 1) := by decide +kernel
theorem dX11_two_146 : decode cX11_two 146 = .ok (.getfield 32, 3) := by decide +kernel
theorem dX11_two_149 : decode cX11_two 149 = .ok (.aload_n 0, 1) := by decide +kernel
theorem dX11_two_150 : decode cX11_two 150 = .ok (.getfield 13, 3) := by decide +kernel
theorem dX11_two_153 : decode cX11_two 153 = .ok (.iconst 2, 1) := by decide +kernel
theorem dX11_two_154 : decode cX11_two 154 = .ok (.iaload, 1) := by decide +kernel
theorem dX11_two_155 : decode cX11_two 155 = .ok (.iload_n 3, 1) := by decide +kernel
theorem dX11_two_156 : decode cX11_two 156 = .ok (.iconst 0, 1) := by decide +kernel
theorem dX11_two_157 : decode cX11_two 157 = .ok (.invokestatic 224, 3) := by decide +kernel
theorem dX11_two_160 : decode cX11_two 160 = .ok (.iaload, 1) := by decide +kernel
theorem dX11_two_161 : decode cX11_two 161 = .ok (.ireturn, 1) := by decide +kernel
set_option maxRecDepth 20000 in
theorem ggX11_will_X11_in : GoodIn wsX11_will wsX11_in := goodIn_r _ [8] (by decide +kernel) (by decide +kernel)
set_option maxRecDepth 20000 in
theorem gX11_will_X11_in : GoodIn wsX11_will (va_wsS RX11 47 yX11_in wsX11_in) := goodIn_app (goodIn_of _ (by decide +kernel)) ggX11_will_X11_in
set_option maxRecDepth 20000 in
theorem ggX11_will_X11_bad : GoodIn wsX11_will wsX11_bad := goodIn_r _ [12, 13, 14, 15, 7, 16, 17, 48, 49, 50, 51, 52, 53, 54, 55, 56, 57, 58, 59, 60, 61, 62, 63, 64, 65, 66, 67] (by decide +kernel) (by decide +kernel)
set_option maxRecDepth 20000 in
theorem gX11_will_X11_bad : GoodIn wsX11_will (wsV RX11 61 RX11 yX11_bad wsX11_bad) := goodIn_app (goodIn_of _ (by decide +kernel)) ggX11_will_X11_bad
set_option maxRecDepth 20000 in
theorem ggX11_will_X11_bits : GoodIn wsX11_will wsX11_bits := goodIn_r _ [20] (by decide +kernel) (by decide +kernel)
set_option maxRecDepth 20000 in
theorem gX11_will_X11_bits : GoodIn wsX11_will (va_wsS RX11 195 yX11_bits wsX11_bits) := goodIn_app (goodIn_of _ (by decide +kernel)) ggX11_will_X11_bits
set_option maxRecDepth 20000 in
theorem ggX11_will_X11_has : GoodIn wsX11_will wsX11_has := goodIn_r _ [23] (by decide +kernel) (by decide +kernel)
set_option maxRecDepth 20000 in
theorem gX11_will_X11_has : GoodIn wsX11_will (va_wsS RX11 155 yX11_has wsX11_has) := goodIn_app (goodIn_of _ (by decide +kernel)) ggX11_will_X11_has
set_option maxRecDepth 20000 in
theorem ggX11_will_X11_chimes : GoodIn wsX11_will wsX11_chimes := goodIn_r _ [27, 28, 29, 30, 7, 31, 32, 33, 34, 35, 4, 36, 37, 38, 39, 21, 22, 23, 40, 41, 42, 43, 44, 45, 46, 47, 48, 49, 50, 51, 52, 53, 54, 55, 56, 57, 58, 59, 60, 61, 62, 63, 64, 65, 66, 67] (by decide +kernel) (by decide +kernel)
set_option maxRecDepth 20000 in
theorem gX11_will_X11_chimes : GoodIn wsX11_will (wsV RX11 173 RX11 yX11_chimes wsX11_chimes) := goodIn_app (goodIn_of _ (by decide +kernel)) ggX11_will_X11_chimes
theorem dX11_will_0 : decode cX11_will 0 = .ok (.aload_n 0, 1) := by decide +kernel
theorem dX11_will_1 : decode cX11_will 1 = .ok (.iconst 0, 1) := by decide +kernel
theorem dX11_will_2 : decode cX11_will 2 = .ok (.putfield 39, 3) := by decide +kernel
theorem dX11_will_5 : decode cX11_will 5 = .ok (.iload_n 1, 1) := by decide +kernel
theorem dX11_will_6 : decode cX11_will 6 = .ok (.i2l, 1) := by decide +kernel
theorem dX11_will_7 : decode cX11_will 7 = .ok (.lconst 0, 1) := by decide +kernel
theorem dX11_will_8 : decode cX11_will 8 = .ok (.ldc2_w 75, 3) := by decide +kernel
theorem dX11_will_11 : decode cX11_will 11 = .ok (.invokestatic 47, 3) := by decide +kernel
theorem dX11_will_14 : decode cX11_will 14 = .ok (.ifCond .eq 15, 3) := by decide +kernel
theorem dX11_will_17 : decode cX11_will 17 = .ok (.iload_n 2, 1) := by decide +kernel
theorem dX11_will_18 : decode cX11_will 18 = .ok (.i2l, 1) := by decide +kernel
theorem dX11_will_19 : decode cX11_will 19 = .ok (.lconst 0, 1) := by decide +kernel
theorem dX11_will_20 : decode cX11_will 20 = .ok (.ldc2_w 51, 3) := by decide +kernel
theorem dX11_will_23 : decode cX11_will 23 = .ok (.invokestatic 47, 3) := by decide +kernel
theorem dX11_will_26 : decode cX11_will 26 = .ok (.ifCond .ne 8, 3) := by decide +kernel
theorem dX11_will_29 : decode cX11_will 29 = .ok (.aload_n 0, 1) := by decide +kernel
theorem dX11_will_30 : decode cX11_will 30 = .ok (.invokevirtual 61, 3) := by decide +kernel
theorem dX11_will_33 : decode cX11_will 33 = .ok (.ireturn, 1) := by decide +kernel
theorem dX11_will_34 : decode cX11_will 34 = .ok (.iconst 0, 1) := by decide +kernel
theorem dX11_will_35 : decode cX11_will 35 = .ok (.istore_n 3, 1) := by decide +kernel
theorem dX11_will_36 : decode cX11_will 36 = .ok (.iconst 0, 1) := by decide +kernel
theorem dX11_will_37 : decode cX11_will 37 = .ok (.istore 4, 2) := by decide +kernel
theorem dX11_will_39 : decode cX11_will 39 = .ok (.iload 4, 2) := by decide +kernel
theorem dX11_will_41 : decode cX11_will 41 = .ok (.iconst 1, 1) := by decide +kernel
theorem dX11_will_42 : decode cX11_will 42 = .ok (.aload_n 0, 1) := by decide +kernel
theorem dX11_will_43 : decode cX11_will 43 = .ok (.getfield 13, 3) := by decide +kernel
theorem dX11_will_46 : decode cX11_will 46 = .ok (.iconst 0, 1) := by decide +kernel
theorem dX11_will_47 : decode cX11_will 47 = .ok (.iaload, 1) := by decide +kernel
theorem dX11_will_48 : decode cX11_will 48 = .ok (.ishl, 1) := by decide +kernel
theorem dX11_will_49 : decode cX11_will 49 = .ok (.if_icmp .ge 137, 3) := by decide +kernel
theorem dX11_will_52 : decode cX11_will 52 = .ok (.iload 4, 2) := by decide +kernel
theorem dX11_will_54 : decode cX11_will 54 = .ok (.invokestatic 195, 3) := by decide +kernel
theorem dX11_will_57 : decode cX11_will 57 = .ok (.iload_n 3, 1) := by decide +kernel
theorem dX11_will_58 : decode cX11_will 58 = .ok (.invokestatic 195, 3) := by decide +kernel
theorem dX11_will_61 : decode cX11_will 61 = .ok (.if_icmp .le 7, 3) := by decide +kernel
theorem dX11_will_64 : decode cX11_will 64 = .ok (.iconst 1, 1) := by decide +kernel
theorem dX11_will_65 : decode cX11_will 65 = .ok (.goto 4, 3) := by decide +kernel
theorem dX11_will_68 : decode cX11_will 68 = .ok (.iconst 0, 1) := by decide +kernel
theorem dX11_will_69 : decode cX11_will 69 = .ok (.istore 5, 2) := by decide +kernel
theorem dX11_will_71 : decode cX11_will 71 = .ok (.iconst 0, 1) := by decide +kernel
theorem dX11_will_72 : decode cX11_will 72 = .ok (.istore 6, 2) := by decide +kernel
theorem dX11_will_74 : decode cX11_will 74 = .ok (.iload 6, 2) := by decide +kernel
theorem dX11_will_76 : decode cX11_will 76 = .ok (.aload_n 0, 1) := by decide +kernel
theorem dX11_will_77 : decode cX11_will 77 = .ok (.getfield 13, 3) := by decide +kernel
theorem dX11_will_80 : decode cX11_will 80 = .ok (.iconst 0, 1) := by decide +kernel
theorem dX11_will_81 : decode cX11_will 81 = .ok (.iaload, 1) := by decide +kernel
theorem dX11_will_82 : decode cX11_will 82 = .ok (.if_icmp .ge 86, 3) := by decide +kernel
theorem dX11_will_85 : decode cX11_will 85 = .ok (.iload 5, 2) := by decide +kernel
theorem dX11_will_87 : decode cX11_will 87 = .ok (.ifCond .eq 81, 3) := by decide +kernel
theorem dX11_will_90 : decode cX11_will 90 = .ok (.iconst 0, 1) := by decide +kernel
theorem dX11_will_91 : decode cX11_will 91 = .ok (.istore 7, 2) := by decide +kernel
theorem dX11_will_93 : decode cX11_will 93 = .ok (.iload 7, 2) := by decide +kernel
theorem dX11_will_95 : decode cX11_will 95 = .ok (.aload_n 0, 1) := by decide +kernel
theorem dX11_will_96 : decode cX11_will 96 = .ok (.getfield 13, 3) := by decide +kernel
theorem dX11_will_99 : decode cX11_will 99 = .ok (.iconst 0, 1) := by decide +kernel
theorem dX11_will_100 : decode cX11_will 100 = .ok (.iaload, 1) := by decide +kernel
theorem dX11_will_101 : decode cX11_will 101 = .ok (.if_icmp .ge 61, 3) := by decide +kernel
theorem dX11_will_104 : decode cX11_will 104 = .ok (.iload 5, 2) := by decide +kernel
theorem dX11_will_106 : decode cX11_will 106 = .ok (.ifCond .eq 56, 3) := by decide +kernel
theorem dX11_will_109 : decode cX11_will 109 = .ok (.iload 6, 2) := by decide +kernel
theorem dX11_will_111 : decode cX11_will 111 = .ok (.iload 7, 2) := by decide +kernel
theorem dX11_will_113 : decode cX11_will 113 = .ok (.if_icmp .eq 36, 3) := by decide +kernel
theorem dX11_will_116 : decode cX11_will 116 = .ok (.iload 4, 2) := by decide +kernel
theorem dX11_will_118 : decode cX11_will 118 = .ok (.iload 6, 2) := by decide +kernel
theorem dX11_will_120 : decode cX11_will 120 = .ok (.invokestatic 155, 3) := by decide +kernel
theorem dX11_will_123 : decode cX11_will 123 = .ok (.ifCond .eq 26, 3) := by decide +kernel
theorem dX11_will_126 : decode cX11_will 126 = .ok (.iload 4, 2) := by decide +kernel
theorem dX11_will_128 : decode cX11_will 128 = .ok (.iload 7, 2) := by decide +kernel
theorem dX11_will_130 : decode cX11_will 130 = .ok (.invokestatic 155, 3) := by decide +kernel
theorem dX11_will_133 : decode cX11_will 133 = .ok (.ifCond .eq 16, 3) := by decide +kernel
theorem dX11_will_136 : decode cX11_will 136 = .ok (.aload_n 0, 1) := by decide +kernel
theorem dX11_will_137 : decode cX11_will 137 = .ok (.iload_n 1, 1) := by decide +kernel
theorem dX11_will_138 : decode cX11_will 138 = .ok (.iload_n 2, 1) := by decide +kernel
theorem dX11_will_139 : decode cX11_will 139 = .ok (.iload 6, 2) := by decide +kernel
theorem dX11_will_141 : decode cX11_will 141 = .ok (.iload 7, 2) := by decide +kernel
theorem dX11_will_143 : decode cX11_will 143 = .ok (.invokevirtual 173, 3) := by decide +kernel
theorem dX11_will_146 : decode cX11_will 146 = .ok (.ifCond .ne 7, 3) := by decide +kernel
theorem dX11_will_149 : decode cX11_will 149 = .ok (.iconst 1, 1) := by decide +kernel
theorem dX11_will_150 : decode cX11_will 150 = .ok (.goto 4, 3) := by decide +kernel
theorem dX11_will_153 : decode cX11_will 153 = .ok (.iconst 0, 1) := by decide +kernel
theorem dX11_will_154 : decode cX11_will 154 = .ok (.istore 5, 2) := by decide +kernel
theorem dX11_will_156 : decode cX11_will 156 = .ok (.iinc 7 1, 3) := by decide +kernel
theorem dX11_will_159 : decode cX11_will 159 = .ok (.goto (-66), 3) := by decide +kernel
theorem dX11_will_162 : decode cX11_will 162 = .ok (.iinc 6 1, 3) := by decide +kernel
theorem dX11_will_165 : decode cX11_will 165 = .ok (.goto (-91), 3) := by decide +kernel
theorem dX11_will_168 : decode cX11_will 168 = .ok (.iload 5, 2) := by decide +kernel
theorem dX11_will_170 : decode cX11_will 170 = .ok (.ifCond .eq 8, 3) := by decide +kernel
theorem dX11_will_173 : decode cX11_will 173 = .ok (.iload 4, 2) := by decide +kernel
theorem dX11_will_175 : decode cX11_will 175 = .ok (.goto 4, 3) := by decide +kernel
theorem dX11_will_178 : decode cX11_will 178 = .ok (.iload_n 3, 1) := by decide +kernel
theorem dX11_will_179 : decode cX11_will 179 = .ok (.istore_n 3, 1) := by decide +kernel
theorem dX11_will_180 : decode cX11_will 180 = .ok (.iinc 4 1, 3) := by decide +kernel
theorem dX11_will_183 : decode cX11_will 183 = .ok (.goto (-144), 3) := by decide +kernel
theorem dX11_will_186 : decode cX11_will 186 = .ok (.iload_n 3, 1) := by decide +kernel
theorem dX11_will_187 : decode cX11_will 187 = .ok (.ireturn, 1) := by decide +kernel
set_option maxRecDepth 20000 in
theorem ggX11_worst_X11_noPerson : GoodIn wsX11_worst wsX11_noPerson := goodIn_r _ [7, 2, 8, 9, 6, 10, 74, 75, 76, 77, 78, 79, 80, 81, 82, 83, 84, 85, 86, 87, 88, 89, 90, 91, 92, 93] (by decide +kernel) (by decide +kernel)
set_option maxRecDepth 20000 in
theorem gX11_worst_X11_noPerson : GoodIn wsX11_worst (wsV RX11 186 RX11 yX11_noPerson wsX11_noPerson) := goodIn_app (goodIn_of _ (by decide +kernel)) ggX11_worst_X11_noPerson
set_option maxRecDepth 20000 in
theorem ggX11_worst_X11_bad : GoodIn wsX11_worst wsX11_bad := goodIn_r _ [14, 15, 16, 17, 6, 18, 19, 74, 75, 76, 77, 78, 79, 80, 81, 82, 83, 84, 85, 86, 87, 88, 89, 90, 91, 92, 93] (by decide +kernel) (by decide +kernel)
set_option maxRecDepth 20000 in
theorem gX11_worst_X11_bad : GoodIn wsX11_worst (wsV RX11 61 RX11 yX11_bad wsX11_bad) := goodIn_app (goodIn_of _ (by decide +kernel)) ggX11_worst_X11_bad
set_option maxRecDepth 20000 in
theorem ggX11_worst_X11_canSay : GoodIn wsX11_worst wsX11_canSay := goodIn_r _ [23, 24, 25, 26, 6, 27, 2, 28, 29, 30, 31, 32, 33, 34, 35, 36, 37, 38, 39, 40, 41, 42, 43, 44, 45, 46, 47, 48, 49, 50, 51, 52, 53, 54, 55, 56, 57, 58, 59, 60, 61, 62, 63, 64, 65, 66, 67, 68, 69, 70, 74, 75, 76, 77, 78, 79, 80, 81, 82, 83, 84, 85, 86, 87, 88, 89, 90, 91, 92, 93] (by decide +kernel) (by decide +kernel)
set_option maxRecDepth 20000 in
theorem gX11_worst_X11_canSay : GoodIn wsX11_worst (wsV RX11 202 RX11 yX11_canSay wsX11_canSay) := goodIn_app (goodIn_of _ (by decide +kernel)) ggX11_worst_X11_canSay
