set_option maxRecDepth 20000 in
theorem ggX11_worst_X11_bits : GoodIn wsX11_worst wsX11_bits := goodIn_r _ [73] (by decide +kernel) (by decide +kernel)
set_option maxRecDepth 20000 in
theorem gX11_worst_X11_bits : GoodIn wsX11_worst (va_wsS RX11 195 yX11_bits wsX11_bits) := goodIn_app (goodIn_of _ (by decide +kernel)) ggX11_worst_X11_bits
theorem dX11_worst_0 : decode cX11_worst 0 = .ok (.aload_n 0, 1) := by decide +kernel
theorem dX11_worst_1 : decode cX11_worst 1 = .ok (.iconst 0, 1) := by decide +kernel
theorem dX11_worst_2 : decode cX11_worst 2 = .ok (.putfield 39, 3) := by decide +kernel
theorem dX11_worst_5 : decode cX11_worst 5 = .ok (.aload_n 0, 1) := by decide +kernel
theorem dX11_worst_6 : decode cX11_worst 6 = .ok (.iload_n 1, 1) := by decide +kernel
theorem dX11_worst_7 : decode cX11_worst 7 = .ok (.invokevirtual 186, 3) := by decide +kernel
theorem dX11_worst_10 : decode cX11_worst 10 = .ok (.ifCond .eq 8, 3) := by decide +kernel
theorem dX11_worst_13 : decode cX11_worst 13 = .ok (.aload_n 0, 1) := by decide +kernel
theorem dX11_worst_14 : decode cX11_worst 14 = .ok (.invokevirtual 61, 3) := by decide +kernel
theorem dX11_worst_17 : decode cX11_worst 17 = .ok (.ireturn, 1) := by decide +kernel
theorem dX11_worst_18 : decode cX11_worst 18 = .ok (.iconst (-1), 1) := by decide +kernel
theorem dX11_worst_19 : decode cX11_worst 19 = .ok (.istore_n 2, 1) := by decide +kernel
theorem dX11_worst_20 : decode cX11_worst 20 = .ok (.iconst 0, 1) := by decide +kernel
theorem dX11_worst_21 : decode cX11_worst 21 = .ok (.istore_n 3, 1) := by decide +kernel
theorem dX11_worst_22 : decode cX11_worst 22 = .ok (.iload_n 3, 1) := by decide +kernel
theorem dX11_worst_23 : decode cX11_worst 23 = .ok (.aload_n 0, 1) := by decide +kernel
theorem dX11_worst_24 : decode cX11_worst 24 = .ok (.getfield 13, 3) := by decide +kernel
theorem dX11_worst_27 : decode cX11_worst 27 = .ok (.iconst 0, 1) := by decide +kernel
theorem dX11_worst_28 : decode cX11_worst 28 = .ok (.iaload, 1) := by decide +kernel
theorem dX11_worst_29 : decode cX11_worst 29 = .ok (.if_icmp .ge 41, 3) := by decide +kernel
theorem dX11_worst_32 : decode cX11_worst 32 = .ok (.iload_n 2, 1) := by decide +kernel
theorem dX11_worst_33 : decode cX11_worst 33 = .ok (.iconst (-1), 1) := by decide +kernel
theorem dX11_worst_34 : decode cX11_worst 34 = .ok (.if_icmp .eq 24, 3) := by decide +kernel
theorem dX11_worst_37 : decode cX11_worst 37 = .ok (.aload_n 0, 1) := by decide +kernel
theorem dX11_worst_38 : decode cX11_worst 38 = .ok (.iload_n 1, 1) := by decide +kernel
theorem dX11_worst_39 : decode cX11_worst 39 = .ok (.iload_n 3, 1) := by decide +kernel
theorem dX11_worst_40 : decode cX11_worst 40 = .ok (.invokevirtual 202, 3) := by decide +kernel
theorem dX11_worst_43 : decode cX11_worst 43 = .ok (.invokestatic 195, 3) := by decide +kernel
theorem dX11_worst_46 : decode cX11_worst 46 = .ok (.aload_n 0, 1) := by decide +kernel
theorem dX11_worst_47 : decode cX11_worst 47 = .ok (.iload_n 1, 1) := by decide +kernel
theorem dX11_worst_48 : decode cX11_worst 48 = .ok (.iload_n 2, 1) := by decide +kernel
theorem dX11_worst_49 : decode cX11_worst 49 = .ok (.invokevirtual 202, 3) := by decide +kernel
theorem dX11_worst_52 : decode cX11_worst 52 = .ok (.invokestatic 195, 3) := by decide +kernel
theorem dX11_worst_55 : decode cX11_worst 55 = .ok (.if_icmp .ge 7, 3) := by decide +kernel
theorem dX11_worst_58 : decode cX11_worst 58 = .ok (.iload_n 3, 1) := by decide +kernel
theorem dX11_worst_59 : decode cX11_worst 59 = .ok (.goto 4, 3) := by decide +kernel
theorem dX11_worst_62 : decode cX11_worst 62 = .ok (.iload_n 2, 1) := by decide +kernel
theorem dX11_worst_63 : decode cX11_worst 63 = .ok (.istore_n 2, 1) := by decide +kernel
theorem dX11_worst_64 : decode cX11_worst 64 = .ok (.iinc 3 1, 3) := by decide +kernel
theorem dX11_worst_67 : decode cX11_worst 67 = .ok (.goto (-45), 3) := by decide +kernel
theorem dX11_worst_70 : decode cX11_worst 70 = .ok (.iload_n 2, 1) := by decide +kernel
theorem dX11_worst_71 : decode cX11_worst 71 = .ok (.ireturn, 1) := by decide +kernel
set_option maxRecDepth 20000 in
theorem ggX11_canSayAll_X11_canSay : GoodIn wsX11_canSayAll wsX11_canSay := goodIn_r _ [6, 7, 8, 9, 5, 10, 1, 11, 12, 13, 14, 15, 16, 17, 18, 19, 20, 21, 22, 23, 24, 25, 26, 27, 28, 29, 30, 31, 32, 33, 34, 35, 36, 37, 38, 39, 40, 41, 42, 43, 44, 45, 46, 47, 48, 49, 50, 51, 52, 53, 54, 55, 56, 57, 58, 59, 60, 61, 62, 63, 64, 65, 66, 67, 68, 69, 70, 71, 72, 73] (by decide +kernel) (by decide +kernel)
set_option maxRecDepth 20000 in
theorem gX11_canSayAll_X11_canSay : GoodIn wsX11_canSayAll (wsV RX11 202 RX11 yX11_canSay wsX11_canSay) := goodIn_app (goodIn_of _ (by decide +kernel)) ggX11_canSayAll_X11_canSay
theorem dX11_canSayAll_0 : decode cX11_canSayAll 0 = .ok (.iconst 0, 1) := by decide +kernel
theorem dX11_canSayAll_1 : decode cX11_canSayAll 1 = .ok (.istore_n 3, 1) := by decide +kernel
theorem dX11_canSayAll_2 : decode cX11_canSayAll 2 = .ok (.iconst 0, 1) := by decide +kernel
theorem dX11_canSayAll_3 : decode cX11_canSayAll 3 = .ok (.istore 4, 2) := by decide +kernel
theorem dX11_canSayAll_5 : decode cX11_canSayAll 5 = .ok (.iload 4, 2) := by decide +kernel
theorem dX11_canSayAll_7 : decode cX11_canSayAll 7 = .ok (.aload_n 0, 1) := by decide +kernel
theorem dX11_canSayAll_8 : decode cX11_canSayAll 8 = .ok (.getfield 13, 3) := by decide +kernel
theorem dX11_canSayAll_11 : decode cX11_canSayAll 11 = .ok (.iconst 0, 1) := by decide +kernel
theorem dX11_canSayAll_12 : decode cX11_canSayAll 12 = .ok (.iaload, 1) := by decide +kernel
theorem dX11_canSayAll_13 : decode cX11_canSayAll 13 = .ok (.if_icmp .ge 19, 3) := by decide +kernel
theorem dX11_canSayAll_16 : decode cX11_canSayAll 16 = .ok (.iload_n 3, 1) := by decide +kernel
theorem dX11_canSayAll_17 : decode cX11_canSayAll 17 = .ok (.aload_n 0, 1) := by decide +kernel
theorem dX11_canSayAll_18 : decode cX11_canSayAll 18 = .ok (.iload_n 1, 1) := by decide +kernel
theorem dX11_canSayAll_19 : decode cX11_canSayAll 19 = .ok (.iload 4, 2) := by decide +kernel
theorem dX11_canSayAll_21 : decode cX11_canSayAll 21 = .ok (.invokevirtual 202, 3) := by decide +kernel
theorem dX11_canSayAll_24 : decode cX11_canSayAll 24 = .ok (.ior, 1) := by decide +kernel
theorem dX11_canSayAll_25 : decode cX11_canSayAll 25 = .ok (.istore_n 3, 1) := by decide +kernel
theorem dX11_canSayAll_26 : decode cX11_canSayAll 26 = .ok (.iinc 4 1, 3) := by decide +kernel
theorem dX11_canSayAll_29 : decode cX11_canSayAll 29 = .ok (.goto (-24), 3) := by decide +kernel
theorem dX11_canSayAll_32 : decode cX11_canSayAll 32 = .ok (.iload_n 2, 1) := by decide +kernel
theorem dX11_canSayAll_33 : decode cX11_canSayAll 33 = .ok (.iload_n 3, 1) := by decide +kernel
theorem dX11_canSayAll_34 : decode cX11_canSayAll 34 = .ok (.iconst (-1), 1) := by decide +kernel
theorem dX11_canSayAll_35 : decode cX11_canSayAll 35 = .ok (.ixor, 1) := by decide +kernel
theorem dX11_canSayAll_36 : decode cX11_canSayAll 36 = .ok (.iand, 1) := by decide +kernel
theorem dX11_canSayAll_37 : decode cX11_canSayAll 37 = .ok (.ifCond .ne 7, 3) := by decide +kernel
theorem dX11_canSayAll_40 : decode cX11_canSayAll 40 = .ok (.iconst 1, 1) := by decide +kernel
theorem dX11_canSayAll_41 : decode cX11_canSayAll 41 = .ok (.goto 4, 3) := by decide +kernel
theorem dX11_canSayAll_44 : decode cX11_canSayAll 44 = .ok (.iconst 0, 1) := by decide +kernel
theorem dX11_canSayAll_45 : decode cX11_canSayAll 45 = .ok (.ireturn, 1) := by decide +kernel
set_option maxRecDepth 20000 in
theorem ggX11_isFree_X11_has : GoodIn wsX11_isFree wsX11_has := goodIn_r _ [5] (by decide +kernel) (by decide +kernel)
set_option maxRecDepth 20000 in
theorem gX11_isFree_X11_has : GoodIn wsX11_isFree (va_wsS RX11 155 yX11_has wsX11_has) := goodIn_app (goodIn_of _ (by decide +kernel)) ggX11_isFree_X11_has
theorem dX11_isFree_0 : decode cX11_isFree 0 = .ok (.iload_n 1, 1) := by decide +kernel
theorem dX11_isFree_1 : decode cX11_isFree 1 = .ok (.bipush 10, 2) := by decide +kernel
theorem dX11_isFree_3 : decode cX11_isFree 3 = .ok (.idiv, 1) := by decide +kernel
theorem dX11_isFree_4 : decode cX11_isFree 4 = .ok (.istore_n 2, 1) := by decide +kernel
theorem dX11_isFree_5 : decode cX11_isFree 5 = .ok (.iload_n 1, 1) := by decide +kernel
theorem dX11_isFree_6 : decode cX11_isFree 6 = .ok (.bipush 10, 2) := by decide +kernel
theorem dX11_isFree_8 : decode cX11_isFree 8 = .ok (.irem, 1) := by decide +kernel
theorem dX11_isFree_9 : decode cX11_isFree 9 = .ok (.istore_n 3, 1) := by decide +kernel
theorem dX11_isFree_10 : decode cX11_isFree 10 = .ok (.iload_n 2, 1) := by decide +kernel
theorem dX11_isFree_11 : decode cX11_isFree 11 = .ok (.iload_n 3, 1) := by decide +kernel
theorem dX11_isFree_12 : decode cX11_isFree 12 = .ok (.if_icmp .ge 29, 3) := by decide +kernel
theorem dX11_isFree_15 : decode cX11_isFree 15 = .ok (.iload_n 3, 1) := by decide +kernel
theorem dX11_isFree_16 : decode cX11_isFree 16 = .ok (.bipush 8, 2) := by decide +kernel
theorem dX11_isFree_18 : decode cX11_isFree 18 = .ok (.if_icmp .ge 23, 3) := by decide +kernel
theorem dX11_isFree_21 : decode cX11_isFree 21 = .ok (.aload_n 0, 1) := by decide +kernel
theorem dX11_isFree_22 : decode cX11_isFree 22 = .ok (.getfield 13, 3) := by decide +kernel
theorem dX11_isFree_25 : decode cX11_isFree 25 = .ok (.bipush 45, 2) := by decide +kernel
theorem dX11_isFree_27 : decode cX11_isFree 27 = .ok (.iload_n 2, 1) := by decide +kernel
theorem dX11_isFree_28 : decode cX11_isFree 28 = .ok (.iadd, 1) := by decide +kernel
theorem dX11_isFree_29 : decode cX11_isFree 29 = .ok (.iaload, 1) := by decide +kernel
theorem dX11_isFree_30 : decode cX11_isFree 30 = .ok (.iload_n 3, 1) := by decide +kernel
theorem dX11_isFree_31 : decode cX11_isFree 31 = .ok (.invokestatic 155, 3) := by decide +kernel
theorem dX11_isFree_34 : decode cX11_isFree 34 = .ok (.ifCond .ne 7, 3) := by decide +kernel
theorem dX11_isFree_37 : decode cX11_isFree 37 = .ok (.iconst 1, 1) := by decide +kernel
theorem dX11_isFree_38 : decode cX11_isFree 38 = .ok (.goto 4, 3) := by decide +kernel
theorem dX11_isFree_41 : decode cX11_isFree 41 = .ok (.iconst 0, 1) := by decide +kernel
theorem dX11_isFree_42 : decode cX11_isFree 42 = .ok (.ireturn, 1) := by decide +kernel
set_option maxRecDepth 20000 in
theorem ggX11_canSayWith_X11_setAlike : GoodIn wsX11_canSayWith wsX11_setAlike := goodIn_r _ [5] (by decide +kernel) (by decide +kernel)
set_option maxRecDepth 20000 in
theorem gX11_canSayWith_X11_setAlike : GoodIn wsX11_canSayWith (va_wsS RX11 72 yX11_setAlike wsX11_setAlike) := goodIn_app (goodIn_of _ (by decide +kernel)) ggX11_canSayWith_X11_setAlike
set_option maxRecDepth 20000 in
theorem ggX11_canSayWith_X11_canSayAll : GoodIn wsX11_canSayWith wsX11_canSayAll := goodIn_r _ [9, 1, 10, 11, 12, 4, 13, 14, 15, 16, 17, 18, 19, 20, 21, 22, 23, 24, 25, 26, 27, 28, 29, 30, 31, 32, 33, 34, 35, 36, 37, 38, 39, 40, 41, 42, 43, 44, 45, 46, 47, 48, 49, 50, 51, 52, 53, 54, 55, 56, 57, 58, 59, 60, 61, 62, 63, 64, 65, 66, 67, 68, 69, 70, 71, 72, 73, 74, 75, 76, 77, 78, 79, 80] (by decide +kernel) (by decide +kernel)
set_option maxRecDepth 20000 in
theorem gX11_canSayWith_X11_canSayAll : GoodIn wsX11_canSayWith (wsV RX11 231 RX11 yX11_canSayAll wsX11_canSayAll) := goodIn_app (goodIn_of _ (by decide +kernel)) ggX11_canSayWith_X11_canSayAll
theorem dX11_canSayWith_0 : decode cX11_canSayWith 0 = .ok (.aload_n 0, 1) := by decide +kernel
theorem dX11_canSayWith_1 : decode cX11_canSayWith 1 = .ok (.getfield 13, 3) := by decide +kernel
theorem dX11_canSayWith_4 : decode cX11_canSayWith 4 = .ok (.iload_n 3, 1) := by decide +kernel
theorem dX11_canSayWith_5 : decode cX11_canSayWith 5 = .ok (.bipush 10, 2) := by decide +kernel
theorem dX11_canSayWith_7 : decode cX11_canSayWith 7 = .ok (.idiv, 1) := by decide +kernel
theorem dX11_canSayWith_8 : decode cX11_canSayWith 8 = .ok (.iload_n 3, 1) := by decide +kernel
theorem dX11_canSayWith_9 : decode cX11_canSayWith 9 = .ok (.bipush 10, 2) := by decide +kernel
theorem dX11_canSayWith_11 : decode cX11_canSayWith 11 = .ok (.irem, 1) := by decide +kernel
theorem dX11_canSayWith_12 : decode cX11_canSayWith 12 = .ok (.iconst 1, 1) := by decide +kernel
theorem dX11_canSayWith_13 : decode cX11_canSayWith 13 = .ok (.invokestatic 72, 3) := by decide +kernel
theorem dX11_canSayWith_16 : decode cX11_canSayWith 16 = .ok (.aload_n 0, 1) := by decide +kernel
theorem dX11_canSayWith_17 : decode cX11_canSayWith 17 = .ok (.getfield 13, 3) := by decide +kernel
theorem dX11_canSayWith_20 : decode cX11_canSayWith 20 = .ok (.iload 4, 2) := by decide +kernel
theorem dX11_canSayWith_22 : decode cX11_canSayWith 22 = .ok (.bipush 10, 2) := by decide +kernel
theorem dX11_canSayWith_24 : decode cX11_canSayWith 24 = .ok (.idiv, 1) := by decide +kernel
theorem dX11_canSayWith_25 : decode cX11_canSayWith 25 = .ok (.iload 4, 2) := by decide +kernel
theorem dX11_canSayWith_27 : decode cX11_canSayWith 27 = .ok (.bipush 10, 2) := by decide +kernel
theorem dX11_canSayWith_29 : decode cX11_canSayWith 29 = .ok (.irem, 1) := by decide +kernel
theorem dX11_canSayWith_30 : decode cX11_canSayWith 30 = .ok (.iconst 1, 1) := by decide +kernel
theorem dX11_canSayWith_31 : decode cX11_canSayWith 31 = .ok (.invokestatic 72, 3) := by decide +kernel
theorem dX11_canSayWith_34 : decode cX11_canSayWith 34 = .ok (.aload_n 0, 1) := by decide +kernel
theorem dX11_canSayWith_35 : decode cX11_canSayWith 35 = .ok (.iload_n 1, 1) := by decide +kernel
theorem dX11_canSayWith_36 : decode cX11_canSayWith 36 = .ok (.iload_n 2, 1) := by decide +kernel
theorem dX11_canSayWith_37 : decode cX11_canSayWith 37 = .ok (.invokevirtual 231, 3) := by decide +kernel
theorem dX11_canSayWith_40 : decode cX11_canSayWith 40 = .ok (.istore 5, 2) := by decide +kernel
theorem dX11_canSayWith_42 : decode cX11_canSayWith 42 = .ok (.aload_n 0, 1) := by decide +kernel
theorem dX11_canSayWith_43 : decode cX11_canSayWith 43 = .ok (.getfield 13, 3) := by decide +kernel
theorem dX11_canSayWith_46 : decode cX11_canSayWith 46 = .ok (.iload_n 3, 1) := by decide +kernel
theorem dX11_canSayWith_47 : decode cX11_canSayWith 47 = .ok (.bipush 10, 2) := by decide +kernel
theorem dX11_canSayWith_49 : decode cX11_canSayWith 49 = .ok (.idiv, 1) := by decide +kernel
theorem dX11_canSayWith_50 : decode cX11_canSayWith 50 = .ok (.iload_n 3, 1) := by decide +kernel
theorem dX11_canSayWith_51 : decode cX11_canSayWith 51 = .ok (.bipush 10, 2) := by decide +kernel
theorem dX11_canSayWith_53 : decode cX11_canSayWith 53 = .ok (.irem, 1) := by decide +kernel
theorem dX11_canSayWith_54 : decode cX11_canSayWith 54 = .ok (.iconst 0, 1) := by decide +kernel
theorem dX11_canSayWith_55 : decode cX11_canSayWith 55 = .ok (.invokestatic 72, 3) := by decide +kernel
theorem dX11_canSayWith_58 : decode cX11_canSayWith 58 = .ok (.aload_n 0, 1) := by decide +kernel
theorem dX11_canSayWith_59 : decode cX11_canSayWith 59 = .ok (.getfield 13, 3) := by decide +kernel
theorem dX11_canSayWith_62 : decode cX11_canSayWith 62 = .ok (.iload 4, 2) := by decide +kernel
theorem dX11_canSayWith_64 : decode cX11_canSayWith 64 = .ok (.bipush 10, 2) := by decide +kernel
theorem dX11_canSayWith_66 : decode cX11_canSayWith 66 = .ok (.idiv, 1) := by decide +kernel
theorem dX11_canSayWith_67 : decode cX11_canSayWith 67 = .ok (.iload 4, 2) := by decide +kernel
theorem dX11_canSayWith_69 : decode cX11_canSayWith 69 = .ok (.bipush 10, 2) := by decide +kernel
theorem dX11_canSayWith_71 : decode cX11_canSayWith 71 = .ok (.irem, 1) := by decide +kernel
theorem dX11_canSayWith_72 : decode cX11_canSayWith 72 = .ok (.iconst 0, 1) := by decide +kernel
theorem dX11_canSayWith_73 : decode cX11_canSayWith 73 = .ok (.invokestatic 72, 3) := by decide +kernel
theorem dX11_canSayWith_76 : decode cX11_canSayWith 76 = .ok (.iload 5, 2) := by decide +kernel
theorem dX11_canSayWith_78 : decode cX11_canSayWith 78 = .ok (.ireturn, 1) := by decide +kernel
set_option maxRecDepth 20000 in
theorem ggX11_layAllow_X11_canSayAll : GoodIn wsX11_layAllow wsX11_canSayAll := goodIn_r _ [8, 9, 10, 11, 12, 7, 13, 14, 15, 16, 17, 18, 19, 20, 21, 22, 23, 24, 25, 26, 27, 28, 29, 30, 31, 32, 33, 34, 35, 36, 37, 38, 39, 40, 41, 42, 43, 44, 45, 46, 47, 48, 49, 50, 51, 52, 53, 54, 55, 56, 57, 58, 59, 60, 72, 73, 74, 75, 76, 77, 78, 79, 80, 81, 82, 83, 84, 85, 86, 87, 88, 89, 90, 91] (by decide +kernel) (by decide +kernel)
set_option maxRecDepth 20000 in
theorem gX11_layAllow_X11_canSayAll : GoodIn wsX11_layAllow (wsV RX11 231 RX11 yX11_canSayAll wsX11_canSayAll) := goodIn_app (goodIn_of _ (by decide +kernel)) ggX11_layAllow_X11_canSayAll
set_option maxRecDepth 20000 in
theorem ggX11_layAllow_X11_isFree : GoodIn wsX11_layAllow wsX11_isFree := goodIn_r _ [64, 9, 46, 47, 7, 48, 72, 73, 74, 75, 76, 77, 78, 79, 80, 81, 82, 83, 84, 85, 86, 87, 88, 89, 90, 91] (by decide +kernel) (by decide +kernel)
set_option maxRecDepth 20000 in
theorem gX11_layAllow_X11_isFree : GoodIn wsX11_layAllow (wsV RX11 237 RX11 yX11_isFree wsX11_isFree) := goodIn_app (goodIn_of _ (by decide +kernel)) ggX11_layAllow_X11_isFree
set_option maxRecDepth 20000 in
theorem ggX11_layAllow_X11_canSayWith : GoodIn wsX11_layAllow wsX11_canSayWith := goodIn_r _ [68, 9, 69, 70, 7, 71, 4, 5, 6, 8, 10, 11, 12, 13, 14, 15, 16, 17, 18, 19, 20, 21, 22, 23, 24, 25, 26, 27, 28, 29, 30, 31, 32, 33, 34, 35, 36, 37, 38, 39, 40, 41, 42, 43, 44, 45, 46, 47, 48, 49, 50, 51, 52, 53, 54, 55, 56, 57, 58, 59, 60, 72, 73, 74, 75, 76, 77, 78, 79, 80, 81, 82, 83, 84, 85, 86, 87, 88, 89, 90, 91] (by decide +kernel) (by decide +kernel)
set_option maxRecDepth 20000 in
theorem gX11_layAllow_X11_canSayWith : GoodIn wsX11_layAllow (wsV RX11 240 RX11 yX11_canSayWith wsX11_canSayWith) := goodIn_app (goodIn_of _ (by decide +kernel)) ggX11_layAllow_X11_canSayWith
theorem dX11_layAllow_0 : decode cX11_layAllow 0 = .ok (.aload_n 0, 1) := by decide +kernel
theorem dX11_layAllow_1 : decode cX11_layAllow 1 = .ok (.aload_n 0, 1) := by decide +kernel
theorem dX11_layAllow_2 : decode cX11_layAllow 2 = .ok (.iload_n 1, 1) := by decide +kernel
theorem dX11_layAllow_3 : decode cX11_layAllow 3 = .ok (.iload_n 2, 1) := by decide +kernel
theorem dX11_layAllow_4 : decode cX11_layAllow 4 = .ok (.invokevirtual 231, 3) := by decide +kernel
theorem dX11_layAllow_7 : decode cX11_layAllow 7 = .ok (.ifCond .eq 7, 3) := by decide +kernel
theorem dX11_layAllow_10 : decode cX11_layAllow 10 = .ok (.iconst 0, 1) := by decide +kernel
theorem dX11_layAllow_11 : decode cX11_layAllow 11 = .ok (.goto 4, 3) := by decide +kernel
theorem dX11_layAllow_14 : decode cX11_layAllow 14 = .ok (.iconst (-1), 1) := by decide +kernel
theorem dX11_layAllow_15 : decode cX11_layAllow 15 = .ok (.putfield 234, 3) := by decide +kernel
theorem dX11_layAllow_18 : decode cX11_layAllow 18 = .ok (.iconst 1, 1) := by decide +kernel
theorem dX11_layAllow_19 : decode cX11_layAllow 19 = .ok (.istore_n 3, 1) := by decide +kernel
theorem dX11_layAllow_20 : decode cX11_layAllow 20 = .ok (.iload_n 3, 1) := by decide +kernel
theorem dX11_layAllow_21 : decode cX11_layAllow 21 = .ok (.iconst 3, 1) := by decide +kernel
theorem dX11_layAllow_22 : decode cX11_layAllow 22 = .ok (.if_icmp .ge 138, 3) := by decide +kernel
theorem dX11_layAllow_25 : decode cX11_layAllow 25 = .ok (.aload_n 0, 1) := by decide +kernel
theorem dX11_layAllow_26 : decode cX11_layAllow 26 = .ok (.getfield 234, 3) := by decide +kernel
theorem dX11_layAllow_29 : decode cX11_layAllow 29 = .ok (.iconst (-1), 1) := by decide +kernel
theorem dX11_layAllow_30 : decode cX11_layAllow 30 = .ok (.if_icmp .ne 130, 3) := by decide +kernel
theorem dX11_layAllow_33 : decode cX11_layAllow 33 = .ok (.iconst 0, 1) := by decide +kernel
theorem dX11_layAllow_34 : decode cX11_layAllow 34 = .ok (.istore 4, 2) := by decide +kernel
theorem dX11_layAllow_36 : decode cX11_layAllow 36 = .ok (.iload 4, 2) := by decide +kernel
theorem dX11_layAllow_38 : decode cX11_layAllow 38 = .ok (.bipush 68, 2) := by decide +kernel
theorem dX11_layAllow_40 : decode cX11_layAllow 40 = .ok (.if_icmp .ge 114, 3) := by decide +kernel
theorem dX11_layAllow_43 : decode cX11_layAllow 43 = .ok (.aload_n 0, 1) := by decide +kernel
theorem dX11_layAllow_44 : decode cX11_layAllow 44 = .ok (.getfield 234, 3) := by decide +kernel
theorem dX11_layAllow_47 : decode cX11_layAllow 47 = .ok (.iconst (-1), 1) := by decide +kernel
theorem dX11_layAllow_48 : decode cX11_layAllow 48 = .ok (.if_icmp .ne 106, 3) := by decide +kernel
theorem dX11_layAllow_51 : decode cX11_layAllow 51 = .ok (.iload_n 3, 1) := by decide +kernel
theorem dX11_layAllow_52 : decode cX11_layAllow 52 = .ok (.iconst 1, 1) := by decide +kernel
theorem dX11_layAllow_53 : decode cX11_layAllow 53 = .ok (.if_icmp .ne 8, 3) := by decide +kernel
theorem dX11_layAllow_56 : decode cX11_layAllow 56 = .ok (.iload 4, 2) := by decide +kernel
theorem dX11_layAllow_58 : decode cX11_layAllow 58 = .ok (.goto 7, 3) := by decide +kernel
theorem dX11_layAllow_61 : decode cX11_layAllow 61 = .ok (.iload 4, 2) := by decide +kernel
theorem dX11_layAllow_63 : decode cX11_layAllow 63 = .ok (.iconst 1, 1) := by decide +kernel
theorem dX11_layAllow_64 : decode cX11_layAllow 64 = .ok (.iadd, 1) := by decide +kernel
theorem dX11_layAllow_65 : decode cX11_layAllow 65 = .ok (.istore 5, 2) := by decide +kernel
theorem dX11_layAllow_67 : decode cX11_layAllow 67 = .ok (.iload 5, 2) := by decide +kernel
theorem dX11_layAllow_69 : decode cX11_layAllow 69 = .ok (.iload_n 3, 1) := by decide +kernel
theorem dX11_layAllow_70 : decode cX11_layAllow 70 = .ok (.iconst 1, 1) := by decide +kernel
theorem dX11_layAllow_71 : decode cX11_layAllow 71 = .ok (.if_icmp .ne 10, 3) := by decide +kernel
theorem dX11_layAllow_74 : decode cX11_layAllow 74 = .ok (.iload 4, 2) := by decide +kernel
theorem dX11_layAllow_76 : decode cX11_layAllow 76 = .ok (.iconst 1, 1) := by decide +kernel
theorem dX11_layAllow_77 : decode cX11_layAllow 77 = .ok (.iadd, 1) := by decide +kernel
theorem dX11_layAllow_78 : decode cX11_layAllow 78 = .ok (.goto 5, 3) := by decide +kernel
theorem dX11_layAllow_81 : decode cX11_layAllow 81 = .ok (.bipush 68, 2) := by decide +kernel
theorem dX11_layAllow_83 : decode cX11_layAllow 83 = .ok (.if_icmp .ge 65, 3) := by decide +kernel
theorem dX11_layAllow_86 : decode cX11_layAllow 86 = .ok (.aload_n 0, 1) := by decide +kernel
theorem dX11_layAllow_87 : decode cX11_layAllow 87 = .ok (.getfield 234, 3) := by decide +kernel
theorem dX11_layAllow_90 : decode cX11_layAllow 90 = .ok (.iconst (-1), 1) := by decide +kernel
theorem dX11_layAllow_91 : decode cX11_layAllow 91 = .ok (.if_icmp .ne 57, 3) := by decide +kernel
theorem dX11_layAllow_94 : decode cX11_layAllow 94 = .ok (.aload_n 0, 1) := by decide +kernel
theorem dX11_layAllow_95 : decode cX11_layAllow 95 = .ok (.iload 4, 2) := by decide +kernel
theorem dX11_layAllow_97 : decode cX11_layAllow 97 = .ok (.invokevirtual 237, 3) := by decide +kernel
theorem dX11_layAllow_100 : decode cX11_layAllow 100 = .ok (.ifCond .eq 42, 3) := by decide +kernel
theorem dX11_layAllow_103 : decode cX11_layAllow 103 = .ok (.aload_n 0, 1) := by decide +kernel
theorem dX11_layAllow_104 : decode cX11_layAllow 104 = .ok (.iload 5, 2) := by decide +kernel
theorem dX11_layAllow_106 : decode cX11_layAllow 106 = .ok (.invokevirtual 237, 3) := by decide +kernel
theorem dX11_layAllow_109 : decode cX11_layAllow 109 = .ok (.ifCond .eq 33, 3) := by decide +kernel
theorem dX11_layAllow_112 : decode cX11_layAllow 112 = .ok (.aload_n 0, 1) := by decide +kernel
theorem dX11_layAllow_113 : decode cX11_layAllow 113 = .ok (.iload_n 1, 1) := by decide +kernel
theorem dX11_layAllow_114 : decode cX11_layAllow 114 = .ok (.iload_n 2, 1) := by decide +kernel
theorem dX11_layAllow_115 : decode cX11_layAllow 115 = .ok (.iload 4, 2) := by decide +kernel
theorem dX11_layAllow_117 : decode cX11_layAllow 117 = .ok (.iload 5, 2) := by decide +kernel
theorem dX11_layAllow_119 : decode cX11_layAllow 119 = .ok (.invokevirtual 240, 3) := by decide +kernel
theorem dX11_layAllow_122 : decode cX11_layAllow 122 = .ok (.ifCond .eq 20, 3) := by decide +kernel
theorem dX11_layAllow_125 : decode cX11_layAllow 125 = .ok (.aload_n 0, 1) := by decide +kernel
theorem dX11_layAllow_126 : decode cX11_layAllow 126 = .ok (.iload_n 3, 1) := by decide +kernel
theorem dX11_layAllow_127 : decode cX11_layAllow 127 = .ok (.putfield 234, 3) := by decide +kernel
theorem dX11_layAllow_130 : decode cX11_layAllow 130 = .ok (.aload_n 0, 1) := by decide +kernel
theorem dX11_layAllow_131 : decode cX11_layAllow 131 = .ok (.iload 4, 2) := by decide +kernel
theorem dX11_layAllow_133 : decode cX11_layAllow 133 = .ok (.putfield 243, 3) := by decide +kernel
theorem dX11_layAllow_136 : decode cX11_layAllow 136 = .ok (.aload_n 0, 1) := by decide +kernel
theorem dX11_layAllow_137 : decode cX11_layAllow 137 = .ok (.iload 5, 2) := by decide +kernel
theorem dX11_layAllow_139 : decode cX11_layAllow 139 = .ok (.putfield 246, 3) := by decide +kernel
theorem dX11_layAllow_142 : decode cX11_layAllow 142 = .ok (.iinc 5 1, 3) := by decide +kernel
theorem dX11_layAllow_145 : decode cX11_layAllow 145 = .ok (.goto (-78), 3) := by decide +kernel
theorem dX11_layAllow_148 : decode cX11_layAllow 148 = .ok (.iinc 4 1, 3) := by decide +kernel
theorem dX11_layAllow_151 : decode cX11_layAllow 151 = .ok (.goto (-115), 3) := by decide +kernel
theorem dX11_layAllow_154 : decode cX11_layAllow 154 = .ok (.iinc 3 1, 3) := by decide +kernel
theorem dX11_layAllow_157 : decode cX11_layAllow 157 = .ok (.goto (-137), 3) := by decide +kernel
theorem dX11_layAllow_160 : decode cX11_layAllow 160 = .ok (.return_, 1) := by decide +kernel
set_option maxRecDepth 20000 in
theorem ggX11_allow_X11_noPerson : GoodIn wsX11_allow wsX11_noPerson := goodIn_r _ [9, 10, 11, 12, 8, 13, 97, 98, 99, 100, 101, 102, 103, 104, 105, 106, 107, 108, 109, 110, 111, 112, 113, 114, 115, 116] (by decide +kernel) (by decide +kernel)
set_option maxRecDepth 20000 in
theorem gX11_allow_X11_noPerson : GoodIn wsX11_allow (wsV RX11 186 RX11 yX11_noPerson wsX11_noPerson) := goodIn_app (goodIn_of _ (by decide +kernel)) ggX11_allow_X11_noPerson
set_option maxRecDepth 20000 in
theorem ggX11_allow_X11_areMeanings : GoodIn wsX11_allow wsX11_areMeanings := goodIn_r _ [16, 17, 11, 12, 8, 13] (by decide +kernel) (by decide +kernel)
set_option maxRecDepth 20000 in
theorem gX11_allow_X11_areMeanings : GoodIn wsX11_allow (va_wsS RX11 205 yX11_areMeanings wsX11_areMeanings) := goodIn_app (goodIn_of _ (by decide +kernel)) ggX11_allow_X11_areMeanings
set_option maxRecDepth 20000 in
theorem ggX11_allow_X11_badTen : GoodIn wsX11_allow wsX11_badTen := goodIn_r _ [21, 22, 23, 24, 8, 25, 26, 97, 98, 99, 100, 101, 102, 103, 104, 105, 106, 107, 108, 109, 110, 111, 112, 113, 114, 115, 116] (by decide +kernel) (by decide +kernel)
set_option maxRecDepth 20000 in
theorem gX11_allow_X11_badTen : GoodIn wsX11_allow (wsV RX11 211 RX11 yX11_badTen wsX11_badTen) := goodIn_app (goodIn_of _ (by decide +kernel)) ggX11_allow_X11_badTen
set_option maxRecDepth 20000 in
theorem ggX11_allow_X11_layAllow : GoodIn wsX11_allow wsX11_layAllow := goodIn_r _ [30, 2, 3, 4, 31, 32, 33, 8, 34, 10, 35, 36, 37, 38, 39, 40, 41, 42, 43, 44, 45, 46, 47, 48, 49, 50, 51, 52, 53, 54, 55, 56, 57, 58, 59, 60, 61, 62, 63, 64, 65, 66, 67, 68, 69, 70, 71, 72, 73, 74, 75, 76, 77, 78, 79, 80, 81, 82, 83, 84, 85, 86, 87, 88, 89, 90, 91, 92, 93, 94, 95, 96, 97, 98, 99, 100, 101, 102, 103, 104, 105, 106, 107, 108, 109, 110, 111, 112, 113, 114, 115, 116] (by decide +kernel) (by decide +kernel)
set_option maxRecDepth 20000 in
theorem gX11_allow_X11_layAllow : GoodIn wsX11_allow (wsV RX11 249 RX11 yX11_layAllow wsX11_layAllow) := goodIn_app (goodIn_of _ (by decide +kernel)) ggX11_allow_X11_layAllow
theorem dX11_allow_0 : decode cX11_allow 0 = .ok (.aload_n 0, 1) := by decide +kernel
theorem dX11_allow_1 : decode cX11_allow 1 = .ok (.iconst 0, 1) := by decide +kernel
theorem dX11_allow_2 : decode cX11_allow 2 = .ok (.putfield 39, 3) := by decide +kernel
theorem dX11_allow_5 : decode cX11_allow 5 = .ok (.aload_n 0, 1) := by decide +kernel
theorem dX11_allow_6 : decode cX11_allow 6 = .ok (.iload_n 1, 1) := by decide +kernel
theorem dX11_allow_7 : decode cX11_allow 7 = .ok (.invokevirtual 186, 3) := by decide +kernel
theorem dX11_allow_10 : decode cX11_allow 10 = .ok (.ifCond .ne 15, 3) := by decide +kernel
theorem dX11_allow_13 : decode cX11_allow 13 = .ok (.iload_n 2, 1) := by decide +kernel
theorem dX11_allow_14 : decode cX11_allow 14 = .ok (.invokestatic 205, 3) := by decide +kernel
theorem dX11_allow_17 : decode cX11_allow 17 = .ok (.ifCond .eq 8, 3) := by decide +kernel
theorem dX11_allow_20 : decode cX11_allow 20 = .ok (.iload_n 3, 1) := by decide +kernel
theorem dX11_allow_21 : decode cX11_allow 21 = .ok (.iconst (-1), 1) := by decide +kernel
theorem dX11_allow_22 : decode cX11_allow 22 = .ok (.if_icmp .ge 8, 3) := by decide +kernel
theorem dX11_allow_25 : decode cX11_allow 25 = .ok (.aload_n 0, 1) := by decide +kernel
theorem dX11_allow_26 : decode cX11_allow 26 = .ok (.invokevirtual 211, 3) := by decide +kernel
theorem dX11_allow_29 : decode cX11_allow 29 = .ok (.ireturn, 1) := by decide +kernel
theorem dX11_allow_30 : decode cX11_allow 30 = .ok (.aload_n 0, 1) := by decide +kernel
theorem dX11_allow_31 : decode cX11_allow 31 = .ok (.iload_n 1, 1) := by decide +kernel
theorem dX11_allow_32 : decode cX11_allow 32 = .ok (.iload_n 2, 1) := by decide +kernel
theorem dX11_allow_33 : decode cX11_allow 33 = .ok (.invokevirtual 249, 3) := by decide +kernel
theorem dX11_allow_36 : decode cX11_allow 36 = .ok (.aload_n 0, 1) := by decide +kernel
theorem dX11_allow_37 : decode cX11_allow 37 = .ok (.getfield 234, 3) := by decide +kernel
theorem dX11_allow_40 : decode cX11_allow 40 = .ok (.iconst (-1), 1) := by decide +kernel
theorem dX11_allow_41 : decode cX11_allow 41 = .ok (.if_icmp .eq 8, 3) := by decide +kernel
theorem dX11_allow_44 : decode cX11_allow 44 = .ok (.iload_n 3, 1) := by decide +kernel
theorem dX11_allow_45 : decode cX11_allow 45 = .ok (.iconst (-1), 1) := by decide +kernel
theorem dX11_allow_46 : decode cX11_allow 46 = .ok (.if_icmp .ne 8, 3) := by decide +kernel
theorem dX11_allow_49 : decode cX11_allow 49 = .ok (.aload_n 0, 1) := by decide +kernel
theorem dX11_allow_50 : decode cX11_allow 50 = .ok (.getfield 234, 3) := by decide +kernel
theorem dX11_allow_53 : decode cX11_allow 53 = .ok (.ireturn, 1) := by decide +kernel
theorem dX11_allow_54 : decode cX11_allow 54 = .ok (.iload_n 3, 1) := by decide +kernel
theorem dX11_allow_55 : decode cX11_allow 55 = .ok (.aload_n 0, 1) := by decide +kernel
theorem dX11_allow_56 : decode cX11_allow 56 = .ok (.getfield 234, 3) := by decide +kernel
theorem dX11_allow_59 : decode cX11_allow 59 = .ok (.if_icmp .lt 8, 3) := by decide +kernel
theorem dX11_allow_62 : decode cX11_allow 62 = .ok (.bipush (-5), 2) := by decide +kernel
theorem dX11_allow_64 : decode cX11_allow 64 = .ok (.goto 18, 3) := by decide +kernel
theorem dX11_allow_67 : decode cX11_allow 67 = .ok (.iload_n 3, 1) := by decide +kernel
theorem dX11_allow_68 : decode cX11_allow 68 = .ok (.ifCond .ne 10, 3) := by decide +kernel
theorem dX11_allow_71 : decode cX11_allow 71 = .ok (.aload_n 0, 1) := by decide +kernel
theorem dX11_allow_72 : decode cX11_allow 72 = .ok (.getfield 243, 3) := by decide +kernel
theorem dX11_allow_75 : decode cX11_allow 75 = .ok (.goto 7, 3) := by decide +kernel
theorem dX11_allow_78 : decode cX11_allow 78 = .ok (.aload_n 0, 1) := by decide +kernel
theorem dX11_allow_79 : decode cX11_allow 79 = .ok (.getfield 246, 3) := by decide +kernel
theorem dX11_allow_82 : decode cX11_allow 82 = .ok (.ireturn, 1) := by decide +kernel
set_option maxRecDepth 20000 in
theorem ggX11_misheard_X11_noPerson : GoodIn wsX11_misheard wsX11_noPerson := goodIn_r _ [11, 4, 12, 13, 10, 14, 79, 80, 81, 82, 83, 84, 85, 86, 87, 88, 89, 90, 91, 92, 93, 94, 95, 96, 97, 98] (by decide +kernel) (by decide +kernel)
set_option maxRecDepth 20000 in
theorem gX11_misheard_X11_noPerson : GoodIn wsX11_misheard (wsV RX11 186 RX11 yX11_noPerson wsX11_noPerson) := goodIn_app (goodIn_of _ (by decide +kernel)) ggX11_misheard_X11_noPerson
set_option maxRecDepth 20000 in
theorem ggX11_misheard_X11_noWord : GoodIn wsX11_misheard wsX11_noWord := goodIn_r _ [18, 4, 12, 13, 10, 14, 79, 80, 81, 82, 83, 84, 85, 86, 87, 88, 89, 90, 91, 92, 93, 94, 95, 96, 97, 98] (by decide +kernel) (by decide +kernel)
set_option maxRecDepth 20000 in
theorem gX11_misheard_X11_noWord : GoodIn wsX11_misheard (wsV RX11 189 RX11 yX11_noWord wsX11_noWord) := goodIn_app (goodIn_of _ (by decide +kernel)) ggX11_misheard_X11_noWord
set_option maxRecDepth 20000 in
theorem ggX11_misheard_X11_in : GoodIn wsX11_misheard wsX11_in := goodIn_r _ [14] (by decide +kernel) (by decide +kernel)
set_option maxRecDepth 20000 in
theorem gX11_misheard_X11_in : GoodIn wsX11_misheard (va_wsS RX11 47 yX11_in wsX11_in) := goodIn_app (goodIn_of _ (by decide +kernel)) ggX11_misheard_X11_in
set_option maxRecDepth 20000 in
theorem ggX11_misheard_X11_bad : GoodIn wsX11_misheard wsX11_bad := goodIn_r _ [22, 23, 24, 25, 10, 26, 27, 79, 80, 81, 82, 83, 84, 85, 86, 87, 88, 89, 90, 91, 92, 93, 94, 95, 96, 97, 98] (by decide +kernel) (by decide +kernel)
set_option maxRecDepth 20000 in
theorem gX11_misheard_X11_bad : GoodIn wsX11_misheard (wsV RX11 61 RX11 yX11_bad wsX11_bad) := goodIn_app (goodIn_of _ (by decide +kernel)) ggX11_misheard_X11_bad
set_option maxRecDepth 20000 in
theorem ggX11_misheard_X11_canSay : GoodIn wsX11_misheard wsX11_canSay := goodIn_r _ [31, 32, 33, 34, 10, 35, 4, 36, 37, 38, 39, 40, 41, 42, 43, 44, 45, 46, 47, 48, 49, 50, 51, 52, 53, 54, 55, 56, 57, 58, 59, 60, 61, 62, 63, 64, 65, 66, 67, 68, 69, 70, 71, 72, 73, 74, 75, 76, 77, 78, 79, 80, 81, 82, 83, 84, 85, 86, 87, 88, 89, 90, 91, 92, 93, 94, 95, 96, 97, 98] (by decide +kernel) (by decide +kernel)
set_option maxRecDepth 20000 in
theorem gX11_misheard_X11_canSay : GoodIn wsX11_misheard (wsV RX11 202 RX11 yX11_canSay wsX11_canSay) := goodIn_app (goodIn_of _ (by decide +kernel)) ggX11_misheard_X11_canSay
set_option maxRecDepth 20000 in
theorem ggX11_misheard_X11_has : GoodIn wsX11_misheard wsX11_has := goodIn_r _ [66] (by decide +kernel) (by decide +kernel)
set_option maxRecDepth 20000 in
theorem gX11_misheard_X11_has : GoodIn wsX11_misheard (va_wsS RX11 155 yX11_has wsX11_has) := goodIn_app (goodIn_of _ (by decide +kernel)) ggX11_misheard_X11_has
theorem dX11_misheard_0 : decode cX11_misheard 0 = .ok (.aload_n 0, 1) := by decide +kernel
theorem dX11_misheard_1 : decode cX11_misheard 1 = .ok (.iconst 0, 1) := by decide +kernel
theorem dX11_misheard_2 : decode cX11_misheard 2 = .ok (.putfield 39, 3) := by decide +kernel
theorem dX11_misheard_5 : decode cX11_misheard 5 = .ok (.aload_n 0, 1) := by decide +kernel
theorem dX11_misheard_6 : decode cX11_misheard 6 = .ok (.iload_n 1, 1) := by decide +kernel
theorem dX11_misheard_7 : decode cX11_misheard 7 = .ok (.invokevirtual 186, 3) := by decide +kernel
theorem dX11_misheard_10 : decode cX11_misheard 10 = .ok (.ifCond .ne 36, 3) := by decide +kernel
theorem dX11_misheard_13 : decode cX11_misheard 13 = .ok (.aload_n 0, 1) := by decide +kernel
theorem dX11_misheard_14 : decode cX11_misheard 14 = .ok (.iload_n 2, 1) := by decide +kernel
theorem dX11_misheard_15 : decode cX11_misheard 15 = .ok (.invokevirtual 189, 3) := by decide +kernel
theorem dX11_misheard_18 : decode cX11_misheard 18 = .ok (.ifCond .ne 28, 3) := by decide +kernel
theorem dX11_misheard_21 : decode cX11_misheard 21 = .ok (.iload_n 3, 1) := by decide +kernel
theorem dX11_misheard_22 : decode cX11_misheard 22 = .ok (.i2l, 1) := by decide +kernel
theorem dX11_misheard_23 : decode cX11_misheard 23 = .ok (.lconst 0, 1) := by decide +kernel
theorem dX11_misheard_24 : decode cX11_misheard 24 = .ok (.ldc2_w 51, 3) := by decide +kernel
theorem dX11_misheard_27 : decode cX11_misheard 27 = .ok (.invokestatic 47, 3) := by decide +kernel
theorem dX11_misheard_30 : decode cX11_misheard 30 = .ok (.ifCond .eq 16, 3) := by decide +kernel
theorem dX11_misheard_33 : decode cX11_misheard 33 = .ok (.iload 4, 2) := by decide +kernel
theorem dX11_misheard_35 : decode cX11_misheard 35 = .ok (.i2l, 1) := by decide +kernel
theorem dX11_misheard_36 : decode cX11_misheard 36 = .ok (.lconst 0, 1) := by decide +kernel
theorem dX11_misheard_37 : decode cX11_misheard 37 = .ok (.ldc2_w 119, 3) := by decide +kernel
theorem dX11_misheard_40 : decode cX11_misheard 40 = .ok (.invokestatic 47, 3) := by decide +kernel
theorem dX11_misheard_43 : decode cX11_misheard 43 = .ok (.ifCond .ne 8, 3) := by decide +kernel
theorem dX11_misheard_46 : decode cX11_misheard 46 = .ok (.aload_n 0, 1) := by decide +kernel
theorem dX11_misheard_47 : decode cX11_misheard 47 = .ok (.invokevirtual 61, 3) := by decide +kernel
theorem dX11_misheard_50 : decode cX11_misheard 50 = .ok (.ireturn, 1) := by decide +kernel
theorem dX11_misheard_51 : decode cX11_misheard 51 = .ok (.iload_n 2, 1) := by decide +kernel
theorem dX11_misheard_52 : decode cX11_misheard 52 = .ok (.iconst 1, 1) := by decide +kernel
theorem dX11_misheard_53 : decode cX11_misheard 53 = .ok (.iadd, 1) := by decide +kernel
theorem dX11_misheard_54 : decode cX11_misheard 54 = .ok (.aload_n 0, 1) := by decide +kernel
theorem dX11_misheard_55 : decode cX11_misheard 55 = .ok (.getfield 13, 3) := by decide +kernel
theorem dX11_misheard_58 : decode cX11_misheard 58 = .ok (.iconst 0, 1) := by decide +kernel
theorem dX11_misheard_59 : decode cX11_misheard 59 = .ok (.iaload, 1) := by decide +kernel
theorem dX11_misheard_60 : decode cX11_misheard 60 = .ok (.irem, 1) := by decide +kernel
theorem dX11_misheard_61 : decode cX11_misheard 61 = .ok (.istore 5, 2) := by decide +kernel
theorem dX11_misheard_63 : decode cX11_misheard 63 = .ok (.aload_n 0, 1) := by decide +kernel
theorem dX11_misheard_64 : decode cX11_misheard 64 = .ok (.iload_n 1, 1) := by decide +kernel
theorem dX11_misheard_65 : decode cX11_misheard 65 = .ok (.iload_n 2, 1) := by decide +kernel
theorem dX11_misheard_66 : decode cX11_misheard 66 = .ok (.invokevirtual 202, 3) := by decide +kernel
theorem dX11_misheard_69 : decode cX11_misheard 69 = .ok (.iload_n 3, 1) := by decide +kernel
theorem dX11_misheard_70 : decode cX11_misheard 70 = .ok (.invokestatic 155, 3) := by decide +kernel
theorem dX11_misheard_73 : decode cX11_misheard 73 = .ok (.ifCond .eq 11, 3) := by decide +kernel
theorem dX11_misheard_76 : decode cX11_misheard 76 = .ok (.bipush 10, 2) := by decide +kernel
theorem dX11_misheard_78 : decode cX11_misheard 78 = .ok (.iload 4, 2) := by decide +kernel
theorem dX11_misheard_80 : decode cX11_misheard 80 = .ok (.isub, 1) := by decide +kernel
theorem dX11_misheard_81 : decode cX11_misheard 81 = .ok (.goto 4, 3) := by decide +kernel
theorem dX11_misheard_84 : decode cX11_misheard 84 = .ok (.iconst 0, 1) := by decide +kernel
theorem dX11_misheard_85 : decode cX11_misheard 85 = .ok (.istore 6, 2) := by decide +kernel
theorem dX11_misheard_87 : decode cX11_misheard 87 = .ok (.iload 6, 2) := by decide +kernel
theorem dX11_misheard_89 : decode cX11_misheard 89 = .ok (.aload_n 0, 1) := by decide +kernel
theorem dX11_misheard_90 : decode cX11_misheard 90 = .ok (.iload_n 1, 1) := by decide +kernel
theorem dX11_misheard_91 : decode cX11_misheard 91 = .ok (.iload 5, 2) := by decide +kernel
theorem dX11_misheard_93 : decode cX11_misheard 93 = .ok (.invokevirtual 202, 3) := by decide +kernel
theorem dX11_misheard_96 : decode cX11_misheard 96 = .ok (.iload_n 3, 1) := by decide +kernel
theorem dX11_misheard_97 : decode cX11_misheard 97 = .ok (.invokestatic 155, 3) := by decide +kernel
theorem dX11_misheard_100 : decode cX11_misheard 100 = .ok (.ifCond .eq 8, 3) := by decide +kernel
theorem dX11_misheard_103 : decode cX11_misheard 103 = .ok (.iload 4, 2) := by decide +kernel
theorem dX11_misheard_105 : decode cX11_misheard 105 = .ok (.goto 4, 3) := by decide +kernel
theorem dX11_misheard_108 : decode cX11_misheard 108 = .ok (.iconst 0, 1) := by decide +kernel
theorem dX11_misheard_109 : decode cX11_misheard 109 = .ok (.iadd, 1) := by decide +kernel
theorem dX11_misheard_110 : decode cX11_misheard 110 = .ok (.istore 6, 2) := by decide +kernel
theorem dX11_misheard_112 : decode cX11_misheard 112 = .ok (.iload 6, 2) := by decide +kernel
theorem dX11_misheard_114 : decode cX11_misheard 114 = .ok (.bipush 10, 2) := by decide +kernel
theorem dX11_misheard_116 : decode cX11_misheard 116 = .ok (.irem, 1) := by decide +kernel
theorem dX11_misheard_117 : decode cX11_misheard 117 = .ok (.ifCond .ne 8, 3) := by decide +kernel
theorem dX11_misheard_120 : decode cX11_misheard 120 = .ok (.bipush 10, 2) := by decide +kernel
theorem dX11_misheard_122 : decode cX11_misheard 122 = .ok (.goto 26, 3) := by decide +kernel
theorem dX11_misheard_125 : decode cX11_misheard 125 = .ok (.iload 6, 2) := by decide +kernel
theorem dX11_misheard_127 : decode cX11_misheard 127 = .ok (.iconst 5, 1) := by decide +kernel
theorem dX11_misheard_128 : decode cX11_misheard 128 = .ok (.irem, 1) := by decide +kernel
theorem dX11_misheard_129 : decode cX11_misheard 129 = .ok (.ifCond .ne 7, 3) := by decide +kernel
theorem dX11_misheard_132 : decode cX11_misheard 132 = .ok (.iconst 5, 1) := by decide +kernel
theorem dX11_misheard_133 : decode cX11_misheard 133 = .ok (.goto 15, 3) := by decide +kernel
theorem dX11_misheard_136 : decode cX11_misheard 136 = .ok (.iload 6, 2) := by decide +kernel
theorem dX11_misheard_138 : decode cX11_misheard 138 = .ok (.iconst 2, 1) := by decide +kernel
theorem dX11_misheard_139 : decode cX11_misheard 139 = .ok (.irem, 1) := by decide +kernel
theorem dX11_misheard_140 : decode cX11_misheard 140 = .ok (.ifCond .ne 7, 3) := by decide +kernel
theorem dX11_misheard_143 : decode cX11_misheard 143 = .ok (.iconst 2, 1) := by decide +kernel
theorem dX11_misheard_144 : decode cX11_misheard 144 = .ok (.goto 4, 3) := by decide +kernel
theorem dX11_misheard_147 : decode cX11_misheard 147 = .ok (.iconst 1, 1) := by decide +kernel
theorem dX11_misheard_148 : decode cX11_misheard 148 = .ok (.istore 7, 2) := by decide +kernel
theorem dX11_misheard_150 : decode cX11_misheard 150 = .ok (.aload_n 0, 1) := by decide +kernel
theorem dX11_misheard_151 : decode cX11_misheard 151 = .ok (.iload 6, 2) := by decide +kernel
theorem dX11_misheard_153 : decode cX11_misheard 153 = .ok (.iload 7, 2) := by decide +kernel
theorem dX11_misheard_155 : decode cX11_misheard 155 = .ok (.idiv, 1) := by decide +kernel
theorem dX11_misheard_156 : decode cX11_misheard 156 = .ok (.i2l, 1) := by decide +kernel
theorem dX11_misheard_157 : decode cX11_misheard 157 = .ok (.putfield 253, 3) := by decide +kernel
theorem dX11_misheard_160 : decode cX11_misheard 160 = .ok (.aload_n 0, 1) := by decide +kernel
theorem dX11_misheard_161 : decode cX11_misheard 161 = .ok (.bipush 10, 2) := by decide +kernel
theorem dX11_misheard_163 : decode cX11_misheard 163 = .ok (.iload 7, 2) := by decide +kernel
theorem dX11_misheard_165 : decode cX11_misheard 165 = .ok (.idiv, 1) := by decide +kernel
theorem dX11_misheard_166 : decode cX11_misheard 166 = .ok (.i2l, 1) := by decide +kernel
theorem dX11_misheard_167 : decode cX11_misheard 167 = .ok (.putfield 35, 3) := by decide +kernel
theorem dX11_misheard_170 : decode cX11_misheard 170 = .ok (.iconst 1, 1) := by decide +kernel
theorem dX11_misheard_171 : decode cX11_misheard 171 = .ok (.ireturn, 1) := by decide +kernel
set_option maxRecDepth 20000 in
theorem ggX11_talks_X11_in : GoodIn wsX11_talks wsX11_in := goodIn_r _ [12] (by decide +kernel) (by decide +kernel)
set_option maxRecDepth 20000 in
theorem gX11_talks_X11_in : GoodIn wsX11_talks (va_wsS RX11 47 yX11_in wsX11_in) := goodIn_app (goodIn_of _ (by decide +kernel)) ggX11_talks_X11_in
set_option maxRecDepth 20000 in
theorem ggX11_talks_X11_bad : GoodIn wsX11_talks wsX11_bad := goodIn_r _ [16, 17, 18, 19, 11, 20, 21, 65, 66, 67, 68, 69, 70, 71, 72, 73, 74, 75, 76, 77, 78, 79, 80, 81, 82, 83, 84] (by decide +kernel) (by decide +kernel)
set_option maxRecDepth 20000 in
theorem gX11_talks_X11_bad : GoodIn wsX11_talks (wsV RX11 61 RX11 yX11_bad wsX11_bad) := goodIn_app (goodIn_of _ (by decide +kernel)) ggX11_talks_X11_bad
set_option maxRecDepth 20000 in
theorem ggX11_talks_X11_answersTo : GoodIn wsX11_talks wsX11_answersTo := goodIn_r _ [25, 4, 26, 27, 28, 11, 29, 30, 31, 32, 33, 34, 35, 36, 37, 38, 39, 40, 41, 42, 43, 44, 45, 46, 47, 48, 49, 50, 51, 52, 53, 54, 55, 56, 57, 58, 59, 60, 61, 62, 63, 64, 65, 66, 67, 68, 69, 70, 71, 72, 73, 74, 75, 76, 77, 78, 79, 80, 81, 82, 83, 84] (by decide +kernel) (by decide +kernel)
set_option maxRecDepth 20000 in
theorem gX11_talks_X11_answersTo : GoodIn wsX11_talks (wsV RX11 180 RX11 yX11_answersTo wsX11_answersTo) := goodIn_app (goodIn_of _ (by decide +kernel)) ggX11_talks_X11_answersTo
