theorem dX2_firstWins_75 : decode cX2_firstWins 75 = .ok (.dup2, 1) := by decide +kernel
theorem dX2_firstWins_76 : decode cX2_firstWins 76 = .ok (.iaload, 1) := by decide +kernel
theorem dX2_firstWins_77 : decode cX2_firstWins 77 = .ok (.iconst 1, 1) := by decide +kernel
theorem dX2_firstWins_78 : decode cX2_firstWins 78 = .ok (.iload 4, 2) := by decide +kernel
theorem dX2_firstWins_80 : decode cX2_firstWins 80 = .ok (.ishl, 1) := by decide +kernel
theorem dX2_firstWins_81 : decode cX2_firstWins 81 = .ok (.ior, 1) := by decide +kernel
theorem dX2_firstWins_82 : decode cX2_firstWins 82 = .ok (.iastore, 1) := by decide +kernel
theorem dX2_firstWins_83 : decode cX2_firstWins 83 = .ok (.iinc 4 1, 3) := by decide +kernel
theorem dX2_firstWins_86 : decode cX2_firstWins 86 = .ok (.goto (-34), 3) := by decide +kernel
theorem dX2_firstWins_89 : decode cX2_firstWins 89 = .ok (.iinc 1 (-1), 3) := by decide +kernel
theorem dX2_firstWins_92 : decode cX2_firstWins 92 = .ok (.goto (-83), 3) := by decide +kernel
theorem dX2_firstWins_95 : decode cX2_firstWins 95 = .ok (.aload_n 0, 1) := by decide +kernel
theorem dX2_firstWins_96 : decode cX2_firstWins 96 = .ok (.getfield 18, 3) := by decide +kernel
theorem dX2_firstWins_99 : decode cX2_firstWins 99 = .ok (.aload_n 0, 1) := by decide +kernel
theorem dX2_firstWins_100 : decode cX2_firstWins 100 = .ok (.getfield 31, 3) := by decide +kernel
theorem dX2_firstWins_103 : decode cX2_firstWins 103 = .ok (.iaload, 1) := by decide +kernel
theorem dX2_firstWins_104 : decode cX2_firstWins 104 = .ok (.aload_n 0, 1) := by decide +kernel
theorem dX2_firstWins_105 : decode cX2_firstWins 105 = .ok (.getfield 34, 3) := by decide +kernel
theorem dX2_firstWins_108 : decode cX2_firstWins 108 = .ok (.ishr, 1) := by decide +kernel
theorem dX2_firstWins_109 : decode cX2_firstWins 109 = .ok (.iconst 1, 1) := by decide +kernel
theorem dX2_firstWins_110 : decode cX2_firstWins 110 = .ok (.iand, 1) := by decide +kernel
theorem dX2_firstWins_111 : decode cX2_firstWins 111 = .ok (.iconst 1, 1) := by decide +kernel
theorem dX2_firstWins_112 : decode cX2_firstWins 112 = .ok (.if_icmp .ne 7, 3) := by decide +kernel
theorem dX2_firstWins_115 : decode cX2_firstWins 115 = .ok (.iconst 1, 1) := by decide +kernel
theorem dX2_firstWins_116 : decode cX2_firstWins 116 = .ok (.goto 4, 3) := by decide +kernel
theorem dX2_firstWins_119 : decode cX2_firstWins 119 = .ok (.iconst 0, 1) := by decide +kernel
theorem dX2_firstWins_120 : decode cX2_firstWins 120 = .ok (.ireturn, 1) := by decide +kernel
theorem dX2_traps_0 : decode cX2_traps 0 = .ok (.iconst 0, 1) := by decide +kernel
theorem dX2_traps_1 : decode cX2_traps 1 = .ok (.istore_n 2, 1) := by decide +kernel
theorem dX2_traps_2 : decode cX2_traps 2 = .ok (.iconst 0, 1) := by decide +kernel
theorem dX2_traps_3 : decode cX2_traps 3 = .ok (.istore_n 3, 1) := by decide +kernel
theorem dX2_traps_4 : decode cX2_traps 4 = .ok (.iload_n 3, 1) := by decide +kernel
theorem dX2_traps_5 : decode cX2_traps 5 = .ok (.aload_n 0, 1) := by decide +kernel
theorem dX2_traps_6 : decode cX2_traps 6 = .ok (.getfield 27, 3) := by decide +kernel
theorem dX2_traps_9 : decode cX2_traps 9 = .ok (.if_icmp .ge 41, 3) := by decide +kernel
theorem dX2_traps_12 : decode cX2_traps 12 = .ok (.iconst 1, 1) := by decide +kernel
theorem dX2_traps_13 : decode cX2_traps 13 = .ok (.iload_n 3, 1) := by decide +kernel
theorem dX2_traps_14 : decode cX2_traps 14 = .ok (.ishl, 1) := by decide +kernel
theorem dX2_traps_15 : decode cX2_traps 15 = .ok (.istore 4, 2) := by decide +kernel
theorem dX2_traps_17 : decode cX2_traps 17 = .ok (.iload_n 1, 1) := by decide +kernel
theorem dX2_traps_18 : decode cX2_traps 18 = .ok (.iload 4, 2) := by decide +kernel
theorem dX2_traps_20 : decode cX2_traps 20 = .ok (.iand, 1) := by decide +kernel
theorem dX2_traps_21 : decode cX2_traps 21 = .ok (.ifCond .ne 23, 3) := by decide +kernel
theorem dX2_traps_24 : decode cX2_traps 24 = .ok (.aload_n 0, 1) := by decide +kernel
theorem dX2_traps_25 : decode cX2_traps 25 = .ok (.getfield 18, 3) := by decide +kernel
theorem dX2_traps_28 : decode cX2_traps 28 = .ok (.iload_n 1, 1) := by decide +kernel
theorem dX2_traps_29 : decode cX2_traps 29 = .ok (.iload 4, 2) := by decide +kernel
theorem dX2_traps_31 : decode cX2_traps 31 = .ok (.ior, 1) := by decide +kernel
theorem dX2_traps_32 : decode cX2_traps 32 = .ok (.iaload, 1) := by decide +kernel
theorem dX2_traps_33 : decode cX2_traps 33 = .ok (.iload 4, 2) := by decide +kernel
theorem dX2_traps_35 : decode cX2_traps 35 = .ok (.iand, 1) := by decide +kernel
theorem dX2_traps_36 : decode cX2_traps 36 = .ok (.ifCond .ne 8, 3) := by decide +kernel
theorem dX2_traps_39 : decode cX2_traps 39 = .ok (.iload_n 2, 1) := by decide +kernel
theorem dX2_traps_40 : decode cX2_traps 40 = .ok (.iload 4, 2) := by decide +kernel
theorem dX2_traps_42 : decode cX2_traps 42 = .ok (.ior, 1) := by decide +kernel
theorem dX2_traps_43 : decode cX2_traps 43 = .ok (.istore_n 2, 1) := by decide +kernel
theorem dX2_traps_44 : decode cX2_traps 44 = .ok (.iinc 3 1, 3) := by decide +kernel
theorem dX2_traps_47 : decode cX2_traps 47 = .ok (.goto (-43), 3) := by decide +kernel
theorem dX2_traps_50 : decode cX2_traps 50 = .ok (.iload_n 2, 1) := by decide +kernel
theorem dX2_traps_51 : decode cX2_traps 51 = .ok (.ireturn, 1) := by decide +kernel
set_option maxRecDepth 20000 in
theorem ggX2_findEnds_X2_goOn : GoodIn wsX2_findEnds wsX2_goOn := goodIn_r _ [11, 1, 2, 5, 12, 13, 14, 15, 6, 16, 17, 18, 19, 20, 21, 10, 22, 23, 24, 25, 26, 27, 28, 3, 29, 30, 31, 32, 33, 34, 35, 36, 37, 38, 39, 40, 41, 42, 43] (by decide +kernel) (by decide +kernel)
set_option maxRecDepth 20000 in
theorem gX2_findEnds_X2_goOn : GoodIn wsX2_findEnds (wsV RX2 59 RX2 yX2_goOn wsX2_goOn) := goodIn_app (goodIn_of _ (by decide +kernel)) ggX2_findEnds_X2_goOn
theorem dX2_findEnds_0 : decode cX2_findEnds 0 = .ok (.iconst 0, 1) := by decide +kernel
theorem dX2_findEnds_1 : decode cX2_findEnds 1 = .ok (.istore_n 1, 1) := by decide +kernel
theorem dX2_findEnds_2 : decode cX2_findEnds 2 = .ok (.iload_n 1, 1) := by decide +kernel
theorem dX2_findEnds_3 : decode cX2_findEnds 3 = .ok (.iconst 1, 1) := by decide +kernel
theorem dX2_findEnds_4 : decode cX2_findEnds 4 = .ok (.aload_n 0, 1) := by decide +kernel
theorem dX2_findEnds_5 : decode cX2_findEnds 5 = .ok (.getfield 27, 3) := by decide +kernel
theorem dX2_findEnds_8 : decode cX2_findEnds 8 = .ok (.ishl, 1) := by decide +kernel
theorem dX2_findEnds_9 : decode cX2_findEnds 9 = .ok (.if_icmp .ge 16, 3) := by decide +kernel
theorem dX2_findEnds_12 : decode cX2_findEnds 12 = .ok (.aload_n 0, 1) := by decide +kernel
theorem dX2_findEnds_13 : decode cX2_findEnds 13 = .ok (.getfield 18, 3) := by decide +kernel
theorem dX2_findEnds_16 : decode cX2_findEnds 16 = .ok (.iload_n 1, 1) := by decide +kernel
theorem dX2_findEnds_17 : decode cX2_findEnds 17 = .ok (.iconst 0, 1) := by decide +kernel
theorem dX2_findEnds_18 : decode cX2_findEnds 18 = .ok (.iastore, 1) := by decide +kernel
theorem dX2_findEnds_19 : decode cX2_findEnds 19 = .ok (.iinc 1 1, 3) := by decide +kernel
theorem dX2_findEnds_22 : decode cX2_findEnds 22 = .ok (.goto (-20), 3) := by decide +kernel
theorem dX2_findEnds_25 : decode cX2_findEnds 25 = .ok (.aload_n 0, 1) := by decide +kernel
theorem dX2_findEnds_26 : decode cX2_findEnds 26 = .ok (.getfield 18, 3) := by decide +kernel
theorem dX2_findEnds_29 : decode cX2_findEnds 29 = .ok (.aload_n 0, 1) := by decide +kernel
theorem dX2_findEnds_30 : decode cX2_findEnds 30 = .ok (.getfield 31, 3) := by decide +kernel
theorem dX2_findEnds_33 : decode cX2_findEnds 33 = .ok (.iconst 1, 1) := by decide +kernel
theorem dX2_findEnds_34 : decode cX2_findEnds 34 = .ok (.aload_n 0, 1) := by decide +kernel
theorem dX2_findEnds_35 : decode cX2_findEnds 35 = .ok (.getfield 34, 3) := by decide +kernel
theorem dX2_findEnds_38 : decode cX2_findEnds 38 = .ok (.ishl, 1) := by decide +kernel
theorem dX2_findEnds_39 : decode cX2_findEnds 39 = .ok (.iastore, 1) := by decide +kernel
theorem dX2_findEnds_40 : decode cX2_findEnds 40 = .ok (.aload_n 0, 1) := by decide +kernel
theorem dX2_findEnds_41 : decode cX2_findEnds 41 = .ok (.iconst 0, 1) := by decide +kernel
theorem dX2_findEnds_42 : decode cX2_findEnds 42 = .ok (.putfield 53, 3) := by decide +kernel
theorem dX2_findEnds_45 : decode cX2_findEnds 45 = .ok (.aload_n 0, 1) := by decide +kernel
theorem dX2_findEnds_46 : decode cX2_findEnds 46 = .ok (.bipush 10, 2) := by decide +kernel
theorem dX2_findEnds_48 : decode cX2_findEnds 48 = .ok (.putfield 56, 3) := by decide +kernel
theorem dX2_findEnds_51 : decode cX2_findEnds 51 = .ok (.aload_n 0, 1) := by decide +kernel
theorem dX2_findEnds_52 : decode cX2_findEnds 52 = .ok (.getfield 31, 3) := by decide +kernel
theorem dX2_findEnds_55 : decode cX2_findEnds 55 = .ok (.istore_n 1, 1) := by decide +kernel
theorem dX2_findEnds_56 : decode cX2_findEnds 56 = .ok (.iload_n 1, 1) := by decide +kernel
theorem dX2_findEnds_57 : decode cX2_findEnds 57 = .ok (.iconst 1, 1) := by decide +kernel
theorem dX2_findEnds_58 : decode cX2_findEnds 58 = .ok (.aload_n 0, 1) := by decide +kernel
theorem dX2_findEnds_59 : decode cX2_findEnds 59 = .ok (.getfield 27, 3) := by decide +kernel
theorem dX2_findEnds_62 : decode cX2_findEnds 62 = .ok (.ishl, 1) := by decide +kernel
theorem dX2_findEnds_63 : decode cX2_findEnds 63 = .ok (.if_icmp .ge 23, 3) := by decide +kernel
theorem dX2_findEnds_66 : decode cX2_findEnds 66 = .ok (.aload_n 0, 1) := by decide +kernel
theorem dX2_findEnds_67 : decode cX2_findEnds 67 = .ok (.getfield 18, 3) := by decide +kernel
theorem dX2_findEnds_70 : decode cX2_findEnds 70 = .ok (.iload_n 1, 1) := by decide +kernel
theorem dX2_findEnds_71 : decode cX2_findEnds 71 = .ok (.iaload, 1) := by decide +kernel
theorem dX2_findEnds_72 : decode cX2_findEnds 72 = .ok (.ifCond .eq 8, 3) := by decide +kernel
theorem dX2_findEnds_75 : decode cX2_findEnds 75 = .ok (.aload_n 0, 1) := by decide +kernel
theorem dX2_findEnds_76 : decode cX2_findEnds 76 = .ok (.iload_n 1, 1) := by decide +kernel
theorem dX2_findEnds_77 : decode cX2_findEnds 77 = .ok (.invokevirtual 59, 3) := by decide +kernel
theorem dX2_findEnds_80 : decode cX2_findEnds 80 = .ok (.iinc 1 1, 3) := by decide +kernel
theorem dX2_findEnds_83 : decode cX2_findEnds 83 = .ok (.goto (-27), 3) := by decide +kernel
theorem dX2_findEnds_86 : decode cX2_findEnds 86 = .ok (.return_, 1) := by decide +kernel
set_option maxRecDepth 20000 in
theorem ggX2_goOn_X2_chimesOfNext : GoodIn wsX2_goOn wsX2_chimesOfNext := goodIn_r _ [16, 17, 18, 19, 20, 21, 15, 22, 23, 24, 25, 26, 27, 28, 29, 30, 31, 32, 33, 34, 35, 36, 37, 38] (by decide +kernel) (by decide +kernel)
set_option maxRecDepth 20000 in
theorem gX2_goOn_X2_chimesOfNext : GoodIn wsX2_goOn (wsV RX2 46 RX2 yX2_chimesOfNext wsX2_chimesOfNext) := goodIn_app (goodIn_of _ (by decide +kernel)) ggX2_goOn_X2_chimesOfNext
set_option maxRecDepth 20000 in
theorem ggX2_goOn_X2_answered : GoodIn wsX2_goOn wsX2_answered := goodIn_r _ [22, 23, 24, 25, 26, 27, 28, 29, 30, 31, 32, 33, 34, 35, 36, 37, 38] (by decide +kernel) (by decide +kernel)
set_option maxRecDepth 20000 in
theorem gX2_goOn_X2_answered : GoodIn wsX2_goOn (wsV RX2 43 RX2 yX2_answered wsX2_answered) := goodIn_app (goodIn_of _ (by decide +kernel)) ggX2_goOn_X2_answered
theorem dX2_goOn_0 : decode cX2_goOn 0 = .ok (.aload_n 0, 1) := by decide +kernel
theorem dX2_goOn_1 : decode cX2_goOn 1 = .ok (.iload_n 1, 1) := by decide +kernel
theorem dX2_goOn_2 : decode cX2_goOn 2 = .ok (.invokevirtual 46, 3) := by decide +kernel
theorem dX2_goOn_5 : decode cX2_goOn 5 = .ok (.astore_n 2, 1) := by decide +kernel
theorem dX2_goOn_6 : decode cX2_goOn 6 = .ok (.aload_n 0, 1) := by decide +kernel
theorem dX2_goOn_7 : decode cX2_goOn 7 = .ok (.iload_n 1, 1) := by decide +kernel
theorem dX2_goOn_8 : decode cX2_goOn 8 = .ok (.invokevirtual 43, 3) := by decide +kernel
theorem dX2_goOn_11 : decode cX2_goOn 11 = .ok (.istore_n 3, 1) := by decide +kernel
theorem dX2_goOn_12 : decode cX2_goOn 12 = .ok (.iconst 0, 1) := by decide +kernel
theorem dX2_goOn_13 : decode cX2_goOn 13 = .ok (.istore 4, 2) := by decide +kernel
theorem dX2_goOn_15 : decode cX2_goOn 15 = .ok (.iconst 0, 1) := by decide +kernel
theorem dX2_goOn_16 : decode cX2_goOn 16 = .ok (.istore 5, 2) := by decide +kernel
theorem dX2_goOn_18 : decode cX2_goOn 18 = .ok (.iload 5, 2) := by decide +kernel
theorem dX2_goOn_20 : decode cX2_goOn 20 = .ok (.aload_n 0, 1) := by decide +kernel
theorem dX2_goOn_21 : decode cX2_goOn 21 = .ok (.getfield 27, 3) := by decide +kernel
theorem dX2_goOn_24 : decode cX2_goOn 24 = .ok (.if_icmp .ge 70, 3) := by decide +kernel
theorem dX2_goOn_27 : decode cX2_goOn 27 = .ok (.aload_n 0, 1) := by decide +kernel
theorem dX2_goOn_28 : decode cX2_goOn 28 = .ok (.getfield 18, 3) := by decide +kernel
theorem dX2_goOn_31 : decode cX2_goOn 31 = .ok (.iload_n 1, 1) := by decide +kernel
theorem dX2_goOn_32 : decode cX2_goOn 32 = .ok (.iaload, 1) := by decide +kernel
theorem dX2_goOn_33 : decode cX2_goOn 33 = .ok (.iload 5, 2) := by decide +kernel
theorem dX2_goOn_35 : decode cX2_goOn 35 = .ok (.ishr, 1) := by decide +kernel
theorem dX2_goOn_36 : decode cX2_goOn 36 = .ok (.iconst 1, 1) := by decide +kernel
theorem dX2_goOn_37 : decode cX2_goOn 37 = .ok (.iand, 1) := by decide +kernel
theorem dX2_goOn_38 : decode cX2_goOn 38 = .ok (.iconst 1, 1) := by decide +kernel
theorem dX2_goOn_39 : decode cX2_goOn 39 = .ok (.if_icmp .ne 49, 3) := by decide +kernel
theorem dX2_goOn_42 : decode cX2_goOn 42 = .ok (.aload_n 2, 1) := by decide +kernel
theorem dX2_goOn_43 : decode cX2_goOn 43 = .ok (.iload 5, 2) := by decide +kernel
theorem dX2_goOn_45 : decode cX2_goOn 45 = .ok (.iaload, 1) := by decide +kernel
theorem dX2_goOn_46 : decode cX2_goOn 46 = .ok (.iload_n 1, 1) := by decide +kernel
theorem dX2_goOn_47 : decode cX2_goOn 47 = .ok (.iconst (-1), 1) := by decide +kernel
theorem dX2_goOn_48 : decode cX2_goOn 48 = .ok (.ixor, 1) := by decide +kernel
theorem dX2_goOn_49 : decode cX2_goOn 49 = .ok (.iand, 1) := by decide +kernel
theorem dX2_goOn_50 : decode cX2_goOn 50 = .ok (.istore 6, 2) := by decide +kernel
theorem dX2_goOn_52 : decode cX2_goOn 52 = .ok (.iload 4, 2) := by decide +kernel
theorem dX2_goOn_54 : decode cX2_goOn 54 = .ok (.iload 6, 2) := by decide +kernel
theorem dX2_goOn_56 : decode cX2_goOn 56 = .ok (.ior, 1) := by decide +kernel
theorem dX2_goOn_57 : decode cX2_goOn 57 = .ok (.istore 4, 2) := by decide +kernel
theorem dX2_goOn_59 : decode cX2_goOn 59 = .ok (.iload 6, 2) := by decide +kernel
theorem dX2_goOn_61 : decode cX2_goOn 61 = .ok (.ifCond .ne 27, 3) := by decide +kernel
theorem dX2_goOn_64 : decode cX2_goOn 64 = .ok (.aload_n 0, 1) := by decide +kernel
theorem dX2_goOn_65 : decode cX2_goOn 65 = .ok (.aload_n 0, 1) := by decide +kernel
theorem dX2_goOn_66 : decode cX2_goOn 66 = .ok (.getfield 53, 3) := by decide +kernel
theorem dX2_goOn_69 : decode cX2_goOn 69 = .ok (.iload_n 3, 1) := by decide +kernel
theorem dX2_goOn_70 : decode cX2_goOn 70 = .ok (.invokestatic 63, 3) := by decide +kernel
theorem dX2_goOn_73 : decode cX2_goOn 73 = .ok (.putfield 53, 3) := by decide +kernel
theorem dX2_goOn_76 : decode cX2_goOn 76 = .ok (.aload_n 0, 1) := by decide +kernel
theorem dX2_goOn_77 : decode cX2_goOn 77 = .ok (.aload_n 0, 1) := by decide +kernel
theorem dX2_goOn_78 : decode cX2_goOn 78 = .ok (.getfield 56, 3) := by decide +kernel
theorem dX2_goOn_81 : decode cX2_goOn 81 = .ok (.iload_n 3, 1) := by decide +kernel
theorem dX2_goOn_82 : decode cX2_goOn 82 = .ok (.invokestatic 21, 3) := by decide +kernel
theorem dX2_goOn_85 : decode cX2_goOn 85 = .ok (.putfield 56, 3) := by decide +kernel
theorem dX2_goOn_88 : decode cX2_goOn 88 = .ok (.iinc 5 1, 3) := by decide +kernel
theorem dX2_goOn_91 : decode cX2_goOn 91 = .ok (.goto (-73), 3) := by decide +kernel
theorem dX2_goOn_94 : decode cX2_goOn 94 = .ok (.iconst 0, 1) := by decide +kernel
theorem dX2_goOn_95 : decode cX2_goOn 95 = .ok (.istore 5, 2) := by decide +kernel
theorem dX2_goOn_97 : decode cX2_goOn 97 = .ok (.iload 5, 2) := by decide +kernel
theorem dX2_goOn_99 : decode cX2_goOn 99 = .ok (.aload_n 0, 1) := by decide +kernel
theorem dX2_goOn_100 : decode cX2_goOn 100 = .ok (.getfield 27, 3) := by decide +kernel
theorem dX2_goOn_103 : decode cX2_goOn 103 = .ok (.if_icmp .ge 37, 3) := by decide +kernel
theorem dX2_goOn_106 : decode cX2_goOn 106 = .ok (.iconst 1, 1) := by decide +kernel
theorem dX2_goOn_107 : decode cX2_goOn 107 = .ok (.iload 5, 2) := by decide +kernel
theorem dX2_goOn_109 : decode cX2_goOn 109 = .ok (.ishl, 1) := by decide +kernel
theorem dX2_goOn_110 : decode cX2_goOn 110 = .ok (.istore 6, 2) := by decide +kernel
theorem dX2_goOn_112 : decode cX2_goOn 112 = .ok (.iload 4, 2) := by decide +kernel
theorem dX2_goOn_114 : decode cX2_goOn 114 = .ok (.iload 6, 2) := by decide +kernel
theorem dX2_goOn_116 : decode cX2_goOn 116 = .ok (.iand, 1) := by decide +kernel
theorem dX2_goOn_117 : decode cX2_goOn 117 = .ok (.ifCond .eq 17, 3) := by decide +kernel
theorem dX2_goOn_120 : decode cX2_goOn 120 = .ok (.aload_n 0, 1) := by decide +kernel
theorem dX2_goOn_121 : decode cX2_goOn 121 = .ok (.getfield 18, 3) := by decide +kernel
theorem dX2_goOn_124 : decode cX2_goOn 124 = .ok (.iload_n 1, 1) := by decide +kernel
theorem dX2_goOn_125 : decode cX2_goOn 125 = .ok (.iload 6, 2) := by decide +kernel
theorem dX2_goOn_127 : decode cX2_goOn 127 = .ok (.ior, 1) := by decide +kernel
theorem dX2_goOn_128 : decode cX2_goOn 128 = .ok (.dup2, 1) := by decide +kernel
theorem dX2_goOn_129 : decode cX2_goOn 129 = .ok (.iaload, 1) := by decide +kernel
theorem dX2_goOn_130 : decode cX2_goOn 130 = .ok (.iload 6, 2) := by decide +kernel
theorem dX2_goOn_132 : decode cX2_goOn 132 = .ok (.ior, 1) := by decide +kernel
theorem dX2_goOn_133 : decode cX2_goOn 133 = .ok (.iastore, 1) := by decide +kernel
theorem dX2_goOn_134 : decode cX2_goOn 134 = .ok (.iinc 5 1, 3) := by decide +kernel
theorem dX2_goOn_137 : decode cX2_goOn 137 = .ok (.goto (-40), 3) := by decide +kernel
theorem dX2_goOn_140 : decode cX2_goOn 140 = .ok (.return_, 1) := by decide +kernel
set_option maxRecDepth 20000 in
theorem ggX3_init_X7_init : GoodIn wsX3_init wsX7_init := goodIn_r _ [3, 4, 5, 6] (by decide +kernel) (by decide +kernel)
set_option maxRecDepth 20000 in
theorem gX3_init_X7_init_n1 : GoodIn wsX3_init (wsX7_init) := ggX3_init_X7_init
theorem dX3_init_0 : decode cX3_init 0 = .ok (.aload_n 0, 1) := by decide +kernel
theorem dX3_init_1 : decode cX3_init 1 = .ok (.invokespecial 1, 3) := by decide +kernel
theorem dX3_init_4 : decode cX3_init 4 = .ok (.return_, 1) := by decide +kernel
set_option maxRecDepth 20000 in
theorem ggX3_chimes_X7_chimes : GoodIn wsX3_chimes wsX7_chimes := goodIn_r _ [6, 7, 8, 9, 10, 11, 12, 13, 14, 15, 16, 17, 18, 19, 20, 21, 22, 23, 24, 25, 26, 27, 28] (by decide +kernel) (by decide +kernel)
set_option maxRecDepth 20000 in
theorem gX3_chimes_X7_chimes_s7 : GoodIn wsX3_chimes (va_wsSU RX3 7 yX7_chimes wsX7_chimes) := goodIn_app (goodIn_of _ (by decide +kernel)) ggX3_chimes_X7_chimes
theorem dX3_chimes_0 : decode cX3_chimes 0 = .ok (.aload_n 0, 1) := by decide +kernel
theorem dX3_chimes_1 : decode cX3_chimes 1 = .ok (.aload_n 1, 1) := by decide +kernel
theorem dX3_chimes_2 : decode cX3_chimes 2 = .ok (.iload_n 2, 1) := by decide +kernel
theorem dX3_chimes_3 : decode cX3_chimes 3 = .ok (.iload_n 3, 1) := by decide +kernel
theorem dX3_chimes_4 : decode cX3_chimes 4 = .ok (.invokespecial 7, 3) := by decide +kernel
theorem dX3_chimes_7 : decode cX3_chimes 7 = .ok (.iconst 1, 1) := by decide +kernel
theorem dX3_chimes_8 : decode cX3_chimes 8 = .ok (.iload_n 3, 1) := by decide +kernel
theorem dX3_chimes_9 : decode cX3_chimes 9 = .ok (.ishl, 1) := by decide +kernel
theorem dX3_chimes_10 : decode cX3_chimes 10 = .ok (.ior, 1) := by decide +kernel
theorem dX3_chimes_11 : decode cX3_chimes 11 = .ok (.ireturn, 1) := by decide +kernel
set_option maxRecDepth 20000 in
theorem ggX4_init_X7_init : GoodIn wsX4_init wsX7_init := goodIn_r _ [3, 4, 5, 6] (by decide +kernel) (by decide +kernel)
set_option maxRecDepth 20000 in
theorem gX4_init_X7_init_n1 : GoodIn wsX4_init (wsX7_init) := ggX4_init_X7_init
theorem dX4_init_0 : decode cX4_init 0 = .ok (.aload_n 0, 1) := by decide +kernel
theorem dX4_init_1 : decode cX4_init 1 = .ok (.invokespecial 1, 3) := by decide +kernel
theorem dX4_init_4 : decode cX4_init 4 = .ok (.return_, 1) := by decide +kernel
set_option maxRecDepth 20000 in
theorem ggX4_chimes_X7_chimes : GoodIn wsX4_chimes wsX7_chimes := goodIn_r _ [8, 9, 10, 11, 12, 13, 14, 15, 16, 18, 19, 20, 21, 22, 23, 24, 25, 26, 27, 28, 29, 30, 31] (by decide +kernel) (by decide +kernel)
set_option maxRecDepth 20000 in
theorem gX4_chimes_X7_chimes_s7 : GoodIn wsX4_chimes (va_wsSU RX4 7 yX7_chimes wsX7_chimes) := goodIn_app (goodIn_of _ (by decide +kernel)) ggX4_chimes_X7_chimes
set_option maxRecDepth 20000 in
theorem ggX4_chimes_X9_wordsEnding : GoodIn wsX4_chimes wsX9_wordsEnding := goodIn_r _ [14, 15, 16, 18, 19, 20, 21, 22, 23, 24, 25, 26, 27, 28, 29, 30, 31] (by decide +kernel) (by decide +kernel)
set_option maxRecDepth 20000 in
theorem gX4_chimes_X9_wordsEnding : GoodIn wsX4_chimes (wsV RX4 20 RX9 yX9_wordsEnding wsX9_wordsEnding) := goodIn_app (goodIn_of _ (by decide +kernel)) ggX4_chimes_X9_wordsEnding
theorem dX4_chimes_0 : decode cX4_chimes 0 = .ok (.aload_n 0, 1) := by decide +kernel
theorem dX4_chimes_1 : decode cX4_chimes 1 = .ok (.aload_n 1, 1) := by decide +kernel
theorem dX4_chimes_2 : decode cX4_chimes 2 = .ok (.iload_n 2, 1) := by decide +kernel
theorem dX4_chimes_3 : decode cX4_chimes 3 = .ok (.iload_n 3, 1) := by decide +kernel
theorem dX4_chimes_4 : decode cX4_chimes 4 = .ok (.invokespecial 7, 3) := by decide +kernel
theorem dX4_chimes_7 : decode cX4_chimes 7 = .ok (.aload_n 1, 1) := by decide +kernel
theorem dX4_chimes_8 : decode cX4_chimes 8 = .ok (.aload_n 1, 1) := by decide +kernel
theorem dX4_chimes_9 : decode cX4_chimes 9 = .ok (.getfield 11, 3) := by decide +kernel
theorem dX4_chimes_12 : decode cX4_chimes 12 = .ok (.aload_n 1, 1) := by decide +kernel
theorem dX4_chimes_13 : decode cX4_chimes 13 = .ok (.getfield 17, 3) := by decide +kernel
theorem dX4_chimes_16 : decode cX4_chimes 16 = .ok (.iload_n 3, 1) := by decide +kernel
theorem dX4_chimes_17 : decode cX4_chimes 17 = .ok (.iaload, 1) := by decide +kernel
theorem dX4_chimes_18 : decode cX4_chimes 18 = .ok (.iaload, 1) := by decide +kernel
theorem dX4_chimes_19 : decode cX4_chimes 19 = .ok (.invokevirtual 20, 3) := by decide +kernel
theorem dX4_chimes_22 : decode cX4_chimes 22 = .ok (.ior, 1) := by decide +kernel
theorem dX4_chimes_23 : decode cX4_chimes 23 = .ok (.ireturn, 1) := by decide +kernel
set_option maxRecDepth 20000 in
theorem ggX5_init_X4_init : GoodIn wsX5_init wsX4_init := goodIn_r _ [3, 4, 5, 6, 7, 8, 9] (by decide +kernel) (by decide +kernel)
set_option maxRecDepth 20000 in
theorem gX5_init_X4_init_n1 : GoodIn wsX5_init (wsX4_init) := ggX5_init_X4_init
theorem dX5_init_0 : decode cX5_init 0 = .ok (.aload_n 0, 1) := by decide +kernel
theorem dX5_init_1 : decode cX5_init 1 = .ok (.invokespecial 1, 3) := by decide +kernel
theorem dX5_init_4 : decode cX5_init 4 = .ok (.return_, 1) := by decide +kernel
set_option maxRecDepth 20000 in
theorem ggX5_chimes_X4_chimes : GoodIn wsX5_chimes wsX4_chimes := goodIn_r _ [7, 8, 9, 10, 11, 12, 13, 14, 15, 16, 17, 18, 19, 20, 21, 22, 23, 24, 30, 31, 32, 33, 34, 35, 36, 37, 38, 39, 40, 41, 42, 43] (by decide +kernel) (by decide +kernel)
set_option maxRecDepth 20000 in
theorem gX5_chimes_X4_chimes_s7 : GoodIn wsX5_chimes (va_wsSU RX5 7 yX4_chimes wsX4_chimes) := goodIn_app (goodIn_of _ (by decide +kernel)) ggX5_chimes_X4_chimes
set_option maxRecDepth 20000 in
theorem ggX5_chimes_X9_wordsMeaning : GoodIn wsX5_chimes wsX9_wordsMeaning := goodIn_r _ [28, 22, 29, 30, 31, 32, 33, 34, 35, 36, 37, 38, 39, 40, 41, 42, 43] (by decide +kernel) (by decide +kernel)
set_option maxRecDepth 20000 in
theorem gX5_chimes_X9_wordsMeaning : GoodIn wsX5_chimes (wsV RX5 17 RX9 yX9_wordsMeaning wsX9_wordsMeaning) := goodIn_app (goodIn_of _ (by decide +kernel)) ggX5_chimes_X9_wordsMeaning
theorem dX5_chimes_0 : decode cX5_chimes 0 = .ok (.aload_n 0, 1) := by decide +kernel
theorem dX5_chimes_1 : decode cX5_chimes 1 = .ok (.aload_n 1, 1) := by decide +kernel
theorem dX5_chimes_2 : decode cX5_chimes 2 = .ok (.iload_n 2, 1) := by decide +kernel
theorem dX5_chimes_3 : decode cX5_chimes 3 = .ok (.iload_n 3, 1) := by decide +kernel
theorem dX5_chimes_4 : decode cX5_chimes 4 = .ok (.invokespecial 7, 3) := by decide +kernel
theorem dX5_chimes_7 : decode cX5_chimes 7 = .ok (.aload_n 1, 1) := by decide +kernel
theorem dX5_chimes_8 : decode cX5_chimes 8 = .ok (.aload_n 1, 1) := by decide +kernel
theorem dX5_chimes_9 : decode cX5_chimes 9 = .ok (.getfield 11, 3) := by decide +kernel
theorem dX5_chimes_12 : decode cX5_chimes 12 = .ok (.iload_n 3, 1) := by decide +kernel
theorem dX5_chimes_13 : decode cX5_chimes 13 = .ok (.iaload, 1) := by decide +kernel
theorem dX5_chimes_14 : decode cX5_chimes 14 = .ok (.invokevirtual 17, 3) := by decide +kernel
theorem dX5_chimes_17 : decode cX5_chimes 17 = .ok (.iconst (-1), 1) := by decide +kernel
theorem dX5_chimes_18 : decode cX5_chimes 18 = .ok (.ixor, 1) := by decide +kernel
theorem dX5_chimes_19 : decode cX5_chimes 19 = .ok (.iand, 1) := by decide +kernel
theorem dX5_chimes_20 : decode cX5_chimes 20 = .ok (.ireturn, 1) := by decide +kernel
theorem dX6_init_0 : decode cX6_init 0 = .ok (.aload_n 0, 1) := by decide +kernel
theorem dX6_init_1 : decode cX6_init 1 = .ok (.invokespecial 3, 3) := by decide +kernel
theorem dX6_init_4 : decode cX6_init 4 = .ok (.aload_n 0, 1) := by decide +kernel
theorem dX6_init_5 : decode cX6_init 5 = .ok (.sipush 150, 3) := by decide +kernel
theorem dX6_init_8 : decode cX6_init 8 = .ok (.newarray .int, 2) := by decide +kernel
theorem dX6_init_10 : decode cX6_init 10 = .ok (.putfield 9, 3) := by decide +kernel
theorem dX6_init_13 : decode cX6_init 13 = .ok (.return_, 1) := by decide +kernel
theorem dX6_put_0 : decode cX6_put 0 = .ok (.aload_n 0, 1) := by decide +kernel
theorem dX6_put_1 : decode cX6_put 1 = .ok (.getfield 15, 3) := by decide +kernel
theorem dX6_put_4 : decode cX6_put 4 = .ok (.sipush 150, 3) := by decide +kernel
theorem dX6_put_7 : decode cX6_put 7 = .ok (.if_icmp .lt 6, 3) := by decide +kernel
theorem dX6_put_10 : decode cX6_put 10 = .ok (.bipush (-4), 2) := by decide +kernel
theorem dX6_put_12 : decode cX6_put 12 = .ok (.ireturn, 1) := by decide +kernel
theorem dX6_put_13 : decode cX6_put 13 = .ok (.aload_n 0, 1) := by decide +kernel
theorem dX6_put_14 : decode cX6_put 14 = .ok (.getfield 9, 3) := by decide +kernel
theorem dX6_put_17 : decode cX6_put 17 = .ok (.aload_n 0, 1) := by decide +kernel
theorem dX6_put_18 : decode cX6_put 18 = .ok (.getfield 15, 3) := by decide +kernel
theorem dX6_put_21 : decode cX6_put 21 = .ok (.iload_n 1, 1) := by decide +kernel
theorem dX6_put_22 : decode cX6_put 22 = .ok (.iastore, 1) := by decide +kernel
theorem dX6_put_23 : decode cX6_put 23 = .ok (.aload_n 0, 1) := by decide +kernel
theorem dX6_put_24 : decode cX6_put 24 = .ok (.dup, 1) := by decide +kernel
theorem dX6_put_25 : decode cX6_put 25 = .ok (.getfield 15, 3) := by decide +kernel
theorem dX6_put_28 : decode cX6_put 28 = .ok (.iconst 1, 1) := by decide +kernel
theorem dX6_put_29 : decode cX6_put 29 = .ok (.iadd, 1) := by decide +kernel
theorem dX6_put_30 : decode cX6_put 30 = .ok (.putfield 15, 3) := by decide +kernel
theorem dX6_put_33 : decode cX6_put 33 = .ok (.aload_n 0, 1) := by decide +kernel
theorem dX6_put_34 : decode cX6_put 34 = .ok (.getfield 15, 3) := by decide +kernel
theorem dX6_put_37 : decode cX6_put 37 = .ok (.ireturn, 1) := by decide +kernel
set_option maxRecDepth 20000 in
theorem ggX6_parseInto_X9_empty : GoodIn wsX6_parseInto wsX9_empty := goodIn_r _ [9, 10, 11, 12, 13, 14, 15, 134, 135, 136, 137, 138, 139, 140, 141, 142, 143, 144, 145, 146, 147] (by decide +kernel) (by decide +kernel)
set_option maxRecDepth 20000 in
theorem gX6_parseInto_X9_empty : GoodIn wsX6_parseInto (wsV RX6 19 RX9 yX9_empty wsX9_empty) := goodIn_app (goodIn_of _ (by decide +kernel)) ggX6_parseInto_X9_empty
set_option maxRecDepth 20000 in
theorem ggX6_parseInto_X6_take : GoodIn wsX6_parseInto wsX6_take := goodIn_r _ [20, 1, 21, 22, 2, 4, 23, 24, 19, 25, 26, 27, 28, 29, 30, 127, 128, 129, 130, 131, 132, 133] (by decide +kernel) (by decide +kernel)
set_option maxRecDepth 20000 in
theorem gX6_parseInto_X6_take : GoodIn wsX6_parseInto (wsV RX6 27 RX6 yX6_take wsX6_take) := goodIn_app (goodIn_of _ (by decide +kernel)) ggX6_parseInto_X6_take
set_option maxRecDepth 20000 in
theorem ggX6_parseInto_X6_isLetters : GoodIn wsX6_parseInto wsX6_isLetters := goodIn_r _ [34, 4, 1, 2, 22, 35, 36, 37, 38, 39, 40, 41, 42, 43, 44, 45, 46, 47, 48, 49, 50, 51, 52, 53, 54, 55, 56, 57, 58, 59, 60, 61, 62, 63, 64, 65, 66, 67, 68, 69, 70, 71, 72, 73, 74, 75, 76, 77, 78, 79, 80, 81, 82, 83, 127, 128, 129, 130, 131, 132, 133] (by decide +kernel) (by decide +kernel)
set_option maxRecDepth 20000 in
theorem gX6_parseInto_X6_isLetters : GoodIn wsX6_parseInto (wsV RX6 32 RX6 yX6_isLetters wsX6_isLetters) := goodIn_app (goodIn_of _ (by decide +kernel)) ggX6_parseInto_X6_isLetters
set_option maxRecDepth 20000 in
theorem ggX6_parseInto_X6_takesStop : GoodIn wsX6_parseInto wsX6_takesStop := goodIn_r _ [87, 4, 16, 17, 18, 19, 20, 1, 21, 22, 2, 23, 24, 25, 26, 27, 28, 29, 30, 127, 128, 129, 130, 131, 132, 133] (by decide +kernel) (by decide +kernel)
set_option maxRecDepth 20000 in
theorem gX6_parseInto_X6_takesStop : GoodIn wsX6_parseInto (wsV RX6 36 RX6 yX6_takesStop wsX6_takesStop) := goodIn_app (goodIn_of _ (by decide +kernel)) ggX6_parseInto_X6_takesStop
set_option maxRecDepth 20000 in
theorem ggX6_parseInto_X6_takesItem : GoodIn wsX6_parseInto wsX6_takesItem := goodIn_r _ [91, 92, 93, 31, 32, 33, 19, 34, 4, 1, 2, 22, 35, 36, 37, 38, 39, 40, 41, 42, 43, 44, 45, 46, 47, 48, 49, 50, 51, 52, 53, 54, 55, 56, 57, 58, 59, 60, 61, 62, 63, 64, 65, 66, 67, 68, 69, 70, 71, 72, 73, 74, 75, 76, 77, 78, 79, 80, 81, 82, 83, 94, 95, 96, 97, 30, 98, 99, 100, 101, 16, 17, 18, 20, 21, 23, 24, 25, 26, 27, 28, 29, 102, 103, 104, 8, 105, 10, 106, 107, 108, 13, 84, 85, 86, 87, 109, 110, 111, 112, 113, 114, 115, 116, 15, 117, 118, 119, 120, 121, 122, 123, 124, 11, 125, 126, 134, 135, 136, 137, 138, 139, 140, 141, 142, 143, 144, 145, 146, 147, 127, 128, 129, 130, 131, 132, 133] (by decide +kernel) (by decide +kernel)
set_option maxRecDepth 20000 in
theorem gX6_parseInto_X6_takesItem : GoodIn wsX6_parseInto (wsV RX6 49 RX6 yX6_takesItem wsX6_takesItem) := goodIn_app (goodIn_of _ (by decide +kernel)) ggX6_parseInto_X6_takesItem
theorem dX6_parseInto_0 : decode cX6_parseInto 0 = .ok (.aload_n 1, 1) := by decide +kernel
theorem dX6_parseInto_1 : decode cX6_parseInto 1 = .ok (.invokevirtual 19, 3) := by decide +kernel
theorem dX6_parseInto_4 : decode cX6_parseInto 4 = .ok (.aload_n 0, 1) := by decide +kernel
theorem dX6_parseInto_5 : decode cX6_parseInto 5 = .ok (.iconst 0, 1) := by decide +kernel
theorem dX6_parseInto_6 : decode cX6_parseInto 6 = .ok (.putfield 24, 3) := by decide +kernel
theorem dX6_parseInto_9 : decode cX6_parseInto 9 = .ok (.aload_n 0, 1) := by decide +kernel
theorem dX6_parseInto_10 : decode cX6_parseInto 10 = .ok (.invokevirtual 27, 3) := by decide +kernel
theorem dX6_parseInto_13 : decode cX6_parseInto 13 = .ok (.aload_n 0, 1) := by decide +kernel
theorem dX6_parseInto_14 : decode cX6_parseInto 14 = .ok (.ldc 30, 2) := by decide +kernel
theorem dX6_parseInto_16 : decode cX6_parseInto 16 = .ok (.invokevirtual 32, 3) := by decide +kernel
theorem dX6_parseInto_19 : decode cX6_parseInto 19 = .ok (.ifCond .eq 10, 3) := by decide +kernel
theorem dX6_parseInto_22 : decode cX6_parseInto 22 = .ok (.aload_n 0, 1) := by decide +kernel
theorem dX6_parseInto_23 : decode cX6_parseInto 23 = .ok (.invokevirtual 36, 3) := by decide +kernel
theorem dX6_parseInto_26 : decode cX6_parseInto 26 = .ok (.ifCond .ne 8, 3) := by decide +kernel
theorem dX6_parseInto_29 : decode cX6_parseInto 29 = .ok (.aload_n 0, 1) := by decide +kernel
theorem dX6_parseInto_30 : decode cX6_parseInto 30 = .ok (.getfield 40, 3) := by decide +kernel
theorem dX6_parseInto_33 : decode cX6_parseInto 33 = .ok (.ireturn, 1) := by decide +kernel
theorem dX6_parseInto_34 : decode cX6_parseInto 34 = .ok (.aload_n 0, 1) := by decide +kernel
theorem dX6_parseInto_35 : decode cX6_parseInto 35 = .ok (.iconst 1, 1) := by decide +kernel
theorem dX6_parseInto_36 : decode cX6_parseInto 36 = .ok (.putfield 43, 3) := by decide +kernel
theorem dX6_parseInto_39 : decode cX6_parseInto 39 = .ok (.iconst 0, 1) := by decide +kernel
theorem dX6_parseInto_40 : decode cX6_parseInto 40 = .ok (.istore_n 2, 1) := by decide +kernel
theorem dX6_parseInto_41 : decode cX6_parseInto 41 = .ok (.iload_n 2, 1) := by decide +kernel
theorem dX6_parseInto_42 : decode cX6_parseInto 42 = .ok (.sipush 150, 3) := by decide +kernel
theorem dX6_parseInto_45 : decode cX6_parseInto 45 = .ok (.if_icmp .ge 45, 3) := by decide +kernel
theorem dX6_parseInto_48 : decode cX6_parseInto 48 = .ok (.aload_n 0, 1) := by decide +kernel
theorem dX6_parseInto_49 : decode cX6_parseInto 49 = .ok (.invokevirtual 27, 3) := by decide +kernel
theorem dX6_parseInto_52 : decode cX6_parseInto 52 = .ok (.aload_n 0, 1) := by decide +kernel
theorem dX6_parseInto_53 : decode cX6_parseInto 53 = .ok (.getfield 46, 3) := by decide +kernel
theorem dX6_parseInto_56 : decode cX6_parseInto 56 = .ok (.ifCond .ne 5, 3) := by decide +kernel
theorem dX6_parseInto_59 : decode cX6_parseInto 59 = .ok (.iconst (-1), 1) := by decide +kernel
theorem dX6_parseInto_60 : decode cX6_parseInto 60 = .ok (.ireturn, 1) := by decide +kernel
theorem dX6_parseInto_61 : decode cX6_parseInto 61 = .ok (.aload_n 0, 1) := by decide +kernel
theorem dX6_parseInto_62 : decode cX6_parseInto 62 = .ok (.aload_n 1, 1) := by decide +kernel
theorem dX6_parseInto_63 : decode cX6_parseInto 63 = .ok (.invokevirtual 49, 3) := by decide +kernel
theorem dX6_parseInto_66 : decode cX6_parseInto 66 = .ok (.ifCond .ne 8, 3) := by decide +kernel
theorem dX6_parseInto_69 : decode cX6_parseInto 69 = .ok (.aload_n 0, 1) := by decide +kernel
theorem dX6_parseInto_70 : decode cX6_parseInto 70 = .ok (.getfield 40, 3) := by decide +kernel
theorem dX6_parseInto_73 : decode cX6_parseInto 73 = .ok (.ireturn, 1) := by decide +kernel
theorem dX6_parseInto_74 : decode cX6_parseInto 74 = .ok (.aload_n 0, 1) := by decide +kernel
theorem dX6_parseInto_75 : decode cX6_parseInto 75 = .ok (.dup, 1) := by decide +kernel
theorem dX6_parseInto_76 : decode cX6_parseInto 76 = .ok (.getfield 43, 3) := by decide +kernel
theorem dX6_parseInto_79 : decode cX6_parseInto 79 = .ok (.iconst 1, 1) := by decide +kernel
theorem dX6_parseInto_80 : decode cX6_parseInto 80 = .ok (.iadd, 1) := by decide +kernel
theorem dX6_parseInto_81 : decode cX6_parseInto 81 = .ok (.putfield 43, 3) := by decide +kernel
theorem dX6_parseInto_84 : decode cX6_parseInto 84 = .ok (.iinc 2 1, 3) := by decide +kernel
theorem dX6_parseInto_87 : decode cX6_parseInto 87 = .ok (.goto (-46), 3) := by decide +kernel
theorem dX6_parseInto_90 : decode cX6_parseInto 90 = .ok (.iconst (-1), 1) := by decide +kernel
theorem dX6_parseInto_91 : decode cX6_parseInto 91 = .ok (.ireturn, 1) := by decide +kernel
set_option maxRecDepth 20000 in
theorem ggX6_takesItem_X6_isLetters : GoodIn wsX6_takesItem wsX6_isLetters := goodIn_r _ [7, 8, 9, 10, 11, 12, 13, 14, 15, 16, 17, 18, 19, 20, 21, 22, 23, 24, 25, 26, 27, 28, 29, 30, 31, 32, 33, 34, 35, 36, 37, 38, 39, 40, 41, 42, 43, 44, 45, 46, 47, 48, 49, 50, 51, 52, 53, 54, 55, 56, 57, 58, 59, 60, 130, 131, 132, 133, 134, 135, 136] (by decide +kernel) (by decide +kernel)
set_option maxRecDepth 20000 in
theorem gX6_takesItem_X6_isLetters : GoodIn wsX6_takesItem (wsV RX6 32 RX6 yX6_isLetters wsX6_isLetters) := goodIn_app (goodIn_of _ (by decide +kernel)) ggX6_takesItem_X6_isLetters
set_option maxRecDepth 20000 in
theorem ggX6_takesItem_X6_takesWord : GoodIn wsX6_takesItem wsX6_takesWord := goodIn_r _ [64, 65, 66, 67, 68, 6, 69, 8, 70, 71, 72, 73, 9, 74, 11, 10, 75, 76, 77, 78, 79, 80, 81, 82, 83, 84, 85, 86, 87, 88, 89, 90, 91, 92, 93, 94, 95, 130, 131, 132, 133, 134, 135, 136, 116, 117, 118, 119, 120, 121, 122, 123, 124, 125, 126, 127, 128, 129] (by decide +kernel) (by decide +kernel)
set_option maxRecDepth 20000 in
theorem gX6_takesItem_X6_takesWord : GoodIn wsX6_takesItem (wsV RX6 58 RX6 yX6_takesWord wsX6_takesWord) := goodIn_app (goodIn_of _ (by decide +kernel)) ggX6_takesItem_X6_takesWord
set_option maxRecDepth 20000 in
theorem ggX6_takesItem_X6_takesAlike : GoodIn wsX6_takesItem wsX6_takesAlike := goodIn_r _ [99, 65, 66, 67, 68, 6, 69, 8, 70, 71, 72, 73, 9, 74, 11, 10, 75, 76, 77, 78, 79, 80, 81, 100, 101, 102, 85, 103, 104, 92, 93, 94, 95, 130, 131, 132, 133, 134, 135, 136, 116, 117, 118, 119, 120, 121, 122, 123, 124, 125, 126, 127, 128, 129] (by decide +kernel) (by decide +kernel)
set_option maxRecDepth 20000 in
theorem gX6_takesItem_X6_takesAlike : GoodIn wsX6_takesItem (wsV RX6 63 RX6 yX6_takesAlike wsX6_takesAlike) := goodIn_app (goodIn_of _ (by decide +kernel)) ggX6_takesItem_X6_takesAlike
set_option maxRecDepth 20000 in
theorem ggX6_takesItem_X6_takesPerson : GoodIn wsX6_takesItem wsX6_takesPerson := goodIn_r _ [108, 65, 66, 67, 68, 6, 69, 8, 70, 71, 72, 73, 9, 74, 11, 10, 75, 76, 77, 78, 79, 80, 81, 109, 110, 111, 85, 112, 113, 114, 115, 92, 93, 94, 95, 130, 131, 132, 133, 134, 135, 136, 116, 117, 118, 119, 120, 121, 122, 123, 124, 125, 126, 127, 128, 129] (by decide +kernel) (by decide +kernel)
set_option maxRecDepth 20000 in
theorem gX6_takesItem_X6_takesPerson : GoodIn wsX6_takesItem (wsV RX6 71 RX6 yX6_takesPerson wsX6_takesPerson) := goodIn_app (goodIn_of _ (by decide +kernel)) ggX6_takesItem_X6_takesPerson
theorem dX6_takesItem_0 : decode cX6_takesItem 0 = .ok (.aload_n 0, 1) := by decide +kernel
theorem dX6_takesItem_1 : decode cX6_takesItem 1 = .ok (.ldc 53, 2) := by decide +kernel
theorem dX6_takesItem_3 : decode cX6_takesItem 3 = .ok (.invokevirtual 32, 3) := by decide +kernel
theorem dX6_takesItem_6 : decode cX6_takesItem 6 = .ok (.ifCond .eq 26, 3) := by decide +kernel
theorem dX6_takesItem_9 : decode cX6_takesItem 9 = .ok (.aload_n 1, 1) := by decide +kernel
theorem dX6_takesItem_10 : decode cX6_takesItem 10 = .ok (.getfield 55, 3) := by decide +kernel
theorem dX6_takesItem_13 : decode cX6_takesItem 13 = .ok (.bipush 10, 2) := by decide +kernel
theorem dX6_takesItem_15 : decode cX6_takesItem 15 = .ok (.if_icmp .ge 15, 3) := by decide +kernel
theorem dX6_takesItem_18 : decode cX6_takesItem 18 = .ok (.aload_n 0, 1) := by decide +kernel
theorem dX6_takesItem_19 : decode cX6_takesItem 19 = .ok (.aload_n 1, 1) := by decide +kernel
theorem dX6_takesItem_20 : decode cX6_takesItem 20 = .ok (.invokevirtual 58, 3) := by decide +kernel
theorem dX6_takesItem_23 : decode cX6_takesItem 23 = .ok (.ifCond .eq 7, 3) := by decide +kernel
theorem dX6_takesItem_26 : decode cX6_takesItem 26 = .ok (.iconst 1, 1) := by decide +kernel
theorem dX6_takesItem_27 : decode cX6_takesItem 27 = .ok (.goto 4, 3) := by decide +kernel
theorem dX6_takesItem_30 : decode cX6_takesItem 30 = .ok (.iconst 0, 1) := by decide +kernel
theorem dX6_takesItem_31 : decode cX6_takesItem 31 = .ok (.ireturn, 1) := by decide +kernel
theorem dX6_takesItem_32 : decode cX6_takesItem 32 = .ok (.aload_n 0, 1) := by decide +kernel
theorem dX6_takesItem_33 : decode cX6_takesItem 33 = .ok (.ldc 61, 2) := by decide +kernel
theorem dX6_takesItem_35 : decode cX6_takesItem 35 = .ok (.invokevirtual 32, 3) := by decide +kernel
theorem dX6_takesItem_38 : decode cX6_takesItem 38 = .ok (.ifCond .eq 9, 3) := by decide +kernel
theorem dX6_takesItem_41 : decode cX6_takesItem 41 = .ok (.aload_n 0, 1) := by decide +kernel
theorem dX6_takesItem_42 : decode cX6_takesItem 42 = .ok (.aload_n 1, 1) := by decide +kernel
theorem dX6_takesItem_43 : decode cX6_takesItem 43 = .ok (.invokevirtual 63, 3) := by decide +kernel
theorem dX6_takesItem_46 : decode cX6_takesItem 46 = .ok (.ireturn, 1) := by decide +kernel
theorem dX6_takesItem_47 : decode cX6_takesItem 47 = .ok (.aload_n 0, 1) := by decide +kernel
theorem dX6_takesItem_48 : decode cX6_takesItem 48 = .ok (.ldc 66, 2) := by decide +kernel
theorem dX6_takesItem_50 : decode cX6_takesItem 50 = .ok (.invokevirtual 32, 3) := by decide +kernel
theorem dX6_takesItem_53 : decode cX6_takesItem 53 = .ok (.ifCond .eq 25, 3) := by decide +kernel
theorem dX6_takesItem_56 : decode cX6_takesItem 56 = .ok (.aload_n 1, 1) := by decide +kernel
theorem dX6_takesItem_57 : decode cX6_takesItem 57 = .ok (.getfield 68, 3) := by decide +kernel
theorem dX6_takesItem_60 : decode cX6_takesItem 60 = .ok (.iconst 5, 1) := by decide +kernel
theorem dX6_takesItem_61 : decode cX6_takesItem 61 = .ok (.if_icmp .ge 15, 3) := by decide +kernel
theorem dX6_takesItem_64 : decode cX6_takesItem 64 = .ok (.aload_n 0, 1) := by decide +kernel
theorem dX6_takesItem_65 : decode cX6_takesItem 65 = .ok (.aload_n 1, 1) := by decide +kernel
theorem dX6_takesItem_66 : decode cX6_takesItem 66 = .ok (.invokevirtual 71, 3) := by decide +kernel
theorem dX6_takesItem_69 : decode cX6_takesItem 69 = .ok (.ifCond .eq 7, 3) := by decide +kernel
theorem dX6_takesItem_72 : decode cX6_takesItem 72 = .ok (.iconst 1, 1) := by decide +kernel
theorem dX6_takesItem_73 : decode cX6_takesItem 73 = .ok (.goto 4, 3) := by decide +kernel
theorem dX6_takesItem_76 : decode cX6_takesItem 76 = .ok (.iconst 0, 1) := by decide +kernel
theorem dX6_takesItem_77 : decode cX6_takesItem 77 = .ok (.ireturn, 1) := by decide +kernel
theorem dX6_takesItem_78 : decode cX6_takesItem 78 = .ok (.iconst 0, 1) := by decide +kernel
theorem dX6_takesItem_79 : decode cX6_takesItem 79 = .ok (.ireturn, 1) := by decide +kernel
set_option maxRecDepth 20000 in
theorem ggX6_takesWord_X6_takesBelow : GoodIn wsX6_takesWord wsX6_takesBelow := goodIn_r _ [6, 7, 1, 8, 9, 10, 5, 11, 12, 13, 14, 15, 16, 17, 18, 19, 20, 21, 22, 37, 38, 39, 40, 41, 42, 43] (by decide +kernel) (by decide +kernel)
set_option maxRecDepth 20000 in
theorem gX6_takesWord_X6_takesBelow : GoodIn wsX6_takesWord (wsV RX6 74 RX6 yX6_takesBelow wsX6_takesBelow) := goodIn_app (goodIn_of _ (by decide +kernel)) ggX6_takesWord_X6_takesBelow
set_option maxRecDepth 20000 in
theorem ggX6_takesWord_X9_addWord : GoodIn wsX6_takesWord wsX9_addWord := goodIn_r _ [27, 28, 29, 30, 31, 32, 44, 45, 46, 47, 48, 49, 50, 51, 52, 53, 54, 55, 56, 57] (by decide +kernel) (by decide +kernel)
set_option maxRecDepth 20000 in
theorem gX6_takesWord_X9_addWord : GoodIn wsX6_takesWord (wsV RX6 81 RX9 yX9_addWord wsX9_addWord) := goodIn_app (goodIn_of _ (by decide +kernel)) ggX6_takesWord_X9_addWord
set_option maxRecDepth 20000 in
theorem ggX6_takesWord_X6_takesStop : GoodIn wsX6_takesWord wsX6_takesStop := goodIn_r _ [36, 7, 8, 9, 10, 5, 11, 12, 13, 14, 15, 16, 17, 18, 19, 20, 21, 22, 1, 37, 38, 39, 40, 41, 42, 43] (by decide +kernel) (by decide +kernel)
