set_option maxRecDepth 20000 in
theorem gX6_takesWord_X6_takesStop : GoodIn wsX6_takesWord (wsV RX6 36 RX6 yX6_takesStop wsX6_takesStop) := goodIn_app (goodIn_of _ (by decide +kernel)) ggX6_takesWord_X6_takesStop
theorem dX6_takesWord_0 : decode cX6_takesWord 0 = .ok (.aload_n 0, 1) := by decide +kernel
theorem dX6_takesWord_1 : decode cX6_takesWord 1 = .ok (.bipush 8, 2) := by decide +kernel
theorem dX6_takesWord_3 : decode cX6_takesWord 3 = .ok (.invokevirtual 74, 3) := by decide +kernel
theorem dX6_takesWord_6 : decode cX6_takesWord 6 = .ok (.ifCond .ne 5, 3) := by decide +kernel
theorem dX6_takesWord_9 : decode cX6_takesWord 9 = .ok (.iconst 0, 1) := by decide +kernel
theorem dX6_takesWord_10 : decode cX6_takesWord 10 = .ok (.ireturn, 1) := by decide +kernel
theorem dX6_takesWord_11 : decode cX6_takesWord 11 = .ok (.aload_n 0, 1) := by decide +kernel
theorem dX6_takesWord_12 : decode cX6_takesWord 12 = .ok (.getfield 78, 3) := by decide +kernel
theorem dX6_takesWord_15 : decode cX6_takesWord 15 = .ok (.istore_n 2, 1) := by decide +kernel
theorem dX6_takesWord_16 : decode cX6_takesWord 16 = .ok (.aload_n 0, 1) := by decide +kernel
theorem dX6_takesWord_17 : decode cX6_takesWord 17 = .ok (.bipush 8, 2) := by decide +kernel
theorem dX6_takesWord_19 : decode cX6_takesWord 19 = .ok (.invokevirtual 74, 3) := by decide +kernel
theorem dX6_takesWord_22 : decode cX6_takesWord 22 = .ok (.ifCond .ne 5, 3) := by decide +kernel
theorem dX6_takesWord_25 : decode cX6_takesWord 25 = .ok (.iconst 0, 1) := by decide +kernel
theorem dX6_takesWord_26 : decode cX6_takesWord 26 = .ok (.ireturn, 1) := by decide +kernel
theorem dX6_takesWord_27 : decode cX6_takesWord 27 = .ok (.aload_n 0, 1) := by decide +kernel
theorem dX6_takesWord_28 : decode cX6_takesWord 28 = .ok (.getfield 78, 3) := by decide +kernel
theorem dX6_takesWord_31 : decode cX6_takesWord 31 = .ok (.istore_n 3, 1) := by decide +kernel
theorem dX6_takesWord_32 : decode cX6_takesWord 32 = .ok (.aload_n 0, 1) := by decide +kernel
theorem dX6_takesWord_33 : decode cX6_takesWord 33 = .ok (.bipush 21, 2) := by decide +kernel
theorem dX6_takesWord_35 : decode cX6_takesWord 35 = .ok (.invokevirtual 74, 3) := by decide +kernel
theorem dX6_takesWord_38 : decode cX6_takesWord 38 = .ok (.ifCond .ne 5, 3) := by decide +kernel
theorem dX6_takesWord_41 : decode cX6_takesWord 41 = .ok (.iconst 0, 1) := by decide +kernel
theorem dX6_takesWord_42 : decode cX6_takesWord 42 = .ok (.ireturn, 1) := by decide +kernel
theorem dX6_takesWord_43 : decode cX6_takesWord 43 = .ok (.aload_n 1, 1) := by decide +kernel
theorem dX6_takesWord_44 : decode cX6_takesWord 44 = .ok (.iload_n 2, 1) := by decide +kernel
theorem dX6_takesWord_45 : decode cX6_takesWord 45 = .ok (.iload_n 3, 1) := by decide +kernel
theorem dX6_takesWord_46 : decode cX6_takesWord 46 = .ok (.aload_n 0, 1) := by decide +kernel
theorem dX6_takesWord_47 : decode cX6_takesWord 47 = .ok (.getfield 78, 3) := by decide +kernel
theorem dX6_takesWord_50 : decode cX6_takesWord 50 = .ok (.invokevirtual 81, 3) := by decide +kernel
theorem dX6_takesWord_53 : decode cX6_takesWord 53 = .ok (.pop, 1) := by decide +kernel
theorem dX6_takesWord_54 : decode cX6_takesWord 54 = .ok (.aload_n 0, 1) := by decide +kernel
theorem dX6_takesWord_55 : decode cX6_takesWord 55 = .ok (.invokevirtual 36, 3) := by decide +kernel
theorem dX6_takesWord_58 : decode cX6_takesWord 58 = .ok (.ireturn, 1) := by decide +kernel
set_option maxRecDepth 20000 in
theorem ggX6_takesAlike_X6_takesBelow : GoodIn wsX6_takesAlike wsX6_takesBelow := goodIn_r _ [6, 7, 1, 8, 9, 10, 5, 11, 12, 13, 14, 15, 16, 17, 18, 19, 20, 21, 22, 33, 34, 35, 36, 37, 38, 39] (by decide +kernel) (by decide +kernel)
set_option maxRecDepth 20000 in
theorem gX6_takesAlike_X6_takesBelow : GoodIn wsX6_takesAlike (wsV RX6 74 RX6 yX6_takesBelow wsX6_takesBelow) := goodIn_app (goodIn_of _ (by decide +kernel)) ggX6_takesAlike_X6_takesBelow
set_option maxRecDepth 20000 in
theorem ggX6_takesAlike_X9_setAlike : GoodIn wsX6_takesAlike wsX9_setAlike := goodIn_r _ [27, 28, 40, 41, 42, 43, 44, 45, 46, 47, 48, 49, 50, 51, 52, 53] (by decide +kernel) (by decide +kernel)
set_option maxRecDepth 20000 in
theorem gX6_takesAlike_X9_setAlike : GoodIn wsX6_takesAlike (wsV RX6 85 RX9 yX9_setAlike wsX9_setAlike) := goodIn_app (goodIn_of _ (by decide +kernel)) ggX6_takesAlike_X9_setAlike
set_option maxRecDepth 20000 in
theorem ggX6_takesAlike_X6_takesStop : GoodIn wsX6_takesAlike wsX6_takesStop := goodIn_r _ [32, 7, 8, 9, 10, 5, 11, 12, 13, 14, 15, 16, 17, 18, 19, 20, 21, 22, 1, 33, 34, 35, 36, 37, 38, 39] (by decide +kernel) (by decide +kernel)
set_option maxRecDepth 20000 in
theorem gX6_takesAlike_X6_takesStop : GoodIn wsX6_takesAlike (wsV RX6 36 RX6 yX6_takesStop wsX6_takesStop) := goodIn_app (goodIn_of _ (by decide +kernel)) ggX6_takesAlike_X6_takesStop
theorem dX6_takesAlike_0 : decode cX6_takesAlike 0 = .ok (.aload_n 0, 1) := by decide +kernel
theorem dX6_takesAlike_1 : decode cX6_takesAlike 1 = .ok (.bipush 8, 2) := by decide +kernel
theorem dX6_takesAlike_3 : decode cX6_takesAlike 3 = .ok (.invokevirtual 74, 3) := by decide +kernel
theorem dX6_takesAlike_6 : decode cX6_takesAlike 6 = .ok (.ifCond .ne 5, 3) := by decide +kernel
theorem dX6_takesAlike_9 : decode cX6_takesAlike 9 = .ok (.iconst 0, 1) := by decide +kernel
theorem dX6_takesAlike_10 : decode cX6_takesAlike 10 = .ok (.ireturn, 1) := by decide +kernel
theorem dX6_takesAlike_11 : decode cX6_takesAlike 11 = .ok (.aload_n 0, 1) := by decide +kernel
theorem dX6_takesAlike_12 : decode cX6_takesAlike 12 = .ok (.getfield 78, 3) := by decide +kernel
theorem dX6_takesAlike_15 : decode cX6_takesAlike 15 = .ok (.istore_n 2, 1) := by decide +kernel
theorem dX6_takesAlike_16 : decode cX6_takesAlike 16 = .ok (.aload_n 0, 1) := by decide +kernel
theorem dX6_takesAlike_17 : decode cX6_takesAlike 17 = .ok (.bipush 8, 2) := by decide +kernel
theorem dX6_takesAlike_19 : decode cX6_takesAlike 19 = .ok (.invokevirtual 74, 3) := by decide +kernel
theorem dX6_takesAlike_22 : decode cX6_takesAlike 22 = .ok (.ifCond .eq 11, 3) := by decide +kernel
theorem dX6_takesAlike_25 : decode cX6_takesAlike 25 = .ok (.aload_n 0, 1) := by decide +kernel
theorem dX6_takesAlike_26 : decode cX6_takesAlike 26 = .ok (.getfield 78, 3) := by decide +kernel
theorem dX6_takesAlike_29 : decode cX6_takesAlike 29 = .ok (.iload_n 2, 1) := by decide +kernel
theorem dX6_takesAlike_30 : decode cX6_takesAlike 30 = .ok (.if_icmp .ne 5, 3) := by decide +kernel
theorem dX6_takesAlike_33 : decode cX6_takesAlike 33 = .ok (.iconst 0, 1) := by decide +kernel
theorem dX6_takesAlike_34 : decode cX6_takesAlike 34 = .ok (.ireturn, 1) := by decide +kernel
theorem dX6_takesAlike_35 : decode cX6_takesAlike 35 = .ok (.aload_n 1, 1) := by decide +kernel
theorem dX6_takesAlike_36 : decode cX6_takesAlike 36 = .ok (.iload_n 2, 1) := by decide +kernel
theorem dX6_takesAlike_37 : decode cX6_takesAlike 37 = .ok (.aload_n 0, 1) := by decide +kernel
theorem dX6_takesAlike_38 : decode cX6_takesAlike 38 = .ok (.getfield 78, 3) := by decide +kernel
theorem dX6_takesAlike_41 : decode cX6_takesAlike 41 = .ok (.iconst 1, 1) := by decide +kernel
theorem dX6_takesAlike_42 : decode cX6_takesAlike 42 = .ok (.invokevirtual 85, 3) := by decide +kernel
theorem dX6_takesAlike_45 : decode cX6_takesAlike 45 = .ok (.aload_n 0, 1) := by decide +kernel
theorem dX6_takesAlike_46 : decode cX6_takesAlike 46 = .ok (.invokevirtual 36, 3) := by decide +kernel
theorem dX6_takesAlike_49 : decode cX6_takesAlike 49 = .ok (.ireturn, 1) := by decide +kernel
set_option maxRecDepth 20000 in
theorem ggX6_takesPerson_X6_takesBelow : GoodIn wsX6_takesPerson wsX6_takesBelow := goodIn_r _ [6, 7, 1, 8, 9, 10, 5, 11, 12, 13, 14, 15, 16, 17, 18, 19, 20, 21, 22, 35, 36, 37, 38, 39, 40, 41] (by decide +kernel) (by decide +kernel)
set_option maxRecDepth 20000 in
theorem gX6_takesPerson_X6_takesBelow : GoodIn wsX6_takesPerson (wsV RX6 74 RX6 yX6_takesBelow wsX6_takesBelow) := goodIn_app (goodIn_of _ (by decide +kernel)) ggX6_takesPerson_X6_takesBelow
set_option maxRecDepth 20000 in
theorem ggX6_takesPerson_X9_addPerson : GoodIn wsX6_takesPerson wsX9_addPerson := goodIn_r _ [27, 28, 29, 30, 42, 43, 44, 45, 46, 47, 48, 49, 50, 51, 52, 53, 54, 55] (by decide +kernel) (by decide +kernel)
set_option maxRecDepth 20000 in
theorem gX6_takesPerson_X9_addPerson : GoodIn wsX6_takesPerson (wsV RX6 89 RX9 yX9_addPerson wsX9_addPerson) := goodIn_app (goodIn_of _ (by decide +kernel)) ggX6_takesPerson_X9_addPerson
set_option maxRecDepth 20000 in
theorem ggX6_takesPerson_X6_takesStop : GoodIn wsX6_takesPerson wsX6_takesStop := goodIn_r _ [34, 7, 8, 9, 10, 5, 11, 12, 13, 14, 15, 16, 17, 18, 19, 20, 21, 22, 1, 35, 36, 37, 38, 39, 40, 41] (by decide +kernel) (by decide +kernel)
set_option maxRecDepth 20000 in
theorem gX6_takesPerson_X6_takesStop : GoodIn wsX6_takesPerson (wsV RX6 36 RX6 yX6_takesStop wsX6_takesStop) := goodIn_app (goodIn_of _ (by decide +kernel)) ggX6_takesPerson_X6_takesStop
theorem dX6_takesPerson_0 : decode cX6_takesPerson 0 = .ok (.aload_n 0, 1) := by decide +kernel
theorem dX6_takesPerson_1 : decode cX6_takesPerson 1 = .ok (.bipush 6, 2) := by decide +kernel
theorem dX6_takesPerson_3 : decode cX6_takesPerson 3 = .ok (.invokevirtual 74, 3) := by decide +kernel
theorem dX6_takesPerson_6 : decode cX6_takesPerson 6 = .ok (.ifCond .ne 5, 3) := by decide +kernel
theorem dX6_takesPerson_9 : decode cX6_takesPerson 9 = .ok (.iconst 0, 1) := by decide +kernel
theorem dX6_takesPerson_10 : decode cX6_takesPerson 10 = .ok (.ireturn, 1) := by decide +kernel
theorem dX6_takesPerson_11 : decode cX6_takesPerson 11 = .ok (.aload_n 0, 1) := by decide +kernel
theorem dX6_takesPerson_12 : decode cX6_takesPerson 12 = .ok (.getfield 78, 3) := by decide +kernel
theorem dX6_takesPerson_15 : decode cX6_takesPerson 15 = .ok (.istore_n 2, 1) := by decide +kernel
theorem dX6_takesPerson_16 : decode cX6_takesPerson 16 = .ok (.aload_n 0, 1) := by decide +kernel
theorem dX6_takesPerson_17 : decode cX6_takesPerson 17 = .ok (.bipush 8, 2) := by decide +kernel
theorem dX6_takesPerson_19 : decode cX6_takesPerson 19 = .ok (.invokevirtual 74, 3) := by decide +kernel
theorem dX6_takesPerson_22 : decode cX6_takesPerson 22 = .ok (.ifCond .ne 5, 3) := by decide +kernel
theorem dX6_takesPerson_25 : decode cX6_takesPerson 25 = .ok (.iconst 0, 1) := by decide +kernel
theorem dX6_takesPerson_26 : decode cX6_takesPerson 26 = .ok (.ireturn, 1) := by decide +kernel
theorem dX6_takesPerson_27 : decode cX6_takesPerson 27 = .ok (.aload_n 1, 1) := by decide +kernel
theorem dX6_takesPerson_28 : decode cX6_takesPerson 28 = .ok (.iload_n 2, 1) := by decide +kernel
theorem dX6_takesPerson_29 : decode cX6_takesPerson 29 = .ok (.aload_n 0, 1) := by decide +kernel
theorem dX6_takesPerson_30 : decode cX6_takesPerson 30 = .ok (.getfield 78, 3) := by decide +kernel
theorem dX6_takesPerson_33 : decode cX6_takesPerson 33 = .ok (.invokevirtual 89, 3) := by decide +kernel
theorem dX6_takesPerson_36 : decode cX6_takesPerson 36 = .ok (.pop, 1) := by decide +kernel
theorem dX6_takesPerson_37 : decode cX6_takesPerson 37 = .ok (.aload_n 0, 1) := by decide +kernel
theorem dX6_takesPerson_38 : decode cX6_takesPerson 38 = .ok (.invokevirtual 36, 3) := by decide +kernel
theorem dX6_takesPerson_41 : decode cX6_takesPerson 41 = .ok (.ireturn, 1) := by decide +kernel
set_option maxRecDepth 20000 in
theorem ggX6_takesStop_X6_take : GoodIn wsX6_takesStop wsX6_take := goodIn_r _ [6, 7, 8, 9, 10, 1, 11, 12, 5, 13, 14, 15, 16, 17, 18, 19, 20, 21, 22, 23, 24, 25] (by decide +kernel) (by decide +kernel)
set_option maxRecDepth 20000 in
theorem gX6_takesStop_X6_take : GoodIn wsX6_takesStop (wsV RX6 27 RX6 yX6_take wsX6_take) := goodIn_app (goodIn_of _ (by decide +kernel)) ggX6_takesStop_X6_take
theorem dX6_takesStop_0 : decode cX6_takesStop 0 = .ok (.aload_n 0, 1) := by decide +kernel
theorem dX6_takesStop_1 : decode cX6_takesStop 1 = .ok (.invokevirtual 27, 3) := by decide +kernel
theorem dX6_takesStop_4 : decode cX6_takesStop 4 = .ok (.aload_n 0, 1) := by decide +kernel
theorem dX6_takesStop_5 : decode cX6_takesStop 5 = .ok (.getfield 46, 3) := by decide +kernel
theorem dX6_takesStop_8 : decode cX6_takesStop 8 = .ok (.iconst 3, 1) := by decide +kernel
theorem dX6_takesStop_9 : decode cX6_takesStop 9 = .ok (.if_icmp .ne 7, 3) := by decide +kernel
theorem dX6_takesStop_12 : decode cX6_takesStop 12 = .ok (.iconst 1, 1) := by decide +kernel
theorem dX6_takesStop_13 : decode cX6_takesStop 13 = .ok (.goto 4, 3) := by decide +kernel
theorem dX6_takesStop_16 : decode cX6_takesStop 16 = .ok (.iconst 0, 1) := by decide +kernel
theorem dX6_takesStop_17 : decode cX6_takesStop 17 = .ok (.ireturn, 1) := by decide +kernel
set_option maxRecDepth 20000 in
theorem ggX6_takesBelow_X6_take : GoodIn wsX6_takesBelow wsX6_take := goodIn_r _ [7, 8, 9, 10, 11, 1, 12, 13, 6, 14, 15, 16, 17, 18, 2, 19, 20, 21, 22, 23, 24, 25] (by decide +kernel) (by decide +kernel)
set_option maxRecDepth 20000 in
theorem gX6_takesBelow_X6_take : GoodIn wsX6_takesBelow (wsV RX6 27 RX6 yX6_take wsX6_take) := goodIn_app (goodIn_of _ (by decide +kernel)) ggX6_takesBelow_X6_take
theorem dX6_takesBelow_0 : decode cX6_takesBelow 0 = .ok (.aload_n 0, 1) := by decide +kernel
theorem dX6_takesBelow_1 : decode cX6_takesBelow 1 = .ok (.invokevirtual 27, 3) := by decide +kernel
theorem dX6_takesBelow_4 : decode cX6_takesBelow 4 = .ok (.aload_n 0, 1) := by decide +kernel
theorem dX6_takesBelow_5 : decode cX6_takesBelow 5 = .ok (.getfield 46, 3) := by decide +kernel
theorem dX6_takesBelow_8 : decode cX6_takesBelow 8 = .ok (.iconst 2, 1) := by decide +kernel
theorem dX6_takesBelow_9 : decode cX6_takesBelow 9 = .ok (.if_icmp .ne 15, 3) := by decide +kernel
theorem dX6_takesBelow_12 : decode cX6_takesBelow 12 = .ok (.aload_n 0, 1) := by decide +kernel
theorem dX6_takesBelow_13 : decode cX6_takesBelow 13 = .ok (.getfield 78, 3) := by decide +kernel
theorem dX6_takesBelow_16 : decode cX6_takesBelow 16 = .ok (.iload_n 1, 1) := by decide +kernel
theorem dX6_takesBelow_17 : decode cX6_takesBelow 17 = .ok (.if_icmp .ge 7, 3) := by decide +kernel
theorem dX6_takesBelow_20 : decode cX6_takesBelow 20 = .ok (.iconst 1, 1) := by decide +kernel
theorem dX6_takesBelow_21 : decode cX6_takesBelow 21 = .ok (.goto 4, 3) := by decide +kernel
theorem dX6_takesBelow_24 : decode cX6_takesBelow 24 = .ok (.iconst 0, 1) := by decide +kernel
theorem dX6_takesBelow_25 : decode cX6_takesBelow 25 = .ok (.ireturn, 1) := by decide +kernel
set_option maxRecDepth 20000 in
theorem ggX6_isLetters_J0_length_8abf5 : GoodIn wsX6_isLetters wsJ0_length_8abf5 := goodIn_r _ [9, 10, 11, 12, 13, 8, 14, 15, 16] (by decide +kernel) (by decide +kernel)
set_option maxRecDepth 20000 in
theorem gX6_isLetters_J0_length_8abf5 : GoodIn wsX6_isLetters (wsV RX6 93 RJ0 yJ0_length_8abf5 wsJ0_length_8abf5) := goodIn_app (goodIn_of _ (by decide +kernel)) ggX6_isLetters_J0_length_8abf5
set_option maxRecDepth 20000 in
theorem ggX6_isLetters_J0_charAt_5068e : GoodIn wsX6_isLetters wsJ0_charAt_5068e := goodIn_r _ [20, 10, 21, 22, 23, 8, 24, 15, 16, 25, 26, 27, 28, 29, 30, 31, 32, 33, 34, 35, 36, 37, 38, 39, 40, 41, 42, 43, 44, 45, 46, 47, 48, 49, 50, 51, 52, 53] (by decide +kernel) (by decide +kernel)
set_option maxRecDepth 20000 in
theorem gX6_isLetters_J0_charAt_5068e : GoodIn wsX6_isLetters (wsV RX6 98 RJ0 yJ0_charAt_5068e wsJ0_charAt_5068e) := goodIn_app (goodIn_of _ (by decide +kernel)) ggX6_isLetters_J0_charAt_5068e
theorem dX6_isLetters_0 : decode cX6_isLetters 0 = .ok (.aload_n 0, 1) := by decide +kernel
theorem dX6_isLetters_1 : decode cX6_isLetters 1 = .ok (.getfield 46, 3) := by decide +kernel
theorem dX6_isLetters_4 : decode cX6_isLetters 4 = .ok (.iconst 1, 1) := by decide +kernel
theorem dX6_isLetters_5 : decode cX6_isLetters 5 = .ok (.if_icmp .ne 19, 3) := by decide +kernel
theorem dX6_isLetters_8 : decode cX6_isLetters 8 = .ok (.aload_n 0, 1) := by decide +kernel
theorem dX6_isLetters_9 : decode cX6_isLetters 9 = .ok (.getfield 24, 3) := by decide +kernel
theorem dX6_isLetters_12 : decode cX6_isLetters 12 = .ok (.aload_n 0, 1) := by decide +kernel
theorem dX6_isLetters_13 : decode cX6_isLetters 13 = .ok (.getfield 40, 3) := by decide +kernel
theorem dX6_isLetters_16 : decode cX6_isLetters 16 = .ok (.isub, 1) := by decide +kernel
theorem dX6_isLetters_17 : decode cX6_isLetters 17 = .ok (.aload_n 1, 1) := by decide +kernel
theorem dX6_isLetters_18 : decode cX6_isLetters 18 = .ok (.invokevirtual 93, 3) := by decide +kernel
theorem dX6_isLetters_21 : decode cX6_isLetters 21 = .ok (.if_icmp .eq 5, 3) := by decide +kernel
theorem dX6_isLetters_24 : decode cX6_isLetters 24 = .ok (.iconst 0, 1) := by decide +kernel
theorem dX6_isLetters_25 : decode cX6_isLetters 25 = .ok (.ireturn, 1) := by decide +kernel
theorem dX6_isLetters_26 : decode cX6_isLetters 26 = .ok (.iconst 0, 1) := by decide +kernel
theorem dX6_isLetters_27 : decode cX6_isLetters 27 = .ok (.istore_n 2, 1) := by decide +kernel
theorem dX6_isLetters_28 : decode cX6_isLetters 28 = .ok (.iload_n 2, 1) := by decide +kernel
theorem dX6_isLetters_29 : decode cX6_isLetters 29 = .ok (.aload_n 1, 1) := by decide +kernel
theorem dX6_isLetters_30 : decode cX6_isLetters 30 = .ok (.invokevirtual 93, 3) := by decide +kernel
theorem dX6_isLetters_33 : decode cX6_isLetters 33 = .ok (.if_icmp .ge 30, 3) := by decide +kernel
theorem dX6_isLetters_36 : decode cX6_isLetters 36 = .ok (.aload_n 0, 1) := by decide +kernel
theorem dX6_isLetters_37 : decode cX6_isLetters 37 = .ok (.getfield 9, 3) := by decide +kernel
theorem dX6_isLetters_40 : decode cX6_isLetters 40 = .ok (.aload_n 0, 1) := by decide +kernel
theorem dX6_isLetters_41 : decode cX6_isLetters 41 = .ok (.getfield 40, 3) := by decide +kernel
theorem dX6_isLetters_44 : decode cX6_isLetters 44 = .ok (.iload_n 2, 1) := by decide +kernel
theorem dX6_isLetters_45 : decode cX6_isLetters 45 = .ok (.iadd, 1) := by decide +kernel
theorem dX6_isLetters_46 : decode cX6_isLetters 46 = .ok (.iaload, 1) := by decide +kernel
theorem dX6_isLetters_47 : decode cX6_isLetters 47 = .ok (.aload_n 1, 1) := by decide +kernel
theorem dX6_isLetters_48 : decode cX6_isLetters 48 = .ok (.iload_n 2, 1) := by decide +kernel
theorem dX6_isLetters_49 : decode cX6_isLetters 49 = .ok (.invokevirtual 98, 3) := by decide +kernel
theorem dX6_isLetters_52 : decode cX6_isLetters 52 = .ok (.if_icmp .eq 5, 3) := by decide +kernel
theorem dX6_isLetters_55 : decode cX6_isLetters 55 = .ok (.iconst 0, 1) := by decide +kernel
theorem dX6_isLetters_56 : decode cX6_isLetters 56 = .ok (.ireturn, 1) := by decide +kernel
theorem dX6_isLetters_57 : decode cX6_isLetters 57 = .ok (.iinc 2 1, 3) := by decide +kernel
theorem dX6_isLetters_60 : decode cX6_isLetters 60 = .ok (.goto (-32), 3) := by decide +kernel
theorem dX6_isLetters_63 : decode cX6_isLetters 63 = .ok (.iconst 1, 1) := by decide +kernel
theorem dX6_isLetters_64 : decode cX6_isLetters 64 = .ok (.ireturn, 1) := by decide +kernel
set_option maxRecDepth 20000 in
theorem ggX6_take_X6_sortOf : GoodIn wsX6_take wsX6_sortOf := goodIn_r _ [9] (by decide +kernel) (by decide +kernel)
set_option maxRecDepth 20000 in
theorem gX6_take_X6_sortOf : GoodIn wsX6_take (va_wsS RX6 102 yX6_sortOf wsX6_sortOf) := goodIn_app (goodIn_of _ (by decide +kernel)) ggX6_take_X6_sortOf
set_option maxRecDepth 20000 in
theorem ggX6_take_X6_settleNumber : GoodIn wsX6_take wsX6_settleNumber := goodIn_r _ [13, 1, 4, 5, 14, 3, 15, 16, 17, 18, 19, 20, 21] (by decide +kernel) (by decide +kernel)
set_option maxRecDepth 20000 in
theorem gX6_take_X6_settleNumber : GoodIn wsX6_take (wsV RX6 106 RX6 yX6_settleNumber wsX6_settleNumber) := goodIn_app (goodIn_of _ (by decide +kernel)) ggX6_take_X6_settleNumber
theorem dX6_take_0 : decode cX6_take 0 = .ok (.aload_n 0, 1) := by decide +kernel
theorem dX6_take_1 : decode cX6_take 1 = .ok (.getfield 24, 3) := by decide +kernel
theorem dX6_take_4 : decode cX6_take 4 = .ok (.aload_n 0, 1) := by decide +kernel
theorem dX6_take_5 : decode cX6_take 5 = .ok (.getfield 15, 3) := by decide +kernel
theorem dX6_take_8 : decode cX6_take 8 = .ok (.if_icmp .ge 30, 3) := by decide +kernel
theorem dX6_take_11 : decode cX6_take 11 = .ok (.aload_n 0, 1) := by decide +kernel
theorem dX6_take_12 : decode cX6_take 12 = .ok (.getfield 9, 3) := by decide +kernel
theorem dX6_take_15 : decode cX6_take 15 = .ok (.aload_n 0, 1) := by decide +kernel
theorem dX6_take_16 : decode cX6_take 16 = .ok (.getfield 24, 3) := by decide +kernel
theorem dX6_take_19 : decode cX6_take 19 = .ok (.iaload, 1) := by decide +kernel
theorem dX6_take_20 : decode cX6_take 20 = .ok (.bipush 32, 2) := by decide +kernel
theorem dX6_take_22 : decode cX6_take 22 = .ok (.if_icmp .ne 16, 3) := by decide +kernel
theorem dX6_take_25 : decode cX6_take 25 = .ok (.aload_n 0, 1) := by decide +kernel
theorem dX6_take_26 : decode cX6_take 26 = .ok (.dup, 1) := by decide +kernel
theorem dX6_take_27 : decode cX6_take 27 = .ok (.getfield 24, 3) := by decide +kernel
theorem dX6_take_30 : decode cX6_take 30 = .ok (.iconst 1, 1) := by decide +kernel
theorem dX6_take_31 : decode cX6_take 31 = .ok (.iadd, 1) := by decide +kernel
theorem dX6_take_32 : decode cX6_take 32 = .ok (.putfield 24, 3) := by decide +kernel
theorem dX6_take_35 : decode cX6_take 35 = .ok (.goto (-35), 3) := by decide +kernel
theorem dX6_take_38 : decode cX6_take 38 = .ok (.aload_n 0, 1) := by decide +kernel
theorem dX6_take_39 : decode cX6_take 39 = .ok (.aload_n 0, 1) := by decide +kernel
theorem dX6_take_40 : decode cX6_take 40 = .ok (.getfield 24, 3) := by decide +kernel
theorem dX6_take_43 : decode cX6_take 43 = .ok (.putfield 40, 3) := by decide +kernel
theorem dX6_take_46 : decode cX6_take 46 = .ok (.aload_n 0, 1) := by decide +kernel
theorem dX6_take_47 : decode cX6_take 47 = .ok (.aload_n 0, 1) := by decide +kernel
theorem dX6_take_48 : decode cX6_take 48 = .ok (.getfield 24, 3) := by decide +kernel
theorem dX6_take_51 : decode cX6_take 51 = .ok (.aload_n 0, 1) := by decide +kernel
theorem dX6_take_52 : decode cX6_take 52 = .ok (.getfield 15, 3) := by decide +kernel
theorem dX6_take_55 : decode cX6_take 55 = .ok (.if_icmp .ge 18, 3) := by decide +kernel
theorem dX6_take_58 : decode cX6_take 58 = .ok (.aload_n 0, 1) := by decide +kernel
theorem dX6_take_59 : decode cX6_take 59 = .ok (.getfield 9, 3) := by decide +kernel
theorem dX6_take_62 : decode cX6_take 62 = .ok (.aload_n 0, 1) := by decide +kernel
theorem dX6_take_63 : decode cX6_take 63 = .ok (.getfield 24, 3) := by decide +kernel
theorem dX6_take_66 : decode cX6_take 66 = .ok (.iaload, 1) := by decide +kernel
theorem dX6_take_67 : decode cX6_take 67 = .ok (.invokestatic 102, 3) := by decide +kernel
theorem dX6_take_70 : decode cX6_take 70 = .ok (.goto 4, 3) := by decide +kernel
theorem dX6_take_73 : decode cX6_take 73 = .ok (.iconst 0, 1) := by decide +kernel
theorem dX6_take_74 : decode cX6_take 74 = .ok (.putfield 46, 3) := by decide +kernel
theorem dX6_take_77 : decode cX6_take 77 = .ok (.aload_n 0, 1) := by decide +kernel
theorem dX6_take_78 : decode cX6_take 78 = .ok (.getfield 46, 3) := by decide +kernel
theorem dX6_take_81 : decode cX6_take 81 = .ok (.iconst 3, 1) := by decide +kernel
theorem dX6_take_82 : decode cX6_take 82 = .ok (.if_icmp .eq 11, 3) := by decide +kernel
theorem dX6_take_85 : decode cX6_take 85 = .ok (.aload_n 0, 1) := by decide +kernel
theorem dX6_take_86 : decode cX6_take 86 = .ok (.getfield 46, 3) := by decide +kernel
theorem dX6_take_89 : decode cX6_take 89 = .ok (.iconst 4, 1) := by decide +kernel
theorem dX6_take_90 : decode cX6_take 90 = .ok (.if_icmp .ne 16, 3) := by decide +kernel
theorem dX6_take_93 : decode cX6_take 93 = .ok (.aload_n 0, 1) := by decide +kernel
theorem dX6_take_94 : decode cX6_take 94 = .ok (.dup, 1) := by decide +kernel
theorem dX6_take_95 : decode cX6_take 95 = .ok (.getfield 24, 3) := by decide +kernel
theorem dX6_take_98 : decode cX6_take 98 = .ok (.iconst 1, 1) := by decide +kernel
theorem dX6_take_99 : decode cX6_take 99 = .ok (.iadd, 1) := by decide +kernel
theorem dX6_take_100 : decode cX6_take 100 = .ok (.putfield 24, 3) := by decide +kernel
theorem dX6_take_103 : decode cX6_take 103 = .ok (.goto 53, 3) := by decide +kernel
theorem dX6_take_106 : decode cX6_take 106 = .ok (.aload_n 0, 1) := by decide +kernel
theorem dX6_take_107 : decode cX6_take 107 = .ok (.getfield 46, 3) := by decide +kernel
theorem dX6_take_110 : decode cX6_take 110 = .ok (.ifCond .eq 46, 3) := by decide +kernel
theorem dX6_take_113 : decode cX6_take 113 = .ok (.aload_n 0, 1) := by decide +kernel
theorem dX6_take_114 : decode cX6_take 114 = .ok (.getfield 24, 3) := by decide +kernel
theorem dX6_take_117 : decode cX6_take 117 = .ok (.aload_n 0, 1) := by decide +kernel
theorem dX6_take_118 : decode cX6_take 118 = .ok (.getfield 15, 3) := by decide +kernel
theorem dX6_take_121 : decode cX6_take 121 = .ok (.if_icmp .ge 35, 3) := by decide +kernel
theorem dX6_take_124 : decode cX6_take 124 = .ok (.aload_n 0, 1) := by decide +kernel
theorem dX6_take_125 : decode cX6_take 125 = .ok (.getfield 9, 3) := by decide +kernel
theorem dX6_take_128 : decode cX6_take 128 = .ok (.aload_n 0, 1) := by decide +kernel
theorem dX6_take_129 : decode cX6_take 129 = .ok (.getfield 24, 3) := by decide +kernel
theorem dX6_take_132 : decode cX6_take 132 = .ok (.iaload, 1) := by decide +kernel
theorem dX6_take_133 : decode cX6_take 133 = .ok (.invokestatic 102, 3) := by decide +kernel
theorem dX6_take_136 : decode cX6_take 136 = .ok (.aload_n 0, 1) := by decide +kernel
theorem dX6_take_137 : decode cX6_take 137 = .ok (.getfield 46, 3) := by decide +kernel
theorem dX6_take_140 : decode cX6_take 140 = .ok (.if_icmp .ne 16, 3) := by decide +kernel
theorem dX6_take_143 : decode cX6_take 143 = .ok (.aload_n 0, 1) := by decide +kernel
theorem dX6_take_144 : decode cX6_take 144 = .ok (.dup, 1) := by decide +kernel
theorem dX6_take_145 : decode cX6_take 145 = .ok (.getfield 24, 3) := by decide +kernel
theorem dX6_take_148 : decode cX6_take 148 = .ok (.iconst 1, 1) := by decide +kernel
theorem dX6_take_149 : decode cX6_take 149 = .ok (.iadd, 1) := by decide +kernel
theorem dX6_take_150 : decode cX6_take 150 = .ok (.putfield 24, 3) := by decide +kernel
theorem dX6_take_153 : decode cX6_take 153 = .ok (.goto (-40), 3) := by decide +kernel
theorem dX6_take_156 : decode cX6_take 156 = .ok (.aload_n 0, 1) := by decide +kernel
theorem dX6_take_157 : decode cX6_take 157 = .ok (.getfield 46, 3) := by decide +kernel
theorem dX6_take_160 : decode cX6_take 160 = .ok (.iconst 2, 1) := by decide +kernel
theorem dX6_take_161 : decode cX6_take 161 = .ok (.if_icmp .ne 7, 3) := by decide +kernel
theorem dX6_take_164 : decode cX6_take 164 = .ok (.aload_n 0, 1) := by decide +kernel
theorem dX6_take_165 : decode cX6_take 165 = .ok (.invokevirtual 106, 3) := by decide +kernel
theorem dX6_take_168 : decode cX6_take 168 = .ok (.return_, 1) := by decide +kernel
theorem dX6_sortOf_0 : decode cX6_sortOf 0 = .ok (.iload_n 0, 1) := by decide +kernel
theorem dX6_sortOf_1 : decode cX6_sortOf 1 = .ok (.bipush 97, 2) := by decide +kernel
theorem dX6_sortOf_3 : decode cX6_sortOf 3 = .ok (.if_icmp .lt 11, 3) := by decide +kernel
theorem dX6_sortOf_6 : decode cX6_sortOf 6 = .ok (.iload_n 0, 1) := by decide +kernel
theorem dX6_sortOf_7 : decode cX6_sortOf 7 = .ok (.bipush 122, 2) := by decide +kernel
theorem dX6_sortOf_9 : decode cX6_sortOf 9 = .ok (.if_icmp .gt 5, 3) := by decide +kernel
theorem dX6_sortOf_12 : decode cX6_sortOf 12 = .ok (.iconst 1, 1) := by decide +kernel
theorem dX6_sortOf_13 : decode cX6_sortOf 13 = .ok (.ireturn, 1) := by decide +kernel
theorem dX6_sortOf_14 : decode cX6_sortOf 14 = .ok (.iload_n 0, 1) := by decide +kernel
theorem dX6_sortOf_15 : decode cX6_sortOf 15 = .ok (.bipush 48, 2) := by decide +kernel
theorem dX6_sortOf_17 : decode cX6_sortOf 17 = .ok (.if_icmp .lt 11, 3) := by decide +kernel
theorem dX6_sortOf_20 : decode cX6_sortOf 20 = .ok (.iload_n 0, 1) := by decide +kernel
theorem dX6_sortOf_21 : decode cX6_sortOf 21 = .ok (.bipush 57, 2) := by decide +kernel
theorem dX6_sortOf_23 : decode cX6_sortOf 23 = .ok (.if_icmp .gt 5, 3) := by decide +kernel
theorem dX6_sortOf_26 : decode cX6_sortOf 26 = .ok (.iconst 2, 1) := by decide +kernel
theorem dX6_sortOf_27 : decode cX6_sortOf 27 = .ok (.ireturn, 1) := by decide +kernel
theorem dX6_sortOf_28 : decode cX6_sortOf 28 = .ok (.iload_n 0, 1) := by decide +kernel
theorem dX6_sortOf_29 : decode cX6_sortOf 29 = .ok (.bipush 59, 2) := by decide +kernel
theorem dX6_sortOf_31 : decode cX6_sortOf 31 = .ok (.if_icmp .ne 7, 3) := by decide +kernel
theorem dX6_sortOf_34 : decode cX6_sortOf 34 = .ok (.iconst 3, 1) := by decide +kernel
theorem dX6_sortOf_35 : decode cX6_sortOf 35 = .ok (.goto 4, 3) := by decide +kernel
theorem dX6_sortOf_38 : decode cX6_sortOf 38 = .ok (.iconst 4, 1) := by decide +kernel
theorem dX6_sortOf_39 : decode cX6_sortOf 39 = .ok (.ireturn, 1) := by decide +kernel
theorem dX6_settleNumber_0 : decode cX6_settleNumber 0 = .ok (.aload_n 0, 1) := by decide +kernel
theorem dX6_settleNumber_1 : decode cX6_settleNumber 1 = .ok (.getfield 24, 3) := by decide +kernel
theorem dX6_settleNumber_4 : decode cX6_settleNumber 4 = .ok (.aload_n 0, 1) := by decide +kernel
theorem dX6_settleNumber_5 : decode cX6_settleNumber 5 = .ok (.getfield 40, 3) := by decide +kernel
theorem dX6_settleNumber_8 : decode cX6_settleNumber 8 = .ok (.isub, 1) := by decide +kernel
theorem dX6_settleNumber_9 : decode cX6_settleNumber 9 = .ok (.iconst 2, 1) := by decide +kernel
theorem dX6_settleNumber_10 : decode cX6_settleNumber 10 = .ok (.if_icmp .le 8, 3) := by decide +kernel
theorem dX6_settleNumber_13 : decode cX6_settleNumber 13 = .ok (.aload_n 0, 1) := by decide +kernel
theorem dX6_settleNumber_14 : decode cX6_settleNumber 14 = .ok (.iconst 4, 1) := by decide +kernel
theorem dX6_settleNumber_15 : decode cX6_settleNumber 15 = .ok (.putfield 46, 3) := by decide +kernel
theorem dX6_settleNumber_18 : decode cX6_settleNumber 18 = .ok (.aload_n 0, 1) := by decide +kernel
theorem dX6_settleNumber_19 : decode cX6_settleNumber 19 = .ok (.iconst 0, 1) := by decide +kernel
theorem dX6_settleNumber_20 : decode cX6_settleNumber 20 = .ok (.putfield 78, 3) := by decide +kernel
theorem dX6_settleNumber_23 : decode cX6_settleNumber 23 = .ok (.aload_n 0, 1) := by decide +kernel
theorem dX6_settleNumber_24 : decode cX6_settleNumber 24 = .ok (.getfield 40, 3) := by decide +kernel
theorem dX6_settleNumber_27 : decode cX6_settleNumber 27 = .ok (.istore_n 1, 1) := by decide +kernel
theorem dX6_settleNumber_28 : decode cX6_settleNumber 28 = .ok (.iload_n 1, 1) := by decide +kernel
theorem dX6_settleNumber_29 : decode cX6_settleNumber 29 = .ok (.aload_n 0, 1) := by decide +kernel
theorem dX6_settleNumber_30 : decode cX6_settleNumber 30 = .ok (.getfield 24, 3) := by decide +kernel
theorem dX6_settleNumber_33 : decode cX6_settleNumber 33 = .ok (.if_icmp .ge 40, 3) := by decide +kernel
theorem dX6_settleNumber_36 : decode cX6_settleNumber 36 = .ok (.iload_n 1, 1) := by decide +kernel
theorem dX6_settleNumber_37 : decode cX6_settleNumber 37 = .ok (.aload_n 0, 1) := by decide +kernel
theorem dX6_settleNumber_38 : decode cX6_settleNumber 38 = .ok (.getfield 40, 3) := by decide +kernel
theorem dX6_settleNumber_41 : decode cX6_settleNumber 41 = .ok (.iconst 2, 1) := by decide +kernel
theorem dX6_settleNumber_42 : decode cX6_settleNumber 42 = .ok (.iadd, 1) := by decide +kernel
theorem dX6_settleNumber_43 : decode cX6_settleNumber 43 = .ok (.if_icmp .ge 30, 3) := by decide +kernel
theorem dX6_settleNumber_46 : decode cX6_settleNumber 46 = .ok (.aload_n 0, 1) := by decide +kernel
theorem dX6_settleNumber_47 : decode cX6_settleNumber 47 = .ok (.aload_n 0, 1) := by decide +kernel
theorem dX6_settleNumber_48 : decode cX6_settleNumber 48 = .ok (.getfield 78, 3) := by decide +kernel
theorem dX6_settleNumber_51 : decode cX6_settleNumber 51 = .ok (.bipush 10, 2) := by decide +kernel
theorem dX6_settleNumber_53 : decode cX6_settleNumber 53 = .ok (.imul, 1) := by decide +kernel
theorem dX6_settleNumber_54 : decode cX6_settleNumber 54 = .ok (.aload_n 0, 1) := by decide +kernel
theorem dX6_settleNumber_55 : decode cX6_settleNumber 55 = .ok (.getfield 9, 3) := by decide +kernel
theorem dX6_settleNumber_58 : decode cX6_settleNumber 58 = .ok (.iload_n 1, 1) := by decide +kernel
theorem dX6_settleNumber_59 : decode cX6_settleNumber 59 = .ok (.iaload, 1) := by decide +kernel
theorem dX6_settleNumber_60 : decode cX6_settleNumber 60 = .ok (.iadd, 1) := by decide +kernel
theorem dX6_settleNumber_61 : decode cX6_settleNumber 61 = .ok (.bipush 48, 2) := by decide +kernel
theorem dX6_settleNumber_63 : decode cX6_settleNumber 63 = .ok (.isub, 1) := by decide +kernel
theorem dX6_settleNumber_64 : decode cX6_settleNumber 64 = .ok (.putfield 78, 3) := by decide +kernel
theorem dX6_settleNumber_67 : decode cX6_settleNumber 67 = .ok (.iinc 1 1, 3) := by decide +kernel
theorem dX6_settleNumber_70 : decode cX6_settleNumber 70 = .ok (.goto (-42), 3) := by decide +kernel
theorem dX6_settleNumber_73 : decode cX6_settleNumber 73 = .ok (.return_, 1) := by decide +kernel
theorem dX7_init_0 : decode cX7_init 0 = .ok (.aload_n 0, 1) := by decide +kernel
theorem dX7_init_1 : decode cX7_init 1 = .ok (.invokespecial 1, 3) := by decide +kernel
theorem dX7_init_4 : decode cX7_init 4 = .ok (.return_, 1) := by decide +kernel
set_option maxRecDepth 20000 in
theorem ggX7_chimes_X9_wordsEnding : GoodIn wsX7_chimes wsX9_wordsEnding := goodIn_r _ [6, 7, 8, 9, 10, 11, 12, 13, 14, 15, 16, 17, 18, 19, 20, 21, 22] (by decide +kernel) (by decide +kernel)
set_option maxRecDepth 20000 in
theorem gX7_chimes_X9_wordsEnding : GoodIn wsX7_chimes (wsV RX7 13 RX9 yX9_wordsEnding wsX9_wordsEnding) := goodIn_app (goodIn_of _ (by decide +kernel)) ggX7_chimes_X9_wordsEnding
theorem dX7_chimes_0 : decode cX7_chimes 0 = .ok (.aload_n 1, 1) := by decide +kernel
theorem dX7_chimes_1 : decode cX7_chimes 1 = .ok (.iconst 1, 1) := by decide +kernel
theorem dX7_chimes_2 : decode cX7_chimes 2 = .ok (.aload_n 1, 1) := by decide +kernel
theorem dX7_chimes_3 : decode cX7_chimes 3 = .ok (.getfield 7, 3) := by decide +kernel
theorem dX7_chimes_6 : decode cX7_chimes 6 = .ok (.iload_n 3, 1) := by decide +kernel
theorem dX7_chimes_7 : decode cX7_chimes 7 = .ok (.iaload, 1) := by decide +kernel
theorem dX7_chimes_8 : decode cX7_chimes 8 = .ok (.ishl, 1) := by decide +kernel
theorem dX7_chimes_9 : decode cX7_chimes 9 = .ok (.invokevirtual 13, 3) := by decide +kernel
theorem dX7_chimes_12 : decode cX7_chimes 12 = .ok (.iconst 1, 1) := by decide +kernel
theorem dX7_chimes_13 : decode cX7_chimes 13 = .ok (.iload_n 3, 1) := by decide +kernel
theorem dX7_chimes_14 : decode cX7_chimes 14 = .ok (.ishl, 1) := by decide +kernel
theorem dX7_chimes_15 : decode cX7_chimes 15 = .ok (.iconst (-1), 1) := by decide +kernel
theorem dX7_chimes_16 : decode cX7_chimes 16 = .ok (.ixor, 1) := by decide +kernel
theorem dX7_chimes_17 : decode cX7_chimes 17 = .ok (.iand, 1) := by decide +kernel
theorem dX7_chimes_18 : decode cX7_chimes 18 = .ok (.ireturn, 1) := by decide +kernel
set_option maxRecDepth 20000 in
theorem ggX8_init_X3_init : GoodIn wsX8_init wsX3_init := goodIn_r _ [3, 4, 5, 6, 7, 8, 9] (by decide +kernel) (by decide +kernel)
set_option maxRecDepth 20000 in
theorem gX8_init_X3_init_n1 : GoodIn wsX8_init (wsX3_init) := ggX8_init_X3_init
theorem dX8_init_0 : decode cX8_init 0 = .ok (.aload_n 0, 1) := by decide +kernel
theorem dX8_init_1 : decode cX8_init 1 = .ok (.invokespecial 1, 3) := by decide +kernel
theorem dX8_init_4 : decode cX8_init 4 = .ok (.return_, 1) := by decide +kernel
set_option maxRecDepth 20000 in
theorem ggX8_chimes_X3_chimes : GoodIn wsX8_chimes wsX3_chimes := goodIn_r _ [6, 7, 8, 9, 10, 11, 12, 13, 14, 15, 16, 17, 18, 19, 20, 21, 22, 23, 24, 25, 26, 27, 28, 29, 30, 31, 32, 33, 34] (by decide +kernel) (by decide +kernel)
set_option maxRecDepth 20000 in
theorem gX8_chimes_X3_chimes_s7 : GoodIn wsX8_chimes (va_wsSU RX8 7 yX3_chimes wsX3_chimes) := goodIn_app (goodIn_of _ (by decide +kernel)) ggX8_chimes_X3_chimes
theorem dX8_chimes_0 : decode cX8_chimes 0 = .ok (.iconst 1, 1) := by decide +kernel
theorem dX8_chimes_1 : decode cX8_chimes 1 = .ok (.iload_n 3, 1) := by decide +kernel
theorem dX8_chimes_2 : decode cX8_chimes 2 = .ok (.ishl, 1) := by decide +kernel
theorem dX8_chimes_3 : decode cX8_chimes 3 = .ok (.iconst 1, 1) := by decide +kernel
theorem dX8_chimes_4 : decode cX8_chimes 4 = .ok (.isub, 1) := by decide +kernel
theorem dX8_chimes_5 : decode cX8_chimes 5 = .ok (.istore 4, 2) := by decide +kernel
theorem dX8_chimes_7 : decode cX8_chimes 7 = .ok (.aload_n 0, 1) := by decide +kernel
theorem dX8_chimes_8 : decode cX8_chimes 8 = .ok (.aload_n 1, 1) := by decide +kernel
theorem dX8_chimes_9 : decode cX8_chimes 9 = .ok (.iload_n 2, 1) := by decide +kernel
theorem dX8_chimes_10 : decode cX8_chimes 10 = .ok (.iload_n 3, 1) := by decide +kernel
theorem dX8_chimes_11 : decode cX8_chimes 11 = .ok (.invokespecial 7, 3) := by decide +kernel
theorem dX8_chimes_14 : decode cX8_chimes 14 = .ok (.iload 4, 2) := by decide +kernel
theorem dX8_chimes_16 : decode cX8_chimes 16 = .ok (.iconst (-1), 1) := by decide +kernel
theorem dX8_chimes_17 : decode cX8_chimes 17 = .ok (.ixor, 1) := by decide +kernel
theorem dX8_chimes_18 : decode cX8_chimes 18 = .ok (.iand, 1) := by decide +kernel
theorem dX8_chimes_19 : decode cX8_chimes 19 = .ok (.ireturn, 1) := by decide +kernel
theorem dX9_init_0 : decode cX9_init 0 = .ok (.aload_n 0, 1) := by decide +kernel
theorem dX9_init_1 : decode cX9_init 1 = .ok (.invokespecial 3, 3) := by decide +kernel
theorem dX9_init_4 : decode cX9_init 4 = .ok (.aload_n 0, 1) := by decide +kernel
theorem dX9_init_5 : decode cX9_init 5 = .ok (.bipush 10, 2) := by decide +kernel
theorem dX9_init_7 : decode cX9_init 7 = .ok (.newarray .int, 2) := by decide +kernel
theorem dX9_init_9 : decode cX9_init 9 = .ok (.putfield 9, 3) := by decide +kernel
theorem dX9_init_12 : decode cX9_init 12 = .ok (.aload_n 0, 1) := by decide +kernel
theorem dX9_init_13 : decode cX9_init 13 = .ok (.bipush 10, 2) := by decide +kernel
theorem dX9_init_15 : decode cX9_init 15 = .ok (.newarray .int, 2) := by decide +kernel
theorem dX9_init_17 : decode cX9_init 17 = .ok (.putfield 15, 3) := by decide +kernel
theorem dX9_init_20 : decode cX9_init 20 = .ok (.aload_n 0, 1) := by decide +kernel
theorem dX9_init_21 : decode cX9_init 21 = .ok (.bipush 10, 2) := by decide +kernel
theorem dX9_init_23 : decode cX9_init 23 = .ok (.newarray .int, 2) := by decide +kernel
theorem dX9_init_25 : decode cX9_init 25 = .ok (.putfield 18, 3) := by decide +kernel
theorem dX9_init_28 : decode cX9_init 28 = .ok (.aload_n 0, 1) := by decide +kernel
theorem dX9_init_29 : decode cX9_init 29 = .ok (.bipush 8, 2) := by decide +kernel
theorem dX9_init_31 : decode cX9_init 31 = .ok (.newarray .int, 2) := by decide +kernel
theorem dX9_init_33 : decode cX9_init 33 = .ok (.putfield 21, 3) := by decide +kernel
theorem dX9_init_36 : decode cX9_init 36 = .ok (.aload_n 0, 1) := by decide +kernel
theorem dX9_init_37 : decode cX9_init 37 = .ok (.iconst 5, 1) := by decide +kernel
theorem dX9_init_38 : decode cX9_init 38 = .ok (.newarray .int, 2) := by decide +kernel
theorem dX9_init_40 : decode cX9_init 40 = .ok (.putfield 24, 3) := by decide +kernel
theorem dX9_init_43 : decode cX9_init 43 = .ok (.aload_n 0, 1) := by decide +kernel
theorem dX9_init_44 : decode cX9_init 44 = .ok (.iconst 5, 1) := by decide +kernel
theorem dX9_init_45 : decode cX9_init 45 = .ok (.newarray .int, 2) := by decide +kernel
theorem dX9_init_47 : decode cX9_init 47 = .ok (.putfield 27, 3) := by decide +kernel
theorem dX9_init_50 : decode cX9_init 50 = .ok (.aload_n 0, 1) := by decide +kernel
theorem dX9_init_51 : decode cX9_init 51 = .ok (.bipush 8, 2) := by decide +kernel
theorem dX9_init_53 : decode cX9_init 53 = .ok (.newarray .int, 2) := by decide +kernel
theorem dX9_init_55 : decode cX9_init 55 = .ok (.putfield 30, 3) := by decide +kernel
theorem dX9_init_58 : decode cX9_init 58 = .ok (.aload_n 0, 1) := by decide +kernel
theorem dX9_init_59 : decode cX9_init 59 = .ok (.bipush 6, 2) := by decide +kernel
theorem dX9_init_61 : decode cX9_init 61 = .ok (.newarray .int, 2) := by decide +kernel
theorem dX9_init_63 : decode cX9_init 63 = .ok (.putfield 33, 3) := by decide +kernel
theorem dX9_init_66 : decode cX9_init 66 = .ok (.aload_n 0, 1) := by decide +kernel
theorem dX9_init_67 : decode cX9_init 67 = .ok (.bipush 6, 2) := by decide +kernel
theorem dX9_init_69 : decode cX9_init 69 = .ok (.newarray .int, 2) := by decide +kernel
theorem dX9_init_71 : decode cX9_init 71 = .ok (.putfield 36, 3) := by decide +kernel
theorem dX9_init_74 : decode cX9_init 74 = .ok (.return_, 1) := by decide +kernel
theorem dX9_empty_0 : decode cX9_empty 0 = .ok (.aload_n 0, 1) := by decide +kernel
theorem dX9_empty_1 : decode cX9_empty 1 = .ok (.iconst 0, 1) := by decide +kernel
theorem dX9_empty_2 : decode cX9_empty 2 = .ok (.putfield 39, 3) := by decide +kernel
theorem dX9_empty_5 : decode cX9_empty 5 = .ok (.aload_n 0, 1) := by decide +kernel
theorem dX9_empty_6 : decode cX9_empty 6 = .ok (.iconst 0, 1) := by decide +kernel
theorem dX9_empty_7 : decode cX9_empty 7 = .ok (.putfield 43, 3) := by decide +kernel
theorem dX9_empty_10 : decode cX9_empty 10 = .ok (.aload_n 0, 1) := by decide +kernel
theorem dX9_empty_11 : decode cX9_empty 11 = .ok (.iconst 0, 1) := by decide +kernel
theorem dX9_empty_12 : decode cX9_empty 12 = .ok (.putfield 46, 3) := by decide +kernel
theorem dX9_empty_15 : decode cX9_empty 15 = .ok (.aload_n 0, 1) := by decide +kernel
theorem dX9_empty_16 : decode cX9_empty 16 = .ok (.iconst 0, 1) := by decide +kernel
theorem dX9_empty_17 : decode cX9_empty 17 = .ok (.putfield 49, 3) := by decide +kernel
theorem dX9_empty_20 : decode cX9_empty 20 = .ok (.aload_n 0, 1) := by decide +kernel
theorem dX9_empty_21 : decode cX9_empty 21 = .ok (.iconst 0, 1) := by decide +kernel
theorem dX9_empty_22 : decode cX9_empty 22 = .ok (.putfield 52, 3) := by decide +kernel
theorem dX9_empty_25 : decode cX9_empty 25 = .ok (.iconst 0, 1) := by decide +kernel
