theorem dX10_part_21 : decode cX10_part 21 = .ok (.getfield 265, 3) := by decide +kernel
theorem dX10_part_24 : decode cX10_part 24 = .ok (.goto 7, 3) := by decide +kernel
theorem dX10_part_27 : decode cX10_part 27 = .ok (.aload_n 0, 1) := by decide +kernel
theorem dX10_part_28 : decode cX10_part 28 = .ok (.getfield 50, 3) := by decide +kernel
theorem dX10_part_31 : decode cX10_part 31 = .ok (.lreturn, 1) := by decide +kernel
set_option maxRecDepth 20000 in
theorem ggX10_image_X10_fits : GoodIn wsX10_image wsX10_fits := goodIn_r _ [7] (by decide +kernel) (by decide +kernel)
set_option maxRecDepth 20000 in
theorem gX10_image_X10_fits : GoodIn wsX10_image (va_wsS RX10 93 yX10_fits wsX10_fits) := goodIn_app (goodIn_of _ (by decide +kernel)) ggX10_image_X10_fits
set_option maxRecDepth 20000 in
theorem ggX10_image_X10_refuse : GoodIn wsX10_image wsX10_refuse := goodIn_r _ [11, 12, 13, 14, 38, 39, 40, 41, 42, 43, 44, 45, 46, 47, 48, 49, 50, 51, 52, 53, 54] (by decide +kernel) (by decide +kernel)
set_option maxRecDepth 20000 in
theorem gX10_image_X10_refuse : GoodIn wsX10_image (wsV RX10 97 RX10 yX10_refuse wsX10_refuse) := goodIn_app (goodIn_of _ (by decide +kernel)) ggX10_image_X10_refuse
set_option maxRecDepth 20000 in
theorem ggX10_image_X9_copyFrom : GoodIn wsX10_image wsX9_copyFrom := goodIn_r _ [19, 20, 21, 22, 23, 24, 25, 26, 27, 28, 29, 30, 31, 32, 33, 34, 35, 36, 37, 55, 56, 57, 58, 59, 60, 61, 62, 63, 64, 65, 66, 67, 68] (by decide +kernel) (by decide +kernel)
set_option maxRecDepth 20000 in
theorem gX10_image_X9_copyFrom : GoodIn wsX10_image (wsV RX10 129 RX9 yX9_copyFrom wsX9_copyFrom) := goodIn_app (goodIn_of _ (by decide +kernel)) ggX10_image_X9_copyFrom
theorem dX10_image_0 : decode cX10_image 0 = .ok (.iload_n 1, 1) := by decide +kernel
theorem dX10_image_1 : decode cX10_image 1 = .ok (.iconst 2, 1) := by decide +kernel
theorem dX10_image_2 : decode cX10_image 2 = .ok (.invokestatic 93, 3) := by decide +kernel
theorem dX10_image_5 : decode cX10_image 5 = .ok (.ifCond .ne 10, 3) := by decide +kernel
theorem dX10_image_8 : decode cX10_image 8 = .ok (.aload_n 0, 1) := by decide +kernel
theorem dX10_image_9 : decode cX10_image 9 = .ok (.bipush (-2), 2) := by decide +kernel
theorem dX10_image_11 : decode cX10_image 11 = .ok (.invokevirtual 97, 3) := by decide +kernel
theorem dX10_image_14 : decode cX10_image 14 = .ok (.ireturn, 1) := by decide +kernel
theorem dX10_image_15 : decode cX10_image 15 = .ok (.aload_n 0, 1) := by decide +kernel
theorem dX10_image_16 : decode cX10_image 16 = .ok (.getfield 19, 3) := by decide +kernel
theorem dX10_image_19 : decode cX10_image 19 = .ok (.iload_n 1, 1) := by decide +kernel
theorem dX10_image_20 : decode cX10_image 20 = .ok (.aaload, 1) := by decide +kernel
theorem dX10_image_21 : decode cX10_image 21 = .ok (.aload_n 0, 1) := by decide +kernel
theorem dX10_image_22 : decode cX10_image 22 = .ok (.getfield 12, 3) := by decide +kernel
theorem dX10_image_25 : decode cX10_image 25 = .ok (.invokevirtual 129, 3) := by decide +kernel
theorem dX10_image_28 : decode cX10_image 28 = .ok (.aload_n 0, 1) := by decide +kernel
theorem dX10_image_29 : decode cX10_image 29 = .ok (.dup, 1) := by decide +kernel
theorem dX10_image_30 : decode cX10_image 30 = .ok (.getfield 268, 3) := by decide +kernel
theorem dX10_image_33 : decode cX10_image 33 = .ok (.iconst 1, 1) := by decide +kernel
theorem dX10_image_34 : decode cX10_image 34 = .ok (.iload_n 1, 1) := by decide +kernel
theorem dX10_image_35 : decode cX10_image 35 = .ok (.ishl, 1) := by decide +kernel
theorem dX10_image_36 : decode cX10_image 36 = .ok (.ior, 1) := by decide +kernel
theorem dX10_image_37 : decode cX10_image 37 = .ok (.putfield 268, 3) := by decide +kernel
theorem dX10_image_40 : decode cX10_image 40 = .ok (.iconst 1, 1) := by decide +kernel
theorem dX10_image_41 : decode cX10_image 41 = .ok (.ireturn, 1) := by decide +kernel
set_option maxRecDepth 20000 in
theorem ggX10_from_X10_fits : GoodIn wsX10_from wsX10_fits := goodIn_r _ [7] (by decide +kernel) (by decide +kernel)
set_option maxRecDepth 20000 in
theorem gX10_from_X10_fits : GoodIn wsX10_from (va_wsS RX10 93 yX10_fits wsX10_fits) := goodIn_app (goodIn_of _ (by decide +kernel)) ggX10_from_X10_fits
set_option maxRecDepth 20000 in
theorem ggX10_from_X10_refuse : GoodIn wsX10_from wsX10_refuse := goodIn_r _ [11, 12, 13, 14, 38, 39, 40, 41, 42, 43, 44, 45, 46, 47, 48, 49, 50, 51, 52, 53, 54] (by decide +kernel) (by decide +kernel)
set_option maxRecDepth 20000 in
theorem gX10_from_X10_refuse : GoodIn wsX10_from (wsV RX10 97 RX10 yX10_refuse wsX10_refuse) := goodIn_app (goodIn_of _ (by decide +kernel)) ggX10_from_X10_refuse
set_option maxRecDepth 20000 in
theorem ggX10_from_X9_copyFrom : GoodIn wsX10_from wsX9_copyFrom := goodIn_r _ [19, 20, 21, 22, 23, 24, 25, 26, 27, 28, 29, 30, 31, 32, 33, 34, 35, 36, 37, 55, 56, 57, 58, 59, 60, 61, 62, 63, 64, 65, 66, 67, 68] (by decide +kernel) (by decide +kernel)
set_option maxRecDepth 20000 in
theorem gX10_from_X9_copyFrom : GoodIn wsX10_from (wsV RX10 129 RX9 yX9_copyFrom wsX9_copyFrom) := goodIn_app (goodIn_of _ (by decide +kernel)) ggX10_from_X9_copyFrom
theorem dX10_from_0 : decode cX10_from 0 = .ok (.iload_n 1, 1) := by decide +kernel
theorem dX10_from_1 : decode cX10_from 1 = .ok (.iconst 2, 1) := by decide +kernel
theorem dX10_from_2 : decode cX10_from 2 = .ok (.invokestatic 93, 3) := by decide +kernel
theorem dX10_from_5 : decode cX10_from 5 = .ok (.ifCond .ne 10, 3) := by decide +kernel
theorem dX10_from_8 : decode cX10_from 8 = .ok (.aload_n 0, 1) := by decide +kernel
theorem dX10_from_9 : decode cX10_from 9 = .ok (.bipush (-2), 2) := by decide +kernel
theorem dX10_from_11 : decode cX10_from 11 = .ok (.invokevirtual 97, 3) := by decide +kernel
theorem dX10_from_14 : decode cX10_from 14 = .ok (.ireturn, 1) := by decide +kernel
theorem dX10_from_15 : decode cX10_from 15 = .ok (.aload_n 0, 1) := by decide +kernel
theorem dX10_from_16 : decode cX10_from 16 = .ok (.getfield 268, 3) := by decide +kernel
theorem dX10_from_19 : decode cX10_from 19 = .ok (.iload_n 1, 1) := by decide +kernel
theorem dX10_from_20 : decode cX10_from 20 = .ok (.ishr, 1) := by decide +kernel
theorem dX10_from_21 : decode cX10_from 21 = .ok (.iconst 1, 1) := by decide +kernel
theorem dX10_from_22 : decode cX10_from 22 = .ok (.iand, 1) := by decide +kernel
theorem dX10_from_23 : decode cX10_from 23 = .ok (.ifCond .ne 10, 3) := by decide +kernel
theorem dX10_from_26 : decode cX10_from 26 = .ok (.aload_n 0, 1) := by decide +kernel
theorem dX10_from_27 : decode cX10_from 27 = .ok (.bipush (-3), 2) := by decide +kernel
theorem dX10_from_29 : decode cX10_from 29 = .ok (.invokevirtual 97, 3) := by decide +kernel
theorem dX10_from_32 : decode cX10_from 32 = .ok (.ireturn, 1) := by decide +kernel
theorem dX10_from_33 : decode cX10_from 33 = .ok (.aload_n 0, 1) := by decide +kernel
theorem dX10_from_34 : decode cX10_from 34 = .ok (.getfield 12, 3) := by decide +kernel
theorem dX10_from_37 : decode cX10_from 37 = .ok (.aload_n 0, 1) := by decide +kernel
theorem dX10_from_38 : decode cX10_from 38 = .ok (.getfield 19, 3) := by decide +kernel
theorem dX10_from_41 : decode cX10_from 41 = .ok (.iload_n 1, 1) := by decide +kernel
theorem dX10_from_42 : decode cX10_from 42 = .ok (.aaload, 1) := by decide +kernel
theorem dX10_from_43 : decode cX10_from 43 = .ok (.invokevirtual 129, 3) := by decide +kernel
theorem dX10_from_46 : decode cX10_from 46 = .ok (.iconst 1, 1) := by decide +kernel
theorem dX10_from_47 : decode cX10_from 47 = .ok (.ireturn, 1) := by decide +kernel
set_option maxRecDepth 20000 in
theorem ggX10_status_X10_refuse : GoodIn wsX10_status wsX10_refuse := goodIn_r _ [8, 1, 2, 3, 9, 10, 11, 12, 13, 14, 15, 16, 17, 18, 19, 20, 21, 22, 23, 24, 25] (by decide +kernel) (by decide +kernel)
set_option maxRecDepth 20000 in
theorem gX10_status_X10_refuse : GoodIn wsX10_status (wsV RX10 97 RX10 yX10_refuse wsX10_refuse) := goodIn_app (goodIn_of _ (by decide +kernel)) ggX10_status_X10_refuse
theorem dX10_status_0 : decode cX10_status 0 = .ok (.iload_n 1, 1) := by decide +kernel
theorem dX10_status_1 : decode cX10_status 1 = .ok (.tableswitch 42 0 2 #[27, 32, 37], 27) := by decide +kernel
theorem dX10_status_28 : decode cX10_status 28 = .ok (.aload_n 0, 1) := by decide +kernel
theorem dX10_status_29 : decode cX10_status 29 = .ok (.getfield 271, 3) := by decide +kernel
theorem dX10_status_32 : decode cX10_status 32 = .ok (.ireturn, 1) := by decide +kernel
theorem dX10_status_33 : decode cX10_status 33 = .ok (.aload_n 0, 1) := by decide +kernel
theorem dX10_status_34 : decode cX10_status 34 = .ok (.getfield 274, 3) := by decide +kernel
theorem dX10_status_37 : decode cX10_status 37 = .ok (.ireturn, 1) := by decide +kernel
theorem dX10_status_38 : decode cX10_status 38 = .ok (.aload_n 0, 1) := by decide +kernel
theorem dX10_status_39 : decode cX10_status 39 = .ok (.getfield 277, 3) := by decide +kernel
theorem dX10_status_42 : decode cX10_status 42 = .ok (.ireturn, 1) := by decide +kernel
theorem dX10_status_43 : decode cX10_status 43 = .ok (.aload_n 0, 1) := by decide +kernel
theorem dX10_status_44 : decode cX10_status 44 = .ok (.bipush (-2), 2) := by decide +kernel
theorem dX10_status_46 : decode cX10_status 46 = .ok (.invokevirtual 97, 3) := by decide +kernel
theorem dX10_status_49 : decode cX10_status 49 = .ok (.pop, 1) := by decide +kernel
theorem dX10_status_50 : decode cX10_status 50 = .ok (.iconst (-1), 1) := by decide +kernel
theorem dX10_status_51 : decode cX10_status 51 = .ok (.ireturn, 1) := by decide +kernel
set_option maxRecDepth 20000 in
theorem ggX10_count_X10_fits : GoodIn wsX10_count wsX10_fits := goodIn_r _ [4] (by decide +kernel) (by decide +kernel)
set_option maxRecDepth 20000 in
theorem gX10_count_X10_fits : GoodIn wsX10_count (va_wsS RX10 93 yX10_fits wsX10_fits) := goodIn_app (goodIn_of _ (by decide +kernel)) ggX10_count_X10_fits
set_option maxRecDepth 20000 in
theorem ggX10_count_X10_refuse : GoodIn wsX10_count wsX10_refuse := goodIn_r _ [8, 9, 10, 11, 38, 39, 40, 41, 42, 43, 44, 45, 46, 47, 48, 49, 50, 51, 52, 53, 54] (by decide +kernel) (by decide +kernel)
set_option maxRecDepth 20000 in
theorem gX10_count_X10_refuse : GoodIn wsX10_count (wsV RX10 97 RX10 yX10_refuse wsX10_refuse) := goodIn_app (goodIn_of _ (by decide +kernel)) ggX10_count_X10_refuse
set_option maxRecDepth 20000 in
theorem ggX10_count_X10_howMany : GoodIn wsX10_count wsX10_howMany := goodIn_r _ [15, 16, 17, 18, 19, 20, 21, 22, 23, 24, 25, 26, 27, 28, 29, 30, 31, 32, 33, 34, 35, 36, 37, 38, 39, 40, 41, 42, 43, 44, 45, 46, 47, 48, 49, 50, 51, 52, 53, 54, 55, 56, 57, 58, 59, 60, 61, 62, 63, 64, 65, 66, 67, 68, 69, 70, 71, 72, 73, 74, 75] (by decide +kernel) (by decide +kernel)
set_option maxRecDepth 20000 in
theorem gX10_count_X10_howMany : GoodIn wsX10_count (wsV RX10 280 RX10 yX10_howMany wsX10_howMany) := goodIn_app (goodIn_of _ (by decide +kernel)) ggX10_count_X10_howMany
theorem dX10_count_0 : decode cX10_count 0 = .ok (.iload_n 1, 1) := by decide +kernel
theorem dX10_count_1 : decode cX10_count 1 = .ok (.bipush 7, 2) := by decide +kernel
theorem dX10_count_3 : decode cX10_count 3 = .ok (.invokestatic 93, 3) := by decide +kernel
theorem dX10_count_6 : decode cX10_count 6 = .ok (.ifCond .ne 10, 3) := by decide +kernel
theorem dX10_count_9 : decode cX10_count 9 = .ok (.aload_n 0, 1) := by decide +kernel
theorem dX10_count_10 : decode cX10_count 10 = .ok (.bipush (-2), 2) := by decide +kernel
theorem dX10_count_12 : decode cX10_count 12 = .ok (.invokevirtual 97, 3) := by decide +kernel
theorem dX10_count_15 : decode cX10_count 15 = .ok (.ireturn, 1) := by decide +kernel
theorem dX10_count_16 : decode cX10_count 16 = .ok (.aload_n 0, 1) := by decide +kernel
theorem dX10_count_17 : decode cX10_count 17 = .ok (.iload_n 1, 1) := by decide +kernel
theorem dX10_count_18 : decode cX10_count 18 = .ok (.invokevirtual 280, 3) := by decide +kernel
theorem dX10_count_21 : decode cX10_count 21 = .ok (.ireturn, 1) := by decide +kernel
set_option maxRecDepth 20000 in
theorem ggX10_digest_X10_howMany : GoodIn wsX10_digest wsX10_howMany := goodIn_r _ [10, 3, 11, 12, 13, 14, 15, 16, 17, 18, 19, 20, 21, 22, 23, 24, 25, 26, 27, 28, 29, 30, 31, 52, 53, 54, 55, 56, 57, 58, 59, 60, 61, 62, 63, 64, 65, 66, 67, 68, 69, 70, 71, 72, 73, 74, 75, 76, 77, 78, 79, 80, 81, 82, 83, 84, 85, 86, 87, 88, 89] (by decide +kernel) (by decide +kernel)
set_option maxRecDepth 20000 in
theorem gX10_digest_X10_howMany : GoodIn wsX10_digest (wsV RX10 280 RX10 yX10_howMany wsX10_howMany) := goodIn_app (goodIn_of _ (by decide +kernel)) ggX10_digest_X10_howMany
set_option maxRecDepth 20000 in
theorem ggX10_digest_X9_digestFrom : GoodIn wsX10_digest wsX9_digestFrom := goodIn_r _ [35, 36, 37, 38, 39, 40, 41, 42, 43, 44, 45, 46, 47, 48, 49, 50, 21, 51, 23, 69, 70, 71, 72, 73, 74, 75, 76, 77, 78, 79, 80, 81, 82] (by decide +kernel) (by decide +kernel)
set_option maxRecDepth 20000 in
theorem gX10_digest_X9_digestFrom : GoodIn wsX10_digest (wsV RX10 287 RX9 yX9_digestFrom wsX9_digestFrom) := goodIn_app (goodIn_of _ (by decide +kernel)) ggX10_digest_X9_digestFrom
theorem dX10_digest_0 : decode cX10_digest 0 = .ok (.ldc2_w 283, 3) := by decide +kernel
theorem dX10_digest_3 : decode cX10_digest 3 = .ok (.lstore_n 1, 1) := by decide +kernel
theorem dX10_digest_4 : decode cX10_digest 4 = .ok (.iconst 0, 1) := by decide +kernel
theorem dX10_digest_5 : decode cX10_digest 5 = .ok (.istore_n 3, 1) := by decide +kernel
theorem dX10_digest_6 : decode cX10_digest 6 = .ok (.iload_n 3, 1) := by decide +kernel
theorem dX10_digest_7 : decode cX10_digest 7 = .ok (.bipush 7, 2) := by decide +kernel
theorem dX10_digest_9 : decode cX10_digest 9 = .ok (.if_icmp .ge 22, 3) := by decide +kernel
theorem dX10_digest_12 : decode cX10_digest 12 = .ok (.ldc2_w 285, 3) := by decide +kernel
theorem dX10_digest_15 : decode cX10_digest 15 = .ok (.lload_n 1, 1) := by decide +kernel
theorem dX10_digest_16 : decode cX10_digest 16 = .ok (.lmul, 1) := by decide +kernel
theorem dX10_digest_17 : decode cX10_digest 17 = .ok (.aload_n 0, 1) := by decide +kernel
theorem dX10_digest_18 : decode cX10_digest 18 = .ok (.iload_n 3, 1) := by decide +kernel
theorem dX10_digest_19 : decode cX10_digest 19 = .ok (.invokevirtual 280, 3) := by decide +kernel
theorem dX10_digest_22 : decode cX10_digest 22 = .ok (.i2l, 1) := by decide +kernel
theorem dX10_digest_23 : decode cX10_digest 23 = .ok (.ladd, 1) := by decide +kernel
theorem dX10_digest_24 : decode cX10_digest 24 = .ok (.lstore_n 1, 1) := by decide +kernel
theorem dX10_digest_25 : decode cX10_digest 25 = .ok (.iinc 3 1, 3) := by decide +kernel
theorem dX10_digest_28 : decode cX10_digest 28 = .ok (.goto (-22), 3) := by decide +kernel
theorem dX10_digest_31 : decode cX10_digest 31 = .ok (.aload_n 0, 1) := by decide +kernel
theorem dX10_digest_32 : decode cX10_digest 32 = .ok (.getfield 12, 3) := by decide +kernel
theorem dX10_digest_35 : decode cX10_digest 35 = .ok (.lload_n 1, 1) := by decide +kernel
theorem dX10_digest_36 : decode cX10_digest 36 = .ok (.invokevirtual 287, 3) := by decide +kernel
theorem dX10_digest_39 : decode cX10_digest 39 = .ok (.lstore_n 1, 1) := by decide +kernel
theorem dX10_digest_40 : decode cX10_digest 40 = .ok (.ldc2_w 285, 3) := by decide +kernel
theorem dX10_digest_43 : decode cX10_digest 43 = .ok (.lload_n 1, 1) := by decide +kernel
theorem dX10_digest_44 : decode cX10_digest 44 = .ok (.lmul, 1) := by decide +kernel
theorem dX10_digest_45 : decode cX10_digest 45 = .ok (.aload_n 0, 1) := by decide +kernel
theorem dX10_digest_46 : decode cX10_digest 46 = .ok (.getfield 265, 3) := by decide +kernel
theorem dX10_digest_49 : decode cX10_digest 49 = .ok (.ladd, 1) := by decide +kernel
theorem dX10_digest_50 : decode cX10_digest 50 = .ok (.lstore_n 1, 1) := by decide +kernel
theorem dX10_digest_51 : decode cX10_digest 51 = .ok (.ldc2_w 285, 3) := by decide +kernel
theorem dX10_digest_54 : decode cX10_digest 54 = .ok (.lload_n 1, 1) := by decide +kernel
theorem dX10_digest_55 : decode cX10_digest 55 = .ok (.lmul, 1) := by decide +kernel
theorem dX10_digest_56 : decode cX10_digest 56 = .ok (.aload_n 0, 1) := by decide +kernel
theorem dX10_digest_57 : decode cX10_digest 57 = .ok (.getfield 50, 3) := by decide +kernel
theorem dX10_digest_60 : decode cX10_digest 60 = .ok (.ladd, 1) := by decide +kernel
theorem dX10_digest_61 : decode cX10_digest 61 = .ok (.lreturn, 1) := by decide +kernel
theorem dX10_fits_0 : decode cX10_fits 0 = .ok (.iload_n 0, 1) := by decide +kernel
theorem dX10_fits_1 : decode cX10_fits 1 = .ok (.ifCond .lt 12, 3) := by decide +kernel
theorem dX10_fits_4 : decode cX10_fits 4 = .ok (.iload_n 0, 1) := by decide +kernel
theorem dX10_fits_5 : decode cX10_fits 5 = .ok (.iload_n 1, 1) := by decide +kernel
theorem dX10_fits_6 : decode cX10_fits 6 = .ok (.if_icmp .ge 7, 3) := by decide +kernel
theorem dX10_fits_9 : decode cX10_fits 9 = .ok (.iconst 1, 1) := by decide +kernel
theorem dX10_fits_10 : decode cX10_fits 10 = .ok (.goto 4, 3) := by decide +kernel
theorem dX10_fits_13 : decode cX10_fits 13 = .ok (.iconst 0, 1) := by decide +kernel
theorem dX10_fits_14 : decode cX10_fits 14 = .ok (.ireturn, 1) := by decide +kernel
set_option maxRecDepth 20000 in
theorem ggX10_isWord_X10_fits : GoodIn wsX10_isWord wsX10_fits := goodIn_r _ [6] (by decide +kernel) (by decide +kernel)
set_option maxRecDepth 20000 in
theorem gX10_isWord_X10_fits : GoodIn wsX10_isWord (va_wsS RX10 93 yX10_fits wsX10_fits) := goodIn_app (goodIn_of _ (by decide +kernel)) ggX10_isWord_X10_fits
theorem dX10_isWord_0 : decode cX10_isWord 0 = .ok (.iload_n 1, 1) := by decide +kernel
theorem dX10_isWord_1 : decode cX10_isWord 1 = .ok (.aload_n 0, 1) := by decide +kernel
theorem dX10_isWord_2 : decode cX10_isWord 2 = .ok (.getfield 12, 3) := by decide +kernel
theorem dX10_isWord_5 : decode cX10_isWord 5 = .ok (.getfield 86, 3) := by decide +kernel
theorem dX10_isWord_8 : decode cX10_isWord 8 = .ok (.invokestatic 93, 3) := by decide +kernel
theorem dX10_isWord_11 : decode cX10_isWord 11 = .ok (.ireturn, 1) := by decide +kernel
set_option maxRecDepth 20000 in
theorem ggX10_isPerson_X10_fits : GoodIn wsX10_isPerson wsX10_fits := goodIn_r _ [6] (by decide +kernel) (by decide +kernel)
set_option maxRecDepth 20000 in
theorem gX10_isPerson_X10_fits : GoodIn wsX10_isPerson (va_wsS RX10 93 yX10_fits wsX10_fits) := goodIn_app (goodIn_of _ (by decide +kernel)) ggX10_isPerson_X10_fits
theorem dX10_isPerson_0 : decode cX10_isPerson 0 = .ok (.iload_n 1, 1) := by decide +kernel
theorem dX10_isPerson_1 : decode cX10_isPerson 1 = .ok (.aload_n 0, 1) := by decide +kernel
theorem dX10_isPerson_2 : decode cX10_isPerson 2 = .ok (.getfield 12, 3) := by decide +kernel
theorem dX10_isPerson_5 : decode cX10_isPerson 5 = .ok (.getfield 112, 3) := by decide +kernel
theorem dX10_isPerson_8 : decode cX10_isPerson 8 = .ok (.invokestatic 93, 3) := by decide +kernel
theorem dX10_isPerson_11 : decode cX10_isPerson 11 = .ok (.ireturn, 1) := by decide +kernel
theorem dX10_refuse_0 : decode cX10_refuse 0 = .ok (.iload_n 1, 1) := by decide +kernel
theorem dX10_refuse_1 : decode cX10_refuse 1 = .ok (.bipush (-2), 2) := by decide +kernel
theorem dX10_refuse_3 : decode cX10_refuse 3 = .ok (.if_icmp .ne 16, 3) := by decide +kernel
theorem dX10_refuse_6 : decode cX10_refuse 6 = .ok (.aload_n 0, 1) := by decide +kernel
theorem dX10_refuse_7 : decode cX10_refuse 7 = .ok (.dup, 1) := by decide +kernel
theorem dX10_refuse_8 : decode cX10_refuse 8 = .ok (.getfield 271, 3) := by decide +kernel
theorem dX10_refuse_11 : decode cX10_refuse 11 = .ok (.iconst 1, 1) := by decide +kernel
theorem dX10_refuse_12 : decode cX10_refuse 12 = .ok (.iadd, 1) := by decide +kernel
theorem dX10_refuse_13 : decode cX10_refuse 13 = .ok (.putfield 271, 3) := by decide +kernel
theorem dX10_refuse_16 : decode cX10_refuse 16 = .ok (.goto 32, 3) := by decide +kernel
theorem dX10_refuse_19 : decode cX10_refuse 19 = .ok (.iload_n 1, 1) := by decide +kernel
theorem dX10_refuse_20 : decode cX10_refuse 20 = .ok (.bipush (-3), 2) := by decide +kernel
theorem dX10_refuse_22 : decode cX10_refuse 22 = .ok (.if_icmp .ne 16, 3) := by decide +kernel
theorem dX10_refuse_25 : decode cX10_refuse 25 = .ok (.aload_n 0, 1) := by decide +kernel
theorem dX10_refuse_26 : decode cX10_refuse 26 = .ok (.dup, 1) := by decide +kernel
theorem dX10_refuse_27 : decode cX10_refuse 27 = .ok (.getfield 274, 3) := by decide +kernel
theorem dX10_refuse_30 : decode cX10_refuse 30 = .ok (.iconst 1, 1) := by decide +kernel
theorem dX10_refuse_31 : decode cX10_refuse 31 = .ok (.iadd, 1) := by decide +kernel
theorem dX10_refuse_32 : decode cX10_refuse 32 = .ok (.putfield 274, 3) := by decide +kernel
theorem dX10_refuse_35 : decode cX10_refuse 35 = .ok (.goto 13, 3) := by decide +kernel
theorem dX10_refuse_38 : decode cX10_refuse 38 = .ok (.aload_n 0, 1) := by decide +kernel
theorem dX10_refuse_39 : decode cX10_refuse 39 = .ok (.dup, 1) := by decide +kernel
theorem dX10_refuse_40 : decode cX10_refuse 40 = .ok (.getfield 277, 3) := by decide +kernel
theorem dX10_refuse_43 : decode cX10_refuse 43 = .ok (.iconst 1, 1) := by decide +kernel
theorem dX10_refuse_44 : decode cX10_refuse 44 = .ok (.iadd, 1) := by decide +kernel
theorem dX10_refuse_45 : decode cX10_refuse 45 = .ok (.putfield 277, 3) := by decide +kernel
theorem dX10_refuse_48 : decode cX10_refuse 48 = .ok (.iload_n 1, 1) := by decide +kernel
theorem dX10_refuse_49 : decode cX10_refuse 49 = .ok (.ireturn, 1) := by decide +kernel
set_option maxRecDepth 20000 in
theorem ggX10_howMany_X9_alikePairs : GoodIn wsX10_howMany wsX9_alikePairs := goodIn_r _ [13, 14, 15, 16, 17, 18, 19, 20, 21, 40, 41, 42, 43, 44, 45, 46, 47, 48, 49, 50, 51, 52, 53] (by decide +kernel) (by decide +kernel)
set_option maxRecDepth 20000 in
theorem gX10_howMany_X9_alikePairs : GoodIn wsX10_howMany (wsV RX10 291 RX9 yX9_alikePairs wsX9_alikePairs) := goodIn_app (goodIn_of _ (by decide +kernel)) ggX10_howMany_X9_alikePairs
set_option maxRecDepth 20000 in
theorem ggX10_howMany_J6_bitCount_0f7a4 : GoodIn wsX10_howMany wsJ6_bitCount_0f7a4 := goodIn_r _ [18, 19, 20, 21] (by decide +kernel) (by decide +kernel)
set_option maxRecDepth 20000 in
theorem gX10_howMany_J6_bitCount_0f7a4 : GoodIn wsX10_howMany (va_wsS RX10 156 yJ6_bitCount_0f7a4 wsJ6_bitCount_0f7a4) := goodIn_app (goodIn_of _ (by decide +kernel)) ggX10_howMany_J6_bitCount_0f7a4
theorem dX10_howMany_0 : decode cX10_howMany 0 = .ok (.iload_n 1, 1) := by decide +kernel
theorem dX10_howMany_1 : decode cX10_howMany 1 = .ok (.tableswitch 90 0 5 #[39, 47, 55, 63, 74, 82], 39) := by decide +kernel
theorem dX10_howMany_40 : decode cX10_howMany 40 = .ok (.aload_n 0, 1) := by decide +kernel
theorem dX10_howMany_41 : decode cX10_howMany 41 = .ok (.getfield 12, 3) := by decide +kernel
theorem dX10_howMany_44 : decode cX10_howMany 44 = .ok (.getfield 86, 3) := by decide +kernel
theorem dX10_howMany_47 : decode cX10_howMany 47 = .ok (.ireturn, 1) := by decide +kernel
theorem dX10_howMany_48 : decode cX10_howMany 48 = .ok (.aload_n 0, 1) := by decide +kernel
theorem dX10_howMany_49 : decode cX10_howMany 49 = .ok (.getfield 12, 3) := by decide +kernel
theorem dX10_howMany_52 : decode cX10_howMany 52 = .ok (.getfield 112, 3) := by decide +kernel
theorem dX10_howMany_55 : decode cX10_howMany 55 = .ok (.ireturn, 1) := by decide +kernel
theorem dX10_howMany_56 : decode cX10_howMany 56 = .ok (.aload_n 0, 1) := by decide +kernel
theorem dX10_howMany_57 : decode cX10_howMany 57 = .ok (.getfield 12, 3) := by decide +kernel
theorem dX10_howMany_60 : decode cX10_howMany 60 = .ok (.invokevirtual 291, 3) := by decide +kernel
theorem dX10_howMany_63 : decode cX10_howMany 63 = .ok (.ireturn, 1) := by decide +kernel
theorem dX10_howMany_64 : decode cX10_howMany 64 = .ok (.aload_n 0, 1) := by decide +kernel
theorem dX10_howMany_65 : decode cX10_howMany 65 = .ok (.getfield 12, 3) := by decide +kernel
theorem dX10_howMany_68 : decode cX10_howMany 68 = .ok (.getfield 153, 3) := by decide +kernel
theorem dX10_howMany_71 : decode cX10_howMany 71 = .ok (.invokestatic 156, 3) := by decide +kernel
theorem dX10_howMany_74 : decode cX10_howMany 74 = .ok (.ireturn, 1) := by decide +kernel
theorem dX10_howMany_75 : decode cX10_howMany 75 = .ok (.aload_n 0, 1) := by decide +kernel
theorem dX10_howMany_76 : decode cX10_howMany 76 = .ok (.getfield 12, 3) := by decide +kernel
theorem dX10_howMany_79 : decode cX10_howMany 79 = .ok (.getfield 198, 3) := by decide +kernel
theorem dX10_howMany_82 : decode cX10_howMany 82 = .ok (.ireturn, 1) := by decide +kernel
theorem dX10_howMany_83 : decode cX10_howMany 83 = .ok (.aload_n 0, 1) := by decide +kernel
theorem dX10_howMany_84 : decode cX10_howMany 84 = .ok (.getfield 12, 3) := by decide +kernel
theorem dX10_howMany_87 : decode cX10_howMany 87 = .ok (.getfield 161, 3) := by decide +kernel
theorem dX10_howMany_90 : decode cX10_howMany 90 = .ok (.ireturn, 1) := by decide +kernel
theorem dX10_howMany_91 : decode cX10_howMany 91 = .ok (.aload_n 0, 1) := by decide +kernel
theorem dX10_howMany_92 : decode cX10_howMany 92 = .ok (.getfield 32, 3) := by decide +kernel
theorem dX10_howMany_95 : decode cX10_howMany 95 = .ok (.getfield 119, 3) := by decide +kernel
theorem dX10_howMany_98 : decode cX10_howMany 98 = .ok (.ireturn, 1) := by decide +kernel
set_option maxRecDepth 20000 in
theorem ggX10_answerBits_X0_chimes : GoodIn wsX10_answerBits wsX0_chimes := goodIn_r _ [12, 13, 14, 15, 16, 17, 18, 19, 20, 21, 7, 22, 23, 24, 25, 26, 27, 28, 29, 30, 31, 32, 33, 34, 35, 36, 37, 38, 39, 81, 82, 83, 84, 85, 86, 87, 88, 89, 90, 91, 92, 93, 94] (by decide +kernel) (by decide +kernel)
set_option maxRecDepth 20000 in
theorem gX10_answerBits_X0_chimes_u179X0 : GoodIn wsX10_answerBits (va_wsO RX10 179 RX0 "OnlyRhymes$Rhymer" ⟨"OnlyRhymes$Rhymer", "chimes", "(LOnlyRhymes$Tongue;II)I"⟩ yX0_chimes wsX0_chimes) := goodIn_app (goodIn_of _ (by decide +kernel)) ggX10_answerBits_X0_chimes
set_option maxRecDepth 20000 in
theorem ggX10_answerBits_X3_chimes : GoodIn wsX10_answerBits wsX3_chimes := goodIn_r _ [43, 44, 7, 45, 23, 24, 25, 26, 27, 28, 29, 30, 31, 32, 33, 81, 82, 83, 84, 85, 86, 87, 88, 89, 90, 91, 92, 93, 94] (by decide +kernel) (by decide +kernel)
set_option maxRecDepth 20000 in
theorem gX10_answerBits_X3_chimes_u179X3 : GoodIn wsX10_answerBits (va_wsO RX10 179 RX3 "OnlyRhymes$Rhymer" ⟨"OnlyRhymes$Rhymer", "chimes", "(LOnlyRhymes$Tongue;II)I"⟩ yX3_chimes wsX3_chimes) := goodIn_app (goodIn_of _ (by decide +kernel)) ggX10_answerBits_X3_chimes
set_option maxRecDepth 20000 in
theorem ggX10_answerBits_X4_chimes : GoodIn wsX10_answerBits wsX4_chimes := goodIn_r _ [18, 19, 20, 21, 7, 22, 23, 24, 25, 26, 27, 28, 29, 30, 31, 32, 33, 34, 81, 82, 83, 84, 85, 86, 87, 88, 89, 90, 91, 92, 93, 94] (by decide +kernel) (by decide +kernel)
set_option maxRecDepth 20000 in
theorem gX10_answerBits_X4_chimes_u179X4 : GoodIn wsX10_answerBits (va_wsO RX10 179 RX4 "OnlyRhymes$Rhymer" ⟨"OnlyRhymes$Rhymer", "chimes", "(LOnlyRhymes$Tongue;II)I"⟩ yX4_chimes wsX4_chimes) := goodIn_app (goodIn_of _ (by decide +kernel)) ggX10_answerBits_X4_chimes
set_option maxRecDepth 20000 in
theorem ggX10_answerBits_X5_chimes : GoodIn wsX10_answerBits wsX5_chimes := goodIn_r _ [50, 51, 52, 14, 53, 16, 17, 18, 19, 20, 21, 7, 22, 23, 24, 25, 26, 27, 28, 29, 30, 31, 32, 33, 34, 54, 36, 37, 38, 39, 81, 82, 83, 84, 85, 86, 87, 88, 89, 90, 91, 92, 93, 94] (by decide +kernel) (by decide +kernel)
set_option maxRecDepth 20000 in
theorem gX10_answerBits_X5_chimes_u179X5 : GoodIn wsX10_answerBits (va_wsO RX10 179 RX5 "OnlyRhymes$Rhymer" ⟨"OnlyRhymes$Rhymer", "chimes", "(LOnlyRhymes$Tongue;II)I"⟩ yX5_chimes wsX5_chimes) := goodIn_app (goodIn_of _ (by decide +kernel)) ggX10_answerBits_X5_chimes
set_option maxRecDepth 20000 in
theorem ggX10_answerBits_X7_chimes : GoodIn wsX10_answerBits wsX7_chimes := goodIn_r _ [25, 26, 27, 28, 29, 30, 31, 32, 33, 81, 82, 83, 84, 85, 86, 87, 88, 89, 90, 91, 92, 93, 94] (by decide +kernel) (by decide +kernel)
set_option maxRecDepth 20000 in
theorem gX10_answerBits_X7_chimes : GoodIn wsX10_answerBits (wsV RX10 179 RX7 yX7_chimes wsX7_chimes) := goodIn_app (goodIn_of _ (by decide +kernel)) ggX10_answerBits_X7_chimes
set_option maxRecDepth 20000 in
theorem ggX10_answerBits_X8_chimes : GoodIn wsX10_answerBits wsX8_chimes := goodIn_r _ [60, 61, 62, 63, 41, 42, 43, 44, 7, 45, 23, 24, 25, 26, 27, 28, 29, 30, 31, 32, 33, 81, 82, 83, 84, 85, 86, 87, 88, 89, 90, 91, 92, 93, 94] (by decide +kernel) (by decide +kernel)
set_option maxRecDepth 20000 in
theorem gX10_answerBits_X8_chimes_u179X8 : GoodIn wsX10_answerBits (va_wsO RX10 179 RX8 "OnlyRhymes$Rhymer" ⟨"OnlyRhymes$Rhymer", "chimes", "(LOnlyRhymes$Tongue;II)I"⟩ yX8_chimes wsX8_chimes) := goodIn_app (goodIn_of _ (by decide +kernel)) ggX10_answerBits_X8_chimes
theorem dX10_answerBits_0 : decode cX10_answerBits 0 = .ok (.aload_n 0, 1) := by decide +kernel
theorem dX10_answerBits_1 : decode cX10_answerBits 1 = .ok (.getfield 25, 3) := by decide +kernel
theorem dX10_answerBits_4 : decode cX10_answerBits 4 = .ok (.aload_n 0, 1) := by decide +kernel
theorem dX10_answerBits_5 : decode cX10_answerBits 5 = .ok (.getfield 12, 3) := by decide +kernel
theorem dX10_answerBits_8 : decode cX10_answerBits 8 = .ok (.getfield 173, 3) := by decide +kernel
theorem dX10_answerBits_11 : decode cX10_answerBits 11 = .ok (.iload_n 1, 1) := by decide +kernel
theorem dX10_answerBits_12 : decode cX10_answerBits 12 = .ok (.iaload, 1) := by decide +kernel
theorem dX10_answerBits_13 : decode cX10_answerBits 13 = .ok (.aaload, 1) := by decide +kernel
theorem dX10_answerBits_14 : decode cX10_answerBits 14 = .ok (.aload_n 0, 1) := by decide +kernel
theorem dX10_answerBits_15 : decode cX10_answerBits 15 = .ok (.getfield 12, 3) := by decide +kernel
theorem dX10_answerBits_18 : decode cX10_answerBits 18 = .ok (.aload_n 0, 1) := by decide +kernel
theorem dX10_answerBits_19 : decode cX10_answerBits 19 = .ok (.getfield 12, 3) := by decide +kernel
theorem dX10_answerBits_22 : decode cX10_answerBits 22 = .ok (.getfield 176, 3) := by decide +kernel
theorem dX10_answerBits_25 : decode cX10_answerBits 25 = .ok (.iload_n 1, 1) := by decide +kernel
theorem dX10_answerBits_26 : decode cX10_answerBits 26 = .ok (.iaload, 1) := by decide +kernel
theorem dX10_answerBits_27 : decode cX10_answerBits 27 = .ok (.iload_n 2, 1) := by decide +kernel
theorem dX10_answerBits_28 : decode cX10_answerBits 28 = .ok (.invokevirtual 179, 3) := by decide +kernel
theorem dX10_answerBits_31 : decode cX10_answerBits 31 = .ok (.aload_n 0, 1) := by decide +kernel
theorem dX10_answerBits_32 : decode cX10_answerBits 32 = .ok (.getfield 12, 3) := by decide +kernel
theorem dX10_answerBits_35 : decode cX10_answerBits 35 = .ok (.getfield 153, 3) := by decide +kernel
theorem dX10_answerBits_38 : decode cX10_answerBits 38 = .ok (.iconst (-1), 1) := by decide +kernel
theorem dX10_answerBits_39 : decode cX10_answerBits 39 = .ok (.ixor, 1) := by decide +kernel
theorem dX10_answerBits_40 : decode cX10_answerBits 40 = .ok (.iand, 1) := by decide +kernel
theorem dX10_answerBits_41 : decode cX10_answerBits 41 = .ok (.ireturn, 1) := by decide +kernel
set_option maxRecDepth 20000 in
theorem ggX10_sayableBits_X10_answerBits : GoodIn wsX10_sayableBits wsX10_answerBits := goodIn_r _ [6, 7, 1, 8, 9, 10, 11, 12, 13, 14, 15, 16, 17, 18, 19, 20, 21, 22, 23, 24, 25, 26, 27, 28, 29, 30, 31, 32, 33, 34, 35, 36, 37, 38, 39, 40, 41, 42, 43, 44, 45, 46, 47, 48, 49, 50, 51, 52, 53, 54, 55, 56, 57, 58, 59, 60, 61, 62, 63, 64, 65, 66, 67, 68, 73, 74, 75, 76, 77, 78, 79, 80, 81, 82, 83, 84, 85, 86, 87, 88, 89, 90, 91, 92, 93, 94, 95, 96, 97, 98, 99, 100, 101, 102, 103] (by decide +kernel) (by decide +kernel)
set_option maxRecDepth 20000 in
theorem gX10_sayableBits_X10_answerBits : GoodIn wsX10_sayableBits (wsV RX10 143 RX10 yX10_answerBits wsX10_answerBits) := goodIn_app (goodIn_of _ (by decide +kernel)) ggX10_sayableBits_X10_answerBits
set_option maxRecDepth 20000 in
theorem ggX10_sayableBits_X9_meaningsOf : GoodIn wsX10_sayableBits wsX9_meaningsOf := goodIn_r _ [72, 37, 44, 90, 91, 92, 93, 94, 95, 96, 97, 98, 99, 100, 101, 102, 103] (by decide +kernel) (by decide +kernel)
set_option maxRecDepth 20000 in
theorem gX10_sayableBits_X9_meaningsOf : GoodIn wsX10_sayableBits (wsV RX10 295 RX9 yX9_meaningsOf wsX9_meaningsOf) := goodIn_app (goodIn_of _ (by decide +kernel)) ggX10_sayableBits_X9_meaningsOf
theorem dX10_sayableBits_0 : decode cX10_sayableBits 0 = .ok (.aload_n 0, 1) := by decide +kernel
theorem dX10_sayableBits_1 : decode cX10_sayableBits 1 = .ok (.getfield 12, 3) := by decide +kernel
theorem dX10_sayableBits_4 : decode cX10_sayableBits 4 = .ok (.aload_n 0, 1) := by decide +kernel
theorem dX10_sayableBits_5 : decode cX10_sayableBits 5 = .ok (.iload_n 1, 1) := by decide +kernel
theorem dX10_sayableBits_6 : decode cX10_sayableBits 6 = .ok (.iload_n 2, 1) := by decide +kernel
theorem dX10_sayableBits_7 : decode cX10_sayableBits 7 = .ok (.invokevirtual 143, 3) := by decide +kernel
theorem dX10_sayableBits_10 : decode cX10_sayableBits 10 = .ok (.invokevirtual 295, 3) := by decide +kernel
theorem dX10_sayableBits_13 : decode cX10_sayableBits 13 = .ok (.ireturn, 1) := by decide +kernel
set_option maxRecDepth 20000 in
theorem ggX10_sayableByAnyWord_X0_chimes : GoodIn wsX10_sayableByAnyWord wsX0_chimes := goodIn_r _ [12, 13, 14, 15, 16, 17, 18, 19, 20, 21, 7, 22, 23, 24, 25, 26, 27, 28, 29, 30, 31, 32, 33, 34, 35, 36, 37, 38, 39, 85, 86, 87, 88, 89, 90, 91, 92, 93, 94, 95, 96, 97, 98] (by decide +kernel) (by decide +kernel)
set_option maxRecDepth 20000 in
theorem gX10_sayableByAnyWord_X0_chimes_u179X0 : GoodIn wsX10_sayableByAnyWord (va_wsO RX10 179 RX0 "OnlyRhymes$Rhymer" ⟨"OnlyRhymes$Rhymer", "chimes", "(LOnlyRhymes$Tongue;II)I"⟩ yX0_chimes wsX0_chimes) := goodIn_app (goodIn_of _ (by decide +kernel)) ggX10_sayableByAnyWord_X0_chimes
set_option maxRecDepth 20000 in
theorem ggX10_sayableByAnyWord_X3_chimes : GoodIn wsX10_sayableByAnyWord wsX3_chimes := goodIn_r _ [43, 44, 7, 45, 23, 24, 25, 26, 27, 28, 29, 30, 31, 32, 33, 85, 86, 87, 88, 89, 90, 91, 92, 93, 94, 95, 96, 97, 98] (by decide +kernel) (by decide +kernel)
set_option maxRecDepth 20000 in
theorem gX10_sayableByAnyWord_X3_chimes_u179X3 : GoodIn wsX10_sayableByAnyWord (va_wsO RX10 179 RX3 "OnlyRhymes$Rhymer" ⟨"OnlyRhymes$Rhymer", "chimes", "(LOnlyRhymes$Tongue;II)I"⟩ yX3_chimes wsX3_chimes) := goodIn_app (goodIn_of _ (by decide +kernel)) ggX10_sayableByAnyWord_X3_chimes
set_option maxRecDepth 20000 in
theorem ggX10_sayableByAnyWord_X4_chimes : GoodIn wsX10_sayableByAnyWord wsX4_chimes := goodIn_r _ [18, 19, 20, 21, 7, 22, 23, 24, 25, 26, 27, 28, 29, 30, 31, 32, 33, 34, 85, 86, 87, 88, 89, 90, 91, 92, 93, 94, 95, 96, 97, 98] (by decide +kernel) (by decide +kernel)
set_option maxRecDepth 20000 in
theorem gX10_sayableByAnyWord_X4_chimes_u179X4 : GoodIn wsX10_sayableByAnyWord (va_wsO RX10 179 RX4 "OnlyRhymes$Rhymer" ⟨"OnlyRhymes$Rhymer", "chimes", "(LOnlyRhymes$Tongue;II)I"⟩ yX4_chimes wsX4_chimes) := goodIn_app (goodIn_of _ (by decide +kernel)) ggX10_sayableByAnyWord_X4_chimes
set_option maxRecDepth 20000 in
theorem ggX10_sayableByAnyWord_X5_chimes : GoodIn wsX10_sayableByAnyWord wsX5_chimes := goodIn_r _ [50, 51, 52, 14, 53, 16, 17, 18, 19, 20, 21, 7, 22, 23, 24, 25, 26, 27, 28, 29, 30, 31, 32, 33, 34, 54, 36, 37, 38, 39, 85, 86, 87, 88, 89, 90, 91, 92, 93, 94, 95, 96, 97, 98] (by decide +kernel) (by decide +kernel)
set_option maxRecDepth 20000 in
theorem gX10_sayableByAnyWord_X5_chimes_u179X5 : GoodIn wsX10_sayableByAnyWord (va_wsO RX10 179 RX5 "OnlyRhymes$Rhymer" ⟨"OnlyRhymes$Rhymer", "chimes", "(LOnlyRhymes$Tongue;II)I"⟩ yX5_chimes wsX5_chimes) := goodIn_app (goodIn_of _ (by decide +kernel)) ggX10_sayableByAnyWord_X5_chimes
set_option maxRecDepth 20000 in
theorem ggX10_sayableByAnyWord_X7_chimes : GoodIn wsX10_sayableByAnyWord wsX7_chimes := goodIn_r _ [25, 26, 27, 28, 29, 30, 31, 32, 33, 85, 86, 87, 88, 89, 90, 91, 92, 93, 94, 95, 96, 97, 98] (by decide +kernel) (by decide +kernel)
set_option maxRecDepth 20000 in
theorem gX10_sayableByAnyWord_X7_chimes : GoodIn wsX10_sayableByAnyWord (wsV RX10 179 RX7 yX7_chimes wsX7_chimes) := goodIn_app (goodIn_of _ (by decide +kernel)) ggX10_sayableByAnyWord_X7_chimes
set_option maxRecDepth 20000 in
theorem ggX10_sayableByAnyWord_X8_chimes : GoodIn wsX10_sayableByAnyWord wsX8_chimes := goodIn_r _ [60, 61, 62, 63, 41, 42, 43, 44, 7, 45, 23, 24, 25, 26, 27, 28, 29, 30, 31, 32, 33, 85, 86, 87, 88, 89, 90, 91, 92, 93, 94, 95, 96, 97, 98] (by decide +kernel) (by decide +kernel)
set_option maxRecDepth 20000 in
theorem gX10_sayableByAnyWord_X8_chimes_u179X8 : GoodIn wsX10_sayableByAnyWord (va_wsO RX10 179 RX8 "OnlyRhymes$Rhymer" ⟨"OnlyRhymes$Rhymer", "chimes", "(LOnlyRhymes$Tongue;II)I"⟩ yX8_chimes wsX8_chimes) := goodIn_app (goodIn_of _ (by decide +kernel)) ggX10_sayableByAnyWord_X8_chimes
set_option maxRecDepth 20000 in
theorem ggX10_sayableByAnyWord_X9_meaningsOf : GoodIn wsX10_sayableByAnyWord wsX9_meaningsOf := goodIn_r _ [67, 32, 39, 85, 86, 87, 88, 89, 90, 91, 92, 93, 94, 95, 96, 97, 98] (by decide +kernel) (by decide +kernel)
set_option maxRecDepth 20000 in
theorem gX10_sayableByAnyWord_X9_meaningsOf : GoodIn wsX10_sayableByAnyWord (wsV RX10 295 RX9 yX9_meaningsOf wsX9_meaningsOf) := goodIn_app (goodIn_of _ (by decide +kernel)) ggX10_sayableByAnyWord_X9_meaningsOf
theorem dX10_sayableByAnyWord_0 : decode cX10_sayableByAnyWord 0 = .ok (.aload_n 0, 1) := by decide +kernel
theorem dX10_sayableByAnyWord_1 : decode cX10_sayableByAnyWord 1 = .ok (.getfield 25, 3) := by decide +kernel
theorem dX10_sayableByAnyWord_4 : decode cX10_sayableByAnyWord 4 = .ok (.aload_n 1, 1) := by decide +kernel
theorem dX10_sayableByAnyWord_5 : decode cX10_sayableByAnyWord 5 = .ok (.getfield 173, 3) := by decide +kernel
theorem dX10_sayableByAnyWord_8 : decode cX10_sayableByAnyWord 8 = .ok (.iload_n 2, 1) := by decide +kernel
theorem dX10_sayableByAnyWord_9 : decode cX10_sayableByAnyWord 9 = .ok (.iaload, 1) := by decide +kernel
theorem dX10_sayableByAnyWord_10 : decode cX10_sayableByAnyWord 10 = .ok (.aaload, 1) := by decide +kernel
theorem dX10_sayableByAnyWord_11 : decode cX10_sayableByAnyWord 11 = .ok (.astore_n 3, 1) := by decide +kernel
theorem dX10_sayableByAnyWord_12 : decode cX10_sayableByAnyWord 12 = .ok (.iconst 0, 1) := by decide +kernel
theorem dX10_sayableByAnyWord_13 : decode cX10_sayableByAnyWord 13 = .ok (.istore 4, 2) := by decide +kernel
theorem dX10_sayableByAnyWord_15 : decode cX10_sayableByAnyWord 15 = .ok (.iconst 0, 1) := by decide +kernel
theorem dX10_sayableByAnyWord_16 : decode cX10_sayableByAnyWord 16 = .ok (.istore 5, 2) := by decide +kernel
theorem dX10_sayableByAnyWord_18 : decode cX10_sayableByAnyWord 18 = .ok (.iload 5, 2) := by decide +kernel
theorem dX10_sayableByAnyWord_20 : decode cX10_sayableByAnyWord 20 = .ok (.aload_n 1, 1) := by decide +kernel
theorem dX10_sayableByAnyWord_21 : decode cX10_sayableByAnyWord 21 = .ok (.getfield 86, 3) := by decide +kernel
theorem dX10_sayableByAnyWord_24 : decode cX10_sayableByAnyWord 24 = .ok (.if_icmp .ge 27, 3) := by decide +kernel
theorem dX10_sayableByAnyWord_27 : decode cX10_sayableByAnyWord 27 = .ok (.iload 4, 2) := by decide +kernel
theorem dX10_sayableByAnyWord_29 : decode cX10_sayableByAnyWord 29 = .ok (.aload_n 3, 1) := by decide +kernel
theorem dX10_sayableByAnyWord_30 : decode cX10_sayableByAnyWord 30 = .ok (.aload_n 1, 1) := by decide +kernel
theorem dX10_sayableByAnyWord_31 : decode cX10_sayableByAnyWord 31 = .ok (.aload_n 1, 1) := by decide +kernel
theorem dX10_sayableByAnyWord_32 : decode cX10_sayableByAnyWord 32 = .ok (.getfield 176, 3) := by decide +kernel
theorem dX10_sayableByAnyWord_35 : decode cX10_sayableByAnyWord 35 = .ok (.iload_n 2, 1) := by decide +kernel
theorem dX10_sayableByAnyWord_36 : decode cX10_sayableByAnyWord 36 = .ok (.iaload, 1) := by decide +kernel
theorem dX10_sayableByAnyWord_37 : decode cX10_sayableByAnyWord 37 = .ok (.iload 5, 2) := by decide +kernel
theorem dX10_sayableByAnyWord_39 : decode cX10_sayableByAnyWord 39 = .ok (.invokevirtual 179, 3) := by decide +kernel
theorem dX10_sayableByAnyWord_42 : decode cX10_sayableByAnyWord 42 = .ok (.ior, 1) := by decide +kernel
theorem dX10_sayableByAnyWord_43 : decode cX10_sayableByAnyWord 43 = .ok (.istore 4, 2) := by decide +kernel
theorem dX10_sayableByAnyWord_45 : decode cX10_sayableByAnyWord 45 = .ok (.iinc 5 1, 3) := by decide +kernel
theorem dX10_sayableByAnyWord_48 : decode cX10_sayableByAnyWord 48 = .ok (.goto (-30), 3) := by decide +kernel
theorem dX10_sayableByAnyWord_51 : decode cX10_sayableByAnyWord 51 = .ok (.aload_n 1, 1) := by decide +kernel
theorem dX10_sayableByAnyWord_52 : decode cX10_sayableByAnyWord 52 = .ok (.iload 4, 2) := by decide +kernel
theorem dX10_sayableByAnyWord_54 : decode cX10_sayableByAnyWord 54 = .ok (.aload_n 1, 1) := by decide +kernel
theorem dX10_sayableByAnyWord_55 : decode cX10_sayableByAnyWord 55 = .ok (.getfield 153, 3) := by decide +kernel
theorem dX10_sayableByAnyWord_58 : decode cX10_sayableByAnyWord 58 = .ok (.iconst (-1), 1) := by decide +kernel
theorem dX10_sayableByAnyWord_59 : decode cX10_sayableByAnyWord 59 = .ok (.ixor, 1) := by decide +kernel
theorem dX10_sayableByAnyWord_60 : decode cX10_sayableByAnyWord 60 = .ok (.iand, 1) := by decide +kernel
theorem dX10_sayableByAnyWord_61 : decode cX10_sayableByAnyWord 61 = .ok (.invokevirtual 295, 3) := by decide +kernel
theorem dX10_sayableByAnyWord_64 : decode cX10_sayableByAnyWord 64 = .ok (.ireturn, 1) := by decide +kernel
set_option maxRecDepth 20000 in
theorem ggX10_reply_X0_chimes : GoodIn wsX10_reply wsX0_chimes := goodIn_r _ [9, 10, 11, 12, 13, 14, 15, 16, 17, 18, 4, 19, 20, 21, 22, 23, 24, 25, 26, 27, 28, 29, 30, 31, 32, 33, 34, 35, 36, 82, 83, 84, 85, 86, 87, 88, 89, 90, 91, 92, 93, 94, 95] (by decide +kernel) (by decide +kernel)
set_option maxRecDepth 20000 in
theorem gX10_reply_X0_chimes_u179X0 : GoodIn wsX10_reply (va_wsO RX10 179 RX0 "OnlyRhymes$Rhymer" ⟨"OnlyRhymes$Rhymer", "chimes", "(LOnlyRhymes$Tongue;II)I"⟩ yX0_chimes wsX0_chimes) := goodIn_app (goodIn_of _ (by decide +kernel)) ggX10_reply_X0_chimes
set_option maxRecDepth 20000 in
theorem ggX10_reply_X3_chimes : GoodIn wsX10_reply wsX3_chimes := goodIn_r _ [40, 41, 4, 42, 20, 21, 22, 23, 24, 25, 26, 27, 28, 29, 30, 82, 83, 84, 85, 86, 87, 88, 89, 90, 91, 92, 93, 94, 95] (by decide +kernel) (by decide +kernel)
set_option maxRecDepth 20000 in
theorem gX10_reply_X3_chimes_u179X3 : GoodIn wsX10_reply (va_wsO RX10 179 RX3 "OnlyRhymes$Rhymer" ⟨"OnlyRhymes$Rhymer", "chimes", "(LOnlyRhymes$Tongue;II)I"⟩ yX3_chimes wsX3_chimes) := goodIn_app (goodIn_of _ (by decide +kernel)) ggX10_reply_X3_chimes
set_option maxRecDepth 20000 in
theorem ggX10_reply_X4_chimes : GoodIn wsX10_reply wsX4_chimes := goodIn_r _ [15, 16, 17, 18, 4, 19, 20, 21, 22, 23, 24, 25, 26, 27, 28, 29, 30, 31, 82, 83, 84, 85, 86, 87, 88, 89, 90, 91, 92, 93, 94, 95] (by decide +kernel) (by decide +kernel)
set_option maxRecDepth 20000 in
theorem gX10_reply_X4_chimes_u179X4 : GoodIn wsX10_reply (va_wsO RX10 179 RX4 "OnlyRhymes$Rhymer" ⟨"OnlyRhymes$Rhymer", "chimes", "(LOnlyRhymes$Tongue;II)I"⟩ yX4_chimes wsX4_chimes) := goodIn_app (goodIn_of _ (by decide +kernel)) ggX10_reply_X4_chimes
set_option maxRecDepth 20000 in
theorem ggX10_reply_X5_chimes : GoodIn wsX10_reply wsX5_chimes := goodIn_r _ [47, 48, 49, 11, 50, 13, 14, 15, 16, 17, 18, 4, 19, 20, 21, 22, 23, 24, 25, 26, 27, 28, 29, 30, 31, 51, 33, 34, 35, 36, 82, 83, 84, 85, 86, 87, 88, 89, 90, 91, 92, 93, 94, 95] (by decide +kernel) (by decide +kernel)
set_option maxRecDepth 20000 in
theorem gX10_reply_X5_chimes_u179X5 : GoodIn wsX10_reply (va_wsO RX10 179 RX5 "OnlyRhymes$Rhymer" ⟨"OnlyRhymes$Rhymer", "chimes", "(LOnlyRhymes$Tongue;II)I"⟩ yX5_chimes wsX5_chimes) := goodIn_app (goodIn_of _ (by decide +kernel)) ggX10_reply_X5_chimes
set_option maxRecDepth 20000 in
theorem ggX10_reply_X7_chimes : GoodIn wsX10_reply wsX7_chimes := goodIn_r _ [22, 23, 24, 25, 26, 27, 28, 29, 30, 82, 83, 84, 85, 86, 87, 88, 89, 90, 91, 92, 93, 94, 95] (by decide +kernel) (by decide +kernel)
set_option maxRecDepth 20000 in
theorem gX10_reply_X7_chimes : GoodIn wsX10_reply (wsV RX10 179 RX7 yX7_chimes wsX7_chimes) := goodIn_app (goodIn_of _ (by decide +kernel)) ggX10_reply_X7_chimes
set_option maxRecDepth 20000 in
theorem ggX10_reply_X8_chimes : GoodIn wsX10_reply wsX8_chimes := goodIn_r _ [57, 58, 59, 60, 38, 39, 40, 41, 4, 42, 20, 21, 22, 23, 24, 25, 26, 27, 28, 29, 30, 82, 83, 84, 85, 86, 87, 88, 89, 90, 91, 92, 93, 94, 95] (by decide +kernel) (by decide +kernel)
set_option maxRecDepth 20000 in
theorem gX10_reply_X8_chimes_u179X8 : GoodIn wsX10_reply (va_wsO RX10 179 RX8 "OnlyRhymes$Rhymer" ⟨"OnlyRhymes$Rhymer", "chimes", "(LOnlyRhymes$Tongue;II)I"⟩ yX8_chimes wsX8_chimes) := goodIn_app (goodIn_of _ (by decide +kernel)) ggX10_reply_X8_chimes
set_option maxRecDepth 20000 in
theorem ggX10_reply_X9_firstOf : GoodIn wsX10_reply wsX9_firstOf := goodIn_r _ [64, 29, 36, 82, 83, 84, 85, 86, 87, 88, 89, 90, 91, 92, 93, 94, 95] (by decide +kernel) (by decide +kernel)
set_option maxRecDepth 20000 in
theorem gX10_reply_X9_firstOf : GoodIn wsX10_reply (wsV RX10 262 RX9 yX9_firstOf wsX9_firstOf) := goodIn_app (goodIn_of _ (by decide +kernel)) ggX10_reply_X9_firstOf
theorem dX10_reply_0 : decode cX10_reply 0 = .ok (.aload_n 0, 1) := by decide +kernel
theorem dX10_reply_1 : decode cX10_reply 1 = .ok (.getfield 12, 3) := by decide +kernel
theorem dX10_reply_4 : decode cX10_reply 4 = .ok (.aload_n 0, 1) := by decide +kernel
theorem dX10_reply_5 : decode cX10_reply 5 = .ok (.getfield 25, 3) := by decide +kernel
theorem dX10_reply_8 : decode cX10_reply 8 = .ok (.iload_n 1, 1) := by decide +kernel
theorem dX10_reply_9 : decode cX10_reply 9 = .ok (.aaload, 1) := by decide +kernel
theorem dX10_reply_10 : decode cX10_reply 10 = .ok (.aload_n 0, 1) := by decide +kernel
theorem dX10_reply_11 : decode cX10_reply 11 = .ok (.getfield 12, 3) := by decide +kernel
theorem dX10_reply_14 : decode cX10_reply 14 = .ok (.iload_n 2, 1) := by decide +kernel
theorem dX10_reply_15 : decode cX10_reply 15 = .ok (.iload_n 3, 1) := by decide +kernel
theorem dX10_reply_16 : decode cX10_reply 16 = .ok (.invokevirtual 179, 3) := by decide +kernel
theorem dX10_reply_19 : decode cX10_reply 19 = .ok (.iload_n 2, 1) := by decide +kernel
theorem dX10_reply_20 : decode cX10_reply 20 = .ok (.invokevirtual 262, 3) := by decide +kernel
theorem dX10_reply_23 : decode cX10_reply 23 = .ok (.ireturn, 1) := by decide +kernel
set_option maxRecDepth 20000 in
theorem ggX10_wantBits_X10_reply : GoodIn wsX10_wantBits wsX10_reply := goodIn_r _ [9, 1, 10, 11, 12, 13, 14, 15, 16, 17, 18, 19, 20, 21, 22, 23, 24, 25, 26, 27, 28, 29, 30, 31, 32, 33, 34, 35, 36, 37, 38, 39, 40, 41, 42, 43, 44, 45, 46, 47, 48, 49, 50, 51, 52, 53, 54, 55, 56, 57, 58, 59, 60, 61, 62, 63, 64, 65, 66, 67, 68, 69, 70, 71, 72, 73, 74, 75, 76, 77, 78, 79, 80, 81, 82, 83, 84, 85, 86, 87, 88, 89, 90, 91, 92, 93, 94, 95, 96, 97, 98, 99, 100, 101, 102, 103] (by decide +kernel) (by decide +kernel)
set_option maxRecDepth 20000 in
theorem gX10_wantBits_X10_reply : GoodIn wsX10_wantBits (wsV RX10 301 RX10 yX10_reply wsX10_reply) := goodIn_app (goodIn_of _ (by decide +kernel)) ggX10_wantBits_X10_reply
theorem dX10_wantBits_0 : decode cX10_wantBits 0 = .ok (.sipush 255, 3) := by decide +kernel
theorem dX10_wantBits_3 : decode cX10_wantBits 3 = .ok (.istore_n 2, 1) := by decide +kernel
theorem dX10_wantBits_4 : decode cX10_wantBits 4 = .ok (.iconst 0, 1) := by decide +kernel
theorem dX10_wantBits_5 : decode cX10_wantBits 5 = .ok (.istore_n 3, 1) := by decide +kernel
theorem dX10_wantBits_6 : decode cX10_wantBits 6 = .ok (.iload_n 3, 1) := by decide +kernel
theorem dX10_wantBits_7 : decode cX10_wantBits 7 = .ok (.aload_n 0, 1) := by decide +kernel
