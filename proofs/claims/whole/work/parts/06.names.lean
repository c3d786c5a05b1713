set_option maxRecDepth 20000 in
theorem ggX7_rowLong_X3_cellsTaken : GoodIn wsX7_rowLong wsX3_cellsTaken := goodIn_r _ [14, 15, 16, 17, 18, 19, 20, 21, 22, 23, 24, 25, 26, 27, 28, 29, 13, 30, 31, 32, 33, 34, 35, 36, 37, 38, 39, 40, 41, 54, 55, 56, 57, 58, 59, 60, 61, 62, 63, 64, 65, 66, 67, 68, 69, 70, 71, 72] (by decide +kernel) (by decide +kernel)
set_option maxRecDepth 20000 in
theorem gX7_rowLong_X3_cellsTaken : GoodIn wsX7_rowLong (wsV RX7 236 RX3 yX3_cellsTaken wsX3_cellsTaken) := goodIn_app (goodIn_of _ (by decide +kernel)) ggX7_rowLong_X3_cellsTaken
theorem dX7_rowLong_0 : decode cX7_rowLong 0 = .ok (.aload_n 0, 1) := by decide +kernel
theorem dX7_rowLong_1 : decode cX7_rowLong 1 = .ok (.invokevirtual 202, 3) := by decide +kernel
theorem dX7_rowLong_4 : decode cX7_rowLong 4 = .ok (.aload_n 0, 1) := by decide +kernel
theorem dX7_rowLong_5 : decode cX7_rowLong 5 = .ok (.getfield 68, 3) := by decide +kernel
theorem dX7_rowLong_8 : decode cX7_rowLong 8 = .ok (.invokevirtual 236, 3) := by decide +kernel
theorem dX7_rowLong_11 : decode cX7_rowLong 11 = .ok (.ireturn, 1) := by decide +kernel
set_option maxRecDepth 20000 in
theorem ggX7_ends_X7_needRun : GoodIn wsX7_ends wsX7_needRun := goodIn_ca (goodIn_r _ [8, 9, 10, 11, 96, 97, 98, 99, 100, 101, 102, 103, 104, 105, 106, 107] (by decide +kernel) (by decide +kernel)) (goodIn_sub (fun _ h => List.mem_cons_of_mem _ (List.mem_append_right _ h)) (by decide +kernel))
set_option maxRecDepth 20000 in
theorem gX7_ends_X7_needRun : GoodIn wsX7_ends (wsV RX7 202 RX7 yX7_needRun wsX7_needRun) := goodIn_app (goodIn_of _ (by decide +kernel)) ggX7_ends_X7_needRun
set_option maxRecDepth 20000 in
theorem ggX7_ends_X3_copyOf : GoodIn wsX7_ends wsX3_copyOf := goodIn_r _ [16, 17, 18, 19, 20, 21, 22, 23, 24, 25, 26, 27, 108, 109, 110, 111, 112, 113, 114, 115, 116] (by decide +kernel) (by decide +kernel)
set_option maxRecDepth 20000 in
theorem gX7_ends_X3_copyOf : GoodIn wsX7_ends (wsV RX7 239 RX3 yX3_copyOf wsX3_copyOf) := goodIn_app (goodIn_of _ (by decide +kernel)) ggX7_ends_X3_copyOf
set_option maxRecDepth 20000 in
theorem ggX7_ends_X3_goToEnd : GoodIn wsX7_ends wsX3_goToEnd := goodIn_r _ [31, 32, 33, 34, 35, 15, 36, 26, 17, 37, 38, 39, 40, 25, 41, 42, 43, 44, 27, 45, 46, 47, 48, 23, 49, 50, 22, 51, 52, 53, 54, 55, 56, 57, 58, 59, 60, 61, 62, 63, 64, 65, 66, 67, 68, 69, 24, 70, 71, 72, 73, 74, 75, 76, 77, 108, 109, 110, 111, 112, 113, 114, 115, 116, 117, 118, 119, 120, 121, 122, 123, 124, 125, 126] (by decide +kernel) (by decide +kernel)
set_option maxRecDepth 20000 in
theorem gX7_ends_X3_goToEnd : GoodIn wsX7_ends (wsV RX7 243 RX3 yX3_goToEnd wsX3_goToEnd) := goodIn_app (goodIn_of _ (by decide +kernel)) ggX7_ends_X3_goToEnd
set_option maxRecDepth 20000 in
theorem ggX7_ends_X7_longestAlone : GoodIn wsX7_ends wsX7_longestAlone := goodIn_r _ [81, 82, 83, 1, 3, 84, 85, 86, 87, 88, 89, 90, 15, 91, 17, 26, 92, 93, 94, 95, 27, 22, 23, 24, 25, 28, 29, 30, 31, 32, 33, 34, 35, 36, 37, 38, 39, 40, 41, 42, 43, 44, 45, 46, 47, 48, 49, 50, 51, 52, 53, 54, 55, 56, 57, 58, 59, 60, 61, 62, 63, 64, 65, 66, 67, 68, 69, 70, 71, 72, 73, 74, 75, 76, 77, 96, 97, 98, 99, 100, 101, 102, 103, 104, 105, 106, 107, 117, 118, 119, 120, 121, 122, 108, 109, 110, 111, 112, 113, 114, 115, 116, 123, 124, 125, 126] (by decide +kernel) (by decide +kernel)
set_option maxRecDepth 20000 in
theorem gX7_ends_X7_longestAlone : GoodIn wsX7_ends (wsV RX7 246 RX7 yX7_longestAlone wsX7_longestAlone) := goodIn_app (goodIn_of _ (by decide +kernel)) ggX7_ends_X7_longestAlone
theorem dX7_ends_0 : decode cX7_ends 0 = .ok (.aload_n 0, 1) := by decide +kernel
theorem dX7_ends_1 : decode cX7_ends 1 = .ok (.invokevirtual 202, 3) := by decide +kernel
theorem dX7_ends_4 : decode cX7_ends 4 = .ok (.iload_n 1, 1) := by decide +kernel
theorem dX7_ends_5 : decode cX7_ends 5 = .ok (.lookupswitch 58 #[(0, 27), (1, 53)], 27) := by decide +kernel
theorem dX7_ends_32 : decode cX7_ends 32 = .ok (.aload_n 0, 1) := by decide +kernel
theorem dX7_ends_33 : decode cX7_ends 33 = .ok (.getfield 72, 3) := by decide +kernel
theorem dX7_ends_36 : decode cX7_ends 36 = .ok (.aload_n 0, 1) := by decide +kernel
theorem dX7_ends_37 : decode cX7_ends 37 = .ok (.getfield 68, 3) := by decide +kernel
theorem dX7_ends_40 : decode cX7_ends 40 = .ok (.invokevirtual 239, 3) := by decide +kernel
theorem dX7_ends_43 : decode cX7_ends 43 = .ok (.aload_n 0, 1) := by decide +kernel
theorem dX7_ends_44 : decode cX7_ends 44 = .ok (.getfield 72, 3) := by decide +kernel
theorem dX7_ends_47 : decode cX7_ends 47 = .ok (.invokevirtual 243, 3) := by decide +kernel
theorem dX7_ends_50 : decode cX7_ends 50 = .ok (.aload_n 0, 1) := by decide +kernel
theorem dX7_ends_51 : decode cX7_ends 51 = .ok (.getfield 72, 3) := by decide +kernel
theorem dX7_ends_54 : decode cX7_ends 54 = .ok (.getfield 211, 3) := by decide +kernel
theorem dX7_ends_57 : decode cX7_ends 57 = .ok (.ireturn, 1) := by decide +kernel
theorem dX7_ends_58 : decode cX7_ends 58 = .ok (.aload_n 0, 1) := by decide +kernel
theorem dX7_ends_59 : decode cX7_ends 59 = .ok (.invokevirtual 246, 3) := by decide +kernel
theorem dX7_ends_62 : decode cX7_ends 62 = .ok (.ireturn, 1) := by decide +kernel
theorem dX7_ends_63 : decode cX7_ends 63 = .ok (.iconst (-1), 1) := by decide +kernel
theorem dX7_ends_64 : decode cX7_ends 64 = .ok (.ireturn, 1) := by decide +kernel
set_option maxRecDepth 20000 in
theorem ggX7_ill_X7_needGuest : GoodIn wsX7_ill wsX7_needGuest := goodIn_ca (goodIn_r _ [8, 9, 10, 11, 12, 13, 14, 15, 16, 17, 31, 32, 33, 34, 35, 36, 37, 38, 39, 40, 41, 42, 52, 53, 54, 55, 56, 57] (by decide +kernel) (by decide +kernel)) (goodIn_sub (fun _ h => List.mem_cons_of_mem _ (List.mem_append_left _ (List.mem_append_right _ h))) (by decide +kernel))
set_option maxRecDepth 20000 in
theorem gX7_ill_X7_needGuest : GoodIn wsX7_ill (wsV RX7 91 RX7 yX7_needGuest wsX7_needGuest) := goodIn_app (goodIn_of _ (by decide +kernel)) ggX7_ill_X7_needGuest
set_option maxRecDepth 20000 in
theorem ggX7_ill_X7_needRun : GoodIn wsX7_ill wsX7_needRun := goodIn_ca (goodIn_r _ [21, 22, 23, 24, 31, 32, 33, 34, 35, 36, 37, 38, 39, 40, 41, 42] (by decide +kernel) (by decide +kernel)) (goodIn_sub (fun _ h => List.mem_cons_of_mem _ (List.mem_append_right _ h)) (by decide +kernel))
set_option maxRecDepth 20000 in
theorem gX7_ill_X7_needRun : GoodIn wsX7_ill (wsV RX7 202 RX7 yX7_needRun wsX7_needRun) := goodIn_app (goodIn_of _ (by decide +kernel)) ggX7_ill_X7_needRun
set_option maxRecDepth 20000 in
theorem ggX7_ill_X3_isOut : GoodIn wsX7_ill wsX3_isOut := goodIn_r _ [29, 30, 43, 44, 45, 46, 47, 48, 49, 50, 51] (by decide +kernel) (by decide +kernel)
set_option maxRecDepth 20000 in
theorem gX7_ill_X3_isOut : GoodIn wsX7_ill (wsV RX7 249 RX3 yX3_isOut wsX3_isOut) := goodIn_app (goodIn_of _ (by decide +kernel)) ggX7_ill_X3_isOut
theorem dX7_ill_0 : decode cX7_ill 0 = .ok (.aload_n 0, 1) := by decide +kernel
theorem dX7_ill_1 : decode cX7_ill 1 = .ok (.iload_n 1, 1) := by decide +kernel
theorem dX7_ill_2 : decode cX7_ill 2 = .ok (.invokevirtual 91, 3) := by decide +kernel
theorem dX7_ill_5 : decode cX7_ill 5 = .ok (.aload_n 0, 1) := by decide +kernel
theorem dX7_ill_6 : decode cX7_ill 6 = .ok (.invokevirtual 202, 3) := by decide +kernel
theorem dX7_ill_9 : decode cX7_ill 9 = .ok (.aload_n 0, 1) := by decide +kernel
theorem dX7_ill_10 : decode cX7_ill 10 = .ok (.getfield 68, 3) := by decide +kernel
theorem dX7_ill_13 : decode cX7_ill 13 = .ok (.iload_n 1, 1) := by decide +kernel
theorem dX7_ill_14 : decode cX7_ill 14 = .ok (.invokevirtual 249, 3) := by decide +kernel
theorem dX7_ill_17 : decode cX7_ill 17 = .ok (.ifCond .eq 5, 3) := by decide +kernel
theorem dX7_ill_20 : decode cX7_ill 20 = .ok (.iconst 0, 1) := by decide +kernel
theorem dX7_ill_21 : decode cX7_ill 21 = .ok (.ireturn, 1) := by decide +kernel
theorem dX7_ill_22 : decode cX7_ill 22 = .ok (.aload_n 0, 1) := by decide +kernel
theorem dX7_ill_23 : decode cX7_ill 23 = .ok (.getfield 68, 3) := by decide +kernel
theorem dX7_ill_26 : decode cX7_ill 26 = .ok (.getfield 226, 3) := by decide +kernel
theorem dX7_ill_29 : decode cX7_ill 29 = .ok (.iload_n 1, 1) := by decide +kernel
theorem dX7_ill_30 : decode cX7_ill 30 = .ok (.aload_n 0, 1) := by decide +kernel
theorem dX7_ill_31 : decode cX7_ill 31 = .ok (.getfield 68, 3) := by decide +kernel
theorem dX7_ill_34 : decode cX7_ill 34 = .ok (.getfield 211, 3) := by decide +kernel
theorem dX7_ill_37 : decode cX7_ill 37 = .ok (.iastore, 1) := by decide +kernel
theorem dX7_ill_38 : decode cX7_ill 38 = .ok (.iconst 1, 1) := by decide +kernel
theorem dX7_ill_39 : decode cX7_ill 39 = .ok (.ireturn, 1) := by decide +kernel
set_option maxRecDepth 20000 in
theorem ggX7_needGuest_X2_has : GoodIn wsX7_needGuest wsX2_has := goodIn_r _ [8, 9, 22, 23, 24, 25, 26, 27] (by decide +kernel) (by decide +kernel)
set_option maxRecDepth 20000 in
theorem gX7_needGuest_X2_has : GoodIn wsX7_needGuest (wsV RX7 140 RX2 yX2_has wsX2_has) := goodIn_app (goodIn_of _ (by decide +kernel)) ggX7_needGuest_X2_has
theorem dX7_needGuest_0 : decode cX7_needGuest 0 = .ok (.aload_n 0, 1) := by decide +kernel
theorem dX7_needGuest_1 : decode cX7_needGuest 1 = .ok (.getfield 10, 3) := by decide +kernel
theorem dX7_needGuest_4 : decode cX7_needGuest 4 = .ok (.iload_n 1, 1) := by decide +kernel
theorem dX7_needGuest_5 : decode cX7_needGuest 5 = .ok (.invokevirtual 140, 3) := by decide +kernel
theorem dX7_needGuest_8 : decode cX7_needGuest 8 = .ok (.ifCond .ne 13, 3) := by decide +kernel
theorem dX7_needGuest_11 : decode cX7_needGuest 11 = .ok (.new 252, 3) := by decide +kernel
theorem dX7_needGuest_14 : decode cX7_needGuest 14 = .ok (.dup, 1) := by decide +kernel
theorem dX7_needGuest_15 : decode cX7_needGuest 15 = .ok (.ldc 254, 2) := by decide +kernel
theorem dX7_needGuest_17 : decode cX7_needGuest 17 = .ok (.invokespecial 256, 3) := by decide +kernel
theorem dX7_needGuest_20 : decode cX7_needGuest 20 = .ok (.athrow, 1) := by decide +kernel
theorem dX7_needGuest_21 : decode cX7_needGuest 21 = .ok (.return_, 1) := by decide +kernel
theorem dX7_needRun_0 : decode cX7_needRun 0 = .ok (.aload_n 0, 1) := by decide +kernel
theorem dX7_needRun_1 : decode cX7_needRun 1 = .ok (.getfield 75, 3) := by decide +kernel
theorem dX7_needRun_4 : decode cX7_needRun 4 = .ok (.ifCond .ne 14, 3) := by decide +kernel
theorem dX7_needRun_7 : decode cX7_needRun 7 = .ok (.new 259, 3) := by decide +kernel
theorem dX7_needRun_10 : decode cX7_needRun 10 = .ok (.dup, 1) := by decide +kernel
theorem dX7_needRun_11 : decode cX7_needRun 11 = .ok (.ldc_w 261, 3) := by decide +kernel
theorem dX7_needRun_14 : decode cX7_needRun 14 = .ok (.invokespecial 263, 3) := by decide +kernel
theorem dX7_needRun_17 : decode cX7_needRun 17 = .ok (.athrow, 1) := by decide +kernel
theorem dX7_needRun_18 : decode cX7_needRun 18 = .ok (.return_, 1) := by decide +kernel
theorem dX7_isRow_0 : decode cX7_isRow 0 = .ok (.iconst 0, 1) := by decide +kernel
theorem dX7_isRow_1 : decode cX7_isRow 1 = .ok (.istore_n 2, 1) := by decide +kernel
theorem dX7_isRow_2 : decode cX7_isRow 2 = .ok (.iload_n 2, 1) := by decide +kernel
theorem dX7_isRow_3 : decode cX7_isRow 3 = .ok (.aload_n 0, 1) := by decide +kernel
theorem dX7_isRow_4 : decode cX7_isRow 4 = .ok (.getfield 10, 3) := by decide +kernel
theorem dX7_isRow_7 : decode cX7_isRow 7 = .ok (.getfield 79, 3) := by decide +kernel
theorem dX7_isRow_10 : decode cX7_isRow 10 = .ok (.if_icmp .ge 23, 3) := by decide +kernel
theorem dX7_isRow_13 : decode cX7_isRow 13 = .ok (.aload_n 1, 1) := by decide +kernel
theorem dX7_isRow_14 : decode cX7_isRow 14 = .ok (.iload_n 2, 1) := by decide +kernel
theorem dX7_isRow_15 : decode cX7_isRow 15 = .ok (.iaload, 1) := by decide +kernel
theorem dX7_isRow_16 : decode cX7_isRow 16 = .ok (.aload_n 0, 1) := by decide +kernel
theorem dX7_isRow_17 : decode cX7_isRow 17 = .ok (.getfield 16, 3) := by decide +kernel
theorem dX7_isRow_20 : decode cX7_isRow 20 = .ok (.iload_n 2, 1) := by decide +kernel
theorem dX7_isRow_21 : decode cX7_isRow 21 = .ok (.iaload, 1) := by decide +kernel
theorem dX7_isRow_22 : decode cX7_isRow 22 = .ok (.if_icmp .eq 5, 3) := by decide +kernel
theorem dX7_isRow_25 : decode cX7_isRow 25 = .ok (.iconst 0, 1) := by decide +kernel
theorem dX7_isRow_26 : decode cX7_isRow 26 = .ok (.ireturn, 1) := by decide +kernel
theorem dX7_isRow_27 : decode cX7_isRow 27 = .ok (.iinc 2 1, 3) := by decide +kernel
theorem dX7_isRow_30 : decode cX7_isRow 30 = .ok (.goto (-28), 3) := by decide +kernel
theorem dX7_isRow_33 : decode cX7_isRow 33 = .ok (.iconst 1, 1) := by decide +kernel
theorem dX7_isRow_34 : decode cX7_isRow 34 = .ok (.ireturn, 1) := by decide +kernel
theorem dX7_takeRow_0 : decode cX7_takeRow 0 = .ok (.aload_n 1, 1) := by decide +kernel
theorem dX7_takeRow_1 : decode cX7_takeRow 1 = .ok (.iconst 0, 1) := by decide +kernel
theorem dX7_takeRow_2 : decode cX7_takeRow 2 = .ok (.aload_n 0, 1) := by decide +kernel
theorem dX7_takeRow_3 : decode cX7_takeRow 3 = .ok (.getfield 16, 3) := by decide +kernel
theorem dX7_takeRow_6 : decode cX7_takeRow 6 = .ok (.iconst 0, 1) := by decide +kernel
theorem dX7_takeRow_7 : decode cX7_takeRow 7 = .ok (.bipush 8, 2) := by decide +kernel
theorem dX7_takeRow_9 : decode cX7_takeRow 9 = .ok (.invokestatic 165, 3) := by decide +kernel
theorem dX7_takeRow_12 : decode cX7_takeRow 12 = .ok (.aload_n 0, 1) := by decide +kernel
theorem dX7_takeRow_13 : decode cX7_takeRow 13 = .ok (.iconst 0, 1) := by decide +kernel
theorem dX7_takeRow_14 : decode cX7_takeRow 14 = .ok (.putfield 75, 3) := by decide +kernel
theorem dX7_takeRow_17 : decode cX7_takeRow 17 = .ok (.return_, 1) := by decide +kernel
set_option maxRecDepth 20000 in
theorem ggX7_longestAlone_X3_startAlone : GoodIn wsX7_longestAlone wsX3_startAlone := goodIn_r _ [13, 14, 15, 16, 17, 18, 12, 19, 20, 21, 22, 23, 24, 93, 94, 95, 96, 97, 98, 99, 100, 101] (by decide +kernel) (by decide +kernel)
set_option maxRecDepth 20000 in
theorem gX7_longestAlone_X3_startAlone : GoodIn wsX7_longestAlone (wsV RX7 264 RX3 yX3_startAlone wsX3_startAlone) := goodIn_app (goodIn_of _ (by decide +kernel)) ggX7_longestAlone_X3_startAlone
set_option maxRecDepth 20000 in
theorem ggX7_longestAlone_X3_goToEnd : GoodIn wsX7_longestAlone wsX3_goToEnd := goodIn_r _ [28, 29, 30, 31, 32, 12, 33, 15, 14, 34, 35, 36, 37, 24, 38, 39, 40, 41, 20, 42, 43, 44, 45, 22, 46, 47, 21, 48, 49, 50, 51, 52, 53, 54, 55, 56, 57, 58, 59, 60, 61, 62, 63, 64, 65, 66, 23, 67, 68, 69, 70, 71, 72, 73, 74, 93, 94, 95, 96, 97, 98, 99, 100, 101, 87, 88, 89, 90, 91, 92, 102, 103, 104, 105] (by decide +kernel) (by decide +kernel)
set_option maxRecDepth 20000 in
theorem gX7_longestAlone_X3_goToEnd : GoodIn wsX7_longestAlone (wsV RX7 243 RX3 yX3_goToEnd wsX3_goToEnd) := goodIn_app (goodIn_of _ (by decide +kernel)) ggX7_longestAlone_X3_goToEnd
theorem dX7_longestAlone_0 : decode cX7_longestAlone 0 = .ok (.iconst 0, 1) := by decide +kernel
theorem dX7_longestAlone_1 : decode cX7_longestAlone 1 = .ok (.istore_n 1, 1) := by decide +kernel
theorem dX7_longestAlone_2 : decode cX7_longestAlone 2 = .ok (.iconst 0, 1) := by decide +kernel
theorem dX7_longestAlone_3 : decode cX7_longestAlone 3 = .ok (.istore_n 2, 1) := by decide +kernel
theorem dX7_longestAlone_4 : decode cX7_longestAlone 4 = .ok (.iload_n 2, 1) := by decide +kernel
theorem dX7_longestAlone_5 : decode cX7_longestAlone 5 = .ok (.aload_n 0, 1) := by decide +kernel
theorem dX7_longestAlone_6 : decode cX7_longestAlone 6 = .ok (.getfield 10, 3) := by decide +kernel
theorem dX7_longestAlone_9 : decode cX7_longestAlone 9 = .ok (.getfield 79, 3) := by decide +kernel
theorem dX7_longestAlone_12 : decode cX7_longestAlone 12 = .ok (.if_icmp .ge 36, 3) := by decide +kernel
theorem dX7_longestAlone_15 : decode cX7_longestAlone 15 = .ok (.aload_n 0, 1) := by decide +kernel
theorem dX7_longestAlone_16 : decode cX7_longestAlone 16 = .ok (.getfield 72, 3) := by decide +kernel
theorem dX7_longestAlone_19 : decode cX7_longestAlone 19 = .ok (.iload_n 2, 1) := by decide +kernel
theorem dX7_longestAlone_20 : decode cX7_longestAlone 20 = .ok (.invokevirtual 264, 3) := by decide +kernel
theorem dX7_longestAlone_23 : decode cX7_longestAlone 23 = .ok (.aload_n 0, 1) := by decide +kernel
theorem dX7_longestAlone_24 : decode cX7_longestAlone 24 = .ok (.getfield 72, 3) := by decide +kernel
theorem dX7_longestAlone_27 : decode cX7_longestAlone 27 = .ok (.invokevirtual 243, 3) := by decide +kernel
theorem dX7_longestAlone_30 : decode cX7_longestAlone 30 = .ok (.iload_n 1, 1) := by decide +kernel
theorem dX7_longestAlone_31 : decode cX7_longestAlone 31 = .ok (.aload_n 0, 1) := by decide +kernel
theorem dX7_longestAlone_32 : decode cX7_longestAlone 32 = .ok (.getfield 72, 3) := by decide +kernel
theorem dX7_longestAlone_35 : decode cX7_longestAlone 35 = .ok (.getfield 211, 3) := by decide +kernel
theorem dX7_longestAlone_38 : decode cX7_longestAlone 38 = .ok (.invokestatic 267, 3) := by decide +kernel
theorem dX7_longestAlone_41 : decode cX7_longestAlone 41 = .ok (.istore_n 1, 1) := by decide +kernel
theorem dX7_longestAlone_42 : decode cX7_longestAlone 42 = .ok (.iinc 2 1, 3) := by decide +kernel
theorem dX7_longestAlone_45 : decode cX7_longestAlone 45 = .ok (.goto (-41), 3) := by decide +kernel
theorem dX7_longestAlone_48 : decode cX7_longestAlone 48 = .ok (.iload_n 1, 1) := by decide +kernel
theorem dX7_longestAlone_49 : decode cX7_longestAlone 49 = .ok (.ireturn, 1) := by decide +kernel
theorem dX8_init_0 : decode cX8_init 0 = .ok (.aload_n 0, 1) := by decide +kernel
theorem dX8_init_1 : decode cX8_init 1 = .ok (.invokespecial 1, 3) := by decide +kernel
theorem dX8_init_4 : decode cX8_init 4 = .ok (.aload_n 0, 1) := by decide +kernel
theorem dX8_init_5 : decode cX8_init 5 = .ok (.bipush 40, 2) := by decide +kernel
theorem dX8_init_7 : decode cX8_init 7 = .ok (.newarray .int, 2) := by decide +kernel
theorem dX8_init_9 : decode cX8_init 9 = .ok (.putfield 7, 3) := by decide +kernel
theorem dX8_init_12 : decode cX8_init 12 = .ok (.aload_n 0, 1) := by decide +kernel
theorem dX8_init_13 : decode cX8_init 13 = .ok (.bipush 8, 2) := by decide +kernel
theorem dX8_init_15 : decode cX8_init 15 = .ok (.newarray .int, 2) := by decide +kernel
theorem dX8_init_17 : decode cX8_init 17 = .ok (.putfield 13, 3) := by decide +kernel
theorem dX8_init_20 : decode cX8_init 20 = .ok (.aload_n 0, 1) := by decide +kernel
theorem dX8_init_21 : decode cX8_init 21 = .ok (.bipush 40, 2) := by decide +kernel
theorem dX8_init_23 : decode cX8_init 23 = .ok (.newarray .int, 2) := by decide +kernel
theorem dX8_init_25 : decode cX8_init 25 = .ok (.putfield 16, 3) := by decide +kernel
theorem dX8_init_28 : decode cX8_init 28 = .ok (.aload_n 0, 1) := by decide +kernel
theorem dX8_init_29 : decode cX8_init 29 = .ok (.bipush 40, 2) := by decide +kernel
theorem dX8_init_31 : decode cX8_init 31 = .ok (.newarray .int, 2) := by decide +kernel
theorem dX8_init_33 : decode cX8_init 33 = .ok (.putfield 19, 3) := by decide +kernel
theorem dX8_init_36 : decode cX8_init 36 = .ok (.aload_n 0, 1) := by decide +kernel
theorem dX8_init_37 : decode cX8_init 37 = .ok (.sipush 400, 3) := by decide +kernel
theorem dX8_init_40 : decode cX8_init 40 = .ok (.newarray .int, 2) := by decide +kernel
theorem dX8_init_42 : decode cX8_init 42 = .ok (.putfield 22, 3) := by decide +kernel
theorem dX8_init_45 : decode cX8_init 45 = .ok (.aload_n 0, 1) := by decide +kernel
theorem dX8_init_46 : decode cX8_init 46 = .ok (.iconst (-1), 1) := by decide +kernel
theorem dX8_init_47 : decode cX8_init 47 = .ok (.putfield 25, 3) := by decide +kernel
theorem dX8_init_50 : decode cX8_init 50 = .ok (.aload_n 0, 1) := by decide +kernel
theorem dX8_init_51 : decode cX8_init 51 = .ok (.bipush 8, 2) := by decide +kernel
theorem dX8_init_53 : decode cX8_init 53 = .ok (.newarray .int, 2) := by decide +kernel
theorem dX8_init_55 : decode cX8_init 55 = .ok (.putfield 29, 3) := by decide +kernel
theorem dX8_init_58 : decode cX8_init 58 = .ok (.aload_n 0, 1) := by decide +kernel
theorem dX8_init_59 : decode cX8_init 59 = .ok (.bipush 8, 2) := by decide +kernel
theorem dX8_init_61 : decode cX8_init 61 = .ok (.newarray .int, 2) := by decide +kernel
theorem dX8_init_63 : decode cX8_init 63 = .ok (.putfield 32, 3) := by decide +kernel
theorem dX8_init_66 : decode cX8_init 66 = .ok (.aload_n 0, 1) := by decide +kernel
theorem dX8_init_67 : decode cX8_init 67 = .ok (.bipush 20, 2) := by decide +kernel
theorem dX8_init_69 : decode cX8_init 69 = .ok (.putfield 35, 3) := by decide +kernel
theorem dX8_init_72 : decode cX8_init 72 = .ok (.aload_n 0, 1) := by decide +kernel
theorem dX8_init_73 : decode cX8_init 73 = .ok (.iconst 1, 1) := by decide +kernel
theorem dX8_init_74 : decode cX8_init 74 = .ok (.putfield 38, 3) := by decide +kernel
theorem dX8_init_77 : decode cX8_init 77 = .ok (.aload_n 0, 1) := by decide +kernel
theorem dX8_init_78 : decode cX8_init 78 = .ok (.bipush 50, 2) := by decide +kernel
theorem dX8_init_80 : decode cX8_init 80 = .ok (.newarray .int, 2) := by decide +kernel
theorem dX8_init_82 : decode cX8_init 82 = .ok (.putfield 41, 3) := by decide +kernel
theorem dX8_init_85 : decode cX8_init 85 = .ok (.aload_n 0, 1) := by decide +kernel
theorem dX8_init_86 : decode cX8_init 86 = .ok (.bipush 50, 2) := by decide +kernel
theorem dX8_init_88 : decode cX8_init 88 = .ok (.newarray .int, 2) := by decide +kernel
theorem dX8_init_90 : decode cX8_init 90 = .ok (.putfield 44, 3) := by decide +kernel
theorem dX8_init_93 : decode cX8_init 93 = .ok (.aload_n 0, 1) := by decide +kernel
theorem dX8_init_94 : decode cX8_init 94 = .ok (.bipush 16, 2) := by decide +kernel
theorem dX8_init_96 : decode cX8_init 96 = .ok (.newarray .int, 2) := by decide +kernel
theorem dX8_init_98 : decode cX8_init 98 = .ok (.putfield 47, 3) := by decide +kernel
theorem dX8_init_101 : decode cX8_init 101 = .ok (.aload_n 0, 1) := by decide +kernel
theorem dX8_init_102 : decode cX8_init 102 = .ok (.bipush 16, 2) := by decide +kernel
theorem dX8_init_104 : decode cX8_init 104 = .ok (.newarray .int, 2) := by decide +kernel
theorem dX8_init_106 : decode cX8_init 106 = .ok (.putfield 50, 3) := by decide +kernel
theorem dX8_init_109 : decode cX8_init 109 = .ok (.aload_n 0, 1) := by decide +kernel
theorem dX8_init_110 : decode cX8_init 110 = .ok (.bipush 16, 2) := by decide +kernel
theorem dX8_init_112 : decode cX8_init 112 = .ok (.newarray .int, 2) := by decide +kernel
theorem dX8_init_114 : decode cX8_init 114 = .ok (.putfield 53, 3) := by decide +kernel
theorem dX8_init_117 : decode cX8_init 117 = .ok (.aload_n 0, 1) := by decide +kernel
theorem dX8_init_118 : decode cX8_init 118 = .ok (.bipush 16, 2) := by decide +kernel
theorem dX8_init_120 : decode cX8_init 120 = .ok (.newarray .int, 2) := by decide +kernel
theorem dX8_init_122 : decode cX8_init 122 = .ok (.putfield 56, 3) := by decide +kernel
theorem dX8_init_125 : decode cX8_init 125 = .ok (.aload_n 0, 1) := by decide +kernel
theorem dX8_init_126 : decode cX8_init 126 = .ok (.bipush 16, 2) := by decide +kernel
theorem dX8_init_128 : decode cX8_init 128 = .ok (.newarray .boolean, 2) := by decide +kernel
theorem dX8_init_130 : decode cX8_init 130 = .ok (.putfield 59, 3) := by decide +kernel
theorem dX8_init_133 : decode cX8_init 133 = .ok (.aload_n 0, 1) := by decide +kernel
theorem dX8_init_134 : decode cX8_init 134 = .ok (.bipush 8, 2) := by decide +kernel
theorem dX8_init_136 : decode cX8_init 136 = .ok (.newarray .int, 2) := by decide +kernel
theorem dX8_init_138 : decode cX8_init 138 = .ok (.putfield 63, 3) := by decide +kernel
theorem dX8_init_141 : decode cX8_init 141 = .ok (.aload_n 0, 1) := by decide +kernel
theorem dX8_init_142 : decode cX8_init 142 = .ok (.bipush 8, 2) := by decide +kernel
theorem dX8_init_144 : decode cX8_init 144 = .ok (.newarray .int, 2) := by decide +kernel
theorem dX8_init_146 : decode cX8_init 146 = .ok (.putfield 66, 3) := by decide +kernel
theorem dX8_init_149 : decode cX8_init 149 = .ok (.return_, 1) := by decide +kernel
theorem dX8_thrown_0 : decode cX8_thrown 0 = .ok (.aload_n 0, 1) := by decide +kernel
theorem dX8_thrown_1 : decode cX8_thrown 1 = .ok (.getfield 69, 3) := by decide +kernel
theorem dX8_thrown_4 : decode cX8_thrown 4 = .ok (.ireturn, 1) := by decide +kernel
theorem dX8_isIn_0 : decode cX8_isIn 0 = .ok (.iload_n 0, 1) := by decide +kernel
theorem dX8_isIn_1 : decode cX8_isIn 1 = .ok (.iload_n 1, 1) := by decide +kernel
theorem dX8_isIn_2 : decode cX8_isIn 2 = .ok (.if_icmp .lt 12, 3) := by decide +kernel
theorem dX8_isIn_5 : decode cX8_isIn 5 = .ok (.iload_n 0, 1) := by decide +kernel
theorem dX8_isIn_6 : decode cX8_isIn 6 = .ok (.iload_n 2, 1) := by decide +kernel
theorem dX8_isIn_7 : decode cX8_isIn 7 = .ok (.if_icmp .gt 7, 3) := by decide +kernel
theorem dX8_isIn_10 : decode cX8_isIn 10 = .ok (.iconst 1, 1) := by decide +kernel
theorem dX8_isIn_11 : decode cX8_isIn 11 = .ok (.goto 4, 3) := by decide +kernel
theorem dX8_isIn_14 : decode cX8_isIn 14 = .ok (.iconst 0, 1) := by decide +kernel
theorem dX8_isIn_15 : decode cX8_isIn 15 = .ok (.ireturn, 1) := by decide +kernel
theorem dX8_fails_0 : decode cX8_fails 0 = .ok (.aload_n 0, 1) := by decide +kernel
theorem dX8_fails_1 : decode cX8_fails 1 = .ok (.iload_n 1, 1) := by decide +kernel
theorem dX8_fails_2 : decode cX8_fails 2 = .ok (.ifCond .eq 7, 3) := by decide +kernel
theorem dX8_fails_5 : decode cX8_fails 5 = .ok (.iconst 1, 1) := by decide +kernel
theorem dX8_fails_6 : decode cX8_fails 6 = .ok (.goto 12, 3) := by decide +kernel
theorem dX8_fails_9 : decode cX8_fails 9 = .ok (.iload_n 2, 1) := by decide +kernel
theorem dX8_fails_10 : decode cX8_fails 10 = .ok (.ifCond .eq 7, 3) := by decide +kernel
theorem dX8_fails_13 : decode cX8_fails 13 = .ok (.iconst 2, 1) := by decide +kernel
theorem dX8_fails_14 : decode cX8_fails 14 = .ok (.goto 4, 3) := by decide +kernel
theorem dX8_fails_17 : decode cX8_fails 17 = .ok (.iconst 0, 1) := by decide +kernel
theorem dX8_fails_18 : decode cX8_fails 18 = .ok (.putfield 69, 3) := by decide +kernel
theorem dX8_fails_21 : decode cX8_fails 21 = .ok (.aload_n 0, 1) := by decide +kernel
theorem dX8_fails_22 : decode cX8_fails 22 = .ok (.getfield 69, 3) := by decide +kernel
theorem dX8_fails_25 : decode cX8_fails 25 = .ok (.ifCond .eq 7, 3) := by decide +kernel
theorem dX8_fails_28 : decode cX8_fails 28 = .ok (.iconst 1, 1) := by decide +kernel
theorem dX8_fails_29 : decode cX8_fails 29 = .ok (.goto 4, 3) := by decide +kernel
theorem dX8_fails_32 : decode cX8_fails 32 = .ok (.iconst 0, 1) := by decide +kernel
theorem dX8_fails_33 : decode cX8_fails 33 = .ok (.ireturn, 1) := by decide +kernel
theorem dX8_get_0 : decode cX8_get 0 = .ok (.aload_n 0, 1) := by decide +kernel
theorem dX8_get_1 : decode cX8_get 1 = .ok (.getfield 7, 3) := by decide +kernel
theorem dX8_get_4 : decode cX8_get 4 = .ok (.iconst 5, 1) := by decide +kernel
theorem dX8_get_5 : decode cX8_get 5 = .ok (.iload_n 1, 1) := by decide +kernel
theorem dX8_get_6 : decode cX8_get 6 = .ok (.imul, 1) := by decide +kernel
theorem dX8_get_7 : decode cX8_get 7 = .ok (.iload_n 2, 1) := by decide +kernel
theorem dX8_get_8 : decode cX8_get 8 = .ok (.iadd, 1) := by decide +kernel
theorem dX8_get_9 : decode cX8_get 9 = .ok (.iaload, 1) := by decide +kernel
theorem dX8_get_10 : decode cX8_get 10 = .ok (.ireturn, 1) := by decide +kernel
set_option maxRecDepth 20000 in
theorem ggX8_isNo_X8_isIn : GoodIn wsX8_isNo wsX8_isIn := goodIn_r _ [5] (by decide +kernel) (by decide +kernel)
set_option maxRecDepth 20000 in
theorem gX8_isNo_X8_isIn : GoodIn wsX8_isNo (va_wsS RX8 75 yX8_isIn wsX8_isIn) := goodIn_app (goodIn_of _ (by decide +kernel)) ggX8_isNo_X8_isIn
theorem dX8_isNo_0 : decode cX8_isNo 0 = .ok (.iload_n 1, 1) := by decide +kernel
theorem dX8_isNo_1 : decode cX8_isNo 1 = .ok (.iconst 0, 1) := by decide +kernel
theorem dX8_isNo_2 : decode cX8_isNo 2 = .ok (.aload_n 0, 1) := by decide +kernel
theorem dX8_isNo_3 : decode cX8_isNo 3 = .ok (.getfield 72, 3) := by decide +kernel
theorem dX8_isNo_6 : decode cX8_isNo 6 = .ok (.iconst 1, 1) := by decide +kernel
theorem dX8_isNo_7 : decode cX8_isNo 7 = .ok (.isub, 1) := by decide +kernel
theorem dX8_isNo_8 : decode cX8_isNo 8 = .ok (.invokestatic 75, 3) := by decide +kernel
theorem dX8_isNo_11 : decode cX8_isNo 11 = .ok (.ifCond .ne 7, 3) := by decide +kernel
theorem dX8_isNo_14 : decode cX8_isNo 14 = .ok (.iconst 1, 1) := by decide +kernel
theorem dX8_isNo_15 : decode cX8_isNo 15 = .ok (.goto 4, 3) := by decide +kernel
theorem dX8_isNo_18 : decode cX8_isNo 18 = .ok (.iconst 0, 1) := by decide +kernel
theorem dX8_isNo_19 : decode cX8_isNo 19 = .ok (.ireturn, 1) := by decide +kernel
set_option maxRecDepth 20000 in
theorem ggX8_guest_X8_isIn : GoodIn wsX8_guest wsX8_isIn := goodIn_r _ [9] (by decide +kernel) (by decide +kernel)
set_option maxRecDepth 20000 in
theorem gX8_guest_X8_isIn : GoodIn wsX8_guest (va_wsS RX8 75 yX8_isIn wsX8_isIn) := goodIn_app (goodIn_of _ (by decide +kernel)) ggX8_guest_X8_isIn
theorem dX8_guest_0 : decode cX8_guest 0 = .ok (.aload_n 0, 1) := by decide +kernel
theorem dX8_guest_1 : decode cX8_guest 1 = .ok (.iconst 0, 1) := by decide +kernel
theorem dX8_guest_2 : decode cX8_guest 2 = .ok (.putfield 69, 3) := by decide +kernel
theorem dX8_guest_5 : decode cX8_guest 5 = .ok (.iload_n 1, 1) := by decide +kernel
theorem dX8_guest_6 : decode cX8_guest 6 = .ok (.iconst 0, 1) := by decide +kernel
theorem dX8_guest_7 : decode cX8_guest 7 = .ok (.iconst 4, 1) := by decide +kernel
theorem dX8_guest_8 : decode cX8_guest 8 = .ok (.invokestatic 75, 3) := by decide +kernel
theorem dX8_guest_11 : decode cX8_guest 11 = .ok (.ifCond .eq 53, 3) := by decide +kernel
theorem dX8_guest_14 : decode cX8_guest 14 = .ok (.iload_n 2, 1) := by decide +kernel
theorem dX8_guest_15 : decode cX8_guest 15 = .ok (.iconst 1, 1) := by decide +kernel
theorem dX8_guest_16 : decode cX8_guest 16 = .ok (.iconst 5, 1) := by decide +kernel
theorem dX8_guest_17 : decode cX8_guest 17 = .ok (.invokestatic 75, 3) := by decide +kernel
theorem dX8_guest_20 : decode cX8_guest 20 = .ok (.ifCond .eq 44, 3) := by decide +kernel
theorem dX8_guest_23 : decode cX8_guest 23 = .ok (.iload_n 3, 1) := by decide +kernel
theorem dX8_guest_24 : decode cX8_guest 24 = .ok (.iconst 0, 1) := by decide +kernel
theorem dX8_guest_25 : decode cX8_guest 25 = .ok (.bipush 9, 2) := by decide +kernel
theorem dX8_guest_27 : decode cX8_guest 27 = .ok (.invokestatic 75, 3) := by decide +kernel
theorem dX8_guest_30 : decode cX8_guest 30 = .ok (.ifCond .eq 34, 3) := by decide +kernel
theorem dX8_guest_33 : decode cX8_guest 33 = .ok (.iload 4, 2) := by decide +kernel
theorem dX8_guest_35 : decode cX8_guest 35 = .ok (.iconst 1, 1) := by decide +kernel
theorem dX8_guest_36 : decode cX8_guest 36 = .ok (.bipush 9, 2) := by decide +kernel
theorem dX8_guest_38 : decode cX8_guest 38 = .ok (.invokestatic 75, 3) := by decide +kernel
theorem dX8_guest_41 : decode cX8_guest 41 = .ok (.ifCond .eq 23, 3) := by decide +kernel
theorem dX8_guest_44 : decode cX8_guest 44 = .ok (.iload 5, 2) := by decide +kernel
theorem dX8_guest_46 : decode cX8_guest 46 = .ok (.iconst 0, 1) := by decide +kernel
theorem dX8_guest_47 : decode cX8_guest 47 = .ok (.bipush 9, 2) := by decide +kernel
theorem dX8_guest_49 : decode cX8_guest 49 = .ok (.invokestatic 75, 3) := by decide +kernel
theorem dX8_guest_52 : decode cX8_guest 52 = .ok (.ifCond .eq 12, 3) := by decide +kernel
theorem dX8_guest_55 : decode cX8_guest 55 = .ok (.aload_n 0, 1) := by decide +kernel
theorem dX8_guest_56 : decode cX8_guest 56 = .ok (.getfield 72, 3) := by decide +kernel
theorem dX8_guest_59 : decode cX8_guest 59 = .ok (.bipush 8, 2) := by decide +kernel
theorem dX8_guest_61 : decode cX8_guest 61 = .ok (.if_icmp .ne 5, 3) := by decide +kernel
theorem dX8_guest_64 : decode cX8_guest 64 = .ok (.iconst (-1), 1) := by decide +kernel
theorem dX8_guest_65 : decode cX8_guest 65 = .ok (.ireturn, 1) := by decide +kernel
theorem dX8_guest_66 : decode cX8_guest 66 = .ok (.iconst 5, 1) := by decide +kernel
theorem dX8_guest_67 : decode cX8_guest 67 = .ok (.aload_n 0, 1) := by decide +kernel
theorem dX8_guest_68 : decode cX8_guest 68 = .ok (.getfield 72, 3) := by decide +kernel
theorem dX8_guest_71 : decode cX8_guest 71 = .ok (.imul, 1) := by decide +kernel
theorem dX8_guest_72 : decode cX8_guest 72 = .ok (.istore 6, 2) := by decide +kernel
theorem dX8_guest_74 : decode cX8_guest 74 = .ok (.aload_n 0, 1) := by decide +kernel
theorem dX8_guest_75 : decode cX8_guest 75 = .ok (.getfield 7, 3) := by decide +kernel
theorem dX8_guest_78 : decode cX8_guest 78 = .ok (.iload 6, 2) := by decide +kernel
theorem dX8_guest_80 : decode cX8_guest 80 = .ok (.iload_n 1, 1) := by decide +kernel
theorem dX8_guest_81 : decode cX8_guest 81 = .ok (.iastore, 1) := by decide +kernel
theorem dX8_guest_82 : decode cX8_guest 82 = .ok (.aload_n 0, 1) := by decide +kernel
theorem dX8_guest_83 : decode cX8_guest 83 = .ok (.getfield 7, 3) := by decide +kernel
theorem dX8_guest_86 : decode cX8_guest 86 = .ok (.iload 6, 2) := by decide +kernel
theorem dX8_guest_88 : decode cX8_guest 88 = .ok (.iconst 1, 1) := by decide +kernel
theorem dX8_guest_89 : decode cX8_guest 89 = .ok (.iadd, 1) := by decide +kernel
theorem dX8_guest_90 : decode cX8_guest 90 = .ok (.iload_n 2, 1) := by decide +kernel
theorem dX8_guest_91 : decode cX8_guest 91 = .ok (.iastore, 1) := by decide +kernel
theorem dX8_guest_92 : decode cX8_guest 92 = .ok (.aload_n 0, 1) := by decide +kernel
theorem dX8_guest_93 : decode cX8_guest 93 = .ok (.getfield 7, 3) := by decide +kernel
theorem dX8_guest_96 : decode cX8_guest 96 = .ok (.iload 6, 2) := by decide +kernel
theorem dX8_guest_98 : decode cX8_guest 98 = .ok (.iconst 2, 1) := by decide +kernel
theorem dX8_guest_99 : decode cX8_guest 99 = .ok (.iadd, 1) := by decide +kernel
theorem dX8_guest_100 : decode cX8_guest 100 = .ok (.iload_n 3, 1) := by decide +kernel
theorem dX8_guest_101 : decode cX8_guest 101 = .ok (.iastore, 1) := by decide +kernel
theorem dX8_guest_102 : decode cX8_guest 102 = .ok (.aload_n 0, 1) := by decide +kernel
theorem dX8_guest_103 : decode cX8_guest 103 = .ok (.getfield 7, 3) := by decide +kernel
theorem dX8_guest_106 : decode cX8_guest 106 = .ok (.iload 6, 2) := by decide +kernel
theorem dX8_guest_108 : decode cX8_guest 108 = .ok (.iconst 3, 1) := by decide +kernel
theorem dX8_guest_109 : decode cX8_guest 109 = .ok (.iadd, 1) := by decide +kernel
theorem dX8_guest_110 : decode cX8_guest 110 = .ok (.iload 4, 2) := by decide +kernel
theorem dX8_guest_112 : decode cX8_guest 112 = .ok (.iastore, 1) := by decide +kernel
theorem dX8_guest_113 : decode cX8_guest 113 = .ok (.aload_n 0, 1) := by decide +kernel
theorem dX8_guest_114 : decode cX8_guest 114 = .ok (.getfield 7, 3) := by decide +kernel
theorem dX8_guest_117 : decode cX8_guest 117 = .ok (.iload 6, 2) := by decide +kernel
theorem dX8_guest_119 : decode cX8_guest 119 = .ok (.iconst 4, 1) := by decide +kernel
theorem dX8_guest_120 : decode cX8_guest 120 = .ok (.iadd, 1) := by decide +kernel
theorem dX8_guest_121 : decode cX8_guest 121 = .ok (.iload 5, 2) := by decide +kernel
theorem dX8_guest_123 : decode cX8_guest 123 = .ok (.iastore, 1) := by decide +kernel
theorem dX8_guest_124 : decode cX8_guest 124 = .ok (.aload_n 0, 1) := by decide +kernel
theorem dX8_guest_125 : decode cX8_guest 125 = .ok (.dup, 1) := by decide +kernel
theorem dX8_guest_126 : decode cX8_guest 126 = .ok (.getfield 72, 3) := by decide +kernel
theorem dX8_guest_129 : decode cX8_guest 129 = .ok (.iconst 1, 1) := by decide +kernel
theorem dX8_guest_130 : decode cX8_guest 130 = .ok (.iadd, 1) := by decide +kernel
theorem dX8_guest_131 : decode cX8_guest 131 = .ok (.putfield 72, 3) := by decide +kernel
theorem dX8_guest_134 : decode cX8_guest 134 = .ok (.iconst 0, 1) := by decide +kernel
theorem dX8_guest_135 : decode cX8_guest 135 = .ok (.istore 7, 2) := by decide +kernel
theorem dX8_guest_137 : decode cX8_guest 137 = .ok (.iload 7, 2) := by decide +kernel
theorem dX8_guest_139 : decode cX8_guest 139 = .ok (.aload_n 0, 1) := by decide +kernel
theorem dX8_guest_140 : decode cX8_guest 140 = .ok (.getfield 72, 3) := by decide +kernel
theorem dX8_guest_143 : decode cX8_guest 143 = .ok (.if_icmp .ge 18, 3) := by decide +kernel
theorem dX8_guest_146 : decode cX8_guest 146 = .ok (.aload_n 0, 1) := by decide +kernel
theorem dX8_guest_147 : decode cX8_guest 147 = .ok (.getfield 13, 3) := by decide +kernel
theorem dX8_guest_150 : decode cX8_guest 150 = .ok (.iload 7, 2) := by decide +kernel
theorem dX8_guest_152 : decode cX8_guest 152 = .ok (.iload 7, 2) := by decide +kernel
theorem dX8_guest_154 : decode cX8_guest 154 = .ok (.iastore, 1) := by decide +kernel
theorem dX8_guest_155 : decode cX8_guest 155 = .ok (.iinc 7 1, 3) := by decide +kernel
theorem dX8_guest_158 : decode cX8_guest 158 = .ok (.goto (-21), 3) := by decide +kernel
theorem dX8_guest_161 : decode cX8_guest 161 = .ok (.aload_n 0, 1) := by decide +kernel
theorem dX8_guest_162 : decode cX8_guest 162 = .ok (.iconst 0, 1) := by decide +kernel
theorem dX8_guest_163 : decode cX8_guest 163 = .ok (.putfield 79, 3) := by decide +kernel
theorem dX8_guest_166 : decode cX8_guest 166 = .ok (.aload_n 0, 1) := by decide +kernel
theorem dX8_guest_167 : decode cX8_guest 167 = .ok (.getfield 72, 3) := by decide +kernel
theorem dX8_guest_170 : decode cX8_guest 170 = .ok (.iconst 1, 1) := by decide +kernel
theorem dX8_guest_171 : decode cX8_guest 171 = .ok (.isub, 1) := by decide +kernel
theorem dX8_guest_172 : decode cX8_guest 172 = .ok (.ireturn, 1) := by decide +kernel
set_option maxRecDepth 20000 in
theorem ggX8_of_X8_isNo : GoodIn wsX8_of wsX8_isNo := goodIn_r _ [5, 6, 7, 8, 4, 9, 20, 21, 22, 23, 24, 25, 26, 27, 28, 29, 30, 31, 32, 33, 34, 35, 36, 37, 38, 39, 40, 41, 42, 43, 44, 45, 46, 47, 48, 49, 50, 51, 52, 53, 54, 55] (by decide +kernel) (by decide +kernel)
set_option maxRecDepth 20000 in
theorem gX8_of_X8_isNo : GoodIn wsX8_of (wsV RX8 83 RX8 yX8_isNo wsX8_isNo) := goodIn_app (goodIn_of _ (by decide +kernel)) ggX8_of_X8_isNo
set_option maxRecDepth 20000 in
theorem ggX8_of_X8_fails : GoodIn wsX8_of wsX8_fails := goodIn_r _ [13, 14, 20, 21, 22, 23, 24, 25, 26, 27, 28, 29, 30, 31, 32, 33, 34, 35, 36, 37, 38, 39, 40, 41, 42, 43, 44, 45, 46, 47, 48, 49, 50, 51, 52, 53, 54, 55] (by decide +kernel) (by decide +kernel)
set_option maxRecDepth 20000 in
theorem gX8_of_X8_fails : GoodIn wsX8_of (wsV RX8 87 RX8 yX8_fails wsX8_fails) := goodIn_app (goodIn_of _ (by decide +kernel)) ggX8_of_X8_fails
set_option maxRecDepth 20000 in
theorem ggX8_of_X8_isIn : GoodIn wsX8_of wsX8_isIn := goodIn_r _ [9] (by decide +kernel) (by decide +kernel)
set_option maxRecDepth 20000 in
theorem gX8_of_X8_isIn : GoodIn wsX8_of (va_wsS RX8 75 yX8_isIn wsX8_isIn) := goodIn_app (goodIn_of _ (by decide +kernel)) ggX8_of_X8_isIn
set_option maxRecDepth 20000 in
theorem ggX8_of_X8_get : GoodIn wsX8_of wsX8_get := goodIn_r _ [18, 19, 20, 21, 22, 23, 24, 25, 26, 27, 28, 29, 30, 31, 32, 33, 34, 35, 36, 37, 38, 39, 40, 41, 42, 43, 44, 45, 46, 47, 48, 49, 50, 51, 52, 53, 54, 55] (by decide +kernel) (by decide +kernel)
set_option maxRecDepth 20000 in
theorem gX8_of_X8_get : GoodIn wsX8_of (wsV RX8 91 RX8 yX8_get wsX8_get) := goodIn_app (goodIn_of _ (by decide +kernel)) ggX8_of_X8_get
theorem dX8_of_0 : decode cX8_of 0 = .ok (.aload_n 0, 1) := by decide +kernel
theorem dX8_of_1 : decode cX8_of 1 = .ok (.aload_n 0, 1) := by decide +kernel
theorem dX8_of_2 : decode cX8_of 2 = .ok (.iload_n 1, 1) := by decide +kernel
theorem dX8_of_3 : decode cX8_of 3 = .ok (.invokevirtual 83, 3) := by decide +kernel
theorem dX8_of_6 : decode cX8_of 6 = .ok (.iconst 0, 1) := by decide +kernel
theorem dX8_of_7 : decode cX8_of 7 = .ok (.invokevirtual 87, 3) := by decide +kernel
theorem dX8_of_10 : decode cX8_of 10 = .ok (.ifCond .eq 5, 3) := by decide +kernel
theorem dX8_of_13 : decode cX8_of 13 = .ok (.iconst 0, 1) := by decide +kernel
theorem dX8_of_14 : decode cX8_of 14 = .ok (.ireturn, 1) := by decide +kernel
theorem dX8_of_15 : decode cX8_of 15 = .ok (.iload_n 2, 1) := by decide +kernel
theorem dX8_of_16 : decode cX8_of 16 = .ok (.iconst 0, 1) := by decide +kernel
theorem dX8_of_17 : decode cX8_of 17 = .ok (.iconst 4, 1) := by decide +kernel
theorem dX8_of_18 : decode cX8_of 18 = .ok (.invokestatic 75, 3) := by decide +kernel
theorem dX8_of_21 : decode cX8_of 21 = .ok (.ifCond .eq 12, 3) := by decide +kernel
theorem dX8_of_24 : decode cX8_of 24 = .ok (.aload_n 0, 1) := by decide +kernel
theorem dX8_of_25 : decode cX8_of 25 = .ok (.iload_n 1, 1) := by decide +kernel
theorem dX8_of_26 : decode cX8_of 26 = .ok (.iload_n 2, 1) := by decide +kernel
theorem dX8_of_27 : decode cX8_of 27 = .ok (.invokevirtual 91, 3) := by decide +kernel
theorem dX8_of_30 : decode cX8_of 30 = .ok (.goto 4, 3) := by decide +kernel
theorem dX8_of_33 : decode cX8_of 33 = .ok (.iconst (-1), 1) := by decide +kernel
theorem dX8_of_34 : decode cX8_of 34 = .ok (.ireturn, 1) := by decide +kernel
theorem dX8_feed_0 : decode cX8_feed 0 = .ok (.aload_n 0, 1) := by decide +kernel
theorem dX8_feed_1 : decode cX8_feed 1 = .ok (.iconst 0, 1) := by decide +kernel
theorem dX8_feed_2 : decode cX8_feed 2 = .ok (.putfield 69, 3) := by decide +kernel
theorem dX8_feed_5 : decode cX8_feed 5 = .ok (.aload_n 0, 1) := by decide +kernel
theorem dX8_feed_6 : decode cX8_feed 6 = .ok (.getfield 95, 3) := by decide +kernel
theorem dX8_feed_9 : decode cX8_feed 9 = .ok (.bipush 20, 2) := by decide +kernel
theorem dX8_feed_11 : decode cX8_feed 11 = .ok (.iadd, 1) := by decide +kernel
theorem dX8_feed_12 : decode cX8_feed 12 = .ok (.sipush 400, 3) := by decide +kernel
theorem dX8_feed_15 : decode cX8_feed 15 = .ok (.if_icmp .le 5, 3) := by decide +kernel
theorem dX8_feed_18 : decode cX8_feed 18 = .ok (.iconst (-1), 1) := by decide +kernel
theorem dX8_feed_19 : decode cX8_feed 19 = .ok (.ireturn, 1) := by decide +kernel
theorem dX8_feed_20 : decode cX8_feed 20 = .ok (.iconst 0, 1) := by decide +kernel
theorem dX8_feed_21 : decode cX8_feed 21 = .ok (.istore 6, 2) := by decide +kernel
theorem dX8_feed_23 : decode cX8_feed 23 = .ok (.iload 6, 2) := by decide +kernel
theorem dX8_feed_25 : decode cX8_feed 25 = .ok (.bipush 20, 2) := by decide +kernel
theorem dX8_feed_27 : decode cX8_feed 27 = .ok (.if_icmp .ge 93, 3) := by decide +kernel
theorem dX8_feed_30 : decode cX8_feed 30 = .ok (.iload 6, 2) := by decide +kernel
theorem dX8_feed_32 : decode cX8_feed 32 = .ok (.iconst 4, 1) := by decide +kernel
theorem dX8_feed_33 : decode cX8_feed 33 = .ok (.if_icmp .ge 7, 3) := by decide +kernel
theorem dX8_feed_36 : decode cX8_feed 36 = .ok (.iload_n 1, 1) := by decide +kernel
theorem dX8_feed_37 : decode cX8_feed 37 = .ok (.goto 39, 3) := by decide +kernel
theorem dX8_feed_40 : decode cX8_feed 40 = .ok (.iload 6, 2) := by decide +kernel
theorem dX8_feed_42 : decode cX8_feed 42 = .ok (.bipush 8, 2) := by decide +kernel
theorem dX8_feed_44 : decode cX8_feed 44 = .ok (.if_icmp .ge 7, 3) := by decide +kernel
theorem dX8_feed_47 : decode cX8_feed 47 = .ok (.iload_n 2, 1) := by decide +kernel
theorem dX8_feed_48 : decode cX8_feed 48 = .ok (.goto 28, 3) := by decide +kernel
theorem dX8_feed_51 : decode cX8_feed 51 = .ok (.iload 6, 2) := by decide +kernel
theorem dX8_feed_53 : decode cX8_feed 53 = .ok (.bipush 12, 2) := by decide +kernel
theorem dX8_feed_55 : decode cX8_feed 55 = .ok (.if_icmp .ge 7, 3) := by decide +kernel
theorem dX8_feed_58 : decode cX8_feed 58 = .ok (.iload_n 3, 1) := by decide +kernel
theorem dX8_feed_59 : decode cX8_feed 59 = .ok (.goto 17, 3) := by decide +kernel
theorem dX8_feed_62 : decode cX8_feed 62 = .ok (.iload 6, 2) := by decide +kernel
theorem dX8_feed_64 : decode cX8_feed 64 = .ok (.bipush 16, 2) := by decide +kernel
theorem dX8_feed_66 : decode cX8_feed 66 = .ok (.if_icmp .ge 8, 3) := by decide +kernel
theorem dX8_feed_69 : decode cX8_feed 69 = .ok (.iload 4, 2) := by decide +kernel
theorem dX8_feed_71 : decode cX8_feed 71 = .ok (.goto 5, 3) := by decide +kernel
theorem dX8_feed_74 : decode cX8_feed 74 = .ok (.iload 5, 2) := by decide +kernel
theorem dX8_feed_76 : decode cX8_feed 76 = .ok (.istore 7, 2) := by decide +kernel
theorem dX8_feed_78 : decode cX8_feed 78 = .ok (.aload_n 0, 1) := by decide +kernel
theorem dX8_feed_79 : decode cX8_feed 79 = .ok (.getfield 22, 3) := by decide +kernel
theorem dX8_feed_82 : decode cX8_feed 82 = .ok (.aload_n 0, 1) := by decide +kernel
theorem dX8_feed_83 : decode cX8_feed 83 = .ok (.getfield 95, 3) := by decide +kernel
theorem dX8_feed_86 : decode cX8_feed 86 = .ok (.iload 7, 2) := by decide +kernel
theorem dX8_feed_88 : decode cX8_feed 88 = .ok (.bipush 24, 2) := by decide +kernel
theorem dX8_feed_90 : decode cX8_feed 90 = .ok (.bipush 8, 2) := by decide +kernel
theorem dX8_feed_92 : decode cX8_feed 92 = .ok (.iload 6, 2) := by decide +kernel
theorem dX8_feed_94 : decode cX8_feed 94 = .ok (.iconst 4, 1) := by decide +kernel
theorem dX8_feed_95 : decode cX8_feed 95 = .ok (.irem, 1) := by decide +kernel
theorem dX8_feed_96 : decode cX8_feed 96 = .ok (.imul, 1) := by decide +kernel
theorem dX8_feed_97 : decode cX8_feed 97 = .ok (.isub, 1) := by decide +kernel
theorem dX8_feed_98 : decode cX8_feed 98 = .ok (.ishr, 1) := by decide +kernel
theorem dX8_feed_99 : decode cX8_feed 99 = .ok (.sipush 255, 3) := by decide +kernel
theorem dX8_feed_102 : decode cX8_feed 102 = .ok (.iand, 1) := by decide +kernel
theorem dX8_feed_103 : decode cX8_feed 103 = .ok (.iastore, 1) := by decide +kernel
theorem dX8_feed_104 : decode cX8_feed 104 = .ok (.aload_n 0, 1) := by decide +kernel
theorem dX8_feed_105 : decode cX8_feed 105 = .ok (.dup, 1) := by decide +kernel
theorem dX8_feed_106 : decode cX8_feed 106 = .ok (.getfield 95, 3) := by decide +kernel
theorem dX8_feed_109 : decode cX8_feed 109 = .ok (.iconst 1, 1) := by decide +kernel
theorem dX8_feed_110 : decode cX8_feed 110 = .ok (.iadd, 1) := by decide +kernel
theorem dX8_feed_111 : decode cX8_feed 111 = .ok (.putfield 95, 3) := by decide +kernel
theorem dX8_feed_114 : decode cX8_feed 114 = .ok (.iinc 6 1, 3) := by decide +kernel
theorem dX8_feed_117 : decode cX8_feed 117 = .ok (.goto (-94), 3) := by decide +kernel
theorem dX8_feed_120 : decode cX8_feed 120 = .ok (.aload_n 0, 1) := by decide +kernel
theorem dX8_feed_121 : decode cX8_feed 121 = .ok (.getfield 95, 3) := by decide +kernel
theorem dX8_feed_124 : decode cX8_feed 124 = .ok (.ireturn, 1) := by decide +kernel
set_option maxRecDepth 20000 in
theorem ggX8_end_X8_isIn : GoodIn wsX8_end wsX8_isIn := goodIn_r _ [6] (by decide +kernel) (by decide +kernel)
set_option maxRecDepth 20000 in
theorem gX8_end_X8_isIn : GoodIn wsX8_end (va_wsS RX8 75 yX8_isIn wsX8_isIn) := goodIn_app (goodIn_of _ (by decide +kernel)) ggX8_end_X8_isIn
theorem dX8_end_0 : decode cX8_end 0 = .ok (.aload_n 0, 1) := by decide +kernel
theorem dX8_end_1 : decode cX8_end 1 = .ok (.iconst 0, 1) := by decide +kernel
theorem dX8_end_2 : decode cX8_end 2 = .ok (.putfield 69, 3) := by decide +kernel
theorem dX8_end_5 : decode cX8_end 5 = .ok (.iload_n 1, 1) := by decide +kernel
theorem dX8_end_6 : decode cX8_end 6 = .ok (.iconst 0, 1) := by decide +kernel
theorem dX8_end_7 : decode cX8_end 7 = .ok (.aload_n 0, 1) := by decide +kernel
theorem dX8_end_8 : decode cX8_end 8 = .ok (.getfield 95, 3) := by decide +kernel
theorem dX8_end_11 : decode cX8_end 11 = .ok (.invokestatic 75, 3) := by decide +kernel
theorem dX8_end_14 : decode cX8_end 14 = .ok (.ifCond .ne 5, 3) := by decide +kernel
theorem dX8_end_17 : decode cX8_end 17 = .ok (.iconst 0, 1) := by decide +kernel
theorem dX8_end_18 : decode cX8_end 18 = .ok (.ireturn, 1) := by decide +kernel
theorem dX8_end_19 : decode cX8_end 19 = .ok (.aload_n 0, 1) := by decide +kernel
theorem dX8_end_20 : decode cX8_end 20 = .ok (.iload_n 1, 1) := by decide +kernel
theorem dX8_end_21 : decode cX8_end 21 = .ok (.putfield 95, 3) := by decide +kernel
theorem dX8_end_24 : decode cX8_end 24 = .ok (.iconst 1, 1) := by decide +kernel
theorem dX8_end_25 : decode cX8_end 25 = .ok (.ireturn, 1) := by decide +kernel
theorem dX8_see_0 : decode cX8_see 0 = .ok (.iload_n 1, 1) := by decide +kernel
theorem dX8_see_1 : decode cX8_see 1 = .ok (.aload_n 0, 1) := by decide +kernel
theorem dX8_see_2 : decode cX8_see 2 = .ok (.getfield 95, 3) := by decide +kernel
theorem dX8_see_5 : decode cX8_see 5 = .ok (.if_icmp .ge 12, 3) := by decide +kernel
theorem dX8_see_8 : decode cX8_see 8 = .ok (.aload_n 0, 1) := by decide +kernel
theorem dX8_see_9 : decode cX8_see 9 = .ok (.getfield 22, 3) := by decide +kernel
theorem dX8_see_12 : decode cX8_see 12 = .ok (.iload_n 1, 1) := by decide +kernel
theorem dX8_see_13 : decode cX8_see 13 = .ok (.iaload, 1) := by decide +kernel
theorem dX8_see_14 : decode cX8_see 14 = .ok (.goto 4, 3) := by decide +kernel
theorem dX8_see_17 : decode cX8_see 17 = .ok (.iconst (-1), 1) := by decide +kernel
theorem dX8_see_18 : decode cX8_see 18 = .ok (.ireturn, 1) := by decide +kernel
set_option maxRecDepth 20000 in
theorem ggX8_isLetter_X8_isIn : GoodIn wsX8_isLetter wsX8_isIn := goodIn_r _ [4] (by decide +kernel) (by decide +kernel)
set_option maxRecDepth 20000 in
theorem gX8_isLetter_X8_isIn : GoodIn wsX8_isLetter (va_wsS RX8 75 yX8_isIn wsX8_isIn) := goodIn_app (goodIn_of _ (by decide +kernel)) ggX8_isLetter_X8_isIn
theorem dX8_isLetter_0 : decode cX8_isLetter 0 = .ok (.iload_n 0, 1) := by decide +kernel
theorem dX8_isLetter_1 : decode cX8_isLetter 1 = .ok (.bipush 97, 2) := by decide +kernel
theorem dX8_isLetter_3 : decode cX8_isLetter 3 = .ok (.bipush 122, 2) := by decide +kernel
theorem dX8_isLetter_5 : decode cX8_isLetter 5 = .ok (.invokestatic 75, 3) := by decide +kernel
theorem dX8_isLetter_8 : decode cX8_isLetter 8 = .ok (.ifCond .ne 14, 3) := by decide +kernel
theorem dX8_isLetter_11 : decode cX8_isLetter 11 = .ok (.iload_n 0, 1) := by decide +kernel
theorem dX8_isLetter_12 : decode cX8_isLetter 12 = .ok (.bipush 65, 2) := by decide +kernel
theorem dX8_isLetter_14 : decode cX8_isLetter 14 = .ok (.bipush 90, 2) := by decide +kernel
theorem dX8_isLetter_16 : decode cX8_isLetter 16 = .ok (.invokestatic 75, 3) := by decide +kernel
theorem dX8_isLetter_19 : decode cX8_isLetter 19 = .ok (.ifCond .eq 7, 3) := by decide +kernel
theorem dX8_isLetter_22 : decode cX8_isLetter 22 = .ok (.iconst 1, 1) := by decide +kernel
theorem dX8_isLetter_23 : decode cX8_isLetter 23 = .ok (.goto 4, 3) := by decide +kernel
theorem dX8_isLetter_26 : decode cX8_isLetter 26 = .ok (.iconst 0, 1) := by decide +kernel
theorem dX8_isLetter_27 : decode cX8_isLetter 27 = .ok (.ireturn, 1) := by decide +kernel
theorem dX8_word_0 : decode cX8_word 0 = .ok (.lload_n 0, 1) := by decide +kernel
theorem dX8_word_1 : decode cX8_word 1 = .ok (.ldc2_w 98, 3) := by decide +kernel
theorem dX8_word_4 : decode cX8_word 4 = .ok (.lcmp, 1) := by decide +kernel
theorem dX8_word_5 : decode cX8_word 5 = .ok (.ifCond .ne 6, 3) := by decide +kernel
theorem dX8_word_8 : decode cX8_word 8 = .ok (.bipush 11, 2) := by decide +kernel
theorem dX8_word_10 : decode cX8_word 10 = .ok (.ireturn, 1) := by decide +kernel
theorem dX8_word_11 : decode cX8_word 11 = .ok (.lload_n 0, 1) := by decide +kernel
theorem dX8_word_12 : decode cX8_word 12 = .ok (.ldc2_w 100, 3) := by decide +kernel
theorem dX8_word_15 : decode cX8_word 15 = .ok (.lcmp, 1) := by decide +kernel
theorem dX8_word_16 : decode cX8_word 16 = .ok (.ifCond .ne 6, 3) := by decide +kernel
theorem dX8_word_19 : decode cX8_word 19 = .ok (.bipush 12, 2) := by decide +kernel
theorem dX8_word_21 : decode cX8_word 21 = .ok (.ireturn, 1) := by decide +kernel
theorem dX8_word_22 : decode cX8_word 22 = .ok (.lload_n 0, 1) := by decide +kernel
theorem dX8_word_23 : decode cX8_word 23 = .ok (.ldc2_w 102, 3) := by decide +kernel
theorem dX8_word_26 : decode cX8_word 26 = .ok (.lcmp, 1) := by decide +kernel
theorem dX8_word_27 : decode cX8_word 27 = .ok (.ifCond .ne 6, 3) := by decide +kernel
theorem dX8_word_30 : decode cX8_word 30 = .ok (.bipush 13, 2) := by decide +kernel
theorem dX8_word_32 : decode cX8_word 32 = .ok (.ireturn, 1) := by decide +kernel
theorem dX8_word_33 : decode cX8_word 33 = .ok (.lload_n 0, 1) := by decide +kernel
theorem dX8_word_34 : decode cX8_word 34 = .ok (.ldc2_w 104, 3) := by decide +kernel
theorem dX8_word_37 : decode cX8_word 37 = .ok (.lcmp, 1) := by decide +kernel
theorem dX8_word_38 : decode cX8_word 38 = .ok (.ifCond .ne 6, 3) := by decide +kernel
theorem dX8_word_41 : decode cX8_word 41 = .ok (.bipush 14, 2) := by decide +kernel
theorem dX8_word_43 : decode cX8_word 43 = .ok (.ireturn, 1) := by decide +kernel
theorem dX8_word_44 : decode cX8_word 44 = .ok (.lload_n 0, 1) := by decide +kernel
theorem dX8_word_45 : decode cX8_word 45 = .ok (.ldc2_w 106, 3) := by decide +kernel
theorem dX8_word_48 : decode cX8_word 48 = .ok (.lcmp, 1) := by decide +kernel
theorem dX8_word_49 : decode cX8_word 49 = .ok (.ifCond .ne 6, 3) := by decide +kernel
theorem dX8_word_52 : decode cX8_word 52 = .ok (.bipush 15, 2) := by decide +kernel
theorem dX8_word_54 : decode cX8_word 54 = .ok (.ireturn, 1) := by decide +kernel
theorem dX8_word_55 : decode cX8_word 55 = .ok (.lload_n 0, 1) := by decide +kernel
theorem dX8_word_56 : decode cX8_word 56 = .ok (.ldc2_w 108, 3) := by decide +kernel
theorem dX8_word_59 : decode cX8_word 59 = .ok (.lcmp, 1) := by decide +kernel
theorem dX8_word_60 : decode cX8_word 60 = .ok (.ifCond .ne 7, 3) := by decide +kernel
theorem dX8_word_63 : decode cX8_word 63 = .ok (.iconst 4, 1) := by decide +kernel
theorem dX8_word_64 : decode cX8_word 64 = .ok (.goto 4, 3) := by decide +kernel
theorem dX8_word_67 : decode cX8_word 67 = .ok (.iconst 1, 1) := by decide +kernel
theorem dX8_word_68 : decode cX8_word 68 = .ok (.ireturn, 1) := by decide +kernel
set_option maxRecDepth 20000 in
theorem ggX8_look0_X8_see : GoodIn wsX8_look0 wsX8_see := goodIn_r _ [9, 10, 11, 27, 28, 29, 30, 31, 32, 33, 34, 35, 36, 37, 38, 39, 40, 41, 42, 43, 44, 45, 46, 47, 48, 49, 50, 51, 52, 53, 54, 55, 56, 57, 58, 59, 60, 61, 62] (by decide +kernel) (by decide +kernel)
set_option maxRecDepth 20000 in
theorem gX8_look0_X8_see : GoodIn wsX8_look0 (wsV RX8 113 RX8 yX8_see wsX8_see) := goodIn_app (goodIn_of _ (by decide +kernel)) ggX8_look0_X8_see
set_option maxRecDepth 20000 in
theorem ggX8_look0_X8_isLetter : GoodIn wsX8_look0 wsX8_isLetter := goodIn_r _ [14, 15, 16, 8, 17] (by decide +kernel) (by decide +kernel)
set_option maxRecDepth 20000 in
theorem gX8_look0_X8_isLetter : GoodIn wsX8_look0 (va_wsS RX8 123 yX8_isLetter wsX8_isLetter) := goodIn_app (goodIn_of _ (by decide +kernel)) ggX8_look0_X8_isLetter
set_option maxRecDepth 20000 in
theorem ggX8_look0_X8_word : GoodIn wsX8_look0 wsX8_word := goodIn_r _ [20, 21, 22, 23, 24, 25, 26] (by decide +kernel) (by decide +kernel)
set_option maxRecDepth 20000 in
theorem gX8_look0_X8_word : GoodIn wsX8_look0 (va_wsS RX8 126 yX8_word wsX8_word) := goodIn_app (goodIn_of _ (by decide +kernel)) ggX8_look0_X8_word
set_option maxRecDepth 20000 in
theorem ggX8_look0_X8_isIn : GoodIn wsX8_look0 wsX8_isIn := goodIn_r _ [17] (by decide +kernel) (by decide +kernel)
set_option maxRecDepth 20000 in
theorem gX8_look0_X8_isIn : GoodIn wsX8_look0 (va_wsS RX8 75 yX8_isIn wsX8_isIn) := goodIn_app (goodIn_of _ (by decide +kernel)) ggX8_look0_X8_isIn
theorem dX8_look0_0 : decode cX8_look0 0 = .ok (.aload_n 0, 1) := by decide +kernel
theorem dX8_look0_1 : decode cX8_look0 1 = .ok (.aload_n 0, 1) := by decide +kernel
theorem dX8_look0_2 : decode cX8_look0 2 = .ok (.getfield 110, 3) := by decide +kernel
theorem dX8_look0_5 : decode cX8_look0 5 = .ok (.invokevirtual 113, 3) := by decide +kernel
theorem dX8_look0_8 : decode cX8_look0 8 = .ok (.bipush 32, 2) := by decide +kernel
theorem dX8_look0_10 : decode cX8_look0 10 = .ok (.if_icmp .eq 16, 3) := by decide +kernel
theorem dX8_look0_13 : decode cX8_look0 13 = .ok (.aload_n 0, 1) := by decide +kernel
theorem dX8_look0_14 : decode cX8_look0 14 = .ok (.aload_n 0, 1) := by decide +kernel
theorem dX8_look0_15 : decode cX8_look0 15 = .ok (.getfield 110, 3) := by decide +kernel
theorem dX8_look0_18 : decode cX8_look0 18 = .ok (.invokevirtual 113, 3) := by decide +kernel
theorem dX8_look0_21 : decode cX8_look0 21 = .ok (.bipush 10, 2) := by decide +kernel
theorem dX8_look0_23 : decode cX8_look0 23 = .ok (.if_icmp .ne 16, 3) := by decide +kernel
theorem dX8_look0_26 : decode cX8_look0 26 = .ok (.aload_n 0, 1) := by decide +kernel
theorem dX8_look0_27 : decode cX8_look0 27 = .ok (.dup, 1) := by decide +kernel
theorem dX8_look0_28 : decode cX8_look0 28 = .ok (.getfield 110, 3) := by decide +kernel
theorem dX8_look0_31 : decode cX8_look0 31 = .ok (.iconst 1, 1) := by decide +kernel
theorem dX8_look0_32 : decode cX8_look0 32 = .ok (.iadd, 1) := by decide +kernel
theorem dX8_look0_33 : decode cX8_look0 33 = .ok (.putfield 110, 3) := by decide +kernel
theorem dX8_look0_36 : decode cX8_look0 36 = .ok (.goto (-36), 3) := by decide +kernel
theorem dX8_look0_39 : decode cX8_look0 39 = .ok (.aload_n 0, 1) := by decide +kernel
theorem dX8_look0_40 : decode cX8_look0 40 = .ok (.aload_n 0, 1) := by decide +kernel
theorem dX8_look0_41 : decode cX8_look0 41 = .ok (.getfield 110, 3) := by decide +kernel
theorem dX8_look0_44 : decode cX8_look0 44 = .ok (.putfield 117, 3) := by decide +kernel
theorem dX8_look0_47 : decode cX8_look0 47 = .ok (.aload_n 0, 1) := by decide +kernel
theorem dX8_look0_48 : decode cX8_look0 48 = .ok (.aload_n 0, 1) := by decide +kernel
theorem dX8_look0_49 : decode cX8_look0 49 = .ok (.getfield 110, 3) := by decide +kernel
theorem dX8_look0_52 : decode cX8_look0 52 = .ok (.invokevirtual 113, 3) := by decide +kernel
theorem dX8_look0_55 : decode cX8_look0 55 = .ok (.istore_n 1, 1) := by decide +kernel
theorem dX8_look0_56 : decode cX8_look0 56 = .ok (.aload_n 0, 1) := by decide +kernel
theorem dX8_look0_57 : decode cX8_look0 57 = .ok (.iconst 1, 1) := by decide +kernel
theorem dX8_look0_58 : decode cX8_look0 58 = .ok (.putfield 120, 3) := by decide +kernel
theorem dX8_look0_61 : decode cX8_look0 61 = .ok (.iconst 0, 1) := by decide +kernel
theorem dX8_look0_62 : decode cX8_look0 62 = .ok (.istore_n 2, 1) := by decide +kernel
theorem dX8_look0_63 : decode cX8_look0 63 = .ok (.iload_n 1, 1) := by decide +kernel
theorem dX8_look0_64 : decode cX8_look0 64 = .ok (.iconst (-1), 1) := by decide +kernel
theorem dX8_look0_65 : decode cX8_look0 65 = .ok (.if_icmp .ne 11, 3) := by decide +kernel
theorem dX8_look0_68 : decode cX8_look0 68 = .ok (.aload_n 0, 1) := by decide +kernel
theorem dX8_look0_69 : decode cX8_look0 69 = .ok (.iconst 0, 1) := by decide +kernel
theorem dX8_look0_70 : decode cX8_look0 70 = .ok (.putfield 120, 3) := by decide +kernel
theorem dX8_look0_73 : decode cX8_look0 73 = .ok (.goto 204, 3) := by decide +kernel
theorem dX8_look0_76 : decode cX8_look0 76 = .ok (.iload_n 1, 1) := by decide +kernel
theorem dX8_look0_77 : decode cX8_look0 77 = .ok (.invokestatic 123, 3) := by decide +kernel
theorem dX8_look0_80 : decode cX8_look0 80 = .ok (.ifCond .eq 77, 3) := by decide +kernel
theorem dX8_look0_83 : decode cX8_look0 83 = .ok (.lconst 0, 1) := by decide +kernel
theorem dX8_look0_84 : decode cX8_look0 84 = .ok (.lstore_n 3, 1) := by decide +kernel
theorem dX8_look0_85 : decode cX8_look0 85 = .ok (.aload_n 0, 1) := by decide +kernel
theorem dX8_look0_86 : decode cX8_look0 86 = .ok (.aload_n 0, 1) := by decide +kernel
theorem dX8_look0_87 : decode cX8_look0 87 = .ok (.getfield 110, 3) := by decide +kernel
theorem dX8_look0_90 : decode cX8_look0 90 = .ok (.invokevirtual 113, 3) := by decide +kernel
theorem dX8_look0_93 : decode cX8_look0 93 = .ok (.invokestatic 123, 3) := by decide +kernel
theorem dX8_look0_96 : decode cX8_look0 96 = .ok (.ifCond .eq 40, 3) := by decide +kernel
theorem dX8_look0_99 : decode cX8_look0 99 = .ok (.iload_n 2, 1) := by decide +kernel
theorem dX8_look0_100 : decode cX8_look0 100 = .ok (.bipush 7, 2) := by decide +kernel
theorem dX8_look0_102 : decode cX8_look0 102 = .ok (.if_icmp .ge 18, 3) := by decide +kernel
theorem dX8_look0_105 : decode cX8_look0 105 = .ok (.lload_n 3, 1) := by decide +kernel
theorem dX8_look0_106 : decode cX8_look0 106 = .ok (.bipush 8, 2) := by decide +kernel
theorem dX8_look0_108 : decode cX8_look0 108 = .ok (.lshl, 1) := by decide +kernel
theorem dX8_look0_109 : decode cX8_look0 109 = .ok (.aload_n 0, 1) := by decide +kernel
theorem dX8_look0_110 : decode cX8_look0 110 = .ok (.aload_n 0, 1) := by decide +kernel
theorem dX8_look0_111 : decode cX8_look0 111 = .ok (.getfield 110, 3) := by decide +kernel
theorem dX8_look0_114 : decode cX8_look0 114 = .ok (.invokevirtual 113, 3) := by decide +kernel
theorem dX8_look0_117 : decode cX8_look0 117 = .ok (.i2l, 1) := by decide +kernel
theorem dX8_look0_118 : decode cX8_look0 118 = .ok (.lor, 1) := by decide +kernel
theorem dX8_look0_119 : decode cX8_look0 119 = .ok (.lstore_n 3, 1) := by decide +kernel
theorem dX8_look0_120 : decode cX8_look0 120 = .ok (.iinc 2 1, 3) := by decide +kernel
theorem dX8_look0_123 : decode cX8_look0 123 = .ok (.aload_n 0, 1) := by decide +kernel
theorem dX8_look0_124 : decode cX8_look0 124 = .ok (.dup, 1) := by decide +kernel
theorem dX8_look0_125 : decode cX8_look0 125 = .ok (.getfield 110, 3) := by decide +kernel
theorem dX8_look0_128 : decode cX8_look0 128 = .ok (.iconst 1, 1) := by decide +kernel
theorem dX8_look0_129 : decode cX8_look0 129 = .ok (.iadd, 1) := by decide +kernel
theorem dX8_look0_130 : decode cX8_look0 130 = .ok (.putfield 110, 3) := by decide +kernel
theorem dX8_look0_133 : decode cX8_look0 133 = .ok (.goto (-48), 3) := by decide +kernel
theorem dX8_look0_136 : decode cX8_look0 136 = .ok (.aload_n 0, 1) := by decide +kernel
theorem dX8_look0_137 : decode cX8_look0 137 = .ok (.iload_n 2, 1) := by decide +kernel
theorem dX8_look0_138 : decode cX8_look0 138 = .ok (.bipush 6, 2) := by decide +kernel
theorem dX8_look0_140 : decode cX8_look0 140 = .ok (.if_icmp .le 7, 3) := by decide +kernel
theorem dX8_look0_143 : decode cX8_look0 143 = .ok (.iconst 1, 1) := by decide +kernel
theorem dX8_look0_144 : decode cX8_look0 144 = .ok (.goto 7, 3) := by decide +kernel
theorem dX8_look0_147 : decode cX8_look0 147 = .ok (.lload_n 3, 1) := by decide +kernel
theorem dX8_look0_148 : decode cX8_look0 148 = .ok (.invokestatic 126, 3) := by decide +kernel
theorem dX8_look0_151 : decode cX8_look0 151 = .ok (.putfield 120, 3) := by decide +kernel
theorem dX8_look0_154 : decode cX8_look0 154 = .ok (.goto 123, 3) := by decide +kernel
theorem dX8_look0_157 : decode cX8_look0 157 = .ok (.iload_n 1, 1) := by decide +kernel
theorem dX8_look0_158 : decode cX8_look0 158 = .ok (.bipush 48, 2) := by decide +kernel
theorem dX8_look0_160 : decode cX8_look0 160 = .ok (.bipush 57, 2) := by decide +kernel
theorem dX8_look0_162 : decode cX8_look0 162 = .ok (.invokestatic 75, 3) := by decide +kernel
theorem dX8_look0_165 : decode cX8_look0 165 = .ok (.ifCond .eq 87, 3) := by decide +kernel
theorem dX8_look0_168 : decode cX8_look0 168 = .ok (.aload_n 0, 1) := by decide +kernel
theorem dX8_look0_169 : decode cX8_look0 169 = .ok (.iconst 0, 1) := by decide +kernel
theorem dX8_look0_170 : decode cX8_look0 170 = .ok (.putfield 130, 3) := by decide +kernel
theorem dX8_look0_173 : decode cX8_look0 173 = .ok (.aload_n 0, 1) := by decide +kernel
theorem dX8_look0_174 : decode cX8_look0 174 = .ok (.aload_n 0, 1) := by decide +kernel
theorem dX8_look0_175 : decode cX8_look0 175 = .ok (.getfield 110, 3) := by decide +kernel
theorem dX8_look0_178 : decode cX8_look0 178 = .ok (.invokevirtual 113, 3) := by decide +kernel
theorem dX8_look0_181 : decode cX8_look0 181 = .ok (.bipush 48, 2) := by decide +kernel
theorem dX8_look0_183 : decode cX8_look0 183 = .ok (.bipush 57, 2) := by decide +kernel
theorem dX8_look0_185 : decode cX8_look0 185 = .ok (.invokestatic 75, 3) := by decide +kernel
theorem dX8_look0_188 : decode cX8_look0 188 = .ok (.ifCond .eq 47, 3) := by decide +kernel
theorem dX8_look0_191 : decode cX8_look0 191 = .ok (.iload_n 2, 1) := by decide +kernel
theorem dX8_look0_192 : decode cX8_look0 192 = .ok (.iconst 2, 1) := by decide +kernel
theorem dX8_look0_193 : decode cX8_look0 193 = .ok (.if_icmp .ge 26, 3) := by decide +kernel
theorem dX8_look0_196 : decode cX8_look0 196 = .ok (.aload_n 0, 1) := by decide +kernel
theorem dX8_look0_197 : decode cX8_look0 197 = .ok (.bipush 10, 2) := by decide +kernel
theorem dX8_look0_199 : decode cX8_look0 199 = .ok (.aload_n 0, 1) := by decide +kernel
theorem dX8_look0_200 : decode cX8_look0 200 = .ok (.getfield 130, 3) := by decide +kernel
theorem dX8_look0_203 : decode cX8_look0 203 = .ok (.imul, 1) := by decide +kernel
theorem dX8_look0_204 : decode cX8_look0 204 = .ok (.aload_n 0, 1) := by decide +kernel
theorem dX8_look0_205 : decode cX8_look0 205 = .ok (.aload_n 0, 1) := by decide +kernel
theorem dX8_look0_206 : decode cX8_look0 206 = .ok (.getfield 110, 3) := by decide +kernel
theorem dX8_look0_209 : decode cX8_look0 209 = .ok (.invokevirtual 113, 3) := by decide +kernel
theorem dX8_look0_212 : decode cX8_look0 212 = .ok (.iadd, 1) := by decide +kernel
theorem dX8_look0_213 : decode cX8_look0 213 = .ok (.bipush 48, 2) := by decide +kernel
theorem dX8_look0_215 : decode cX8_look0 215 = .ok (.isub, 1) := by decide +kernel
theorem dX8_look0_216 : decode cX8_look0 216 = .ok (.putfield 130, 3) := by decide +kernel
theorem dX8_look0_219 : decode cX8_look0 219 = .ok (.iinc 2 1, 3) := by decide +kernel
theorem dX8_look0_222 : decode cX8_look0 222 = .ok (.aload_n 0, 1) := by decide +kernel
theorem dX8_look0_223 : decode cX8_look0 223 = .ok (.dup, 1) := by decide +kernel
theorem dX8_look0_224 : decode cX8_look0 224 = .ok (.getfield 110, 3) := by decide +kernel
theorem dX8_look0_227 : decode cX8_look0 227 = .ok (.iconst 1, 1) := by decide +kernel
theorem dX8_look0_228 : decode cX8_look0 228 = .ok (.iadd, 1) := by decide +kernel
theorem dX8_look0_229 : decode cX8_look0 229 = .ok (.putfield 110, 3) := by decide +kernel
theorem dX8_look0_232 : decode cX8_look0 232 = .ok (.goto (-59), 3) := by decide +kernel
theorem dX8_look0_235 : decode cX8_look0 235 = .ok (.aload_n 0, 1) := by decide +kernel
theorem dX8_look0_236 : decode cX8_look0 236 = .ok (.iload_n 2, 1) := by decide +kernel
theorem dX8_look0_237 : decode cX8_look0 237 = .ok (.iconst 3, 1) := by decide +kernel
theorem dX8_look0_238 : decode cX8_look0 238 = .ok (.if_icmp .ge 7, 3) := by decide +kernel
theorem dX8_look0_241 : decode cX8_look0 241 = .ok (.iconst 2, 1) := by decide +kernel
theorem dX8_look0_242 : decode cX8_look0 242 = .ok (.goto 4, 3) := by decide +kernel
theorem dX8_look0_245 : decode cX8_look0 245 = .ok (.iconst 1, 1) := by decide +kernel
theorem dX8_look0_246 : decode cX8_look0 246 = .ok (.putfield 120, 3) := by decide +kernel
theorem dX8_look0_249 : decode cX8_look0 249 = .ok (.goto 28, 3) := by decide +kernel
theorem dX8_look0_252 : decode cX8_look0 252 = .ok (.aload_n 0, 1) := by decide +kernel
theorem dX8_look0_253 : decode cX8_look0 253 = .ok (.dup, 1) := by decide +kernel
theorem dX8_look0_254 : decode cX8_look0 254 = .ok (.getfield 110, 3) := by decide +kernel
theorem dX8_look0_257 : decode cX8_look0 257 = .ok (.iconst 1, 1) := by decide +kernel
theorem dX8_look0_258 : decode cX8_look0 258 = .ok (.iadd, 1) := by decide +kernel
theorem dX8_look0_259 : decode cX8_look0 259 = .ok (.putfield 110, 3) := by decide +kernel
theorem dX8_look0_262 : decode cX8_look0 262 = .ok (.aload_n 0, 1) := by decide +kernel
theorem dX8_look0_263 : decode cX8_look0 263 = .ok (.iload_n 1, 1) := by decide +kernel
theorem dX8_look0_264 : decode cX8_look0 264 = .ok (.bipush 59, 2) := by decide +kernel
theorem dX8_look0_266 : decode cX8_look0 266 = .ok (.if_icmp .ne 7, 3) := by decide +kernel
theorem dX8_look0_269 : decode cX8_look0 269 = .ok (.iconst 3, 1) := by decide +kernel
theorem dX8_look0_270 : decode cX8_look0 270 = .ok (.goto 4, 3) := by decide +kernel
theorem dX8_look0_273 : decode cX8_look0 273 = .ok (.iconst 1, 1) := by decide +kernel
theorem dX8_look0_274 : decode cX8_look0 274 = .ok (.putfield 120, 3) := by decide +kernel
theorem dX8_look0_277 : decode cX8_look0 277 = .ok (.return_, 1) := by decide +kernel
theorem dX8_bad_0 : decode cX8_bad 0 = .ok (.aload_n 0, 1) := by decide +kernel
theorem dX8_bad_1 : decode cX8_bad 1 = .ok (.iload_n 1, 1) := by decide +kernel
theorem dX8_bad_2 : decode cX8_bad 2 = .ok (.putfield 133, 3) := by decide +kernel
theorem dX8_bad_5 : decode cX8_bad 5 = .ok (.aload_n 0, 1) := by decide +kernel
theorem dX8_bad_6 : decode cX8_bad 6 = .ok (.aload_n 0, 1) := by decide +kernel
theorem dX8_bad_7 : decode cX8_bad 7 = .ok (.getfield 117, 3) := by decide +kernel
theorem dX8_bad_10 : decode cX8_bad 10 = .ok (.putfield 136, 3) := by decide +kernel
theorem dX8_bad_13 : decode cX8_bad 13 = .ok (.iconst 0, 1) := by decide +kernel
theorem dX8_bad_14 : decode cX8_bad 14 = .ok (.ireturn, 1) := by decide +kernel
set_option maxRecDepth 20000 in
theorem ggX8_number_X8_bad : GoodIn wsX8_number wsX8_bad := goodIn_r _ [8, 9, 10, 11, 38, 39, 40, 41, 42, 43, 44, 45, 46, 47, 48, 49, 50, 51, 52, 53, 54, 55, 56, 57, 58, 59, 60, 61, 62, 63, 64, 65, 66, 67, 68, 69, 70, 71, 72, 73] (by decide +kernel) (by decide +kernel)
set_option maxRecDepth 20000 in
theorem gX8_number_X8_bad : GoodIn wsX8_number (wsV RX8 139 RX8 yX8_bad wsX8_bad) := goodIn_app (goodIn_of _ (by decide +kernel)) ggX8_number_X8_bad
set_option maxRecDepth 20000 in
theorem ggX8_number_X8_isIn : GoodIn wsX8_number wsX8_isIn := goodIn_r _ [14] (by decide +kernel) (by decide +kernel)
set_option maxRecDepth 20000 in
theorem gX8_number_X8_isIn : GoodIn wsX8_number (va_wsS RX8 75 yX8_isIn wsX8_isIn) := goodIn_app (goodIn_of _ (by decide +kernel)) ggX8_number_X8_isIn
set_option maxRecDepth 20000 in
theorem ggX8_number_X8_look0 : GoodIn wsX8_number wsX8_look0 := goodIn_r _ [18, 19, 10, 1, 2, 20, 21, 22, 7, 23, 24, 25, 26, 27, 28, 12, 13, 14, 29, 30, 31, 32, 33, 34, 35, 36, 37, 38, 39, 40, 41, 42, 43, 44, 45, 46, 47, 48, 49, 50, 51, 52, 53, 54, 55, 56, 57, 58, 59, 60, 61, 62, 63, 64, 65, 66, 67, 68, 69, 70, 71, 72, 73] (by decide +kernel) (by decide +kernel)
set_option maxRecDepth 20000 in
theorem gX8_number_X8_look0 : GoodIn wsX8_number (wsV RX8 145 RX8 yX8_look0 wsX8_look0) := goodIn_app (goodIn_of _ (by decide +kernel)) ggX8_number_X8_look0
theorem dX8_number_0 : decode cX8_number 0 = .ok (.aload_n 0, 1) := by decide +kernel
theorem dX8_number_1 : decode cX8_number 1 = .ok (.getfield 120, 3) := by decide +kernel
theorem dX8_number_4 : decode cX8_number 4 = .ok (.iconst 2, 1) := by decide +kernel
theorem dX8_number_5 : decode cX8_number 5 = .ok (.if_icmp .eq 9, 3) := by decide +kernel
theorem dX8_number_8 : decode cX8_number 8 = .ok (.aload_n 0, 1) := by decide +kernel
theorem dX8_number_9 : decode cX8_number 9 = .ok (.iconst 1, 1) := by decide +kernel
theorem dX8_number_10 : decode cX8_number 10 = .ok (.invokevirtual 139, 3) := by decide +kernel
theorem dX8_number_13 : decode cX8_number 13 = .ok (.ireturn, 1) := by decide +kernel
theorem dX8_number_14 : decode cX8_number 14 = .ok (.aload_n 0, 1) := by decide +kernel
theorem dX8_number_15 : decode cX8_number 15 = .ok (.getfield 130, 3) := by decide +kernel
theorem dX8_number_18 : decode cX8_number 18 = .ok (.iload_n 1, 1) := by decide +kernel
theorem dX8_number_19 : decode cX8_number 19 = .ok (.iload_n 2, 1) := by decide +kernel
theorem dX8_number_20 : decode cX8_number 20 = .ok (.invokestatic 75, 3) := by decide +kernel
theorem dX8_number_23 : decode cX8_number 23 = .ok (.ifCond .ne 9, 3) := by decide +kernel
theorem dX8_number_26 : decode cX8_number 26 = .ok (.aload_n 0, 1) := by decide +kernel
theorem dX8_number_27 : decode cX8_number 27 = .ok (.iconst 2, 1) := by decide +kernel
theorem dX8_number_28 : decode cX8_number 28 = .ok (.invokevirtual 139, 3) := by decide +kernel
theorem dX8_number_31 : decode cX8_number 31 = .ok (.ireturn, 1) := by decide +kernel
theorem dX8_number_32 : decode cX8_number 32 = .ok (.aload_n 0, 1) := by decide +kernel
theorem dX8_number_33 : decode cX8_number 33 = .ok (.aload_n 0, 1) := by decide +kernel
theorem dX8_number_34 : decode cX8_number 34 = .ok (.getfield 130, 3) := by decide +kernel
theorem dX8_number_37 : decode cX8_number 37 = .ok (.putfield 142, 3) := by decide +kernel
theorem dX8_number_40 : decode cX8_number 40 = .ok (.aload_n 0, 1) := by decide +kernel
theorem dX8_number_41 : decode cX8_number 41 = .ok (.invokevirtual 145, 3) := by decide +kernel
theorem dX8_number_44 : decode cX8_number 44 = .ok (.iconst 1, 1) := by decide +kernel
theorem dX8_number_45 : decode cX8_number 45 = .ok (.ireturn, 1) := by decide +kernel
set_option maxRecDepth 20000 in
theorem ggX8_aThing_X8_number : GoodIn wsX8_aThing wsX8_number := goodIn_r _ [8, 1, 9, 3, 10, 11, 12, 7, 13, 14, 15, 16, 17, 18, 19, 20, 21, 22, 23, 24, 25, 26, 27, 28, 29, 30, 31, 32, 33, 34, 35, 36, 37, 38, 39, 40, 41, 42, 43, 44, 45, 46, 47, 48, 49, 50, 51, 52, 53, 54, 55, 56, 57, 58, 59, 60, 61, 62, 63, 64, 65, 66, 67, 68, 69, 70, 71, 72, 73, 74, 75, 76, 77, 78] (by decide +kernel) (by decide +kernel)
set_option maxRecDepth 20000 in
theorem gX8_aThing_X8_number : GoodIn wsX8_aThing (wsV RX8 148 RX8 yX8_number wsX8_number) := goodIn_app (goodIn_of _ (by decide +kernel)) ggX8_aThing_X8_number
set_option maxRecDepth 20000 in
theorem ggX8_aThing_X8_look0 : GoodIn wsX8_aThing wsX8_look0 := goodIn_r _ [23, 24, 15, 1, 9, 25, 26, 27, 7, 28, 29, 30, 31, 32, 33, 17, 18, 19, 34, 35, 36, 37, 38, 39, 40, 41, 42, 43, 44, 45, 46, 47, 48, 49, 50, 51, 52, 53, 54, 55, 56, 57, 58, 59, 60, 61, 62, 63, 64, 65, 66, 67, 68, 69, 70, 71, 72, 73, 74, 75, 76, 77, 78] (by decide +kernel) (by decide +kernel)
set_option maxRecDepth 20000 in
theorem gX8_aThing_X8_look0 : GoodIn wsX8_aThing (wsV RX8 145 RX8 yX8_look0 wsX8_look0) := goodIn_app (goodIn_of _ (by decide +kernel)) ggX8_aThing_X8_look0
theorem dX8_aThing_0 : decode cX8_aThing 0 = .ok (.aload_n 0, 1) := by decide +kernel
theorem dX8_aThing_1 : decode cX8_aThing 1 = .ok (.getfield 120, 3) := by decide +kernel
theorem dX8_aThing_4 : decode cX8_aThing 4 = .ok (.iconst 4, 1) := by decide +kernel
theorem dX8_aThing_5 : decode cX8_aThing 5 = .ok (.if_icmp .eq 15, 3) := by decide +kernel
theorem dX8_aThing_8 : decode cX8_aThing 8 = .ok (.aload_n 0, 1) := by decide +kernel
theorem dX8_aThing_9 : decode cX8_aThing 9 = .ok (.iconst 0, 1) := by decide +kernel
theorem dX8_aThing_10 : decode cX8_aThing 10 = .ok (.aload_n 0, 1) := by decide +kernel
theorem dX8_aThing_11 : decode cX8_aThing 11 = .ok (.getfield 72, 3) := by decide +kernel
theorem dX8_aThing_14 : decode cX8_aThing 14 = .ok (.iconst 1, 1) := by decide +kernel
theorem dX8_aThing_15 : decode cX8_aThing 15 = .ok (.isub, 1) := by decide +kernel
theorem dX8_aThing_16 : decode cX8_aThing 16 = .ok (.invokevirtual 148, 3) := by decide +kernel
theorem dX8_aThing_19 : decode cX8_aThing 19 = .ok (.ireturn, 1) := by decide +kernel
theorem dX8_aThing_20 : decode cX8_aThing 20 = .ok (.aload_n 0, 1) := by decide +kernel
theorem dX8_aThing_21 : decode cX8_aThing 21 = .ok (.invokevirtual 145, 3) := by decide +kernel
theorem dX8_aThing_24 : decode cX8_aThing 24 = .ok (.aload_n 0, 1) := by decide +kernel
theorem dX8_aThing_25 : decode cX8_aThing 25 = .ok (.iconst 0, 1) := by decide +kernel
theorem dX8_aThing_26 : decode cX8_aThing 26 = .ok (.iconst 4, 1) := by decide +kernel
theorem dX8_aThing_27 : decode cX8_aThing 27 = .ok (.invokevirtual 148, 3) := by decide +kernel
theorem dX8_aThing_30 : decode cX8_aThing 30 = .ok (.ifCond .ne 5, 3) := by decide +kernel
theorem dX8_aThing_33 : decode cX8_aThing 33 = .ok (.iconst 0, 1) := by decide +kernel
theorem dX8_aThing_34 : decode cX8_aThing 34 = .ok (.ireturn, 1) := by decide +kernel
theorem dX8_aThing_35 : decode cX8_aThing 35 = .ok (.aload_n 0, 1) := by decide +kernel
theorem dX8_aThing_36 : decode cX8_aThing 36 = .ok (.dup, 1) := by decide +kernel
theorem dX8_aThing_37 : decode cX8_aThing 37 = .ok (.getfield 142, 3) := by decide +kernel
theorem dX8_aThing_40 : decode cX8_aThing 40 = .ok (.bipush 100, 2) := by decide +kernel
theorem dX8_aThing_42 : decode cX8_aThing 42 = .ok (.iadd, 1) := by decide +kernel
theorem dX8_aThing_43 : decode cX8_aThing 43 = .ok (.putfield 142, 3) := by decide +kernel
theorem dX8_aThing_46 : decode cX8_aThing 46 = .ok (.iconst 1, 1) := by decide +kernel
theorem dX8_aThing_47 : decode cX8_aThing 47 = .ok (.ireturn, 1) := by decide +kernel
set_option maxRecDepth 20000 in
theorem ggX8_aBar_X8_look0 : GoodIn wsX8_aBar wsX8_look0 := goodIn_r _ [8, 9, 10, 1, 11, 12, 13, 14, 7, 15, 16, 17, 18, 19, 20, 21, 22, 23, 24, 25, 26, 27, 28, 29, 30, 31, 32, 48, 49, 50, 51, 52, 53, 54, 55, 56, 57, 58, 59, 60, 61, 62, 63, 64, 65, 66, 67, 68, 69, 70, 71, 72, 73, 74, 75, 76, 77, 78, 79, 80, 81, 82, 83] (by decide +kernel) (by decide +kernel)
set_option maxRecDepth 20000 in
theorem gX8_aBar_X8_look0 : GoodIn wsX8_aBar (wsV RX8 145 RX8 yX8_look0 wsX8_look0) := goodIn_app (goodIn_of _ (by decide +kernel)) ggX8_aBar_X8_look0
set_option maxRecDepth 20000 in
theorem ggX8_aBar_X8_number : GoodIn wsX8_aBar wsX8_number := goodIn_r _ [36, 1, 11, 3, 37, 38, 39, 7, 40, 41, 10, 42, 21, 22, 23, 4, 5, 6, 8, 9, 12, 13, 14, 15, 16, 17, 18, 19, 20, 24, 25, 26, 27, 28, 29, 30, 31, 32, 48, 49, 50, 51, 52, 53, 54, 55, 56, 57, 58, 59, 60, 61, 62, 63, 64, 65, 66, 67, 68, 69, 70, 71, 72, 73, 74, 75, 76, 77, 78, 79, 80, 81, 82, 83] (by decide +kernel) (by decide +kernel)
set_option maxRecDepth 20000 in
theorem gX8_aBar_X8_number : GoodIn wsX8_aBar (wsV RX8 148 RX8 yX8_number wsX8_number) := goodIn_app (goodIn_of _ (by decide +kernel)) ggX8_aBar_X8_number
set_option maxRecDepth 20000 in
theorem ggX8_aBar_X8_aThing : GoodIn wsX8_aBar wsX8_aThing := goodIn_r _ [46, 1, 47, 3, 33, 34, 35, 7, 36, 11, 37, 38, 39, 40, 41, 10, 42, 21, 22, 23, 4, 5, 6, 8, 9, 12, 13, 14, 15, 16, 17, 18, 19, 20, 24, 25, 26, 27, 28, 29, 30, 31, 32, 48, 49, 50, 51, 52, 53, 54, 55, 56, 57, 58, 59, 60, 61, 62, 63, 64, 65, 66, 67, 68, 69, 70, 71, 72, 73, 74, 75, 76, 77, 78, 79, 80, 81, 82, 83] (by decide +kernel) (by decide +kernel)
set_option maxRecDepth 20000 in
theorem gX8_aBar_X8_aThing : GoodIn wsX8_aBar (wsV RX8 152 RX8 yX8_aThing wsX8_aThing) := goodIn_app (goodIn_of _ (by decide +kernel)) ggX8_aBar_X8_aThing
set_option maxRecDepth 20000 in
theorem ggX8_aBar_X8_bad : GoodIn wsX8_aBar wsX8_bad := goodIn_r _ [40, 41, 10, 42, 48, 49, 50, 51, 52, 53, 54, 55, 56, 57, 58, 59, 60, 61, 62, 63, 64, 65, 66, 67, 68, 69, 70, 71, 72, 73, 74, 75, 76, 77, 78, 79, 80, 81, 82, 83] (by decide +kernel) (by decide +kernel)
set_option maxRecDepth 20000 in
theorem gX8_aBar_X8_bad : GoodIn wsX8_aBar (wsV RX8 139 RX8 yX8_bad wsX8_bad) := goodIn_app (goodIn_of _ (by decide +kernel)) ggX8_aBar_X8_bad
theorem dX8_aBar_0 : decode cX8_aBar 0 = .ok (.aload_n 0, 1) := by decide +kernel
theorem dX8_aBar_1 : decode cX8_aBar 1 = .ok (.getfield 120, 3) := by decide +kernel
theorem dX8_aBar_4 : decode cX8_aBar 4 = .ok (.bipush 10, 2) := by decide +kernel
theorem dX8_aBar_6 : decode cX8_aBar 6 = .ok (.isub, 1) := by decide +kernel
theorem dX8_aBar_7 : decode cX8_aBar 7 = .ok (.istore_n 2, 1) := by decide +kernel
theorem dX8_aBar_8 : decode cX8_aBar 8 = .ok (.aload_n 0, 1) := by decide +kernel
theorem dX8_aBar_9 : decode cX8_aBar 9 = .ok (.invokevirtual 145, 3) := by decide +kernel
theorem dX8_aBar_12 : decode cX8_aBar 12 = .ok (.aload_n 0, 1) := by decide +kernel
theorem dX8_aBar_13 : decode cX8_aBar 13 = .ok (.getfield 19, 3) := by decide +kernel
theorem dX8_aBar_16 : decode cX8_aBar 16 = .ok (.iconst 4, 1) := by decide +kernel
theorem dX8_aBar_17 : decode cX8_aBar 17 = .ok (.iload_n 1, 1) := by decide +kernel
theorem dX8_aBar_18 : decode cX8_aBar 18 = .ok (.imul, 1) := by decide +kernel
theorem dX8_aBar_19 : decode cX8_aBar 19 = .ok (.iload_n 2, 1) := by decide +kernel
theorem dX8_aBar_20 : decode cX8_aBar 20 = .ok (.iastore, 1) := by decide +kernel
theorem dX8_aBar_21 : decode cX8_aBar 21 = .ok (.iload_n 2, 1) := by decide +kernel
theorem dX8_aBar_22 : decode cX8_aBar 22 = .ok (.iconst 5, 1) := by decide +kernel
theorem dX8_aBar_23 : decode cX8_aBar 23 = .ok (.if_icmp .ne 32, 3) := by decide +kernel
theorem dX8_aBar_26 : decode cX8_aBar 26 = .ok (.aload_n 0, 1) := by decide +kernel
theorem dX8_aBar_27 : decode cX8_aBar 27 = .ok (.iconst 0, 1) := by decide +kernel
theorem dX8_aBar_28 : decode cX8_aBar 28 = .ok (.bipush 18, 2) := by decide +kernel
theorem dX8_aBar_30 : decode cX8_aBar 30 = .ok (.invokevirtual 148, 3) := by decide +kernel
theorem dX8_aBar_33 : decode cX8_aBar 33 = .ok (.ifCond .ne 5, 3) := by decide +kernel
theorem dX8_aBar_36 : decode cX8_aBar 36 = .ok (.iconst 0, 1) := by decide +kernel
theorem dX8_aBar_37 : decode cX8_aBar 37 = .ok (.ireturn, 1) := by decide +kernel
theorem dX8_aBar_38 : decode cX8_aBar 38 = .ok (.aload_n 0, 1) := by decide +kernel
theorem dX8_aBar_39 : decode cX8_aBar 39 = .ok (.getfield 19, 3) := by decide +kernel
theorem dX8_aBar_42 : decode cX8_aBar 42 = .ok (.iconst 4, 1) := by decide +kernel
theorem dX8_aBar_43 : decode cX8_aBar 43 = .ok (.iload_n 1, 1) := by decide +kernel
theorem dX8_aBar_44 : decode cX8_aBar 44 = .ok (.imul, 1) := by decide +kernel
theorem dX8_aBar_45 : decode cX8_aBar 45 = .ok (.iconst 3, 1) := by decide +kernel
theorem dX8_aBar_46 : decode cX8_aBar 46 = .ok (.iadd, 1) := by decide +kernel
theorem dX8_aBar_47 : decode cX8_aBar 47 = .ok (.aload_n 0, 1) := by decide +kernel
theorem dX8_aBar_48 : decode cX8_aBar 48 = .ok (.getfield 142, 3) := by decide +kernel
theorem dX8_aBar_51 : decode cX8_aBar 51 = .ok (.iastore, 1) := by decide +kernel
theorem dX8_aBar_52 : decode cX8_aBar 52 = .ok (.goto 85, 3) := by decide +kernel
theorem dX8_aBar_55 : decode cX8_aBar 55 = .ok (.aload_n 0, 1) := by decide +kernel
theorem dX8_aBar_56 : decode cX8_aBar 56 = .ok (.invokevirtual 152, 3) := by decide +kernel
theorem dX8_aBar_59 : decode cX8_aBar 59 = .ok (.ifCond .ne 5, 3) := by decide +kernel
theorem dX8_aBar_62 : decode cX8_aBar 62 = .ok (.iconst 0, 1) := by decide +kernel
theorem dX8_aBar_63 : decode cX8_aBar 63 = .ok (.ireturn, 1) := by decide +kernel
theorem dX8_aBar_64 : decode cX8_aBar 64 = .ok (.aload_n 0, 1) := by decide +kernel
theorem dX8_aBar_65 : decode cX8_aBar 65 = .ok (.getfield 19, 3) := by decide +kernel
theorem dX8_aBar_68 : decode cX8_aBar 68 = .ok (.iconst 4, 1) := by decide +kernel
theorem dX8_aBar_69 : decode cX8_aBar 69 = .ok (.iload_n 1, 1) := by decide +kernel
theorem dX8_aBar_70 : decode cX8_aBar 70 = .ok (.imul, 1) := by decide +kernel
theorem dX8_aBar_71 : decode cX8_aBar 71 = .ok (.iconst 1, 1) := by decide +kernel
theorem dX8_aBar_72 : decode cX8_aBar 72 = .ok (.iadd, 1) := by decide +kernel
theorem dX8_aBar_73 : decode cX8_aBar 73 = .ok (.aload_n 0, 1) := by decide +kernel
theorem dX8_aBar_74 : decode cX8_aBar 74 = .ok (.getfield 142, 3) := by decide +kernel
theorem dX8_aBar_77 : decode cX8_aBar 77 = .ok (.iastore, 1) := by decide +kernel
theorem dX8_aBar_78 : decode cX8_aBar 78 = .ok (.iload_n 2, 1) := by decide +kernel
theorem dX8_aBar_79 : decode cX8_aBar 79 = .ok (.iconst 3, 1) := by decide +kernel
theorem dX8_aBar_80 : decode cX8_aBar 80 = .ok (.if_icmp .ge 12, 3) := by decide +kernel
theorem dX8_aBar_83 : decode cX8_aBar 83 = .ok (.aload_n 0, 1) := by decide +kernel
theorem dX8_aBar_84 : decode cX8_aBar 84 = .ok (.invokevirtual 152, 3) := by decide +kernel
theorem dX8_aBar_87 : decode cX8_aBar 87 = .ok (.ifCond .ne 5, 3) := by decide +kernel
theorem dX8_aBar_90 : decode cX8_aBar 90 = .ok (.iconst 0, 1) := by decide +kernel
theorem dX8_aBar_91 : decode cX8_aBar 91 = .ok (.ireturn, 1) := by decide +kernel
theorem dX8_aBar_92 : decode cX8_aBar 92 = .ok (.aload_n 0, 1) := by decide +kernel
theorem dX8_aBar_93 : decode cX8_aBar 93 = .ok (.getfield 19, 3) := by decide +kernel
theorem dX8_aBar_96 : decode cX8_aBar 96 = .ok (.iconst 4, 1) := by decide +kernel
theorem dX8_aBar_97 : decode cX8_aBar 97 = .ok (.iload_n 1, 1) := by decide +kernel
theorem dX8_aBar_98 : decode cX8_aBar 98 = .ok (.imul, 1) := by decide +kernel
theorem dX8_aBar_99 : decode cX8_aBar 99 = .ok (.iconst 2, 1) := by decide +kernel
theorem dX8_aBar_100 : decode cX8_aBar 100 = .ok (.iadd, 1) := by decide +kernel
theorem dX8_aBar_101 : decode cX8_aBar 101 = .ok (.aload_n 0, 1) := by decide +kernel
theorem dX8_aBar_102 : decode cX8_aBar 102 = .ok (.getfield 142, 3) := by decide +kernel
theorem dX8_aBar_105 : decode cX8_aBar 105 = .ok (.iastore, 1) := by decide +kernel
theorem dX8_aBar_106 : decode cX8_aBar 106 = .ok (.iload_n 2, 1) := by decide +kernel
theorem dX8_aBar_107 : decode cX8_aBar 107 = .ok (.iconst 1, 1) := by decide +kernel
theorem dX8_aBar_108 : decode cX8_aBar 108 = .ok (.if_icmp .ne 15, 3) := by decide +kernel
theorem dX8_aBar_111 : decode cX8_aBar 111 = .ok (.aload_n 0, 1) := by decide +kernel
theorem dX8_aBar_112 : decode cX8_aBar 112 = .ok (.iconst 1, 1) := by decide +kernel
theorem dX8_aBar_113 : decode cX8_aBar 113 = .ok (.bipush 7, 2) := by decide +kernel
theorem dX8_aBar_115 : decode cX8_aBar 115 = .ok (.invokevirtual 148, 3) := by decide +kernel
theorem dX8_aBar_118 : decode cX8_aBar 118 = .ok (.ifCond .ne 5, 3) := by decide +kernel
theorem dX8_aBar_121 : decode cX8_aBar 121 = .ok (.iconst 0, 1) := by decide +kernel
theorem dX8_aBar_122 : decode cX8_aBar 122 = .ok (.ireturn, 1) := by decide +kernel
theorem dX8_aBar_123 : decode cX8_aBar 123 = .ok (.aload_n 0, 1) := by decide +kernel
theorem dX8_aBar_124 : decode cX8_aBar 124 = .ok (.getfield 19, 3) := by decide +kernel
theorem dX8_aBar_127 : decode cX8_aBar 127 = .ok (.iconst 4, 1) := by decide +kernel
theorem dX8_aBar_128 : decode cX8_aBar 128 = .ok (.iload_n 1, 1) := by decide +kernel
theorem dX8_aBar_129 : decode cX8_aBar 129 = .ok (.imul, 1) := by decide +kernel
theorem dX8_aBar_130 : decode cX8_aBar 130 = .ok (.iconst 3, 1) := by decide +kernel
theorem dX8_aBar_131 : decode cX8_aBar 131 = .ok (.iadd, 1) := by decide +kernel
theorem dX8_aBar_132 : decode cX8_aBar 132 = .ok (.aload_n 0, 1) := by decide +kernel
theorem dX8_aBar_133 : decode cX8_aBar 133 = .ok (.getfield 142, 3) := by decide +kernel
theorem dX8_aBar_136 : decode cX8_aBar 136 = .ok (.iastore, 1) := by decide +kernel
theorem dX8_aBar_137 : decode cX8_aBar 137 = .ok (.aload_n 0, 1) := by decide +kernel
theorem dX8_aBar_138 : decode cX8_aBar 138 = .ok (.getfield 120, 3) := by decide +kernel
theorem dX8_aBar_141 : decode cX8_aBar 141 = .ok (.iconst 3, 1) := by decide +kernel
theorem dX8_aBar_142 : decode cX8_aBar 142 = .ok (.if_icmp .eq 9, 3) := by decide +kernel
theorem dX8_aBar_145 : decode cX8_aBar 145 = .ok (.aload_n 0, 1) := by decide +kernel
theorem dX8_aBar_146 : decode cX8_aBar 146 = .ok (.iconst 1, 1) := by decide +kernel
theorem dX8_aBar_147 : decode cX8_aBar 147 = .ok (.invokevirtual 139, 3) := by decide +kernel
theorem dX8_aBar_150 : decode cX8_aBar 150 = .ok (.ireturn, 1) := by decide +kernel
theorem dX8_aBar_151 : decode cX8_aBar 151 = .ok (.aload_n 0, 1) := by decide +kernel
theorem dX8_aBar_152 : decode cX8_aBar 152 = .ok (.invokevirtual 145, 3) := by decide +kernel
theorem dX8_aBar_155 : decode cX8_aBar 155 = .ok (.iconst 1, 1) := by decide +kernel
theorem dX8_aBar_156 : decode cX8_aBar 156 = .ok (.ireturn, 1) := by decide +kernel
set_option maxRecDepth 20000 in
theorem ggX8_load_X8_look0 : GoodIn wsX8_load wsX8_look0 := goodIn_r _ [16, 3, 17, 4, 18, 19, 20, 21, 15, 22, 8, 23, 24, 25, 26, 27, 28, 29, 30, 31, 32, 33, 34, 35, 36, 37, 38, 57, 58, 59, 60, 61, 62, 63, 64, 65, 66, 67, 68, 69, 70, 71, 72, 73, 74, 75, 76, 77, 78, 79, 80, 81, 82, 83, 84, 85, 86, 87, 88, 89, 90, 91, 92] (by decide +kernel) (by decide +kernel)
set_option maxRecDepth 20000 in
theorem gX8_load_X8_look0 : GoodIn wsX8_load (wsV RX8 145 RX8 yX8_look0 wsX8_look0) := goodIn_app (goodIn_of _ (by decide +kernel)) ggX8_load_X8_look0
set_option maxRecDepth 20000 in
theorem ggX8_load_X8_bad : GoodIn wsX8_load wsX8_bad := goodIn_r _ [42, 2, 17, 6, 57, 58, 59, 60, 61, 62, 63, 64, 65, 66, 67, 68, 69, 70, 71, 72, 73, 74, 75, 76, 77, 78, 79, 80, 81, 82, 83, 84, 85, 86, 87, 88, 89, 90, 91, 92] (by decide +kernel) (by decide +kernel)
set_option maxRecDepth 20000 in
theorem gX8_load_X8_bad : GoodIn wsX8_load (wsV RX8 139 RX8 yX8_bad wsX8_bad) := goodIn_app (goodIn_of _ (by decide +kernel)) ggX8_load_X8_bad
set_option maxRecDepth 20000 in
theorem ggX8_load_X8_aBar : GoodIn wsX8_load wsX8_aBar := goodIn_r _ [46, 4, 11, 47, 12, 13, 14, 15, 16, 3, 17, 18, 19, 20, 21, 22, 8, 23, 24, 25, 26, 27, 28, 29, 30, 31, 32, 33, 34, 35, 36, 37, 38, 48, 49, 50, 51, 39, 40, 41, 42, 2, 6, 52, 53, 54, 55, 56, 57, 58, 59, 60, 61, 62, 63, 64, 65, 66, 67, 68, 69, 70, 71, 72, 73, 74, 75, 76, 77, 78, 79, 80, 81, 82, 83, 84, 85, 86, 87, 88, 89, 90, 91, 92] (by decide +kernel) (by decide +kernel)
set_option maxRecDepth 20000 in
theorem gX8_load_X8_aBar : GoodIn wsX8_load (wsV RX8 156 RX8 yX8_aBar wsX8_aBar) := goodIn_app (goodIn_of _ (by decide +kernel)) ggX8_load_X8_aBar
theorem dX8_load_0 : decode cX8_load 0 = .ok (.aload_n 0, 1) := by decide +kernel
theorem dX8_load_1 : decode cX8_load 1 = .ok (.iconst 0, 1) := by decide +kernel
theorem dX8_load_2 : decode cX8_load 2 = .ok (.putfield 69, 3) := by decide +kernel
theorem dX8_load_5 : decode cX8_load 5 = .ok (.aload_n 0, 1) := by decide +kernel
theorem dX8_load_6 : decode cX8_load 6 = .ok (.iconst 0, 1) := by decide +kernel
theorem dX8_load_7 : decode cX8_load 7 = .ok (.putfield 133, 3) := by decide +kernel
theorem dX8_load_10 : decode cX8_load 10 = .ok (.aload_n 0, 1) := by decide +kernel
theorem dX8_load_11 : decode cX8_load 11 = .ok (.iconst 0, 1) := by decide +kernel
theorem dX8_load_12 : decode cX8_load 12 = .ok (.putfield 110, 3) := by decide +kernel
theorem dX8_load_15 : decode cX8_load 15 = .ok (.aload_n 0, 1) := by decide +kernel
theorem dX8_load_16 : decode cX8_load 16 = .ok (.invokevirtual 145, 3) := by decide +kernel
theorem dX8_load_19 : decode cX8_load 19 = .ok (.iconst 0, 1) := by decide +kernel
theorem dX8_load_20 : decode cX8_load 20 = .ok (.istore_n 1, 1) := by decide +kernel
theorem dX8_load_21 : decode cX8_load 21 = .ok (.iconst 1, 1) := by decide +kernel
theorem dX8_load_22 : decode cX8_load 22 = .ok (.istore_n 2, 1) := by decide +kernel
theorem dX8_load_23 : decode cX8_load 23 = .ok (.iload_n 2, 1) := by decide +kernel
theorem dX8_load_24 : decode cX8_load 24 = .ok (.ifCond .eq 53, 3) := by decide +kernel
theorem dX8_load_27 : decode cX8_load 27 = .ok (.aload_n 0, 1) := by decide +kernel
theorem dX8_load_28 : decode cX8_load 28 = .ok (.getfield 120, 3) := by decide +kernel
theorem dX8_load_31 : decode cX8_load 31 = .ok (.ifCond .eq 46, 3) := by decide +kernel
theorem dX8_load_34 : decode cX8_load 34 = .ok (.aload_n 0, 1) := by decide +kernel
theorem dX8_load_35 : decode cX8_load 35 = .ok (.getfield 120, 3) := by decide +kernel
theorem dX8_load_38 : decode cX8_load 38 = .ok (.bipush 10, 2) := by decide +kernel
theorem dX8_load_40 : decode cX8_load 40 = .ok (.if_icmp .ge 11, 3) := by decide +kernel
theorem dX8_load_43 : decode cX8_load 43 = .ok (.aload_n 0, 1) := by decide +kernel
theorem dX8_load_44 : decode cX8_load 44 = .ok (.iconst 1, 1) := by decide +kernel
theorem dX8_load_45 : decode cX8_load 45 = .ok (.invokevirtual 139, 3) := by decide +kernel
theorem dX8_load_48 : decode cX8_load 48 = .ok (.goto 22, 3) := by decide +kernel
theorem dX8_load_51 : decode cX8_load 51 = .ok (.iload_n 1, 1) := by decide +kernel
theorem dX8_load_52 : decode cX8_load 52 = .ok (.bipush 10, 2) := by decide +kernel
theorem dX8_load_54 : decode cX8_load 54 = .ok (.if_icmp .ne 11, 3) := by decide +kernel
theorem dX8_load_57 : decode cX8_load 57 = .ok (.aload_n 0, 1) := by decide +kernel
theorem dX8_load_58 : decode cX8_load 58 = .ok (.iconst 3, 1) := by decide +kernel
theorem dX8_load_59 : decode cX8_load 59 = .ok (.invokevirtual 139, 3) := by decide +kernel
theorem dX8_load_62 : decode cX8_load 62 = .ok (.goto 8, 3) := by decide +kernel
theorem dX8_load_65 : decode cX8_load 65 = .ok (.aload_n 0, 1) := by decide +kernel
theorem dX8_load_66 : decode cX8_load 66 = .ok (.iload_n 1, 1) := by decide +kernel
theorem dX8_load_67 : decode cX8_load 67 = .ok (.invokevirtual 156, 3) := by decide +kernel
theorem dX8_load_70 : decode cX8_load 70 = .ok (.istore_n 2, 1) := by decide +kernel
theorem dX8_load_71 : decode cX8_load 71 = .ok (.iinc 1 1, 3) := by decide +kernel
theorem dX8_load_74 : decode cX8_load 74 = .ok (.goto (-51), 3) := by decide +kernel
theorem dX8_load_77 : decode cX8_load 77 = .ok (.aload_n 0, 1) := by decide +kernel
theorem dX8_load_78 : decode cX8_load 78 = .ok (.aload_n 0, 1) := by decide +kernel
theorem dX8_load_79 : decode cX8_load 79 = .ok (.getfield 133, 3) := by decide +kernel
theorem dX8_load_82 : decode cX8_load 82 = .ok (.putfield 159, 3) := by decide +kernel
theorem dX8_load_85 : decode cX8_load 85 = .ok (.aload_n 0, 1) := by decide +kernel
theorem dX8_load_86 : decode cX8_load 86 = .ok (.iload_n 2, 1) := by decide +kernel
theorem dX8_load_87 : decode cX8_load 87 = .ok (.ifCond .eq 7, 3) := by decide +kernel
theorem dX8_load_90 : decode cX8_load 90 = .ok (.iconst (-1), 1) := by decide +kernel
theorem dX8_load_91 : decode cX8_load 91 = .ok (.goto 7, 3) := by decide +kernel
theorem dX8_load_94 : decode cX8_load 94 = .ok (.aload_n 0, 1) := by decide +kernel
theorem dX8_load_95 : decode cX8_load 95 = .ok (.getfield 136, 3) := by decide +kernel
theorem dX8_load_98 : decode cX8_load 98 = .ok (.putfield 25, 3) := by decide +kernel
theorem dX8_load_101 : decode cX8_load 101 = .ok (.aload_n 0, 1) := by decide +kernel
theorem dX8_load_102 : decode cX8_load 102 = .ok (.iconst 0, 1) := by decide +kernel
theorem dX8_load_103 : decode cX8_load 103 = .ok (.putfield 95, 3) := by decide +kernel
theorem dX8_load_106 : decode cX8_load 106 = .ok (.iload_n 2, 1) := by decide +kernel
theorem dX8_load_107 : decode cX8_load 107 = .ok (.ifCond .ne 5, 3) := by decide +kernel
theorem dX8_load_110 : decode cX8_load 110 = .ok (.iconst (-1), 1) := by decide +kernel
theorem dX8_load_111 : decode cX8_load 111 = .ok (.ireturn, 1) := by decide +kernel
theorem dX8_load_112 : decode cX8_load 112 = .ok (.aload_n 0, 1) := by decide +kernel
theorem dX8_load_113 : decode cX8_load 113 = .ok (.iload_n 1, 1) := by decide +kernel
theorem dX8_load_114 : decode cX8_load 114 = .ok (.putfield 162, 3) := by decide +kernel
theorem dX8_load_117 : decode cX8_load 117 = .ok (.iconst 0, 1) := by decide +kernel
theorem dX8_load_118 : decode cX8_load 118 = .ok (.istore_n 3, 1) := by decide +kernel
theorem dX8_load_119 : decode cX8_load 119 = .ok (.iload_n 3, 1) := by decide +kernel
theorem dX8_load_120 : decode cX8_load 120 = .ok (.iconst 4, 1) := by decide +kernel
theorem dX8_load_121 : decode cX8_load 121 = .ok (.iload_n 1, 1) := by decide +kernel
theorem dX8_load_122 : decode cX8_load 122 = .ok (.imul, 1) := by decide +kernel
theorem dX8_load_123 : decode cX8_load 123 = .ok (.if_icmp .ge 21, 3) := by decide +kernel
theorem dX8_load_126 : decode cX8_load 126 = .ok (.aload_n 0, 1) := by decide +kernel
theorem dX8_load_127 : decode cX8_load 127 = .ok (.getfield 16, 3) := by decide +kernel
theorem dX8_load_130 : decode cX8_load 130 = .ok (.iload_n 3, 1) := by decide +kernel
theorem dX8_load_131 : decode cX8_load 131 = .ok (.aload_n 0, 1) := by decide +kernel
theorem dX8_load_132 : decode cX8_load 132 = .ok (.getfield 19, 3) := by decide +kernel
theorem dX8_load_135 : decode cX8_load 135 = .ok (.iload_n 3, 1) := by decide +kernel
theorem dX8_load_136 : decode cX8_load 136 = .ok (.iaload, 1) := by decide +kernel
theorem dX8_load_137 : decode cX8_load 137 = .ok (.iastore, 1) := by decide +kernel
theorem dX8_load_138 : decode cX8_load 138 = .ok (.iinc 3 1, 3) := by decide +kernel
theorem dX8_load_141 : decode cX8_load 141 = .ok (.goto (-22), 3) := by decide +kernel
theorem dX8_load_144 : decode cX8_load 144 = .ok (.iload_n 1, 1) := by decide +kernel
theorem dX8_load_145 : decode cX8_load 145 = .ok (.ireturn, 1) := by decide +kernel
theorem dX8_fault_0 : decode cX8_fault 0 = .ok (.aload_n 0, 1) := by decide +kernel
theorem dX8_fault_1 : decode cX8_fault 1 = .ok (.iconst 0, 1) := by decide +kernel
theorem dX8_fault_2 : decode cX8_fault 2 = .ok (.putfield 69, 3) := by decide +kernel
theorem dX8_fault_5 : decode cX8_fault 5 = .ok (.iload_n 1, 1) := by decide +kernel
theorem dX8_fault_6 : decode cX8_fault 6 = .ok (.ifCond .ne 10, 3) := by decide +kernel
theorem dX8_fault_9 : decode cX8_fault 9 = .ok (.aload_n 0, 1) := by decide +kernel
theorem dX8_fault_10 : decode cX8_fault 10 = .ok (.getfield 159, 3) := by decide +kernel
theorem dX8_fault_13 : decode cX8_fault 13 = .ok (.goto 16, 3) := by decide +kernel
theorem dX8_fault_16 : decode cX8_fault 16 = .ok (.iload_n 1, 1) := by decide +kernel
theorem dX8_fault_17 : decode cX8_fault 17 = .ok (.iconst 1, 1) := by decide +kernel
theorem dX8_fault_18 : decode cX8_fault 18 = .ok (.if_icmp .ne 10, 3) := by decide +kernel
theorem dX8_fault_21 : decode cX8_fault 21 = .ok (.aload_n 0, 1) := by decide +kernel
theorem dX8_fault_22 : decode cX8_fault 22 = .ok (.getfield 25, 3) := by decide +kernel
theorem dX8_fault_25 : decode cX8_fault 25 = .ok (.goto 4, 3) := by decide +kernel
theorem dX8_fault_28 : decode cX8_fault 28 = .ok (.iconst (-1), 1) := by decide +kernel
theorem dX8_fault_29 : decode cX8_fault 29 = .ok (.ireturn, 1) := by decide +kernel
theorem dX8_look_0 : decode cX8_look 0 = .ok (.aload_n 0, 1) := by decide +kernel
theorem dX8_look_1 : decode cX8_look 1 = .ok (.iconst 0, 1) := by decide +kernel
theorem dX8_look_2 : decode cX8_look 2 = .ok (.putfield 69, 3) := by decide +kernel
theorem dX8_look_5 : decode cX8_look 5 = .ok (.iload_n 1, 1) := by decide +kernel
theorem dX8_look_6 : decode cX8_look 6 = .ok (.tableswitch 67 0 4 #[34, 39, 44, 49, 54], 34) := by decide +kernel
theorem dX8_look_40 : decode cX8_look 40 = .ok (.aload_n 0, 1) := by decide +kernel
theorem dX8_look_41 : decode cX8_look 41 = .ok (.getfield 72, 3) := by decide +kernel
theorem dX8_look_44 : decode cX8_look 44 = .ok (.ireturn, 1) := by decide +kernel
theorem dX8_look_45 : decode cX8_look 45 = .ok (.aload_n 0, 1) := by decide +kernel
theorem dX8_look_46 : decode cX8_look 46 = .ok (.getfield 162, 3) := by decide +kernel
theorem dX8_look_49 : decode cX8_look 49 = .ok (.ireturn, 1) := by decide +kernel
theorem dX8_look_50 : decode cX8_look 50 = .ok (.aload_n 0, 1) := by decide +kernel
theorem dX8_look_51 : decode cX8_look 51 = .ok (.getfield 35, 3) := by decide +kernel
theorem dX8_look_54 : decode cX8_look 54 = .ok (.ireturn, 1) := by decide +kernel
theorem dX8_look_55 : decode cX8_look 55 = .ok (.aload_n 0, 1) := by decide +kernel
theorem dX8_look_56 : decode cX8_look 56 = .ok (.getfield 38, 3) := by decide +kernel
theorem dX8_look_59 : decode cX8_look 59 = .ok (.ireturn, 1) := by decide +kernel
theorem dX8_look_60 : decode cX8_look 60 = .ok (.aload_n 0, 1) := by decide +kernel
theorem dX8_look_61 : decode cX8_look 61 = .ok (.getfield 79, 3) := by decide +kernel
theorem dX8_look_64 : decode cX8_look 64 = .ok (.ifCond .eq 7, 3) := by decide +kernel
theorem dX8_look_67 : decode cX8_look 67 = .ok (.iconst 1, 1) := by decide +kernel
theorem dX8_look_68 : decode cX8_look 68 = .ok (.goto 4, 3) := by decide +kernel
theorem dX8_look_71 : decode cX8_look 71 = .ok (.iconst 0, 1) := by decide +kernel
theorem dX8_look_72 : decode cX8_look 72 = .ok (.ireturn, 1) := by decide +kernel
theorem dX8_look_73 : decode cX8_look 73 = .ok (.iconst (-1), 1) := by decide +kernel
theorem dX8_look_74 : decode cX8_look 74 = .ok (.ireturn, 1) := by decide +kernel
set_option maxRecDepth 20000 in
theorem ggX8_is_X8_get : GoodIn wsX8_is wsX8_get := goodIn_r _ [5, 6, 7, 8, 9, 10, 11, 12, 13, 14, 15, 16, 17, 18, 19, 20, 21, 22, 23, 24, 25, 26, 27, 28, 29, 30, 31, 32, 33, 34, 35, 36, 37, 38, 39, 40, 41, 42] (by decide +kernel) (by decide +kernel)
set_option maxRecDepth 20000 in
theorem gX8_is_X8_get : GoodIn wsX8_is (wsV RX8 91 RX8 yX8_get wsX8_get) := goodIn_app (goodIn_of _ (by decide +kernel)) ggX8_is_X8_get
theorem dX8_is_0 : decode cX8_is 0 = .ok (.iload_n 2, 1) := by decide +kernel
theorem dX8_is_1 : decode cX8_is 1 = .ok (.bipush 100, 2) := by decide +kernel
theorem dX8_is_3 : decode cX8_is 3 = .ok (.if_icmp .lt 24, 3) := by decide +kernel
theorem dX8_is_6 : decode cX8_is 6 = .ok (.aload_n 0, 1) := by decide +kernel
theorem dX8_is_7 : decode cX8_is 7 = .ok (.iload_n 1, 1) := by decide +kernel
theorem dX8_is_8 : decode cX8_is 8 = .ok (.iconst 0, 1) := by decide +kernel
theorem dX8_is_9 : decode cX8_is 9 = .ok (.invokevirtual 91, 3) := by decide +kernel
theorem dX8_is_12 : decode cX8_is 12 = .ok (.iload_n 2, 1) := by decide +kernel
theorem dX8_is_13 : decode cX8_is 13 = .ok (.bipush 100, 2) := by decide +kernel
theorem dX8_is_15 : decode cX8_is 15 = .ok (.isub, 1) := by decide +kernel
theorem dX8_is_16 : decode cX8_is 16 = .ok (.if_icmp .ne 7, 3) := by decide +kernel
theorem dX8_is_19 : decode cX8_is 19 = .ok (.iconst 1, 1) := by decide +kernel
theorem dX8_is_20 : decode cX8_is 20 = .ok (.goto 17, 3) := by decide +kernel
theorem dX8_is_23 : decode cX8_is 23 = .ok (.iconst 0, 1) := by decide +kernel
theorem dX8_is_24 : decode cX8_is 24 = .ok (.goto 13, 3) := by decide +kernel
theorem dX8_is_27 : decode cX8_is 27 = .ok (.iload_n 1, 1) := by decide +kernel
theorem dX8_is_28 : decode cX8_is 28 = .ok (.iload_n 2, 1) := by decide +kernel
theorem dX8_is_29 : decode cX8_is 29 = .ok (.if_icmp .ne 7, 3) := by decide +kernel
theorem dX8_is_32 : decode cX8_is 32 = .ok (.iconst 1, 1) := by decide +kernel
theorem dX8_is_33 : decode cX8_is 33 = .ok (.goto 4, 3) := by decide +kernel
theorem dX8_is_36 : decode cX8_is 36 = .ok (.iconst 0, 1) := by decide +kernel
theorem dX8_is_37 : decode cX8_is 37 = .ok (.ireturn, 1) := by decide +kernel
set_option maxRecDepth 20000 in
theorem ggX8_breaks_X8_is : GoodIn wsX8_breaks wsX8_is := goodIn_r _ [7, 8, 9, 10, 6, 11, 12, 13, 14, 15, 16, 17, 18, 19, 20, 21, 22, 23, 24, 25, 26, 27, 28, 29, 30, 31, 32, 33, 34, 35, 36, 37, 38, 39, 40, 41, 42, 43, 44, 45, 46, 47, 48] (by decide +kernel) (by decide +kernel)
set_option maxRecDepth 20000 in
theorem gX8_breaks_X8_is : GoodIn wsX8_breaks (wsV RX8 165 RX8 yX8_is wsX8_is) := goodIn_app (goodIn_of _ (by decide +kernel)) ggX8_breaks_X8_is
set_option maxRecDepth 20000 in
theorem ggX8_breaks_X8_get : GoodIn wsX8_breaks wsX8_get := goodIn_r _ [11, 12, 13, 14, 15, 16, 17, 18, 19, 20, 21, 22, 23, 24, 25, 26, 27, 28, 29, 30, 31, 32, 33, 34, 35, 36, 37, 38, 39, 40, 41, 42, 43, 44, 45, 46, 47, 48] (by decide +kernel) (by decide +kernel)
set_option maxRecDepth 20000 in
theorem gX8_breaks_X8_get : GoodIn wsX8_breaks (wsV RX8 91 RX8 yX8_get wsX8_get) := goodIn_app (goodIn_of _ (by decide +kernel)) ggX8_breaks_X8_get
theorem dX8_breaks_0 : decode cX8_breaks 0 = .ok (.aload_n 0, 1) := by decide +kernel
theorem dX8_breaks_1 : decode cX8_breaks 1 = .ok (.getfield 29, 3) := by decide +kernel
theorem dX8_breaks_4 : decode cX8_breaks 4 = .ok (.iload_n 2, 1) := by decide +kernel
theorem dX8_breaks_5 : decode cX8_breaks 5 = .ok (.iaload, 1) := by decide +kernel
theorem dX8_breaks_6 : decode cX8_breaks 6 = .ok (.istore 4, 2) := by decide +kernel
theorem dX8_breaks_8 : decode cX8_breaks 8 = .ok (.aload_n 0, 1) := by decide +kernel
theorem dX8_breaks_9 : decode cX8_breaks 9 = .ok (.getfield 29, 3) := by decide +kernel
theorem dX8_breaks_12 : decode cX8_breaks 12 = .ok (.iload_n 3, 1) := by decide +kernel
theorem dX8_breaks_13 : decode cX8_breaks 13 = .ok (.iaload, 1) := by decide +kernel
theorem dX8_breaks_14 : decode cX8_breaks 14 = .ok (.istore 5, 2) := by decide +kernel
theorem dX8_breaks_16 : decode cX8_breaks 16 = .ok (.aload_n 0, 1) := by decide +kernel
theorem dX8_breaks_17 : decode cX8_breaks 17 = .ok (.getfield 16, 3) := by decide +kernel
theorem dX8_breaks_20 : decode cX8_breaks 20 = .ok (.iconst 4, 1) := by decide +kernel
theorem dX8_breaks_21 : decode cX8_breaks 21 = .ok (.iload_n 1, 1) := by decide +kernel
theorem dX8_breaks_22 : decode cX8_breaks 22 = .ok (.imul, 1) := by decide +kernel
theorem dX8_breaks_23 : decode cX8_breaks 23 = .ok (.iconst 1, 1) := by decide +kernel
theorem dX8_breaks_24 : decode cX8_breaks 24 = .ok (.iadd, 1) := by decide +kernel
theorem dX8_breaks_25 : decode cX8_breaks 25 = .ok (.iaload, 1) := by decide +kernel
theorem dX8_breaks_26 : decode cX8_breaks 26 = .ok (.istore 6, 2) := by decide +kernel
theorem dX8_breaks_28 : decode cX8_breaks 28 = .ok (.aload_n 0, 1) := by decide +kernel
theorem dX8_breaks_29 : decode cX8_breaks 29 = .ok (.getfield 16, 3) := by decide +kernel
theorem dX8_breaks_32 : decode cX8_breaks 32 = .ok (.iconst 4, 1) := by decide +kernel
theorem dX8_breaks_33 : decode cX8_breaks 33 = .ok (.iload_n 1, 1) := by decide +kernel
theorem dX8_breaks_34 : decode cX8_breaks 34 = .ok (.imul, 1) := by decide +kernel
theorem dX8_breaks_35 : decode cX8_breaks 35 = .ok (.iconst 2, 1) := by decide +kernel
theorem dX8_breaks_36 : decode cX8_breaks 36 = .ok (.iadd, 1) := by decide +kernel
theorem dX8_breaks_37 : decode cX8_breaks 37 = .ok (.iaload, 1) := by decide +kernel
theorem dX8_breaks_38 : decode cX8_breaks 38 = .ok (.istore 7, 2) := by decide +kernel
theorem dX8_breaks_40 : decode cX8_breaks 40 = .ok (.aload_n 0, 1) := by decide +kernel
theorem dX8_breaks_41 : decode cX8_breaks 41 = .ok (.getfield 16, 3) := by decide +kernel
theorem dX8_breaks_44 : decode cX8_breaks 44 = .ok (.iconst 4, 1) := by decide +kernel
theorem dX8_breaks_45 : decode cX8_breaks 45 = .ok (.iload_n 1, 1) := by decide +kernel
theorem dX8_breaks_46 : decode cX8_breaks 46 = .ok (.imul, 1) := by decide +kernel
theorem dX8_breaks_47 : decode cX8_breaks 47 = .ok (.iconst 3, 1) := by decide +kernel
theorem dX8_breaks_48 : decode cX8_breaks 48 = .ok (.iadd, 1) := by decide +kernel
theorem dX8_breaks_49 : decode cX8_breaks 49 = .ok (.iaload, 1) := by decide +kernel
theorem dX8_breaks_50 : decode cX8_breaks 50 = .ok (.istore 8, 2) := by decide +kernel
theorem dX8_breaks_52 : decode cX8_breaks 52 = .ok (.aload_n 0, 1) := by decide +kernel
theorem dX8_breaks_53 : decode cX8_breaks 53 = .ok (.getfield 16, 3) := by decide +kernel
theorem dX8_breaks_56 : decode cX8_breaks 56 = .ok (.iconst 4, 1) := by decide +kernel
theorem dX8_breaks_57 : decode cX8_breaks 57 = .ok (.iload_n 1, 1) := by decide +kernel
theorem dX8_breaks_58 : decode cX8_breaks 58 = .ok (.imul, 1) := by decide +kernel
theorem dX8_breaks_59 : decode cX8_breaks 59 = .ok (.iaload, 1) := by decide +kernel
theorem dX8_breaks_60 : decode cX8_breaks 60 = .ok (.tableswitch 155 1 5 #[36, 94, 155, 155, 122], 36) := by decide +kernel
theorem dX8_breaks_96 : decode cX8_breaks 96 = .ok (.iload_n 3, 1) := by decide +kernel
theorem dX8_breaks_97 : decode cX8_breaks 97 = .ok (.iload_n 2, 1) := by decide +kernel
theorem dX8_breaks_98 : decode cX8_breaks 98 = .ok (.isub, 1) := by decide +kernel
theorem dX8_breaks_99 : decode cX8_breaks 99 = .ok (.iload 8, 2) := by decide +kernel
theorem dX8_breaks_101 : decode cX8_breaks 101 = .ok (.if_icmp .ge 51, 3) := by decide +kernel
theorem dX8_breaks_104 : decode cX8_breaks 104 = .ok (.aload_n 0, 1) := by decide +kernel
theorem dX8_breaks_105 : decode cX8_breaks 105 = .ok (.iload 4, 2) := by decide +kernel
theorem dX8_breaks_107 : decode cX8_breaks 107 = .ok (.iload 6, 2) := by decide +kernel
theorem dX8_breaks_109 : decode cX8_breaks 109 = .ok (.invokevirtual 165, 3) := by decide +kernel
theorem dX8_breaks_112 : decode cX8_breaks 112 = .ok (.ifCond .eq 14, 3) := by decide +kernel
theorem dX8_breaks_115 : decode cX8_breaks 115 = .ok (.aload_n 0, 1) := by decide +kernel
theorem dX8_breaks_116 : decode cX8_breaks 116 = .ok (.iload 5, 2) := by decide +kernel
theorem dX8_breaks_118 : decode cX8_breaks 118 = .ok (.iload 7, 2) := by decide +kernel
theorem dX8_breaks_120 : decode cX8_breaks 120 = .ok (.invokevirtual 165, 3) := by decide +kernel
theorem dX8_breaks_123 : decode cX8_breaks 123 = .ok (.ifCond .ne 25, 3) := by decide +kernel
theorem dX8_breaks_126 : decode cX8_breaks 126 = .ok (.aload_n 0, 1) := by decide +kernel
theorem dX8_breaks_127 : decode cX8_breaks 127 = .ok (.iload 5, 2) := by decide +kernel
theorem dX8_breaks_129 : decode cX8_breaks 129 = .ok (.iload 6, 2) := by decide +kernel
theorem dX8_breaks_131 : decode cX8_breaks 131 = .ok (.invokevirtual 165, 3) := by decide +kernel
theorem dX8_breaks_134 : decode cX8_breaks 134 = .ok (.ifCond .eq 18, 3) := by decide +kernel
theorem dX8_breaks_137 : decode cX8_breaks 137 = .ok (.aload_n 0, 1) := by decide +kernel
theorem dX8_breaks_138 : decode cX8_breaks 138 = .ok (.iload 4, 2) := by decide +kernel
theorem dX8_breaks_140 : decode cX8_breaks 140 = .ok (.iload 7, 2) := by decide +kernel
theorem dX8_breaks_142 : decode cX8_breaks 142 = .ok (.invokevirtual 165, 3) := by decide +kernel
theorem dX8_breaks_145 : decode cX8_breaks 145 = .ok (.ifCond .eq 7, 3) := by decide +kernel
theorem dX8_breaks_148 : decode cX8_breaks 148 = .ok (.iconst 1, 1) := by decide +kernel
theorem dX8_breaks_149 : decode cX8_breaks 149 = .ok (.goto 4, 3) := by decide +kernel
theorem dX8_breaks_152 : decode cX8_breaks 152 = .ok (.iconst 0, 1) := by decide +kernel
theorem dX8_breaks_153 : decode cX8_breaks 153 = .ok (.ireturn, 1) := by decide +kernel
theorem dX8_breaks_154 : decode cX8_breaks 154 = .ok (.aload_n 0, 1) := by decide +kernel
theorem dX8_breaks_155 : decode cX8_breaks 155 = .ok (.iload 5, 2) := by decide +kernel
theorem dX8_breaks_157 : decode cX8_breaks 157 = .ok (.iload 6, 2) := by decide +kernel
theorem dX8_breaks_159 : decode cX8_breaks 159 = .ok (.invokevirtual 165, 3) := by decide +kernel
theorem dX8_breaks_162 : decode cX8_breaks 162 = .ok (.ifCond .eq 18, 3) := by decide +kernel
theorem dX8_breaks_165 : decode cX8_breaks 165 = .ok (.aload_n 0, 1) := by decide +kernel
theorem dX8_breaks_166 : decode cX8_breaks 166 = .ok (.iload 4, 2) := by decide +kernel
theorem dX8_breaks_168 : decode cX8_breaks 168 = .ok (.iload 7, 2) := by decide +kernel
theorem dX8_breaks_170 : decode cX8_breaks 170 = .ok (.invokevirtual 165, 3) := by decide +kernel
theorem dX8_breaks_173 : decode cX8_breaks 173 = .ok (.ifCond .eq 7, 3) := by decide +kernel
theorem dX8_breaks_176 : decode cX8_breaks 176 = .ok (.iconst 1, 1) := by decide +kernel
theorem dX8_breaks_177 : decode cX8_breaks 177 = .ok (.goto 4, 3) := by decide +kernel
theorem dX8_breaks_180 : decode cX8_breaks 180 = .ok (.iconst 0, 1) := by decide +kernel
theorem dX8_breaks_181 : decode cX8_breaks 181 = .ok (.ireturn, 1) := by decide +kernel
theorem dX8_breaks_182 : decode cX8_breaks 182 = .ok (.iload_n 3, 1) := by decide +kernel
theorem dX8_breaks_183 : decode cX8_breaks 183 = .ok (.iload_n 2, 1) := by decide +kernel
theorem dX8_breaks_184 : decode cX8_breaks 184 = .ok (.iconst 1, 1) := by decide +kernel
theorem dX8_breaks_185 : decode cX8_breaks 185 = .ok (.iadd, 1) := by decide +kernel
theorem dX8_breaks_186 : decode cX8_breaks 186 = .ok (.if_icmp .ne 27, 3) := by decide +kernel
theorem dX8_breaks_189 : decode cX8_breaks 189 = .ok (.aload_n 0, 1) := by decide +kernel
theorem dX8_breaks_190 : decode cX8_breaks 190 = .ok (.iload 4, 2) := by decide +kernel
theorem dX8_breaks_192 : decode cX8_breaks 192 = .ok (.iconst 2, 1) := by decide +kernel
theorem dX8_breaks_193 : decode cX8_breaks 193 = .ok (.invokevirtual 91, 3) := by decide +kernel
theorem dX8_breaks_196 : decode cX8_breaks 196 = .ok (.aload_n 0, 1) := by decide +kernel
theorem dX8_breaks_197 : decode cX8_breaks 197 = .ok (.iload 5, 2) := by decide +kernel
theorem dX8_breaks_199 : decode cX8_breaks 199 = .ok (.iconst 2, 1) := by decide +kernel
theorem dX8_breaks_200 : decode cX8_breaks 200 = .ok (.invokevirtual 91, 3) := by decide +kernel
theorem dX8_breaks_203 : decode cX8_breaks 203 = .ok (.iadd, 1) := by decide +kernel
theorem dX8_breaks_204 : decode cX8_breaks 204 = .ok (.iload 8, 2) := by decide +kernel
theorem dX8_breaks_206 : decode cX8_breaks 206 = .ok (.if_icmp .le 7, 3) := by decide +kernel
theorem dX8_breaks_209 : decode cX8_breaks 209 = .ok (.iconst 1, 1) := by decide +kernel
theorem dX8_breaks_210 : decode cX8_breaks 210 = .ok (.goto 4, 3) := by decide +kernel
theorem dX8_breaks_213 : decode cX8_breaks 213 = .ok (.iconst 0, 1) := by decide +kernel
theorem dX8_breaks_214 : decode cX8_breaks 214 = .ok (.ireturn, 1) := by decide +kernel
theorem dX8_breaks_215 : decode cX8_breaks 215 = .ok (.iconst 0, 1) := by decide +kernel
theorem dX8_breaks_216 : decode cX8_breaks 216 = .ok (.ireturn, 1) := by decide +kernel
set_option maxRecDepth 20000 in
theorem ggX8_scares_X8_get : GoodIn wsX8_scares wsX8_get := goodIn_r _ [5, 6, 7, 8, 9, 10, 11, 12, 13, 14, 15, 16, 17, 18, 19, 20, 21, 22, 23, 24, 25, 26, 27, 28, 29, 30, 31, 32, 33, 34, 35, 36, 37, 38, 39, 40, 41, 42] (by decide +kernel) (by decide +kernel)
set_option maxRecDepth 20000 in
theorem gX8_scares_X8_get : GoodIn wsX8_scares (wsV RX8 91 RX8 yX8_get wsX8_get) := goodIn_app (goodIn_of _ (by decide +kernel)) ggX8_scares_X8_get
theorem dX8_scares_0 : decode cX8_scares 0 = .ok (.aload_n 0, 1) := by decide +kernel
theorem dX8_scares_1 : decode cX8_scares 1 = .ok (.iload_n 1, 1) := by decide +kernel
theorem dX8_scares_2 : decode cX8_scares 2 = .ok (.iconst 0, 1) := by decide +kernel
theorem dX8_scares_3 : decode cX8_scares 3 = .ok (.invokevirtual 91, 3) := by decide +kernel
theorem dX8_scares_6 : decode cX8_scares 6 = .ok (.iconst 2, 1) := by decide +kernel
theorem dX8_scares_7 : decode cX8_scares 7 = .ok (.if_icmp .ne 22, 3) := by decide +kernel
theorem dX8_scares_10 : decode cX8_scares 10 = .ok (.aload_n 0, 1) := by decide +kernel
theorem dX8_scares_11 : decode cX8_scares 11 = .ok (.iload_n 2, 1) := by decide +kernel
theorem dX8_scares_12 : decode cX8_scares 12 = .ok (.iconst 2, 1) := by decide +kernel
theorem dX8_scares_13 : decode cX8_scares 13 = .ok (.invokevirtual 91, 3) := by decide +kernel
theorem dX8_scares_16 : decode cX8_scares 16 = .ok (.aload_n 0, 1) := by decide +kernel
theorem dX8_scares_17 : decode cX8_scares 17 = .ok (.iload_n 1, 1) := by decide +kernel
theorem dX8_scares_18 : decode cX8_scares 18 = .ok (.iconst 4, 1) := by decide +kernel
theorem dX8_scares_19 : decode cX8_scares 19 = .ok (.invokevirtual 91, 3) := by decide +kernel
theorem dX8_scares_22 : decode cX8_scares 22 = .ok (.if_icmp .le 7, 3) := by decide +kernel
theorem dX8_scares_25 : decode cX8_scares 25 = .ok (.iconst 1, 1) := by decide +kernel
theorem dX8_scares_26 : decode cX8_scares 26 = .ok (.goto 4, 3) := by decide +kernel
theorem dX8_scares_29 : decode cX8_scares 29 = .ok (.iconst 0, 1) := by decide +kernel
theorem dX8_scares_30 : decode cX8_scares 30 = .ok (.ireturn, 1) := by decide +kernel
set_option maxRecDepth 20000 in
theorem ggX8_broken_X8_is : GoodIn wsX8_broken wsX8_is := goodIn_r _ [11, 12, 13, 14, 10, 15, 16, 25, 26, 27, 28, 29, 30, 31, 32, 33, 34, 35, 36, 37, 38, 39, 40, 41, 42, 43, 44, 45, 46, 47, 48, 49, 50, 51, 52, 53, 54, 55, 56, 57, 58, 59, 60] (by decide +kernel) (by decide +kernel)
set_option maxRecDepth 20000 in
theorem gX8_broken_X8_is : GoodIn wsX8_broken (wsV RX8 165 RX8 yX8_is wsX8_is) := goodIn_app (goodIn_of _ (by decide +kernel)) ggX8_broken_X8_is
set_option maxRecDepth 20000 in
theorem ggX8_broken_X8_breaks : GoodIn wsX8_broken wsX8_breaks := goodIn_r _ [20, 6, 2, 7, 8, 9, 10, 11, 12, 13, 14, 15, 16, 25, 26, 27, 28, 29, 30, 31, 32, 33, 34, 35, 36, 37, 38, 39, 40, 41, 42, 43, 44, 45, 46, 47, 48, 49, 50, 51, 52, 53, 54, 55, 56, 57, 58, 59, 60] (by decide +kernel) (by decide +kernel)
set_option maxRecDepth 20000 in
theorem gX8_broken_X8_breaks : GoodIn wsX8_broken (wsV RX8 174 RX8 yX8_breaks wsX8_breaks) := goodIn_app (goodIn_of _ (by decide +kernel)) ggX8_broken_X8_breaks
set_option maxRecDepth 20000 in
theorem ggX8_broken_X8_scares : GoodIn wsX8_broken wsX8_scares := goodIn_r _ [24, 12, 13, 14, 10, 15, 16, 25, 26, 27, 28, 29, 30, 31, 32, 33, 34, 35, 36, 37, 38, 39, 40, 41, 42, 43, 44, 45, 46, 47, 48, 49, 50, 51, 52, 53, 54, 55, 56, 57, 58, 59, 60] (by decide +kernel) (by decide +kernel)
set_option maxRecDepth 20000 in
theorem gX8_broken_X8_scares : GoodIn wsX8_broken (wsV RX8 177 RX8 yX8_scares wsX8_scares) := goodIn_app (goodIn_of _ (by decide +kernel)) ggX8_broken_X8_scares
theorem dX8_broken_0 : decode cX8_broken 0 = .ok (.iconst 0, 1) := by decide +kernel
theorem dX8_broken_1 : decode cX8_broken 1 = .ok (.istore_n 1, 1) := by decide +kernel
theorem dX8_broken_2 : decode cX8_broken 2 = .ok (.iload_n 1, 1) := by decide +kernel
theorem dX8_broken_3 : decode cX8_broken 3 = .ok (.aload_n 0, 1) := by decide +kernel
theorem dX8_broken_4 : decode cX8_broken 4 = .ok (.getfield 162, 3) := by decide +kernel
theorem dX8_broken_7 : decode cX8_broken 7 = .ok (.if_icmp .ge 178, 3) := by decide +kernel
theorem dX8_broken_10 : decode cX8_broken 10 = .ok (.aload_n 0, 1) := by decide +kernel
theorem dX8_broken_11 : decode cX8_broken 11 = .ok (.getfield 16, 3) := by decide +kernel
theorem dX8_broken_14 : decode cX8_broken 14 = .ok (.iconst 4, 1) := by decide +kernel
theorem dX8_broken_15 : decode cX8_broken 15 = .ok (.iload_n 1, 1) := by decide +kernel
theorem dX8_broken_16 : decode cX8_broken 16 = .ok (.imul, 1) := by decide +kernel
theorem dX8_broken_17 : decode cX8_broken 17 = .ok (.iaload, 1) := by decide +kernel
theorem dX8_broken_18 : decode cX8_broken 18 = .ok (.istore_n 2, 1) := by decide +kernel
theorem dX8_broken_19 : decode cX8_broken 19 = .ok (.iload_n 2, 1) := by decide +kernel
theorem dX8_broken_20 : decode cX8_broken 20 = .ok (.iconst 3, 1) := by decide +kernel
theorem dX8_broken_21 : decode cX8_broken 21 = .ok (.if_icmp .eq 8, 3) := by decide +kernel
theorem dX8_broken_24 : decode cX8_broken 24 = .ok (.iload_n 2, 1) := by decide +kernel
theorem dX8_broken_25 : decode cX8_broken 25 = .ok (.iconst 4, 1) := by decide +kernel
theorem dX8_broken_26 : decode cX8_broken 26 = .ok (.if_icmp .ne 72, 3) := by decide +kernel
theorem dX8_broken_29 : decode cX8_broken 29 = .ok (.aload_n 0, 1) := by decide +kernel
theorem dX8_broken_30 : decode cX8_broken 30 = .ok (.iload_n 2, 1) := by decide +kernel
theorem dX8_broken_31 : decode cX8_broken 31 = .ok (.iconst 3, 1) := by decide +kernel
theorem dX8_broken_32 : decode cX8_broken 32 = .ok (.if_icmp .eq 10, 3) := by decide +kernel
theorem dX8_broken_35 : decode cX8_broken 35 = .ok (.aload_n 0, 1) := by decide +kernel
theorem dX8_broken_36 : decode cX8_broken 36 = .ok (.getfield 72, 3) := by decide +kernel
theorem dX8_broken_39 : decode cX8_broken 39 = .ok (.ifCond .ne 7, 3) := by decide +kernel
theorem dX8_broken_42 : decode cX8_broken 42 = .ok (.iconst 0, 1) := by decide +kernel
theorem dX8_broken_43 : decode cX8_broken 43 = .ok (.goto 9, 3) := by decide +kernel
theorem dX8_broken_46 : decode cX8_broken 46 = .ok (.aload_n 0, 1) := by decide +kernel
theorem dX8_broken_47 : decode cX8_broken 47 = .ok (.getfield 72, 3) := by decide +kernel
theorem dX8_broken_50 : decode cX8_broken 50 = .ok (.iconst 1, 1) := by decide +kernel
theorem dX8_broken_51 : decode cX8_broken 51 = .ok (.isub, 1) := by decide +kernel
theorem dX8_broken_52 : decode cX8_broken 52 = .ok (.putfield 168, 3) := by decide +kernel
theorem dX8_broken_55 : decode cX8_broken 55 = .ok (.aload_n 0, 1) := by decide +kernel
theorem dX8_broken_56 : decode cX8_broken 56 = .ok (.aload_n 0, 1) := by decide +kernel
theorem dX8_broken_57 : decode cX8_broken 57 = .ok (.getfield 168, 3) := by decide +kernel
theorem dX8_broken_60 : decode cX8_broken 60 = .ok (.putfield 171, 3) := by decide +kernel
theorem dX8_broken_63 : decode cX8_broken 63 = .ok (.aload_n 0, 1) := by decide +kernel
theorem dX8_broken_64 : decode cX8_broken 64 = .ok (.getfield 72, 3) := by decide +kernel
theorem dX8_broken_67 : decode cX8_broken 67 = .ok (.ifCond .eq 29, 3) := by decide +kernel
theorem dX8_broken_70 : decode cX8_broken 70 = .ok (.aload_n 0, 1) := by decide +kernel
theorem dX8_broken_71 : decode cX8_broken 71 = .ok (.aload_n 0, 1) := by decide +kernel
theorem dX8_broken_72 : decode cX8_broken 72 = .ok (.getfield 29, 3) := by decide +kernel
theorem dX8_broken_75 : decode cX8_broken 75 = .ok (.aload_n 0, 1) := by decide +kernel
theorem dX8_broken_76 : decode cX8_broken 76 = .ok (.getfield 168, 3) := by decide +kernel
theorem dX8_broken_79 : decode cX8_broken 79 = .ok (.iaload, 1) := by decide +kernel
theorem dX8_broken_80 : decode cX8_broken 80 = .ok (.aload_n 0, 1) := by decide +kernel
theorem dX8_broken_81 : decode cX8_broken 81 = .ok (.getfield 16, 3) := by decide +kernel
theorem dX8_broken_84 : decode cX8_broken 84 = .ok (.iconst 4, 1) := by decide +kernel
theorem dX8_broken_85 : decode cX8_broken 85 = .ok (.iload_n 1, 1) := by decide +kernel
theorem dX8_broken_86 : decode cX8_broken 86 = .ok (.imul, 1) := by decide +kernel
theorem dX8_broken_87 : decode cX8_broken 87 = .ok (.iconst 1, 1) := by decide +kernel
theorem dX8_broken_88 : decode cX8_broken 88 = .ok (.iadd, 1) := by decide +kernel
theorem dX8_broken_89 : decode cX8_broken 89 = .ok (.iaload, 1) := by decide +kernel
theorem dX8_broken_90 : decode cX8_broken 90 = .ok (.invokevirtual 165, 3) := by decide +kernel
theorem dX8_broken_93 : decode cX8_broken 93 = .ok (.ifCond .ne 86, 3) := by decide +kernel
theorem dX8_broken_96 : decode cX8_broken 96 = .ok (.iload_n 1, 1) := by decide +kernel
theorem dX8_broken_97 : decode cX8_broken 97 = .ok (.ireturn, 1) := by decide +kernel
theorem dX8_broken_98 : decode cX8_broken 98 = .ok (.aload_n 0, 1) := by decide +kernel
theorem dX8_broken_99 : decode cX8_broken 99 = .ok (.iconst 0, 1) := by decide +kernel
theorem dX8_broken_100 : decode cX8_broken 100 = .ok (.putfield 168, 3) := by decide +kernel
theorem dX8_broken_103 : decode cX8_broken 103 = .ok (.aload_n 0, 1) := by decide +kernel
theorem dX8_broken_104 : decode cX8_broken 104 = .ok (.getfield 168, 3) := by decide +kernel
theorem dX8_broken_107 : decode cX8_broken 107 = .ok (.aload_n 0, 1) := by decide +kernel
theorem dX8_broken_108 : decode cX8_broken 108 = .ok (.getfield 72, 3) := by decide +kernel
theorem dX8_broken_111 : decode cX8_broken 111 = .ok (.if_icmp .ge 68, 3) := by decide +kernel
theorem dX8_broken_114 : decode cX8_broken 114 = .ok (.aload_n 0, 1) := by decide +kernel
theorem dX8_broken_115 : decode cX8_broken 115 = .ok (.aload_n 0, 1) := by decide +kernel
theorem dX8_broken_116 : decode cX8_broken 116 = .ok (.getfield 168, 3) := by decide +kernel
theorem dX8_broken_119 : decode cX8_broken 119 = .ok (.iconst 1, 1) := by decide +kernel
theorem dX8_broken_120 : decode cX8_broken 120 = .ok (.iadd, 1) := by decide +kernel
theorem dX8_broken_121 : decode cX8_broken 121 = .ok (.putfield 171, 3) := by decide +kernel
theorem dX8_broken_124 : decode cX8_broken 124 = .ok (.aload_n 0, 1) := by decide +kernel
theorem dX8_broken_125 : decode cX8_broken 125 = .ok (.getfield 171, 3) := by decide +kernel
theorem dX8_broken_128 : decode cX8_broken 128 = .ok (.aload_n 0, 1) := by decide +kernel
theorem dX8_broken_129 : decode cX8_broken 129 = .ok (.getfield 72, 3) := by decide +kernel
theorem dX8_broken_132 : decode cX8_broken 132 = .ok (.if_icmp .ge 34, 3) := by decide +kernel
theorem dX8_broken_135 : decode cX8_broken 135 = .ok (.aload_n 0, 1) := by decide +kernel
theorem dX8_broken_136 : decode cX8_broken 136 = .ok (.iload_n 1, 1) := by decide +kernel
theorem dX8_broken_137 : decode cX8_broken 137 = .ok (.aload_n 0, 1) := by decide +kernel
theorem dX8_broken_138 : decode cX8_broken 138 = .ok (.getfield 168, 3) := by decide +kernel
theorem dX8_broken_141 : decode cX8_broken 141 = .ok (.aload_n 0, 1) := by decide +kernel
theorem dX8_broken_142 : decode cX8_broken 142 = .ok (.getfield 171, 3) := by decide +kernel
theorem dX8_broken_145 : decode cX8_broken 145 = .ok (.invokevirtual 174, 3) := by decide +kernel
theorem dX8_broken_148 : decode cX8_broken 148 = .ok (.ifCond .eq 5, 3) := by decide +kernel
theorem dX8_broken_151 : decode cX8_broken 151 = .ok (.iload_n 1, 1) := by decide +kernel
theorem dX8_broken_152 : decode cX8_broken 152 = .ok (.ireturn, 1) := by decide +kernel
theorem dX8_broken_153 : decode cX8_broken 153 = .ok (.aload_n 0, 1) := by decide +kernel
theorem dX8_broken_154 : decode cX8_broken 154 = .ok (.dup, 1) := by decide +kernel
theorem dX8_broken_155 : decode cX8_broken 155 = .ok (.getfield 171, 3) := by decide +kernel
theorem dX8_broken_158 : decode cX8_broken 158 = .ok (.iconst 1, 1) := by decide +kernel
theorem dX8_broken_159 : decode cX8_broken 159 = .ok (.iadd, 1) := by decide +kernel
theorem dX8_broken_160 : decode cX8_broken 160 = .ok (.putfield 171, 3) := by decide +kernel
theorem dX8_broken_163 : decode cX8_broken 163 = .ok (.goto (-39), 3) := by decide +kernel
theorem dX8_broken_166 : decode cX8_broken 166 = .ok (.aload_n 0, 1) := by decide +kernel
theorem dX8_broken_167 : decode cX8_broken 167 = .ok (.dup, 1) := by decide +kernel
theorem dX8_broken_168 : decode cX8_broken 168 = .ok (.getfield 168, 3) := by decide +kernel
theorem dX8_broken_171 : decode cX8_broken 171 = .ok (.iconst 1, 1) := by decide +kernel
theorem dX8_broken_172 : decode cX8_broken 172 = .ok (.iadd, 1) := by decide +kernel
theorem dX8_broken_173 : decode cX8_broken 173 = .ok (.putfield 168, 3) := by decide +kernel
theorem dX8_broken_176 : decode cX8_broken 176 = .ok (.goto (-73), 3) := by decide +kernel
theorem dX8_broken_179 : decode cX8_broken 179 = .ok (.iinc 1 1, 3) := by decide +kernel
theorem dX8_broken_182 : decode cX8_broken 182 = .ok (.goto (-180), 3) := by decide +kernel
theorem dX8_broken_185 : decode cX8_broken 185 = .ok (.aload_n 0, 1) := by decide +kernel
theorem dX8_broken_186 : decode cX8_broken 186 = .ok (.iconst 0, 1) := by decide +kernel
theorem dX8_broken_187 : decode cX8_broken 187 = .ok (.putfield 168, 3) := by decide +kernel
theorem dX8_broken_190 : decode cX8_broken 190 = .ok (.aload_n 0, 1) := by decide +kernel
theorem dX8_broken_191 : decode cX8_broken 191 = .ok (.getfield 168, 3) := by decide +kernel
theorem dX8_broken_194 : decode cX8_broken 194 = .ok (.aload_n 0, 1) := by decide +kernel
theorem dX8_broken_195 : decode cX8_broken 195 = .ok (.getfield 72, 3) := by decide +kernel
theorem dX8_broken_198 : decode cX8_broken 198 = .ok (.if_icmp .ge 116, 3) := by decide +kernel
theorem dX8_broken_201 : decode cX8_broken 201 = .ok (.aload_n 0, 1) := by decide +kernel
theorem dX8_broken_202 : decode cX8_broken 202 = .ok (.aload_n 0, 1) := by decide +kernel
theorem dX8_broken_203 : decode cX8_broken 203 = .ok (.getfield 168, 3) := by decide +kernel
theorem dX8_broken_206 : decode cX8_broken 206 = .ok (.iconst 1, 1) := by decide +kernel
theorem dX8_broken_207 : decode cX8_broken 207 = .ok (.iadd, 1) := by decide +kernel
theorem dX8_broken_208 : decode cX8_broken 208 = .ok (.putfield 171, 3) := by decide +kernel
theorem dX8_broken_211 : decode cX8_broken 211 = .ok (.aload_n 0, 1) := by decide +kernel
theorem dX8_broken_212 : decode cX8_broken 212 = .ok (.getfield 171, 3) := by decide +kernel
theorem dX8_broken_215 : decode cX8_broken 215 = .ok (.aload_n 0, 1) := by decide +kernel
theorem dX8_broken_216 : decode cX8_broken 216 = .ok (.getfield 72, 3) := by decide +kernel
theorem dX8_broken_219 : decode cX8_broken 219 = .ok (.if_icmp .ge 82, 3) := by decide +kernel
theorem dX8_broken_222 : decode cX8_broken 222 = .ok (.aload_n 0, 1) := by decide +kernel
theorem dX8_broken_223 : decode cX8_broken 223 = .ok (.getfield 171, 3) := by decide +kernel
theorem dX8_broken_226 : decode cX8_broken 226 = .ok (.aload_n 0, 1) := by decide +kernel
theorem dX8_broken_227 : decode cX8_broken 227 = .ok (.getfield 168, 3) := by decide +kernel
theorem dX8_broken_230 : decode cX8_broken 230 = .ok (.iconst 3, 1) := by decide +kernel
theorem dX8_broken_231 : decode cX8_broken 231 = .ok (.iadd, 1) := by decide +kernel
theorem dX8_broken_232 : decode cX8_broken 232 = .ok (.if_icmp .ge 69, 3) := by decide +kernel
theorem dX8_broken_235 : decode cX8_broken 235 = .ok (.aload_n 0, 1) := by decide +kernel
theorem dX8_broken_236 : decode cX8_broken 236 = .ok (.aload_n 0, 1) := by decide +kernel
theorem dX8_broken_237 : decode cX8_broken 237 = .ok (.getfield 29, 3) := by decide +kernel
theorem dX8_broken_240 : decode cX8_broken 240 = .ok (.aload_n 0, 1) := by decide +kernel
theorem dX8_broken_241 : decode cX8_broken 241 = .ok (.getfield 168, 3) := by decide +kernel
theorem dX8_broken_244 : decode cX8_broken 244 = .ok (.iaload, 1) := by decide +kernel
theorem dX8_broken_245 : decode cX8_broken 245 = .ok (.aload_n 0, 1) := by decide +kernel
theorem dX8_broken_246 : decode cX8_broken 246 = .ok (.getfield 29, 3) := by decide +kernel
theorem dX8_broken_249 : decode cX8_broken 249 = .ok (.aload_n 0, 1) := by decide +kernel
theorem dX8_broken_250 : decode cX8_broken 250 = .ok (.getfield 171, 3) := by decide +kernel
theorem dX8_broken_253 : decode cX8_broken 253 = .ok (.iaload, 1) := by decide +kernel
theorem dX8_broken_254 : decode cX8_broken 254 = .ok (.invokevirtual 177, 3) := by decide +kernel
theorem dX8_broken_257 : decode cX8_broken 257 = .ok (.ifCond .ne 28, 3) := by decide +kernel
theorem dX8_broken_260 : decode cX8_broken 260 = .ok (.aload_n 0, 1) := by decide +kernel
theorem dX8_broken_261 : decode cX8_broken 261 = .ok (.aload_n 0, 1) := by decide +kernel
theorem dX8_broken_262 : decode cX8_broken 262 = .ok (.getfield 29, 3) := by decide +kernel
theorem dX8_broken_265 : decode cX8_broken 265 = .ok (.aload_n 0, 1) := by decide +kernel
theorem dX8_broken_266 : decode cX8_broken 266 = .ok (.getfield 171, 3) := by decide +kernel
theorem dX8_broken_269 : decode cX8_broken 269 = .ok (.iaload, 1) := by decide +kernel
theorem dX8_broken_270 : decode cX8_broken 270 = .ok (.aload_n 0, 1) := by decide +kernel
theorem dX8_broken_271 : decode cX8_broken 271 = .ok (.getfield 29, 3) := by decide +kernel
theorem dX8_broken_274 : decode cX8_broken 274 = .ok (.aload_n 0, 1) := by decide +kernel
theorem dX8_broken_275 : decode cX8_broken 275 = .ok (.getfield 168, 3) := by decide +kernel
theorem dX8_broken_278 : decode cX8_broken 278 = .ok (.iaload, 1) := by decide +kernel
theorem dX8_broken_279 : decode cX8_broken 279 = .ok (.invokevirtual 177, 3) := by decide +kernel
theorem dX8_broken_282 : decode cX8_broken 282 = .ok (.ifCond .eq 6, 3) := by decide +kernel
theorem dX8_broken_285 : decode cX8_broken 285 = .ok (.bipush 10, 2) := by decide +kernel
theorem dX8_broken_287 : decode cX8_broken 287 = .ok (.ireturn, 1) := by decide +kernel
theorem dX8_broken_288 : decode cX8_broken 288 = .ok (.aload_n 0, 1) := by decide +kernel
theorem dX8_broken_289 : decode cX8_broken 289 = .ok (.dup, 1) := by decide +kernel
theorem dX8_broken_290 : decode cX8_broken 290 = .ok (.getfield 171, 3) := by decide +kernel
theorem dX8_broken_293 : decode cX8_broken 293 = .ok (.iconst 1, 1) := by decide +kernel
theorem dX8_broken_294 : decode cX8_broken 294 = .ok (.iadd, 1) := by decide +kernel
theorem dX8_broken_295 : decode cX8_broken 295 = .ok (.putfield 171, 3) := by decide +kernel
theorem dX8_broken_298 : decode cX8_broken 298 = .ok (.goto (-87), 3) := by decide +kernel
theorem dX8_broken_301 : decode cX8_broken 301 = .ok (.aload_n 0, 1) := by decide +kernel
theorem dX8_broken_302 : decode cX8_broken 302 = .ok (.dup, 1) := by decide +kernel
theorem dX8_broken_303 : decode cX8_broken 303 = .ok (.getfield 168, 3) := by decide +kernel
theorem dX8_broken_306 : decode cX8_broken 306 = .ok (.iconst 1, 1) := by decide +kernel
theorem dX8_broken_307 : decode cX8_broken 307 = .ok (.iadd, 1) := by decide +kernel
theorem dX8_broken_308 : decode cX8_broken 308 = .ok (.putfield 168, 3) := by decide +kernel
theorem dX8_broken_311 : decode cX8_broken 311 = .ok (.goto (-121), 3) := by decide +kernel
theorem dX8_broken_314 : decode cX8_broken 314 = .ok (.iconst (-1), 1) := by decide +kernel
theorem dX8_broken_315 : decode cX8_broken 315 = .ok (.ireturn, 1) := by decide +kernel
theorem dX8_takes_0 : decode cX8_takes 0 = .ok (.iconst 0, 1) := by decide +kernel
theorem dX8_takes_1 : decode cX8_takes 1 = .ok (.istore_n 1, 1) := by decide +kernel
theorem dX8_takes_2 : decode cX8_takes 2 = .ok (.iload_n 1, 1) := by decide +kernel
theorem dX8_takes_3 : decode cX8_takes 3 = .ok (.aload_n 0, 1) := by decide +kernel
theorem dX8_takes_4 : decode cX8_takes 4 = .ok (.getfield 72, 3) := by decide +kernel
theorem dX8_takes_7 : decode cX8_takes 7 = .ok (.if_icmp .ge 21, 3) := by decide +kernel
theorem dX8_takes_10 : decode cX8_takes 10 = .ok (.aload_n 0, 1) := by decide +kernel
theorem dX8_takes_11 : decode cX8_takes 11 = .ok (.getfield 29, 3) := by decide +kernel
theorem dX8_takes_14 : decode cX8_takes 14 = .ok (.iload_n 1, 1) := by decide +kernel
theorem dX8_takes_15 : decode cX8_takes 15 = .ok (.aload_n 0, 1) := by decide +kernel
theorem dX8_takes_16 : decode cX8_takes 16 = .ok (.getfield 13, 3) := by decide +kernel
theorem dX8_takes_19 : decode cX8_takes 19 = .ok (.iload_n 1, 1) := by decide +kernel
theorem dX8_takes_20 : decode cX8_takes 20 = .ok (.iaload, 1) := by decide +kernel
theorem dX8_takes_21 : decode cX8_takes 21 = .ok (.iastore, 1) := by decide +kernel
theorem dX8_takes_22 : decode cX8_takes 22 = .ok (.iinc 1 1, 3) := by decide +kernel
theorem dX8_takes_25 : decode cX8_takes 25 = .ok (.goto (-23), 3) := by decide +kernel
theorem dX8_takes_28 : decode cX8_takes 28 = .ok (.return_, 1) := by decide +kernel
theorem dX8_lay_0 : decode cX8_lay 0 = .ok (.aload_n 0, 1) := by decide +kernel
theorem dX8_lay_1 : decode cX8_lay 1 = .ok (.iconst 0, 1) := by decide +kernel
theorem dX8_lay_2 : decode cX8_lay 2 = .ok (.putfield 69, 3) := by decide +kernel
theorem dX8_lay_5 : decode cX8_lay 5 = .ok (.iconst 0, 1) := by decide +kernel
theorem dX8_lay_6 : decode cX8_lay 6 = .ok (.istore_n 2, 1) := by decide +kernel
theorem dX8_lay_7 : decode cX8_lay 7 = .ok (.iconst 0, 1) := by decide +kernel
theorem dX8_lay_8 : decode cX8_lay 8 = .ok (.istore_n 3, 1) := by decide +kernel
theorem dX8_lay_9 : decode cX8_lay 9 = .ok (.iload_n 3, 1) := by decide +kernel
theorem dX8_lay_10 : decode cX8_lay 10 = .ok (.aload_n 0, 1) := by decide +kernel
theorem dX8_lay_11 : decode cX8_lay 11 = .ok (.getfield 72, 3) := by decide +kernel
theorem dX8_lay_14 : decode cX8_lay 14 = .ok (.if_icmp .ge 47, 3) := by decide +kernel
theorem dX8_lay_17 : decode cX8_lay 17 = .ok (.iload_n 1, 1) := by decide +kernel
theorem dX8_lay_18 : decode cX8_lay 18 = .ok (.iconst 4, 1) := by decide +kernel
theorem dX8_lay_19 : decode cX8_lay 19 = .ok (.iload_n 3, 1) := by decide +kernel
theorem dX8_lay_20 : decode cX8_lay 20 = .ok (.imul, 1) := by decide +kernel
theorem dX8_lay_21 : decode cX8_lay 21 = .ok (.ishr, 1) := by decide +kernel
theorem dX8_lay_22 : decode cX8_lay 22 = .ok (.bipush 15, 2) := by decide +kernel
theorem dX8_lay_24 : decode cX8_lay 24 = .ok (.iand, 1) := by decide +kernel
theorem dX8_lay_25 : decode cX8_lay 25 = .ok (.istore 4, 2) := by decide +kernel
theorem dX8_lay_27 : decode cX8_lay 27 = .ok (.iload 4, 2) := by decide +kernel
theorem dX8_lay_29 : decode cX8_lay 29 = .ok (.aload_n 0, 1) := by decide +kernel
theorem dX8_lay_30 : decode cX8_lay 30 = .ok (.getfield 72, 3) := by decide +kernel
theorem dX8_lay_33 : decode cX8_lay 33 = .ok (.if_icmp .ge 13, 3) := by decide +kernel
theorem dX8_lay_36 : decode cX8_lay 36 = .ok (.iload_n 2, 1) := by decide +kernel
theorem dX8_lay_37 : decode cX8_lay 37 = .ok (.iload 4, 2) := by decide +kernel
theorem dX8_lay_39 : decode cX8_lay 39 = .ok (.ishr, 1) := by decide +kernel
theorem dX8_lay_40 : decode cX8_lay 40 = .ok (.iconst 1, 1) := by decide +kernel
theorem dX8_lay_41 : decode cX8_lay 41 = .ok (.iand, 1) := by decide +kernel
theorem dX8_lay_42 : decode cX8_lay 42 = .ok (.iconst 1, 1) := by decide +kernel
theorem dX8_lay_43 : decode cX8_lay 43 = .ok (.if_icmp .ne 5, 3) := by decide +kernel
theorem dX8_lay_46 : decode cX8_lay 46 = .ok (.iconst 0, 1) := by decide +kernel
theorem dX8_lay_47 : decode cX8_lay 47 = .ok (.ireturn, 1) := by decide +kernel
theorem dX8_lay_48 : decode cX8_lay 48 = .ok (.iload_n 2, 1) := by decide +kernel
theorem dX8_lay_49 : decode cX8_lay 49 = .ok (.iconst 1, 1) := by decide +kernel
theorem dX8_lay_50 : decode cX8_lay 50 = .ok (.iload 4, 2) := by decide +kernel
theorem dX8_lay_52 : decode cX8_lay 52 = .ok (.ishl, 1) := by decide +kernel
theorem dX8_lay_53 : decode cX8_lay 53 = .ok (.ior, 1) := by decide +kernel
theorem dX8_lay_54 : decode cX8_lay 54 = .ok (.istore_n 2, 1) := by decide +kernel
theorem dX8_lay_55 : decode cX8_lay 55 = .ok (.iinc 3 1, 3) := by decide +kernel
theorem dX8_lay_58 : decode cX8_lay 58 = .ok (.goto (-49), 3) := by decide +kernel
theorem dX8_lay_61 : decode cX8_lay 61 = .ok (.iconst 0, 1) := by decide +kernel
theorem dX8_lay_62 : decode cX8_lay 62 = .ok (.istore_n 3, 1) := by decide +kernel
theorem dX8_lay_63 : decode cX8_lay 63 = .ok (.iload_n 3, 1) := by decide +kernel
theorem dX8_lay_64 : decode cX8_lay 64 = .ok (.aload_n 0, 1) := by decide +kernel
theorem dX8_lay_65 : decode cX8_lay 65 = .ok (.getfield 72, 3) := by decide +kernel
theorem dX8_lay_68 : decode cX8_lay 68 = .ok (.if_icmp .ge 23, 3) := by decide +kernel
theorem dX8_lay_71 : decode cX8_lay 71 = .ok (.aload_n 0, 1) := by decide +kernel
theorem dX8_lay_72 : decode cX8_lay 72 = .ok (.getfield 13, 3) := by decide +kernel
theorem dX8_lay_75 : decode cX8_lay 75 = .ok (.iload_n 3, 1) := by decide +kernel
theorem dX8_lay_76 : decode cX8_lay 76 = .ok (.iload_n 1, 1) := by decide +kernel
theorem dX8_lay_77 : decode cX8_lay 77 = .ok (.iconst 4, 1) := by decide +kernel
theorem dX8_lay_78 : decode cX8_lay 78 = .ok (.iload_n 3, 1) := by decide +kernel
theorem dX8_lay_79 : decode cX8_lay 79 = .ok (.imul, 1) := by decide +kernel
theorem dX8_lay_80 : decode cX8_lay 80 = .ok (.ishr, 1) := by decide +kernel
theorem dX8_lay_81 : decode cX8_lay 81 = .ok (.bipush 15, 2) := by decide +kernel
theorem dX8_lay_83 : decode cX8_lay 83 = .ok (.iand, 1) := by decide +kernel
theorem dX8_lay_84 : decode cX8_lay 84 = .ok (.iastore, 1) := by decide +kernel
theorem dX8_lay_85 : decode cX8_lay 85 = .ok (.iinc 3 1, 3) := by decide +kernel
theorem dX8_lay_88 : decode cX8_lay 88 = .ok (.goto (-25), 3) := by decide +kernel
theorem dX8_lay_91 : decode cX8_lay 91 = .ok (.aload_n 0, 1) := by decide +kernel
theorem dX8_lay_92 : decode cX8_lay 92 = .ok (.iconst 0, 1) := by decide +kernel
theorem dX8_lay_93 : decode cX8_lay 93 = .ok (.putfield 79, 3) := by decide +kernel
theorem dX8_lay_96 : decode cX8_lay 96 = .ok (.iconst 1, 1) := by decide +kernel
theorem dX8_lay_97 : decode cX8_lay 97 = .ok (.ireturn, 1) := by decide +kernel
set_option maxRecDepth 20000 in
theorem ggX8_place_X8_isIn : GoodIn wsX8_place wsX8_isIn := goodIn_r _ [7] (by decide +kernel) (by decide +kernel)
set_option maxRecDepth 20000 in
theorem gX8_place_X8_isIn : GoodIn wsX8_place (va_wsS RX8 75 yX8_isIn wsX8_isIn) := goodIn_app (goodIn_of _ (by decide +kernel)) ggX8_place_X8_isIn
theorem dX8_place_0 : decode cX8_place 0 = .ok (.aload_n 0, 1) := by decide +kernel
theorem dX8_place_1 : decode cX8_place 1 = .ok (.iconst 0, 1) := by decide +kernel
theorem dX8_place_2 : decode cX8_place 2 = .ok (.putfield 69, 3) := by decide +kernel
theorem dX8_place_5 : decode cX8_place 5 = .ok (.iload_n 1, 1) := by decide +kernel
theorem dX8_place_6 : decode cX8_place 6 = .ok (.iconst 0, 1) := by decide +kernel
theorem dX8_place_7 : decode cX8_place 7 = .ok (.aload_n 0, 1) := by decide +kernel
theorem dX8_place_8 : decode cX8_place 8 = .ok (.getfield 72, 3) := by decide +kernel
theorem dX8_place_11 : decode cX8_place 11 = .ok (.iconst 1, 1) := by decide +kernel
theorem dX8_place_12 : decode cX8_place 12 = .ok (.isub, 1) := by decide +kernel
theorem dX8_place_13 : decode cX8_place 13 = .ok (.invokestatic 75, 3) := by decide +kernel
theorem dX8_place_16 : decode cX8_place 16 = .ok (.ifCond .eq 12, 3) := by decide +kernel
theorem dX8_place_19 : decode cX8_place 19 = .ok (.aload_n 0, 1) := by decide +kernel
theorem dX8_place_20 : decode cX8_place 20 = .ok (.getfield 13, 3) := by decide +kernel
theorem dX8_place_23 : decode cX8_place 23 = .ok (.iload_n 1, 1) := by decide +kernel
theorem dX8_place_24 : decode cX8_place 24 = .ok (.iaload, 1) := by decide +kernel
theorem dX8_place_25 : decode cX8_place 25 = .ok (.goto 4, 3) := by decide +kernel
theorem dX8_place_28 : decode cX8_place 28 = .ok (.iconst (-1), 1) := by decide +kernel
theorem dX8_place_29 : decode cX8_place 29 = .ok (.ireturn, 1) := by decide +kernel
theorem dX8_firstOrder_0 : decode cX8_firstOrder 0 = .ok (.iconst 0, 1) := by decide +kernel
theorem dX8_firstOrder_1 : decode cX8_firstOrder 1 = .ok (.istore_n 1, 1) := by decide +kernel
theorem dX8_firstOrder_2 : decode cX8_firstOrder 2 = .ok (.iload_n 1, 1) := by decide +kernel
theorem dX8_firstOrder_3 : decode cX8_firstOrder 3 = .ok (.aload_n 0, 1) := by decide +kernel
theorem dX8_firstOrder_4 : decode cX8_firstOrder 4 = .ok (.getfield 72, 3) := by decide +kernel
theorem dX8_firstOrder_7 : decode cX8_firstOrder 7 = .ok (.if_icmp .ge 16, 3) := by decide +kernel
theorem dX8_firstOrder_10 : decode cX8_firstOrder 10 = .ok (.aload_n 0, 1) := by decide +kernel
theorem dX8_firstOrder_11 : decode cX8_firstOrder 11 = .ok (.getfield 29, 3) := by decide +kernel
theorem dX8_firstOrder_14 : decode cX8_firstOrder 14 = .ok (.iload_n 1, 1) := by decide +kernel
theorem dX8_firstOrder_15 : decode cX8_firstOrder 15 = .ok (.iload_n 1, 1) := by decide +kernel
theorem dX8_firstOrder_16 : decode cX8_firstOrder 16 = .ok (.iastore, 1) := by decide +kernel
theorem dX8_firstOrder_17 : decode cX8_firstOrder 17 = .ok (.iinc 1 1, 3) := by decide +kernel
theorem dX8_firstOrder_20 : decode cX8_firstOrder 20 = .ok (.goto (-18), 3) := by decide +kernel
theorem dX8_firstOrder_23 : decode cX8_firstOrder 23 = .ok (.return_, 1) := by decide +kernel
theorem dX8_nextOrder_0 : decode cX8_nextOrder 0 = .ok (.aload_n 0, 1) := by decide +kernel
theorem dX8_nextOrder_1 : decode cX8_nextOrder 1 = .ok (.getfield 72, 3) := by decide +kernel
theorem dX8_nextOrder_4 : decode cX8_nextOrder 4 = .ok (.iconst 2, 1) := by decide +kernel
theorem dX8_nextOrder_5 : decode cX8_nextOrder 5 = .ok (.isub, 1) := by decide +kernel
theorem dX8_nextOrder_6 : decode cX8_nextOrder 6 = .ok (.istore_n 1, 1) := by decide +kernel
theorem dX8_nextOrder_7 : decode cX8_nextOrder 7 = .ok (.iload_n 1, 1) := by decide +kernel
theorem dX8_nextOrder_8 : decode cX8_nextOrder 8 = .ok (.ifCond .lt 26, 3) := by decide +kernel
theorem dX8_nextOrder_11 : decode cX8_nextOrder 11 = .ok (.aload_n 0, 1) := by decide +kernel
theorem dX8_nextOrder_12 : decode cX8_nextOrder 12 = .ok (.getfield 29, 3) := by decide +kernel
theorem dX8_nextOrder_15 : decode cX8_nextOrder 15 = .ok (.iload_n 1, 1) := by decide +kernel
theorem dX8_nextOrder_16 : decode cX8_nextOrder 16 = .ok (.iaload, 1) := by decide +kernel
theorem dX8_nextOrder_17 : decode cX8_nextOrder 17 = .ok (.aload_n 0, 1) := by decide +kernel
theorem dX8_nextOrder_18 : decode cX8_nextOrder 18 = .ok (.getfield 29, 3) := by decide +kernel
theorem dX8_nextOrder_21 : decode cX8_nextOrder 21 = .ok (.iload_n 1, 1) := by decide +kernel
theorem dX8_nextOrder_22 : decode cX8_nextOrder 22 = .ok (.iconst 1, 1) := by decide +kernel
theorem dX8_nextOrder_23 : decode cX8_nextOrder 23 = .ok (.iadd, 1) := by decide +kernel
theorem dX8_nextOrder_24 : decode cX8_nextOrder 24 = .ok (.iaload, 1) := by decide +kernel
theorem dX8_nextOrder_25 : decode cX8_nextOrder 25 = .ok (.if_icmp .le 9, 3) := by decide +kernel
theorem dX8_nextOrder_28 : decode cX8_nextOrder 28 = .ok (.iinc 1 (-1), 3) := by decide +kernel
theorem dX8_nextOrder_31 : decode cX8_nextOrder 31 = .ok (.goto (-24), 3) := by decide +kernel
theorem dX8_nextOrder_34 : decode cX8_nextOrder 34 = .ok (.iload_n 1, 1) := by decide +kernel
theorem dX8_nextOrder_35 : decode cX8_nextOrder 35 = .ok (.ifCond .ge 5, 3) := by decide +kernel
theorem dX8_nextOrder_38 : decode cX8_nextOrder 38 = .ok (.iconst 0, 1) := by decide +kernel
theorem dX8_nextOrder_39 : decode cX8_nextOrder 39 = .ok (.ireturn, 1) := by decide +kernel
theorem dX8_nextOrder_40 : decode cX8_nextOrder 40 = .ok (.aload_n 0, 1) := by decide +kernel
theorem dX8_nextOrder_41 : decode cX8_nextOrder 41 = .ok (.getfield 72, 3) := by decide +kernel
theorem dX8_nextOrder_44 : decode cX8_nextOrder 44 = .ok (.iconst 1, 1) := by decide +kernel
theorem dX8_nextOrder_45 : decode cX8_nextOrder 45 = .ok (.isub, 1) := by decide +kernel
theorem dX8_nextOrder_46 : decode cX8_nextOrder 46 = .ok (.istore_n 2, 1) := by decide +kernel
theorem dX8_nextOrder_47 : decode cX8_nextOrder 47 = .ok (.aload_n 0, 1) := by decide +kernel
theorem dX8_nextOrder_48 : decode cX8_nextOrder 48 = .ok (.getfield 29, 3) := by decide +kernel
theorem dX8_nextOrder_51 : decode cX8_nextOrder 51 = .ok (.iload_n 2, 1) := by decide +kernel
theorem dX8_nextOrder_52 : decode cX8_nextOrder 52 = .ok (.iaload, 1) := by decide +kernel
theorem dX8_nextOrder_53 : decode cX8_nextOrder 53 = .ok (.aload_n 0, 1) := by decide +kernel
theorem dX8_nextOrder_54 : decode cX8_nextOrder 54 = .ok (.getfield 29, 3) := by decide +kernel
theorem dX8_nextOrder_57 : decode cX8_nextOrder 57 = .ok (.iload_n 1, 1) := by decide +kernel
theorem dX8_nextOrder_58 : decode cX8_nextOrder 58 = .ok (.iaload, 1) := by decide +kernel
theorem dX8_nextOrder_59 : decode cX8_nextOrder 59 = .ok (.if_icmp .ge 9, 3) := by decide +kernel
theorem dX8_nextOrder_62 : decode cX8_nextOrder 62 = .ok (.iinc 2 (-1), 3) := by decide +kernel
theorem dX8_nextOrder_65 : decode cX8_nextOrder 65 = .ok (.goto (-18), 3) := by decide +kernel
theorem dX8_nextOrder_68 : decode cX8_nextOrder 68 = .ok (.aload_n 0, 1) := by decide +kernel
theorem dX8_nextOrder_69 : decode cX8_nextOrder 69 = .ok (.getfield 29, 3) := by decide +kernel
theorem dX8_nextOrder_72 : decode cX8_nextOrder 72 = .ok (.iload_n 1, 1) := by decide +kernel
theorem dX8_nextOrder_73 : decode cX8_nextOrder 73 = .ok (.iaload, 1) := by decide +kernel
theorem dX8_nextOrder_74 : decode cX8_nextOrder 74 = .ok (.istore_n 3, 1) := by decide +kernel
theorem dX8_nextOrder_75 : decode cX8_nextOrder 75 = .ok (.aload_n 0, 1) := by decide +kernel
theorem dX8_nextOrder_76 : decode cX8_nextOrder 76 = .ok (.getfield 29, 3) := by decide +kernel
theorem dX8_nextOrder_79 : decode cX8_nextOrder 79 = .ok (.iload_n 1, 1) := by decide +kernel
theorem dX8_nextOrder_80 : decode cX8_nextOrder 80 = .ok (.aload_n 0, 1) := by decide +kernel
theorem dX8_nextOrder_81 : decode cX8_nextOrder 81 = .ok (.getfield 29, 3) := by decide +kernel
theorem dX8_nextOrder_84 : decode cX8_nextOrder 84 = .ok (.iload_n 2, 1) := by decide +kernel
theorem dX8_nextOrder_85 : decode cX8_nextOrder 85 = .ok (.iaload, 1) := by decide +kernel
theorem dX8_nextOrder_86 : decode cX8_nextOrder 86 = .ok (.iastore, 1) := by decide +kernel
theorem dX8_nextOrder_87 : decode cX8_nextOrder 87 = .ok (.aload_n 0, 1) := by decide +kernel
theorem dX8_nextOrder_88 : decode cX8_nextOrder 88 = .ok (.getfield 29, 3) := by decide +kernel
theorem dX8_nextOrder_91 : decode cX8_nextOrder 91 = .ok (.iload_n 2, 1) := by decide +kernel
theorem dX8_nextOrder_92 : decode cX8_nextOrder 92 = .ok (.iload_n 3, 1) := by decide +kernel
theorem dX8_nextOrder_93 : decode cX8_nextOrder 93 = .ok (.iastore, 1) := by decide +kernel
theorem dX8_nextOrder_94 : decode cX8_nextOrder 94 = .ok (.iload_n 1, 1) := by decide +kernel
theorem dX8_nextOrder_95 : decode cX8_nextOrder 95 = .ok (.iconst 1, 1) := by decide +kernel
theorem dX8_nextOrder_96 : decode cX8_nextOrder 96 = .ok (.iadd, 1) := by decide +kernel
theorem dX8_nextOrder_97 : decode cX8_nextOrder 97 = .ok (.istore 4, 2) := by decide +kernel
theorem dX8_nextOrder_99 : decode cX8_nextOrder 99 = .ok (.aload_n 0, 1) := by decide +kernel
theorem dX8_nextOrder_100 : decode cX8_nextOrder 100 = .ok (.getfield 72, 3) := by decide +kernel
theorem dX8_nextOrder_103 : decode cX8_nextOrder 103 = .ok (.iconst 1, 1) := by decide +kernel
theorem dX8_nextOrder_104 : decode cX8_nextOrder 104 = .ok (.isub, 1) := by decide +kernel
theorem dX8_nextOrder_105 : decode cX8_nextOrder 105 = .ok (.istore 5, 2) := by decide +kernel
theorem dX8_nextOrder_107 : decode cX8_nextOrder 107 = .ok (.iload 4, 2) := by decide +kernel
theorem dX8_nextOrder_109 : decode cX8_nextOrder 109 = .ok (.iload 5, 2) := by decide +kernel
theorem dX8_nextOrder_111 : decode cX8_nextOrder 111 = .ok (.if_icmp .ge 42, 3) := by decide +kernel
theorem dX8_nextOrder_114 : decode cX8_nextOrder 114 = .ok (.aload_n 0, 1) := by decide +kernel
theorem dX8_nextOrder_115 : decode cX8_nextOrder 115 = .ok (.getfield 29, 3) := by decide +kernel
theorem dX8_nextOrder_118 : decode cX8_nextOrder 118 = .ok (.iload 4, 2) := by decide +kernel
theorem dX8_nextOrder_120 : decode cX8_nextOrder 120 = .ok (.iaload, 1) := by decide +kernel
theorem dX8_nextOrder_121 : decode cX8_nextOrder 121 = .ok (.istore_n 3, 1) := by decide +kernel
theorem dX8_nextOrder_122 : decode cX8_nextOrder 122 = .ok (.aload_n 0, 1) := by decide +kernel
theorem dX8_nextOrder_123 : decode cX8_nextOrder 123 = .ok (.getfield 29, 3) := by decide +kernel
theorem dX8_nextOrder_126 : decode cX8_nextOrder 126 = .ok (.iload 4, 2) := by decide +kernel
theorem dX8_nextOrder_128 : decode cX8_nextOrder 128 = .ok (.aload_n 0, 1) := by decide +kernel
theorem dX8_nextOrder_129 : decode cX8_nextOrder 129 = .ok (.getfield 29, 3) := by decide +kernel
theorem dX8_nextOrder_132 : decode cX8_nextOrder 132 = .ok (.iload 5, 2) := by decide +kernel
theorem dX8_nextOrder_134 : decode cX8_nextOrder 134 = .ok (.iaload, 1) := by decide +kernel
theorem dX8_nextOrder_135 : decode cX8_nextOrder 135 = .ok (.iastore, 1) := by decide +kernel
theorem dX8_nextOrder_136 : decode cX8_nextOrder 136 = .ok (.aload_n 0, 1) := by decide +kernel
theorem dX8_nextOrder_137 : decode cX8_nextOrder 137 = .ok (.getfield 29, 3) := by decide +kernel
theorem dX8_nextOrder_140 : decode cX8_nextOrder 140 = .ok (.iload 5, 2) := by decide +kernel
theorem dX8_nextOrder_142 : decode cX8_nextOrder 142 = .ok (.iload_n 3, 1) := by decide +kernel
theorem dX8_nextOrder_143 : decode cX8_nextOrder 143 = .ok (.iastore, 1) := by decide +kernel
theorem dX8_nextOrder_144 : decode cX8_nextOrder 144 = .ok (.iinc 4 1, 3) := by decide +kernel
theorem dX8_nextOrder_147 : decode cX8_nextOrder 147 = .ok (.iinc 5 (-1), 3) := by decide +kernel
theorem dX8_nextOrder_150 : decode cX8_nextOrder 150 = .ok (.goto (-43), 3) := by decide +kernel
theorem dX8_nextOrder_153 : decode cX8_nextOrder 153 = .ok (.iconst 1, 1) := by decide +kernel
theorem dX8_nextOrder_154 : decode cX8_nextOrder 154 = .ok (.ireturn, 1) := by decide +kernel
set_option maxRecDepth 20000 in
theorem ggX8_orders_X8_firstOrder : GoodIn wsX8_orders wsX8_firstOrder := goodIn_r _ [6, 7, 8, 38, 39, 40, 41, 42, 43, 44, 45, 46, 47, 48, 49, 50, 51, 52, 53, 54, 55, 56, 57, 58, 59, 60, 61, 62, 63, 64, 65, 66, 67, 68, 69, 70, 71, 72, 73] (by decide +kernel) (by decide +kernel)
set_option maxRecDepth 20000 in
theorem gX8_orders_X8_firstOrder : GoodIn wsX8_orders (wsV RX8 180 RX8 yX8_firstOrder wsX8_firstOrder) := goodIn_app (goodIn_of _ (by decide +kernel)) ggX8_orders_X8_firstOrder
set_option maxRecDepth 20000 in
theorem ggX8_orders_X8_broken : GoodIn wsX8_orders wsX8_broken := goodIn_r _ [12, 13, 14, 7, 15, 16, 8, 17, 18, 19, 5, 20, 21, 22, 23, 24, 25, 26, 27, 28, 29, 30, 31, 32, 33, 38, 39, 40, 41, 42, 43, 44, 45, 46, 47, 48, 49, 50, 51, 52, 53, 54, 55, 56, 57, 58, 59, 60, 61, 62, 63, 64, 65, 66, 67, 68, 69, 70, 71, 72, 73] (by decide +kernel) (by decide +kernel)
set_option maxRecDepth 20000 in
theorem gX8_orders_X8_broken : GoodIn wsX8_orders (wsV RX8 183 RX8 yX8_broken wsX8_broken) := goodIn_app (goodIn_of _ (by decide +kernel)) ggX8_orders_X8_broken
set_option maxRecDepth 20000 in
theorem ggX8_orders_X8_nextOrder : GoodIn wsX8_orders wsX8_nextOrder := goodIn_r _ [37, 7, 8, 38, 39, 40, 41, 42, 43, 44, 45, 46, 47, 48, 49, 50, 51, 52, 53, 54, 55, 56, 57, 58, 59, 60, 61, 62, 63, 64, 65, 66, 67, 68, 69, 70, 71, 72, 73] (by decide +kernel) (by decide +kernel)
set_option maxRecDepth 20000 in
theorem gX8_orders_X8_nextOrder : GoodIn wsX8_orders (wsV RX8 187 RX8 yX8_nextOrder wsX8_nextOrder) := goodIn_app (goodIn_of _ (by decide +kernel)) ggX8_orders_X8_nextOrder
theorem dX8_orders_0 : decode cX8_orders 0 = .ok (.aload_n 0, 1) := by decide +kernel
theorem dX8_orders_1 : decode cX8_orders 1 = .ok (.iconst 0, 1) := by decide +kernel
theorem dX8_orders_2 : decode cX8_orders 2 = .ok (.putfield 69, 3) := by decide +kernel
theorem dX8_orders_5 : decode cX8_orders 5 = .ok (.aload_n 0, 1) := by decide +kernel
theorem dX8_orders_6 : decode cX8_orders 6 = .ok (.invokevirtual 180, 3) := by decide +kernel
theorem dX8_orders_9 : decode cX8_orders 9 = .ok (.iconst 0, 1) := by decide +kernel
theorem dX8_orders_10 : decode cX8_orders 10 = .ok (.istore_n 1, 1) := by decide +kernel
theorem dX8_orders_11 : decode cX8_orders 11 = .ok (.iconst 1, 1) := by decide +kernel
theorem dX8_orders_12 : decode cX8_orders 12 = .ok (.istore_n 2, 1) := by decide +kernel
theorem dX8_orders_13 : decode cX8_orders 13 = .ok (.iload_n 2, 1) := by decide +kernel
theorem dX8_orders_14 : decode cX8_orders 14 = .ok (.ifCond .eq 27, 3) := by decide +kernel
theorem dX8_orders_17 : decode cX8_orders 17 = .ok (.iload_n 1, 1) := by decide +kernel
theorem dX8_orders_18 : decode cX8_orders 18 = .ok (.aload_n 0, 1) := by decide +kernel
theorem dX8_orders_19 : decode cX8_orders 19 = .ok (.invokevirtual 183, 3) := by decide +kernel
theorem dX8_orders_22 : decode cX8_orders 22 = .ok (.iconst (-1), 1) := by decide +kernel
theorem dX8_orders_23 : decode cX8_orders 23 = .ok (.if_icmp .ne 7, 3) := by decide +kernel
theorem dX8_orders_26 : decode cX8_orders 26 = .ok (.iconst 1, 1) := by decide +kernel
theorem dX8_orders_27 : decode cX8_orders 27 = .ok (.goto 4, 3) := by decide +kernel
theorem dX8_orders_30 : decode cX8_orders 30 = .ok (.iconst 0, 1) := by decide +kernel
theorem dX8_orders_31 : decode cX8_orders 31 = .ok (.iadd, 1) := by decide +kernel
theorem dX8_orders_32 : decode cX8_orders 32 = .ok (.istore_n 1, 1) := by decide +kernel
theorem dX8_orders_33 : decode cX8_orders 33 = .ok (.aload_n 0, 1) := by decide +kernel
theorem dX8_orders_34 : decode cX8_orders 34 = .ok (.invokevirtual 187, 3) := by decide +kernel
theorem dX8_orders_37 : decode cX8_orders 37 = .ok (.istore_n 2, 1) := by decide +kernel
theorem dX8_orders_38 : decode cX8_orders 38 = .ok (.goto (-25), 3) := by decide +kernel
theorem dX8_orders_41 : decode cX8_orders 41 = .ok (.iload_n 1, 1) := by decide +kernel
theorem dX8_orders_42 : decode cX8_orders 42 = .ok (.ireturn, 1) := by decide +kernel
set_option maxRecDepth 20000 in
theorem ggX8_pick_X8_firstOrder : GoodIn wsX8_pick wsX8_firstOrder := goodIn_r _ [6, 7, 8, 44, 45, 46, 47, 48, 49, 50, 51, 52, 53, 54, 55, 56, 57, 58, 59, 60, 61, 62, 63, 64, 65, 66, 67, 68, 69, 70, 71, 72, 73, 74, 75, 76, 77, 78, 79] (by decide +kernel) (by decide +kernel)
set_option maxRecDepth 20000 in
theorem gX8_pick_X8_firstOrder : GoodIn wsX8_pick (wsV RX8 180 RX8 yX8_firstOrder wsX8_firstOrder) := goodIn_app (goodIn_of _ (by decide +kernel)) ggX8_pick_X8_firstOrder
set_option maxRecDepth 20000 in
theorem ggX8_pick_X8_broken : GoodIn wsX8_pick wsX8_broken := goodIn_r _ [12, 13, 14, 7, 15, 16, 8, 17, 18, 19, 5, 20, 21, 22, 23, 24, 25, 26, 27, 28, 29, 30, 31, 32, 33, 44, 45, 46, 47, 48, 49, 50, 51, 52, 53, 54, 55, 56, 57, 58, 59, 60, 61, 62, 63, 64, 65, 66, 67, 68, 69, 70, 71, 72, 73, 74, 75, 76, 77, 78, 79] (by decide +kernel) (by decide +kernel)
set_option maxRecDepth 20000 in
theorem gX8_pick_X8_broken : GoodIn wsX8_pick (wsV RX8 183 RX8 yX8_broken wsX8_broken) := goodIn_app (goodIn_of _ (by decide +kernel)) ggX8_pick_X8_broken
set_option maxRecDepth 20000 in
theorem ggX8_pick_X8_becomes : GoodIn wsX8_pick wsX8_becomes := goodIn_r _ [37, 7, 38, 8, 39, 44, 45, 46, 47, 48, 49, 50, 51, 52, 53, 54, 55, 56, 57, 58, 59, 60, 61, 62, 63, 64, 65, 66, 67, 68, 69, 70, 71, 72, 73, 74, 75, 76, 77, 78, 79] (by decide +kernel) (by decide +kernel)
set_option maxRecDepth 20000 in
theorem gX8_pick_X8_becomes : GoodIn wsX8_pick (wsV RX8 190 RX8 yX8_becomes wsX8_becomes) := goodIn_app (goodIn_of _ (by decide +kernel)) ggX8_pick_X8_becomes
set_option maxRecDepth 20000 in
theorem ggX8_pick_X8_nextOrder : GoodIn wsX8_pick wsX8_nextOrder := goodIn_r _ [43, 7, 8, 44, 45, 46, 47, 48, 49, 50, 51, 52, 53, 54, 55, 56, 57, 58, 59, 60, 61, 62, 63, 64, 65, 66, 67, 68, 69, 70, 71, 72, 73, 74, 75, 76, 77, 78, 79] (by decide +kernel) (by decide +kernel)
set_option maxRecDepth 20000 in
theorem gX8_pick_X8_nextOrder : GoodIn wsX8_pick (wsV RX8 187 RX8 yX8_nextOrder wsX8_nextOrder) := goodIn_app (goodIn_of _ (by decide +kernel)) ggX8_pick_X8_nextOrder
theorem dX8_pick_0 : decode cX8_pick 0 = .ok (.aload_n 0, 1) := by decide +kernel
theorem dX8_pick_1 : decode cX8_pick 1 = .ok (.iconst 0, 1) := by decide +kernel
theorem dX8_pick_2 : decode cX8_pick 2 = .ok (.putfield 69, 3) := by decide +kernel
theorem dX8_pick_5 : decode cX8_pick 5 = .ok (.aload_n 0, 1) := by decide +kernel
theorem dX8_pick_6 : decode cX8_pick 6 = .ok (.invokevirtual 180, 3) := by decide +kernel
theorem dX8_pick_9 : decode cX8_pick 9 = .ok (.iconst 0, 1) := by decide +kernel
theorem dX8_pick_10 : decode cX8_pick 10 = .ok (.istore_n 2, 1) := by decide +kernel
theorem dX8_pick_11 : decode cX8_pick 11 = .ok (.iload_n 1, 1) := by decide +kernel
theorem dX8_pick_12 : decode cX8_pick 12 = .ok (.ifCond .lt 7, 3) := by decide +kernel
theorem dX8_pick_15 : decode cX8_pick 15 = .ok (.iconst 1, 1) := by decide +kernel
theorem dX8_pick_16 : decode cX8_pick 16 = .ok (.goto 4, 3) := by decide +kernel
theorem dX8_pick_19 : decode cX8_pick 19 = .ok (.iconst 0, 1) := by decide +kernel
theorem dX8_pick_20 : decode cX8_pick 20 = .ok (.istore_n 3, 1) := by decide +kernel
theorem dX8_pick_21 : decode cX8_pick 21 = .ok (.iload_n 3, 1) := by decide +kernel
theorem dX8_pick_22 : decode cX8_pick 22 = .ok (.ifCond .eq 33, 3) := by decide +kernel
theorem dX8_pick_25 : decode cX8_pick 25 = .ok (.aload_n 0, 1) := by decide +kernel
theorem dX8_pick_26 : decode cX8_pick 26 = .ok (.invokevirtual 183, 3) := by decide +kernel
theorem dX8_pick_29 : decode cX8_pick 29 = .ok (.iconst (-1), 1) := by decide +kernel
theorem dX8_pick_30 : decode cX8_pick 30 = .ok (.if_icmp .ne 17, 3) := by decide +kernel
theorem dX8_pick_33 : decode cX8_pick 33 = .ok (.iload_n 2, 1) := by decide +kernel
theorem dX8_pick_34 : decode cX8_pick 34 = .ok (.iload_n 1, 1) := by decide +kernel
theorem dX8_pick_35 : decode cX8_pick 35 = .ok (.if_icmp .ne 9, 3) := by decide +kernel
theorem dX8_pick_38 : decode cX8_pick 38 = .ok (.aload_n 0, 1) := by decide +kernel
theorem dX8_pick_39 : decode cX8_pick 39 = .ok (.invokevirtual 190, 3) := by decide +kernel
theorem dX8_pick_42 : decode cX8_pick 42 = .ok (.iconst 1, 1) := by decide +kernel
theorem dX8_pick_43 : decode cX8_pick 43 = .ok (.ireturn, 1) := by decide +kernel
theorem dX8_pick_44 : decode cX8_pick 44 = .ok (.iinc 2 1, 3) := by decide +kernel
theorem dX8_pick_47 : decode cX8_pick 47 = .ok (.aload_n 0, 1) := by decide +kernel
theorem dX8_pick_48 : decode cX8_pick 48 = .ok (.invokevirtual 187, 3) := by decide +kernel
theorem dX8_pick_51 : decode cX8_pick 51 = .ok (.istore_n 3, 1) := by decide +kernel
theorem dX8_pick_52 : decode cX8_pick 52 = .ok (.goto (-31), 3) := by decide +kernel
theorem dX8_pick_55 : decode cX8_pick 55 = .ok (.iconst 0, 1) := by decide +kernel
theorem dX8_pick_56 : decode cX8_pick 56 = .ok (.ireturn, 1) := by decide +kernel
theorem dX8_becomes_0 : decode cX8_becomes 0 = .ok (.iconst 0, 1) := by decide +kernel
theorem dX8_becomes_1 : decode cX8_becomes 1 = .ok (.istore_n 1, 1) := by decide +kernel
theorem dX8_becomes_2 : decode cX8_becomes 2 = .ok (.iload_n 1, 1) := by decide +kernel
theorem dX8_becomes_3 : decode cX8_becomes 3 = .ok (.aload_n 0, 1) := by decide +kernel
theorem dX8_becomes_4 : decode cX8_becomes 4 = .ok (.getfield 72, 3) := by decide +kernel
theorem dX8_becomes_7 : decode cX8_becomes 7 = .ok (.if_icmp .ge 21, 3) := by decide +kernel
theorem dX8_becomes_10 : decode cX8_becomes 10 = .ok (.aload_n 0, 1) := by decide +kernel
theorem dX8_becomes_11 : decode cX8_becomes 11 = .ok (.getfield 13, 3) := by decide +kernel
theorem dX8_becomes_14 : decode cX8_becomes 14 = .ok (.iload_n 1, 1) := by decide +kernel
theorem dX8_becomes_15 : decode cX8_becomes 15 = .ok (.aload_n 0, 1) := by decide +kernel
theorem dX8_becomes_16 : decode cX8_becomes 16 = .ok (.getfield 29, 3) := by decide +kernel
theorem dX8_becomes_19 : decode cX8_becomes 19 = .ok (.iload_n 1, 1) := by decide +kernel
theorem dX8_becomes_20 : decode cX8_becomes 20 = .ok (.iaload, 1) := by decide +kernel
theorem dX8_becomes_21 : decode cX8_becomes 21 = .ok (.iastore, 1) := by decide +kernel
theorem dX8_becomes_22 : decode cX8_becomes 22 = .ok (.iinc 1 1, 3) := by decide +kernel
theorem dX8_becomes_25 : decode cX8_becomes 25 = .ok (.goto (-23), 3) := by decide +kernel
theorem dX8_becomes_28 : decode cX8_becomes 28 = .ok (.aload_n 0, 1) := by decide +kernel
theorem dX8_becomes_29 : decode cX8_becomes 29 = .ok (.iconst 0, 1) := by decide +kernel
theorem dX8_becomes_30 : decode cX8_becomes 30 = .ok (.putfield 79, 3) := by decide +kernel
theorem dX8_becomes_33 : decode cX8_becomes 33 = .ok (.return_, 1) := by decide +kernel
theorem dX8_isRow_0 : decode cX8_isRow 0 = .ok (.iconst 1, 1) := by decide +kernel
theorem dX8_isRow_1 : decode cX8_isRow 1 = .ok (.istore_n 1, 1) := by decide +kernel
theorem dX8_isRow_2 : decode cX8_isRow 2 = .ok (.iconst 0, 1) := by decide +kernel
theorem dX8_isRow_3 : decode cX8_isRow 3 = .ok (.istore_n 2, 1) := by decide +kernel
theorem dX8_isRow_4 : decode cX8_isRow 4 = .ok (.iload_n 2, 1) := by decide +kernel
theorem dX8_isRow_5 : decode cX8_isRow 5 = .ok (.aload_n 0, 1) := by decide +kernel
theorem dX8_isRow_6 : decode cX8_isRow 6 = .ok (.getfield 72, 3) := by decide +kernel
theorem dX8_isRow_9 : decode cX8_isRow 9 = .ok (.if_icmp .ge 34, 3) := by decide +kernel
theorem dX8_isRow_12 : decode cX8_isRow 12 = .ok (.iload_n 1, 1) := by decide +kernel
theorem dX8_isRow_13 : decode cX8_isRow 13 = .ok (.ifCond .eq 22, 3) := by decide +kernel
theorem dX8_isRow_16 : decode cX8_isRow 16 = .ok (.aload_n 0, 1) := by decide +kernel
theorem dX8_isRow_17 : decode cX8_isRow 17 = .ok (.getfield 29, 3) := by decide +kernel
theorem dX8_isRow_20 : decode cX8_isRow 20 = .ok (.iload_n 2, 1) := by decide +kernel
theorem dX8_isRow_21 : decode cX8_isRow 21 = .ok (.iaload, 1) := by decide +kernel
theorem dX8_isRow_22 : decode cX8_isRow 22 = .ok (.aload_n 0, 1) := by decide +kernel
theorem dX8_isRow_23 : decode cX8_isRow 23 = .ok (.getfield 13, 3) := by decide +kernel
theorem dX8_isRow_26 : decode cX8_isRow 26 = .ok (.iload_n 2, 1) := by decide +kernel
theorem dX8_isRow_27 : decode cX8_isRow 27 = .ok (.iaload, 1) := by decide +kernel
theorem dX8_isRow_28 : decode cX8_isRow 28 = .ok (.if_icmp .ne 7, 3) := by decide +kernel
theorem dX8_isRow_31 : decode cX8_isRow 31 = .ok (.iconst 1, 1) := by decide +kernel
theorem dX8_isRow_32 : decode cX8_isRow 32 = .ok (.goto 4, 3) := by decide +kernel
theorem dX8_isRow_35 : decode cX8_isRow 35 = .ok (.iconst 0, 1) := by decide +kernel
theorem dX8_isRow_36 : decode cX8_isRow 36 = .ok (.istore_n 1, 1) := by decide +kernel
theorem dX8_isRow_37 : decode cX8_isRow 37 = .ok (.iinc 2 1, 3) := by decide +kernel
theorem dX8_isRow_40 : decode cX8_isRow 40 = .ok (.goto (-36), 3) := by decide +kernel
theorem dX8_isRow_43 : decode cX8_isRow 43 = .ok (.iload_n 1, 1) := by decide +kernel
theorem dX8_isRow_44 : decode cX8_isRow 44 = .ok (.ireturn, 1) := by decide +kernel
set_option maxRecDepth 20000 in
theorem ggX8_rank_X8_firstOrder : GoodIn wsX8_rank wsX8_firstOrder := goodIn_r _ [6, 7, 8, 43, 44, 45, 46, 47, 48, 49, 50, 51, 52, 53, 54, 55, 56, 57, 58, 59, 60, 61, 62, 63, 64, 65, 66, 67, 68, 69, 70, 71, 72, 73, 74, 75, 76, 77, 78] (by decide +kernel) (by decide +kernel)
set_option maxRecDepth 20000 in
theorem gX8_rank_X8_firstOrder : GoodIn wsX8_rank (wsV RX8 180 RX8 yX8_firstOrder wsX8_firstOrder) := goodIn_app (goodIn_of _ (by decide +kernel)) ggX8_rank_X8_firstOrder
set_option maxRecDepth 20000 in
theorem ggX8_rank_X8_broken : GoodIn wsX8_rank wsX8_broken := goodIn_r _ [12, 13, 14, 7, 15, 16, 8, 17, 18, 19, 5, 20, 21, 22, 23, 24, 25, 26, 27, 28, 29, 30, 31, 32, 33, 43, 44, 45, 46, 47, 48, 49, 50, 51, 52, 53, 54, 55, 56, 57, 58, 59, 60, 61, 62, 63, 64, 65, 66, 67, 68, 69, 70, 71, 72, 73, 74, 75, 76, 77, 78] (by decide +kernel) (by decide +kernel)
set_option maxRecDepth 20000 in
theorem gX8_rank_X8_broken : GoodIn wsX8_rank (wsV RX8 183 RX8 yX8_broken wsX8_broken) := goodIn_app (goodIn_of _ (by decide +kernel)) ggX8_rank_X8_broken
set_option maxRecDepth 20000 in
theorem ggX8_rank_X8_isRow : GoodIn wsX8_rank wsX8_isRow := goodIn_r _ [37, 7, 8, 38, 43, 44, 45, 46, 47, 48, 49, 50, 51, 52, 53, 54, 55, 56, 57, 58, 59, 60, 61, 62, 63, 64, 65, 66, 67, 68, 69, 70, 71, 72, 73, 74, 75, 76, 77, 78] (by decide +kernel) (by decide +kernel)
set_option maxRecDepth 20000 in
theorem gX8_rank_X8_isRow : GoodIn wsX8_rank (wsV RX8 193 RX8 yX8_isRow wsX8_isRow) := goodIn_app (goodIn_of _ (by decide +kernel)) ggX8_rank_X8_isRow
set_option maxRecDepth 20000 in
theorem ggX8_rank_X8_nextOrder : GoodIn wsX8_rank wsX8_nextOrder := goodIn_r _ [42, 7, 8, 43, 44, 45, 46, 47, 48, 49, 50, 51, 52, 53, 54, 55, 56, 57, 58, 59, 60, 61, 62, 63, 64, 65, 66, 67, 68, 69, 70, 71, 72, 73, 74, 75, 76, 77, 78] (by decide +kernel) (by decide +kernel)
set_option maxRecDepth 20000 in
theorem gX8_rank_X8_nextOrder : GoodIn wsX8_rank (wsV RX8 187 RX8 yX8_nextOrder wsX8_nextOrder) := goodIn_app (goodIn_of _ (by decide +kernel)) ggX8_rank_X8_nextOrder
theorem dX8_rank_0 : decode cX8_rank 0 = .ok (.aload_n 0, 1) := by decide +kernel
theorem dX8_rank_1 : decode cX8_rank 1 = .ok (.iconst 0, 1) := by decide +kernel
theorem dX8_rank_2 : decode cX8_rank 2 = .ok (.putfield 69, 3) := by decide +kernel
theorem dX8_rank_5 : decode cX8_rank 5 = .ok (.aload_n 0, 1) := by decide +kernel
theorem dX8_rank_6 : decode cX8_rank 6 = .ok (.invokevirtual 180, 3) := by decide +kernel
theorem dX8_rank_9 : decode cX8_rank 9 = .ok (.iconst 0, 1) := by decide +kernel
theorem dX8_rank_10 : decode cX8_rank 10 = .ok (.istore_n 1, 1) := by decide +kernel
theorem dX8_rank_11 : decode cX8_rank 11 = .ok (.iconst 1, 1) := by decide +kernel
theorem dX8_rank_12 : decode cX8_rank 12 = .ok (.istore_n 2, 1) := by decide +kernel
theorem dX8_rank_13 : decode cX8_rank 13 = .ok (.iload_n 2, 1) := by decide +kernel
theorem dX8_rank_14 : decode cX8_rank 14 = .ok (.ifCond .eq 54, 3) := by decide +kernel
theorem dX8_rank_17 : decode cX8_rank 17 = .ok (.aload_n 0, 1) := by decide +kernel
theorem dX8_rank_18 : decode cX8_rank 18 = .ok (.invokevirtual 183, 3) := by decide +kernel
theorem dX8_rank_21 : decode cX8_rank 21 = .ok (.iconst (-1), 1) := by decide +kernel
theorem dX8_rank_22 : decode cX8_rank 22 = .ok (.if_icmp .ne 7, 3) := by decide +kernel
theorem dX8_rank_25 : decode cX8_rank 25 = .ok (.iconst 1, 1) := by decide +kernel
theorem dX8_rank_26 : decode cX8_rank 26 = .ok (.goto 4, 3) := by decide +kernel
theorem dX8_rank_29 : decode cX8_rank 29 = .ok (.iconst 0, 1) := by decide +kernel
theorem dX8_rank_30 : decode cX8_rank 30 = .ok (.istore_n 3, 1) := by decide +kernel
theorem dX8_rank_31 : decode cX8_rank 31 = .ok (.aload_n 0, 1) := by decide +kernel
theorem dX8_rank_32 : decode cX8_rank 32 = .ok (.invokevirtual 193, 3) := by decide +kernel
theorem dX8_rank_35 : decode cX8_rank 35 = .ok (.ifCond .eq 13, 3) := by decide +kernel
theorem dX8_rank_38 : decode cX8_rank 38 = .ok (.iload_n 3, 1) := by decide +kernel
theorem dX8_rank_39 : decode cX8_rank 39 = .ok (.ifCond .eq 7, 3) := by decide +kernel
theorem dX8_rank_42 : decode cX8_rank 42 = .ok (.iload_n 1, 1) := by decide +kernel
theorem dX8_rank_43 : decode cX8_rank 43 = .ok (.goto 4, 3) := by decide +kernel
theorem dX8_rank_46 : decode cX8_rank 46 = .ok (.iconst (-1), 1) := by decide +kernel
theorem dX8_rank_47 : decode cX8_rank 47 = .ok (.ireturn, 1) := by decide +kernel
theorem dX8_rank_48 : decode cX8_rank 48 = .ok (.iload_n 1, 1) := by decide +kernel
theorem dX8_rank_49 : decode cX8_rank 49 = .ok (.iload_n 3, 1) := by decide +kernel
theorem dX8_rank_50 : decode cX8_rank 50 = .ok (.ifCond .eq 7, 3) := by decide +kernel
theorem dX8_rank_53 : decode cX8_rank 53 = .ok (.iconst 1, 1) := by decide +kernel
theorem dX8_rank_54 : decode cX8_rank 54 = .ok (.goto 4, 3) := by decide +kernel
theorem dX8_rank_57 : decode cX8_rank 57 = .ok (.iconst 0, 1) := by decide +kernel
theorem dX8_rank_58 : decode cX8_rank 58 = .ok (.iadd, 1) := by decide +kernel
theorem dX8_rank_59 : decode cX8_rank 59 = .ok (.istore_n 1, 1) := by decide +kernel
theorem dX8_rank_60 : decode cX8_rank 60 = .ok (.aload_n 0, 1) := by decide +kernel
theorem dX8_rank_61 : decode cX8_rank 61 = .ok (.invokevirtual 187, 3) := by decide +kernel
theorem dX8_rank_64 : decode cX8_rank 64 = .ok (.istore_n 2, 1) := by decide +kernel
theorem dX8_rank_65 : decode cX8_rank 65 = .ok (.goto (-52), 3) := by decide +kernel
theorem dX8_rank_68 : decode cX8_rank 68 = .ok (.iconst (-1), 1) := by decide +kernel
theorem dX8_rank_69 : decode cX8_rank 69 = .ok (.ireturn, 1) := by decide +kernel
set_option maxRecDepth 20000 in
theorem ggX8_noiseOf_X8_get : GoodIn wsX8_noiseOf wsX8_get := goodIn_r _ [7, 8, 9, 10, 11, 12, 13, 14, 15, 16, 17, 18, 19, 20, 21, 22, 23, 24, 25, 26, 27, 28, 29, 30, 31, 32, 33, 34, 35, 36, 37, 38, 39, 40, 41, 42, 43, 44] (by decide +kernel) (by decide +kernel)
set_option maxRecDepth 20000 in
theorem gX8_noiseOf_X8_get : GoodIn wsX8_noiseOf (wsV RX8 91 RX8 yX8_get wsX8_get) := goodIn_app (goodIn_of _ (by decide +kernel)) ggX8_noiseOf_X8_get
theorem dX8_noiseOf_0 : decode cX8_noiseOf 0 = .ok (.iconst 0, 1) := by decide +kernel
theorem dX8_noiseOf_1 : decode cX8_noiseOf 1 = .ok (.istore_n 1, 1) := by decide +kernel
theorem dX8_noiseOf_2 : decode cX8_noiseOf 2 = .ok (.iconst 0, 1) := by decide +kernel
theorem dX8_noiseOf_3 : decode cX8_noiseOf 3 = .ok (.istore_n 2, 1) := by decide +kernel
theorem dX8_noiseOf_4 : decode cX8_noiseOf 4 = .ok (.iload_n 2, 1) := by decide +kernel
theorem dX8_noiseOf_5 : decode cX8_noiseOf 5 = .ok (.iconst 1, 1) := by decide +kernel
theorem dX8_noiseOf_6 : decode cX8_noiseOf 6 = .ok (.iadd, 1) := by decide +kernel
theorem dX8_noiseOf_7 : decode cX8_noiseOf 7 = .ok (.aload_n 0, 1) := by decide +kernel
theorem dX8_noiseOf_8 : decode cX8_noiseOf 8 = .ok (.getfield 72, 3) := by decide +kernel
theorem dX8_noiseOf_11 : decode cX8_noiseOf 11 = .ok (.if_icmp .ge 37, 3) := by decide +kernel
theorem dX8_noiseOf_14 : decode cX8_noiseOf 14 = .ok (.iload_n 1, 1) := by decide +kernel
theorem dX8_noiseOf_15 : decode cX8_noiseOf 15 = .ok (.aload_n 0, 1) := by decide +kernel
theorem dX8_noiseOf_16 : decode cX8_noiseOf 16 = .ok (.aload_n 0, 1) := by decide +kernel
theorem dX8_noiseOf_17 : decode cX8_noiseOf 17 = .ok (.getfield 29, 3) := by decide +kernel
theorem dX8_noiseOf_20 : decode cX8_noiseOf 20 = .ok (.iload_n 2, 1) := by decide +kernel
theorem dX8_noiseOf_21 : decode cX8_noiseOf 21 = .ok (.iaload, 1) := by decide +kernel
theorem dX8_noiseOf_22 : decode cX8_noiseOf 22 = .ok (.iconst 2, 1) := by decide +kernel
theorem dX8_noiseOf_23 : decode cX8_noiseOf 23 = .ok (.invokevirtual 91, 3) := by decide +kernel
theorem dX8_noiseOf_26 : decode cX8_noiseOf 26 = .ok (.aload_n 0, 1) := by decide +kernel
theorem dX8_noiseOf_27 : decode cX8_noiseOf 27 = .ok (.aload_n 0, 1) := by decide +kernel
theorem dX8_noiseOf_28 : decode cX8_noiseOf 28 = .ok (.getfield 29, 3) := by decide +kernel
theorem dX8_noiseOf_31 : decode cX8_noiseOf 31 = .ok (.iload_n 2, 1) := by decide +kernel
theorem dX8_noiseOf_32 : decode cX8_noiseOf 32 = .ok (.iconst 1, 1) := by decide +kernel
theorem dX8_noiseOf_33 : decode cX8_noiseOf 33 = .ok (.iadd, 1) := by decide +kernel
theorem dX8_noiseOf_34 : decode cX8_noiseOf 34 = .ok (.iaload, 1) := by decide +kernel
theorem dX8_noiseOf_35 : decode cX8_noiseOf 35 = .ok (.iconst 2, 1) := by decide +kernel
theorem dX8_noiseOf_36 : decode cX8_noiseOf 36 = .ok (.invokevirtual 91, 3) := by decide +kernel
theorem dX8_noiseOf_39 : decode cX8_noiseOf 39 = .ok (.imul, 1) := by decide +kernel
theorem dX8_noiseOf_40 : decode cX8_noiseOf 40 = .ok (.iadd, 1) := by decide +kernel
theorem dX8_noiseOf_41 : decode cX8_noiseOf 41 = .ok (.istore_n 1, 1) := by decide +kernel
theorem dX8_noiseOf_42 : decode cX8_noiseOf 42 = .ok (.iinc 2 1, 3) := by decide +kernel
theorem dX8_noiseOf_45 : decode cX8_noiseOf 45 = .ok (.goto (-41), 3) := by decide +kernel
theorem dX8_noiseOf_48 : decode cX8_noiseOf 48 = .ok (.iload_n 1, 1) := by decide +kernel
theorem dX8_noiseOf_49 : decode cX8_noiseOf 49 = .ok (.ireturn, 1) := by decide +kernel
set_option maxRecDepth 20000 in
theorem ggX8_best_X8_firstOrder : GoodIn wsX8_best wsX8_firstOrder := goodIn_r _ [9, 2, 4, 49, 50, 51, 52, 53, 54, 55, 56, 57, 58, 59, 60, 61, 62, 63, 64, 65, 66, 67, 68, 69, 70, 71, 72, 73, 74, 75, 76, 77, 78, 79, 80, 81, 82, 83, 84] (by decide +kernel) (by decide +kernel)
set_option maxRecDepth 20000 in
theorem gX8_best_X8_firstOrder : GoodIn wsX8_best (wsV RX8 180 RX8 yX8_firstOrder wsX8_firstOrder) := goodIn_app (goodIn_of _ (by decide +kernel)) ggX8_best_X8_firstOrder
set_option maxRecDepth 20000 in
theorem ggX8_best_X8_noiseOf : GoodIn wsX8_best wsX8_noiseOf := goodIn_r _ [13, 2, 4, 14, 15, 16, 8, 17, 18, 49, 50, 51, 52, 53, 54, 55, 56, 57, 58, 59, 60, 61, 62, 63, 64, 65, 66, 67, 68, 69, 70, 71, 72, 73, 74, 75, 76, 77, 78, 79, 80, 81, 82, 83, 84] (by decide +kernel) (by decide +kernel)
set_option maxRecDepth 20000 in
theorem gX8_best_X8_noiseOf : GoodIn wsX8_best (wsV RX8 196 RX8 yX8_noiseOf wsX8_noiseOf) := goodIn_app (goodIn_of _ (by decide +kernel)) ggX8_best_X8_noiseOf
set_option maxRecDepth 20000 in
theorem ggX8_best_X8_broken : GoodIn wsX8_best wsX8_broken := goodIn_r _ [22, 23, 24, 2, 25, 26, 4, 27, 28, 29, 8, 30, 14, 15, 16, 17, 18, 31, 32, 33, 34, 35, 36, 37, 38, 49, 50, 51, 52, 53, 54, 55, 56, 57, 58, 59, 60, 61, 62, 63, 64, 65, 66, 67, 68, 69, 70, 71, 72, 73, 74, 75, 76, 77, 78, 79, 80, 81, 82, 83, 84] (by decide +kernel) (by decide +kernel)
set_option maxRecDepth 20000 in
theorem gX8_best_X8_broken : GoodIn wsX8_best (wsV RX8 183 RX8 yX8_broken wsX8_broken) := goodIn_app (goodIn_of _ (by decide +kernel)) ggX8_best_X8_broken
set_option maxRecDepth 20000 in
theorem ggX8_best_X8_nextOrder : GoodIn wsX8_best wsX8_nextOrder := goodIn_r _ [42, 2, 4, 49, 50, 51, 52, 53, 54, 55, 56, 57, 58, 59, 60, 61, 62, 63, 64, 65, 66, 67, 68, 69, 70, 71, 72, 73, 74, 75, 76, 77, 78, 79, 80, 81, 82, 83, 84] (by decide +kernel) (by decide +kernel)
set_option maxRecDepth 20000 in
theorem gX8_best_X8_nextOrder : GoodIn wsX8_best (wsV RX8 187 RX8 yX8_nextOrder wsX8_nextOrder) := goodIn_app (goodIn_of _ (by decide +kernel)) ggX8_best_X8_nextOrder
set_option maxRecDepth 20000 in
theorem ggX8_best_X8_becomes : GoodIn wsX8_best wsX8_becomes := goodIn_r _ [46, 2, 47, 4, 48, 49, 50, 51, 52, 53, 54, 55, 56, 57, 58, 59, 60, 61, 62, 63, 64, 65, 66, 67, 68, 69, 70, 71, 72, 73, 74, 75, 76, 77, 78, 79, 80, 81, 82, 83, 84] (by decide +kernel) (by decide +kernel)
set_option maxRecDepth 20000 in
theorem gX8_best_X8_becomes : GoodIn wsX8_best (wsV RX8 190 RX8 yX8_becomes wsX8_becomes) := goodIn_app (goodIn_of _ (by decide +kernel)) ggX8_best_X8_becomes
theorem dX8_best_0 : decode cX8_best 0 = .ok (.aload_n 0, 1) := by decide +kernel
theorem dX8_best_1 : decode cX8_best 1 = .ok (.iconst 0, 1) := by decide +kernel
theorem dX8_best_2 : decode cX8_best 2 = .ok (.putfield 69, 3) := by decide +kernel
theorem dX8_best_5 : decode cX8_best 5 = .ok (.aload_n 0, 1) := by decide +kernel
theorem dX8_best_6 : decode cX8_best 6 = .ok (.invokevirtual 180, 3) := by decide +kernel
theorem dX8_best_9 : decode cX8_best 9 = .ok (.iconst (-1), 1) := by decide +kernel
theorem dX8_best_10 : decode cX8_best 10 = .ok (.istore_n 1, 1) := by decide +kernel
theorem dX8_best_11 : decode cX8_best 11 = .ok (.iconst 1, 1) := by decide +kernel
theorem dX8_best_12 : decode cX8_best 12 = .ok (.istore_n 2, 1) := by decide +kernel
theorem dX8_best_13 : decode cX8_best 13 = .ok (.iload_n 2, 1) := by decide +kernel
theorem dX8_best_14 : decode cX8_best 14 = .ok (.ifCond .eq 68, 3) := by decide +kernel
theorem dX8_best_17 : decode cX8_best 17 = .ok (.aload_n 0, 1) := by decide +kernel
theorem dX8_best_18 : decode cX8_best 18 = .ok (.invokevirtual 196, 3) := by decide +kernel
theorem dX8_best_21 : decode cX8_best 21 = .ok (.istore_n 3, 1) := by decide +kernel
theorem dX8_best_22 : decode cX8_best 22 = .ok (.iload_n 1, 1) := by decide +kernel
theorem dX8_best_23 : decode cX8_best 23 = .ok (.iconst (-1), 1) := by decide +kernel
theorem dX8_best_24 : decode cX8_best 24 = .ok (.if_icmp .eq 8, 3) := by decide +kernel
theorem dX8_best_27 : decode cX8_best 27 = .ok (.iload_n 3, 1) := by decide +kernel
theorem dX8_best_28 : decode cX8_best 28 = .ok (.iload_n 1, 1) := by decide +kernel
theorem dX8_best_29 : decode cX8_best 29 = .ok (.if_icmp .ge 45, 3) := by decide +kernel
theorem dX8_best_32 : decode cX8_best 32 = .ok (.aload_n 0, 1) := by decide +kernel
theorem dX8_best_33 : decode cX8_best 33 = .ok (.invokevirtual 183, 3) := by decide +kernel
theorem dX8_best_36 : decode cX8_best 36 = .ok (.iconst (-1), 1) := by decide +kernel
theorem dX8_best_37 : decode cX8_best 37 = .ok (.if_icmp .ne 37, 3) := by decide +kernel
theorem dX8_best_40 : decode cX8_best 40 = .ok (.iload_n 3, 1) := by decide +kernel
theorem dX8_best_41 : decode cX8_best 41 = .ok (.istore_n 1, 1) := by decide +kernel
theorem dX8_best_42 : decode cX8_best 42 = .ok (.iconst 0, 1) := by decide +kernel
theorem dX8_best_43 : decode cX8_best 43 = .ok (.istore 4, 2) := by decide +kernel
theorem dX8_best_45 : decode cX8_best 45 = .ok (.iload 4, 2) := by decide +kernel
theorem dX8_best_47 : decode cX8_best 47 = .ok (.aload_n 0, 1) := by decide +kernel
theorem dX8_best_48 : decode cX8_best 48 = .ok (.getfield 72, 3) := by decide +kernel
theorem dX8_best_51 : decode cX8_best 51 = .ok (.if_icmp .ge 23, 3) := by decide +kernel
theorem dX8_best_54 : decode cX8_best 54 = .ok (.aload_n 0, 1) := by decide +kernel
theorem dX8_best_55 : decode cX8_best 55 = .ok (.getfield 32, 3) := by decide +kernel
theorem dX8_best_58 : decode cX8_best 58 = .ok (.iload 4, 2) := by decide +kernel
theorem dX8_best_60 : decode cX8_best 60 = .ok (.aload_n 0, 1) := by decide +kernel
theorem dX8_best_61 : decode cX8_best 61 = .ok (.getfield 29, 3) := by decide +kernel
theorem dX8_best_64 : decode cX8_best 64 = .ok (.iload 4, 2) := by decide +kernel
theorem dX8_best_66 : decode cX8_best 66 = .ok (.iaload, 1) := by decide +kernel
theorem dX8_best_67 : decode cX8_best 67 = .ok (.iastore, 1) := by decide +kernel
theorem dX8_best_68 : decode cX8_best 68 = .ok (.iinc 4 1, 3) := by decide +kernel
theorem dX8_best_71 : decode cX8_best 71 = .ok (.goto (-26), 3) := by decide +kernel
theorem dX8_best_74 : decode cX8_best 74 = .ok (.aload_n 0, 1) := by decide +kernel
theorem dX8_best_75 : decode cX8_best 75 = .ok (.invokevirtual 187, 3) := by decide +kernel
theorem dX8_best_78 : decode cX8_best 78 = .ok (.istore_n 2, 1) := by decide +kernel
theorem dX8_best_79 : decode cX8_best 79 = .ok (.goto (-66), 3) := by decide +kernel
theorem dX8_best_82 : decode cX8_best 82 = .ok (.iload_n 1, 1) := by decide +kernel
theorem dX8_best_83 : decode cX8_best 83 = .ok (.iconst (-1), 1) := by decide +kernel
theorem dX8_best_84 : decode cX8_best 84 = .ok (.if_icmp .ne 5, 3) := by decide +kernel
theorem dX8_best_87 : decode cX8_best 87 = .ok (.iconst (-1), 1) := by decide +kernel
theorem dX8_best_88 : decode cX8_best 88 = .ok (.ireturn, 1) := by decide +kernel
theorem dX8_best_89 : decode cX8_best 89 = .ok (.iconst 0, 1) := by decide +kernel
theorem dX8_best_90 : decode cX8_best 90 = .ok (.istore_n 3, 1) := by decide +kernel
theorem dX8_best_91 : decode cX8_best 91 = .ok (.iload_n 3, 1) := by decide +kernel
theorem dX8_best_92 : decode cX8_best 92 = .ok (.aload_n 0, 1) := by decide +kernel
theorem dX8_best_93 : decode cX8_best 93 = .ok (.getfield 72, 3) := by decide +kernel
theorem dX8_best_96 : decode cX8_best 96 = .ok (.if_icmp .ge 21, 3) := by decide +kernel
theorem dX8_best_99 : decode cX8_best 99 = .ok (.aload_n 0, 1) := by decide +kernel
theorem dX8_best_100 : decode cX8_best 100 = .ok (.getfield 29, 3) := by decide +kernel
theorem dX8_best_103 : decode cX8_best 103 = .ok (.iload_n 3, 1) := by decide +kernel
theorem dX8_best_104 : decode cX8_best 104 = .ok (.aload_n 0, 1) := by decide +kernel
theorem dX8_best_105 : decode cX8_best 105 = .ok (.getfield 32, 3) := by decide +kernel
theorem dX8_best_108 : decode cX8_best 108 = .ok (.iload_n 3, 1) := by decide +kernel
theorem dX8_best_109 : decode cX8_best 109 = .ok (.iaload, 1) := by decide +kernel
theorem dX8_best_110 : decode cX8_best 110 = .ok (.iastore, 1) := by decide +kernel
theorem dX8_best_111 : decode cX8_best 111 = .ok (.iinc 3 1, 3) := by decide +kernel
theorem dX8_best_114 : decode cX8_best 114 = .ok (.goto (-23), 3) := by decide +kernel
theorem dX8_best_117 : decode cX8_best 117 = .ok (.aload_n 0, 1) := by decide +kernel
theorem dX8_best_118 : decode cX8_best 118 = .ok (.invokevirtual 190, 3) := by decide +kernel
theorem dX8_best_121 : decode cX8_best 121 = .ok (.iload_n 1, 1) := by decide +kernel
theorem dX8_best_122 : decode cX8_best 122 = .ok (.ireturn, 1) := by decide +kernel
set_option maxRecDepth 20000 in
theorem ggX8_noise_X8_takes : GoodIn wsX8_noise wsX8_takes := goodIn_r _ [6, 7, 8, 9, 19, 20, 21, 22, 23, 24, 25, 26, 27, 28, 29, 30, 31, 32, 33, 34, 35, 36, 37, 38, 39, 40, 41, 42, 43, 44, 45, 46, 47, 48, 49, 50, 51, 52, 53, 54] (by decide +kernel) (by decide +kernel)
set_option maxRecDepth 20000 in
theorem gX8_noise_X8_takes : GoodIn wsX8_noise (wsV RX8 199 RX8 yX8_takes wsX8_takes) := goodIn_app (goodIn_of _ (by decide +kernel)) ggX8_noise_X8_takes
set_option maxRecDepth 20000 in
theorem ggX8_noise_X8_noiseOf : GoodIn wsX8_noise wsX8_noiseOf := goodIn_r _ [13, 7, 8, 14, 15, 16, 5, 17, 18, 19, 20, 21, 22, 23, 24, 25, 26, 27, 28, 29, 30, 31, 32, 33, 34, 35, 36, 37, 38, 39, 40, 41, 42, 43, 44, 45, 46, 47, 48, 49, 50, 51, 52, 53, 54] (by decide +kernel) (by decide +kernel)
set_option maxRecDepth 20000 in
theorem gX8_noise_X8_noiseOf : GoodIn wsX8_noise (wsV RX8 196 RX8 yX8_noiseOf wsX8_noiseOf) := goodIn_app (goodIn_of _ (by decide +kernel)) ggX8_noise_X8_noiseOf
theorem dX8_noise_0 : decode cX8_noise 0 = .ok (.aload_n 0, 1) := by decide +kernel
theorem dX8_noise_1 : decode cX8_noise 1 = .ok (.iconst 0, 1) := by decide +kernel
theorem dX8_noise_2 : decode cX8_noise 2 = .ok (.putfield 69, 3) := by decide +kernel
theorem dX8_noise_5 : decode cX8_noise 5 = .ok (.aload_n 0, 1) := by decide +kernel
theorem dX8_noise_6 : decode cX8_noise 6 = .ok (.invokevirtual 199, 3) := by decide +kernel
theorem dX8_noise_9 : decode cX8_noise 9 = .ok (.aload_n 0, 1) := by decide +kernel
theorem dX8_noise_10 : decode cX8_noise 10 = .ok (.invokevirtual 196, 3) := by decide +kernel
theorem dX8_noise_13 : decode cX8_noise 13 = .ok (.ireturn, 1) := by decide +kernel
set_option maxRecDepth 20000 in
theorem ggX8_why_X8_takes : GoodIn wsX8_why wsX8_takes := goodIn_r _ [8, 9, 10, 11, 38, 39, 40, 41, 42, 43, 44, 45, 46, 47, 48, 49, 50, 51, 52, 53, 54, 55, 56, 57, 58, 59, 60, 61, 62, 63, 64, 65, 66, 67, 68, 69, 70, 71, 72, 73] (by decide +kernel) (by decide +kernel)
set_option maxRecDepth 20000 in
theorem gX8_why_X8_takes : GoodIn wsX8_why (wsV RX8 199 RX8 yX8_takes wsX8_takes) := goodIn_app (goodIn_of _ (by decide +kernel)) ggX8_why_X8_takes
set_option maxRecDepth 20000 in
theorem ggX8_why_X8_broken : GoodIn wsX8_why wsX8_broken := goodIn_r _ [15, 16, 17, 9, 2, 3, 10, 18, 19, 20, 7, 21, 22, 23, 24, 25, 26, 27, 28, 29, 30, 31, 32, 33, 34, 38, 39, 40, 41, 42, 43, 44, 45, 46, 47, 48, 49, 50, 51, 52, 53, 54, 55, 56, 57, 58, 59, 60, 61, 62, 63, 64, 65, 66, 67, 68, 69, 70, 71, 72, 73] (by decide +kernel) (by decide +kernel)
set_option maxRecDepth 20000 in
theorem gX8_why_X8_broken : GoodIn wsX8_why (wsV RX8 183 RX8 yX8_broken wsX8_broken) := goodIn_app (goodIn_of _ (by decide +kernel)) ggX8_why_X8_broken
set_option maxRecDepth 20000 in
theorem ggX8_why_X8_isIn : GoodIn wsX8_why wsX8_isIn := goodIn_r _ [37] (by decide +kernel) (by decide +kernel)
set_option maxRecDepth 20000 in
theorem gX8_why_X8_isIn : GoodIn wsX8_why (va_wsS RX8 75 yX8_isIn wsX8_isIn) := goodIn_app (goodIn_of _ (by decide +kernel)) ggX8_why_X8_isIn
theorem dX8_why_0 : decode cX8_why 0 = .ok (.aload_n 0, 1) := by decide +kernel
theorem dX8_why_1 : decode cX8_why 1 = .ok (.iconst 0, 1) := by decide +kernel
theorem dX8_why_2 : decode cX8_why 2 = .ok (.putfield 69, 3) := by decide +kernel
theorem dX8_why_5 : decode cX8_why 5 = .ok (.aload_n 0, 1) := by decide +kernel
theorem dX8_why_6 : decode cX8_why 6 = .ok (.invokevirtual 199, 3) := by decide +kernel
theorem dX8_why_9 : decode cX8_why 9 = .ok (.aload_n 0, 1) := by decide +kernel
theorem dX8_why_10 : decode cX8_why 10 = .ok (.invokevirtual 183, 3) := by decide +kernel
theorem dX8_why_13 : decode cX8_why 13 = .ok (.istore_n 2, 1) := by decide +kernel
theorem dX8_why_14 : decode cX8_why 14 = .ok (.iload_n 2, 1) := by decide +kernel
theorem dX8_why_15 : decode cX8_why 15 = .ok (.iconst (-1), 1) := by decide +kernel
theorem dX8_why_16 : decode cX8_why 16 = .ok (.if_icmp .eq 12, 3) := by decide +kernel
theorem dX8_why_19 : decode cX8_why 19 = .ok (.iload_n 1, 1) := by decide +kernel
theorem dX8_why_20 : decode cX8_why 20 = .ok (.iconst 0, 1) := by decide +kernel
theorem dX8_why_21 : decode cX8_why 21 = .ok (.iconst 2, 1) := by decide +kernel
theorem dX8_why_22 : decode cX8_why 22 = .ok (.invokestatic 75, 3) := by decide +kernel
theorem dX8_why_25 : decode cX8_why 25 = .ok (.ifCond .ne 7, 3) := by decide +kernel
theorem dX8_why_28 : decode cX8_why 28 = .ok (.iconst (-1), 1) := by decide +kernel
theorem dX8_why_29 : decode cX8_why 29 = .ok (.goto 27, 3) := by decide +kernel
theorem dX8_why_32 : decode cX8_why 32 = .ok (.iload_n 1, 1) := by decide +kernel
theorem dX8_why_33 : decode cX8_why 33 = .ok (.ifCond .ne 7, 3) := by decide +kernel
theorem dX8_why_36 : decode cX8_why 36 = .ok (.iload_n 2, 1) := by decide +kernel
theorem dX8_why_37 : decode cX8_why 37 = .ok (.goto 19, 3) := by decide +kernel
theorem dX8_why_40 : decode cX8_why 40 = .ok (.iload_n 1, 1) := by decide +kernel
theorem dX8_why_41 : decode cX8_why 41 = .ok (.iconst 1, 1) := by decide +kernel
theorem dX8_why_42 : decode cX8_why 42 = .ok (.if_icmp .ne 10, 3) := by decide +kernel
theorem dX8_why_45 : decode cX8_why 45 = .ok (.aload_n 0, 1) := by decide +kernel
theorem dX8_why_46 : decode cX8_why 46 = .ok (.getfield 168, 3) := by decide +kernel
theorem dX8_why_49 : decode cX8_why 49 = .ok (.goto 7, 3) := by decide +kernel
theorem dX8_why_52 : decode cX8_why 52 = .ok (.aload_n 0, 1) := by decide +kernel
theorem dX8_why_53 : decode cX8_why 53 = .ok (.getfield 171, 3) := by decide +kernel
theorem dX8_why_56 : decode cX8_why 56 = .ok (.ireturn, 1) := by decide +kernel
set_option maxRecDepth 20000 in
theorem ggX8_road_X8_isIn : GoodIn wsX8_road wsX8_isIn := goodIn_r _ [10] (by decide +kernel) (by decide +kernel)
set_option maxRecDepth 20000 in
theorem gX8_road_X8_isIn : GoodIn wsX8_road (va_wsS RX8 75 yX8_isIn wsX8_isIn) := goodIn_app (goodIn_of _ (by decide +kernel)) ggX8_road_X8_isIn
theorem dX8_road_0 : decode cX8_road 0 = .ok (.aload_n 0, 1) := by decide +kernel
theorem dX8_road_1 : decode cX8_road 1 = .ok (.iconst 0, 1) := by decide +kernel
theorem dX8_road_2 : decode cX8_road 2 = .ok (.putfield 69, 3) := by decide +kernel
theorem dX8_road_5 : decode cX8_road 5 = .ok (.iload_n 1, 1) := by decide +kernel
theorem dX8_road_6 : decode cX8_road 6 = .ok (.iconst 1, 1) := by decide +kernel
theorem dX8_road_7 : decode cX8_road 7 = .ok (.bipush 50, 2) := by decide +kernel
theorem dX8_road_9 : decode cX8_road 9 = .ok (.invokestatic 75, 3) := by decide +kernel
theorem dX8_road_12 : decode cX8_road 12 = .ok (.ifCond .eq 12, 3) := by decide +kernel
theorem dX8_road_15 : decode cX8_road 15 = .ok (.iload_n 2, 1) := by decide +kernel
theorem dX8_road_16 : decode cX8_road 16 = .ok (.iconst 0, 1) := by decide +kernel
theorem dX8_road_17 : decode cX8_road 17 = .ok (.iconst 3, 1) := by decide +kernel
theorem dX8_road_18 : decode cX8_road 18 = .ok (.invokestatic 75, 3) := by decide +kernel
theorem dX8_road_21 : decode cX8_road 21 = .ok (.ifCond .ne 5, 3) := by decide +kernel
theorem dX8_road_24 : decode cX8_road 24 = .ok (.iconst 0, 1) := by decide +kernel
theorem dX8_road_25 : decode cX8_road 25 = .ok (.ireturn, 1) := by decide +kernel
theorem dX8_road_26 : decode cX8_road 26 = .ok (.aload_n 0, 1) := by decide +kernel
theorem dX8_road_27 : decode cX8_road 27 = .ok (.iload_n 1, 1) := by decide +kernel
theorem dX8_road_28 : decode cX8_road 28 = .ok (.putfield 35, 3) := by decide +kernel
theorem dX8_road_31 : decode cX8_road 31 = .ok (.aload_n 0, 1) := by decide +kernel
theorem dX8_road_32 : decode cX8_road 32 = .ok (.iload_n 2, 1) := by decide +kernel
theorem dX8_road_33 : decode cX8_road 33 = .ok (.putfield 38, 3) := by decide +kernel
theorem dX8_road_36 : decode cX8_road 36 = .ok (.iconst 0, 1) := by decide +kernel
theorem dX8_road_37 : decode cX8_road 37 = .ok (.istore_n 3, 1) := by decide +kernel
theorem dX8_road_38 : decode cX8_road 38 = .ok (.iload_n 3, 1) := by decide +kernel
theorem dX8_road_39 : decode cX8_road 39 = .ok (.bipush 50, 2) := by decide +kernel
theorem dX8_road_41 : decode cX8_road 41 = .ok (.if_icmp .ge 23, 3) := by decide +kernel
theorem dX8_road_44 : decode cX8_road 44 = .ok (.aload_n 0, 1) := by decide +kernel
theorem dX8_road_45 : decode cX8_road 45 = .ok (.getfield 41, 3) := by decide +kernel
theorem dX8_road_48 : decode cX8_road 48 = .ok (.iload_n 3, 1) := by decide +kernel
theorem dX8_road_49 : decode cX8_road 49 = .ok (.iconst 0, 1) := by decide +kernel
theorem dX8_road_50 : decode cX8_road 50 = .ok (.iastore, 1) := by decide +kernel
theorem dX8_road_51 : decode cX8_road 51 = .ok (.aload_n 0, 1) := by decide +kernel
theorem dX8_road_52 : decode cX8_road 52 = .ok (.getfield 44, 3) := by decide +kernel
theorem dX8_road_55 : decode cX8_road 55 = .ok (.iload_n 3, 1) := by decide +kernel
theorem dX8_road_56 : decode cX8_road 56 = .ok (.iconst 0, 1) := by decide +kernel
theorem dX8_road_57 : decode cX8_road 57 = .ok (.iastore, 1) := by decide +kernel
theorem dX8_road_58 : decode cX8_road 58 = .ok (.iinc 3 1, 3) := by decide +kernel
theorem dX8_road_61 : decode cX8_road 61 = .ok (.goto (-23), 3) := by decide +kernel
theorem dX8_road_64 : decode cX8_road 64 = .ok (.aload_n 0, 1) := by decide +kernel
theorem dX8_road_65 : decode cX8_road 65 = .ok (.iconst 0, 1) := by decide +kernel
theorem dX8_road_66 : decode cX8_road 66 = .ok (.putfield 79, 3) := by decide +kernel
theorem dX8_road_69 : decode cX8_road 69 = .ok (.iconst 1, 1) := by decide +kernel
theorem dX8_road_70 : decode cX8_road 70 = .ok (.ireturn, 1) := by decide +kernel
set_option maxRecDepth 20000 in
theorem ggX8_isCell_X8_isIn : GoodIn wsX8_isCell wsX8_isIn := goodIn_r _ [5] (by decide +kernel) (by decide +kernel)
set_option maxRecDepth 20000 in
theorem gX8_isCell_X8_isIn : GoodIn wsX8_isCell (va_wsS RX8 75 yX8_isIn wsX8_isIn) := goodIn_app (goodIn_of _ (by decide +kernel)) ggX8_isCell_X8_isIn
theorem dX8_isCell_0 : decode cX8_isCell 0 = .ok (.iload_n 1, 1) := by decide +kernel
theorem dX8_isCell_1 : decode cX8_isCell 1 = .ok (.iconst 0, 1) := by decide +kernel
theorem dX8_isCell_2 : decode cX8_isCell 2 = .ok (.aload_n 0, 1) := by decide +kernel
theorem dX8_isCell_3 : decode cX8_isCell 3 = .ok (.getfield 35, 3) := by decide +kernel
theorem dX8_isCell_6 : decode cX8_isCell 6 = .ok (.iconst 1, 1) := by decide +kernel
theorem dX8_isCell_7 : decode cX8_isCell 7 = .ok (.isub, 1) := by decide +kernel
theorem dX8_isCell_8 : decode cX8_isCell 8 = .ok (.invokestatic 75, 3) := by decide +kernel
theorem dX8_isCell_11 : decode cX8_isCell 11 = .ok (.ireturn, 1) := by decide +kernel
set_option maxRecDepth 20000 in
theorem ggX8_wire_X8_isCell : GoodIn wsX8_wire wsX8_isCell := goodIn_r _ [8, 9, 10, 11, 7, 12, 13, 14, 15, 16, 17, 18, 19, 20, 21, 22, 23, 24, 25, 26, 27, 28, 29, 30, 31, 32, 33, 34, 35, 36, 37, 38, 39, 40, 41, 42, 43, 44, 45, 46, 47, 48] (by decide +kernel) (by decide +kernel)
set_option maxRecDepth 20000 in
theorem gX8_wire_X8_isCell : GoodIn wsX8_wire (wsV RX8 202 RX8 yX8_isCell wsX8_isCell) := goodIn_app (goodIn_of _ (by decide +kernel)) ggX8_wire_X8_isCell
set_option maxRecDepth 20000 in
theorem ggX8_wire_X8_isIn : GoodIn wsX8_wire wsX8_isIn := goodIn_r _ [12] (by decide +kernel) (by decide +kernel)
