theorem dX3_tailOf_17 : decode cX3_tailOf 17 = .ok (.iadd, 1) := by decide +kernel
theorem dX3_tailOf_18 : decode cX3_tailOf 18 = .ok (.ireturn, 1) := by decide +kernel
set_option maxRecDepth 20000 in
theorem ggX3_stateOf_X3_isOut : GoodIn wsX3_stateOf wsX3_isOut := goodIn_r _ [7, 8, 9, 10, 11, 12, 13, 14, 15, 16, 17] (by decide +kernel) (by decide +kernel)
set_option maxRecDepth 20000 in
theorem gX3_stateOf_X3_isOut : GoodIn wsX3_stateOf (wsV RX3 64 RX3 yX3_isOut wsX3_isOut) := goodIn_app (goodIn_of _ (by decide +kernel)) ggX3_stateOf_X3_isOut
theorem dX3_stateOf_0 : decode cX3_stateOf 0 = .ok (.aload_n 0, 1) := by decide +kernel
theorem dX3_stateOf_1 : decode cX3_stateOf 1 = .ok (.iload_n 1, 1) := by decide +kernel
theorem dX3_stateOf_2 : decode cX3_stateOf 2 = .ok (.invokevirtual 64, 3) := by decide +kernel
theorem dX3_stateOf_5 : decode cX3_stateOf 5 = .ok (.ifCond .eq 5, 3) := by decide +kernel
theorem dX3_stateOf_8 : decode cX3_stateOf 8 = .ok (.iconst 3, 1) := by decide +kernel
theorem dX3_stateOf_9 : decode cX3_stateOf 9 = .ok (.ireturn, 1) := by decide +kernel
theorem dX3_stateOf_10 : decode cX3_stateOf 10 = .ok (.aload_n 0, 1) := by decide +kernel
theorem dX3_stateOf_11 : decode cX3_stateOf 11 = .ok (.getfield 22, 3) := by decide +kernel
theorem dX3_stateOf_14 : decode cX3_stateOf 14 = .ok (.iload_n 1, 1) := by decide +kernel
theorem dX3_stateOf_15 : decode cX3_stateOf 15 = .ok (.iaload, 1) := by decide +kernel
theorem dX3_stateOf_16 : decode cX3_stateOf 16 = .ok (.ifCond .ge 5, 3) := by decide +kernel
theorem dX3_stateOf_19 : decode cX3_stateOf 19 = .ok (.iconst 0, 1) := by decide +kernel
theorem dX3_stateOf_20 : decode cX3_stateOf 20 = .ok (.ireturn, 1) := by decide +kernel
theorem dX3_stateOf_21 : decode cX3_stateOf 21 = .ok (.aload_n 0, 1) := by decide +kernel
theorem dX3_stateOf_22 : decode cX3_stateOf 22 = .ok (.getfield 25, 3) := by decide +kernel
theorem dX3_stateOf_25 : decode cX3_stateOf 25 = .ok (.iload_n 1, 1) := by decide +kernel
theorem dX3_stateOf_26 : decode cX3_stateOf 26 = .ok (.iaload, 1) := by decide +kernel
theorem dX3_stateOf_27 : decode cX3_stateOf 27 = .ok (.ifCond .le 7, 3) := by decide +kernel
theorem dX3_stateOf_30 : decode cX3_stateOf 30 = .ok (.iconst 2, 1) := by decide +kernel
theorem dX3_stateOf_31 : decode cX3_stateOf 31 = .ok (.goto 4, 3) := by decide +kernel
theorem dX3_stateOf_34 : decode cX3_stateOf 34 = .ok (.iconst 1, 1) := by decide +kernel
theorem dX3_stateOf_35 : decode cX3_stateOf 35 = .ok (.ireturn, 1) := by decide +kernel
set_option maxRecDepth 20000 in
theorem ggX3_standsOn_X3_isOnRoad : GoodIn wsX3_standsOn wsX3_isOnRoad := goodIn_r _ [8, 3, 9, 10, 11, 7, 12, 13, 20, 21, 22, 23, 24, 25, 26, 27, 28] (by decide +kernel) (by decide +kernel)
set_option maxRecDepth 20000 in
theorem gX3_standsOn_X3_isOnRoad : GoodIn wsX3_standsOn (wsV RX3 102 RX3 yX3_isOnRoad wsX3_isOnRoad) := goodIn_app (goodIn_of _ (by decide +kernel)) ggX3_standsOn_X3_isOnRoad
set_option maxRecDepth 20000 in
theorem ggX3_standsOn_X3_tailOf : GoodIn wsX3_standsOn wsX3_tailOf := goodIn_r _ [17, 3, 18, 19, 20, 21, 22, 23, 24, 25, 26, 27, 28, 29, 30, 31, 32, 33, 34] (by decide +kernel) (by decide +kernel)
set_option maxRecDepth 20000 in
theorem gX3_standsOn_X3_tailOf : GoodIn wsX3_standsOn (wsV RX3 84 RX3 yX3_tailOf wsX3_tailOf) := goodIn_app (goodIn_of _ (by decide +kernel)) ggX3_standsOn_X3_tailOf
theorem dX3_standsOn_0 : decode cX3_standsOn 0 = .ok (.iconst 0, 1) := by decide +kernel
theorem dX3_standsOn_1 : decode cX3_standsOn 1 = .ok (.istore_n 2, 1) := by decide +kernel
theorem dX3_standsOn_2 : decode cX3_standsOn 2 = .ok (.iload_n 2, 1) := by decide +kernel
theorem dX3_standsOn_3 : decode cX3_standsOn 3 = .ok (.aload_n 0, 1) := by decide +kernel
theorem dX3_standsOn_4 : decode cX3_standsOn 4 = .ok (.getfield 15, 3) := by decide +kernel
theorem dX3_standsOn_7 : decode cX3_standsOn 7 = .ok (.if_icmp .ge 45, 3) := by decide +kernel
theorem dX3_standsOn_10 : decode cX3_standsOn 10 = .ok (.aload_n 0, 1) := by decide +kernel
theorem dX3_standsOn_11 : decode cX3_standsOn 11 = .ok (.getfield 9, 3) := by decide +kernel
theorem dX3_standsOn_14 : decode cX3_standsOn 14 = .ok (.iload_n 2, 1) := by decide +kernel
theorem dX3_standsOn_15 : decode cX3_standsOn 15 = .ok (.iaload, 1) := by decide +kernel
theorem dX3_standsOn_16 : decode cX3_standsOn 16 = .ok (.istore_n 3, 1) := by decide +kernel
theorem dX3_standsOn_17 : decode cX3_standsOn 17 = .ok (.aload_n 0, 1) := by decide +kernel
theorem dX3_standsOn_18 : decode cX3_standsOn 18 = .ok (.iload_n 3, 1) := by decide +kernel
theorem dX3_standsOn_19 : decode cX3_standsOn 19 = .ok (.invokevirtual 102, 3) := by decide +kernel
theorem dX3_standsOn_22 : decode cX3_standsOn 22 = .ok (.ifCond .eq 24, 3) := by decide +kernel
theorem dX3_standsOn_25 : decode cX3_standsOn 25 = .ok (.aload_n 0, 1) := by decide +kernel
theorem dX3_standsOn_26 : decode cX3_standsOn 26 = .ok (.iload_n 3, 1) := by decide +kernel
theorem dX3_standsOn_27 : decode cX3_standsOn 27 = .ok (.invokevirtual 84, 3) := by decide +kernel
theorem dX3_standsOn_30 : decode cX3_standsOn 30 = .ok (.iload_n 1, 1) := by decide +kernel
theorem dX3_standsOn_31 : decode cX3_standsOn 31 = .ok (.if_icmp .gt 15, 3) := by decide +kernel
theorem dX3_standsOn_34 : decode cX3_standsOn 34 = .ok (.iload_n 1, 1) := by decide +kernel
theorem dX3_standsOn_35 : decode cX3_standsOn 35 = .ok (.aload_n 0, 1) := by decide +kernel
theorem dX3_standsOn_36 : decode cX3_standsOn 36 = .ok (.getfield 22, 3) := by decide +kernel
theorem dX3_standsOn_39 : decode cX3_standsOn 39 = .ok (.iload_n 3, 1) := by decide +kernel
theorem dX3_standsOn_40 : decode cX3_standsOn 40 = .ok (.iaload, 1) := by decide +kernel
theorem dX3_standsOn_41 : decode cX3_standsOn 41 = .ok (.if_icmp .gt 5, 3) := by decide +kernel
theorem dX3_standsOn_44 : decode cX3_standsOn 44 = .ok (.iload_n 3, 1) := by decide +kernel
theorem dX3_standsOn_45 : decode cX3_standsOn 45 = .ok (.ireturn, 1) := by decide +kernel
theorem dX3_standsOn_46 : decode cX3_standsOn 46 = .ok (.iinc 2 1, 3) := by decide +kernel
theorem dX3_standsOn_49 : decode cX3_standsOn 49 = .ok (.goto (-47), 3) := by decide +kernel
theorem dX3_standsOn_52 : decode cX3_standsOn 52 = .ok (.iconst (-1), 1) := by decide +kernel
theorem dX3_standsOn_53 : decode cX3_standsOn 53 = .ok (.ireturn, 1) := by decide +kernel
set_option maxRecDepth 20000 in
theorem ggX3_widestHole_X3_isOnRoad : GoodIn wsX3_widestHole wsX3_isOnRoad := goodIn_r _ [12, 3, 13, 14, 15, 11, 16, 17, 24, 25, 26, 27, 28, 29, 30, 31, 32] (by decide +kernel) (by decide +kernel)
set_option maxRecDepth 20000 in
theorem gX3_widestHole_X3_isOnRoad : GoodIn wsX3_widestHole (wsV RX3 102 RX3 yX3_isOnRoad wsX3_isOnRoad) := goodIn_app (goodIn_of _ (by decide +kernel)) ggX3_widestHole_X3_isOnRoad
set_option maxRecDepth 20000 in
theorem ggX3_widestHole_X3_tailOf : GoodIn wsX3_widestHole wsX3_tailOf := goodIn_r _ [21, 3, 22, 23, 24, 25, 26, 27, 28, 29, 30, 31, 32, 33, 34, 35, 36, 37, 38] (by decide +kernel) (by decide +kernel)
set_option maxRecDepth 20000 in
theorem gX3_widestHole_X3_tailOf : GoodIn wsX3_widestHole (wsV RX3 84 RX3 yX3_tailOf wsX3_tailOf) := goodIn_app (goodIn_of _ (by decide +kernel)) ggX3_widestHole_X3_tailOf
theorem dX3_widestHole_0 : decode cX3_widestHole 0 = .ok (.iconst 0, 1) := by decide +kernel
theorem dX3_widestHole_1 : decode cX3_widestHole 1 = .ok (.istore_n 1, 1) := by decide +kernel
theorem dX3_widestHole_2 : decode cX3_widestHole 2 = .ok (.iconst (-1), 1) := by decide +kernel
theorem dX3_widestHole_3 : decode cX3_widestHole 3 = .ok (.istore_n 2, 1) := by decide +kernel
theorem dX3_widestHole_4 : decode cX3_widestHole 4 = .ok (.iconst 0, 1) := by decide +kernel
theorem dX3_widestHole_5 : decode cX3_widestHole 5 = .ok (.istore_n 3, 1) := by decide +kernel
theorem dX3_widestHole_6 : decode cX3_widestHole 6 = .ok (.iload_n 3, 1) := by decide +kernel
theorem dX3_widestHole_7 : decode cX3_widestHole 7 = .ok (.aload_n 0, 1) := by decide +kernel
theorem dX3_widestHole_8 : decode cX3_widestHole 8 = .ok (.getfield 15, 3) := by decide +kernel
theorem dX3_widestHole_11 : decode cX3_widestHole 11 = .ok (.if_icmp .ge 54, 3) := by decide +kernel
theorem dX3_widestHole_14 : decode cX3_widestHole 14 = .ok (.aload_n 0, 1) := by decide +kernel
theorem dX3_widestHole_15 : decode cX3_widestHole 15 = .ok (.getfield 9, 3) := by decide +kernel
theorem dX3_widestHole_18 : decode cX3_widestHole 18 = .ok (.iload_n 3, 1) := by decide +kernel
theorem dX3_widestHole_19 : decode cX3_widestHole 19 = .ok (.iaload, 1) := by decide +kernel
theorem dX3_widestHole_20 : decode cX3_widestHole 20 = .ok (.istore 4, 2) := by decide +kernel
theorem dX3_widestHole_22 : decode cX3_widestHole 22 = .ok (.aload_n 0, 1) := by decide +kernel
theorem dX3_widestHole_23 : decode cX3_widestHole 23 = .ok (.iload 4, 2) := by decide +kernel
theorem dX3_widestHole_25 : decode cX3_widestHole 25 = .ok (.invokevirtual 102, 3) := by decide +kernel
theorem dX3_widestHole_28 : decode cX3_widestHole 28 = .ok (.ifCond .eq 31, 3) := by decide +kernel
theorem dX3_widestHole_31 : decode cX3_widestHole 31 = .ok (.iload_n 2, 1) := by decide +kernel
theorem dX3_widestHole_32 : decode cX3_widestHole 32 = .ok (.iconst (-1), 1) := by decide +kernel
theorem dX3_widestHole_33 : decode cX3_widestHole 33 = .ok (.if_icmp .eq 23, 3) := by decide +kernel
theorem dX3_widestHole_36 : decode cX3_widestHole 36 = .ok (.iload_n 1, 1) := by decide +kernel
theorem dX3_widestHole_37 : decode cX3_widestHole 37 = .ok (.aload_n 0, 1) := by decide +kernel
theorem dX3_widestHole_38 : decode cX3_widestHole 38 = .ok (.iload_n 2, 1) := by decide +kernel
theorem dX3_widestHole_39 : decode cX3_widestHole 39 = .ok (.invokevirtual 84, 3) := by decide +kernel
theorem dX3_widestHole_42 : decode cX3_widestHole 42 = .ok (.aload_n 0, 1) := by decide +kernel
theorem dX3_widestHole_43 : decode cX3_widestHole 43 = .ok (.getfield 22, 3) := by decide +kernel
theorem dX3_widestHole_46 : decode cX3_widestHole 46 = .ok (.iload 4, 2) := by decide +kernel
theorem dX3_widestHole_48 : decode cX3_widestHole 48 = .ok (.iaload, 1) := by decide +kernel
theorem dX3_widestHole_49 : decode cX3_widestHole 49 = .ok (.isub, 1) := by decide +kernel
theorem dX3_widestHole_50 : decode cX3_widestHole 50 = .ok (.iconst 1, 1) := by decide +kernel
theorem dX3_widestHole_51 : decode cX3_widestHole 51 = .ok (.isub, 1) := by decide +kernel
theorem dX3_widestHole_52 : decode cX3_widestHole 52 = .ok (.invokestatic 105, 3) := by decide +kernel
theorem dX3_widestHole_55 : decode cX3_widestHole 55 = .ok (.istore_n 1, 1) := by decide +kernel
theorem dX3_widestHole_56 : decode cX3_widestHole 56 = .ok (.iload 4, 2) := by decide +kernel
theorem dX3_widestHole_58 : decode cX3_widestHole 58 = .ok (.istore_n 2, 1) := by decide +kernel
theorem dX3_widestHole_59 : decode cX3_widestHole 59 = .ok (.iinc 3 1, 3) := by decide +kernel
theorem dX3_widestHole_62 : decode cX3_widestHole 62 = .ok (.goto (-56), 3) := by decide +kernel
theorem dX3_widestHole_65 : decode cX3_widestHole 65 = .ok (.iload_n 1, 1) := by decide +kernel
theorem dX3_widestHole_66 : decode cX3_widestHole 66 = .ok (.ireturn, 1) := by decide +kernel
set_option maxRecDepth 20000 in
theorem ggX3_cellsTaken_X3_isOnRoad : GoodIn wsX3_cellsTaken wsX3_isOnRoad := goodIn_r _ [17, 3, 18, 19, 20, 16, 21, 22, 29, 30, 31, 32, 33, 34, 35, 36, 37] (by decide +kernel) (by decide +kernel)
set_option maxRecDepth 20000 in
theorem gX3_cellsTaken_X3_isOnRoad : GoodIn wsX3_cellsTaken (wsV RX3 102 RX3 yX3_isOnRoad wsX3_isOnRoad) := goodIn_app (goodIn_of _ (by decide +kernel)) ggX3_cellsTaken_X3_isOnRoad
set_option maxRecDepth 20000 in
theorem ggX3_cellsTaken_X3_tailOf : GoodIn wsX3_cellsTaken wsX3_tailOf := goodIn_r _ [26, 3, 27, 28, 29, 30, 31, 32, 33, 34, 35, 36, 37, 42, 43, 44, 45, 46, 47] (by decide +kernel) (by decide +kernel)
set_option maxRecDepth 20000 in
theorem gX3_cellsTaken_X3_tailOf : GoodIn wsX3_cellsTaken (wsV RX3 84 RX3 yX3_tailOf wsX3_tailOf) := goodIn_app (goodIn_of _ (by decide +kernel)) ggX3_cellsTaken_X3_tailOf
theorem dX3_cellsTaken_0 : decode cX3_cellsTaken 0 = .ok (.iconst (-1), 1) := by decide +kernel
theorem dX3_cellsTaken_1 : decode cX3_cellsTaken 1 = .ok (.istore_n 1, 1) := by decide +kernel
theorem dX3_cellsTaken_2 : decode cX3_cellsTaken 2 = .ok (.iconst (-1), 1) := by decide +kernel
theorem dX3_cellsTaken_3 : decode cX3_cellsTaken 3 = .ok (.istore_n 2, 1) := by decide +kernel
theorem dX3_cellsTaken_4 : decode cX3_cellsTaken 4 = .ok (.iconst 0, 1) := by decide +kernel
theorem dX3_cellsTaken_5 : decode cX3_cellsTaken 5 = .ok (.istore_n 3, 1) := by decide +kernel
theorem dX3_cellsTaken_6 : decode cX3_cellsTaken 6 = .ok (.iload_n 3, 1) := by decide +kernel
theorem dX3_cellsTaken_7 : decode cX3_cellsTaken 7 = .ok (.aload_n 0, 1) := by decide +kernel
theorem dX3_cellsTaken_8 : decode cX3_cellsTaken 8 = .ok (.getfield 15, 3) := by decide +kernel
theorem dX3_cellsTaken_11 : decode cX3_cellsTaken 11 = .ok (.if_icmp .ge 45, 3) := by decide +kernel
theorem dX3_cellsTaken_14 : decode cX3_cellsTaken 14 = .ok (.aload_n 0, 1) := by decide +kernel
theorem dX3_cellsTaken_15 : decode cX3_cellsTaken 15 = .ok (.aload_n 0, 1) := by decide +kernel
theorem dX3_cellsTaken_16 : decode cX3_cellsTaken 16 = .ok (.getfield 9, 3) := by decide +kernel
theorem dX3_cellsTaken_19 : decode cX3_cellsTaken 19 = .ok (.iload_n 3, 1) := by decide +kernel
theorem dX3_cellsTaken_20 : decode cX3_cellsTaken 20 = .ok (.iaload, 1) := by decide +kernel
theorem dX3_cellsTaken_21 : decode cX3_cellsTaken 21 = .ok (.invokevirtual 102, 3) := by decide +kernel
theorem dX3_cellsTaken_24 : decode cX3_cellsTaken 24 = .ok (.ifCond .eq 26, 3) := by decide +kernel
theorem dX3_cellsTaken_27 : decode cX3_cellsTaken 27 = .ok (.iload_n 1, 1) := by decide +kernel
theorem dX3_cellsTaken_28 : decode cX3_cellsTaken 28 = .ok (.iconst (-1), 1) := by decide +kernel
theorem dX3_cellsTaken_29 : decode cX3_cellsTaken 29 = .ok (.if_icmp .ne 12, 3) := by decide +kernel
theorem dX3_cellsTaken_32 : decode cX3_cellsTaken 32 = .ok (.aload_n 0, 1) := by decide +kernel
theorem dX3_cellsTaken_33 : decode cX3_cellsTaken 33 = .ok (.getfield 9, 3) := by decide +kernel
theorem dX3_cellsTaken_36 : decode cX3_cellsTaken 36 = .ok (.iload_n 3, 1) := by decide +kernel
theorem dX3_cellsTaken_37 : decode cX3_cellsTaken 37 = .ok (.iaload, 1) := by decide +kernel
theorem dX3_cellsTaken_38 : decode cX3_cellsTaken 38 = .ok (.goto 4, 3) := by decide +kernel
theorem dX3_cellsTaken_41 : decode cX3_cellsTaken 41 = .ok (.iload_n 1, 1) := by decide +kernel
theorem dX3_cellsTaken_42 : decode cX3_cellsTaken 42 = .ok (.istore_n 1, 1) := by decide +kernel
theorem dX3_cellsTaken_43 : decode cX3_cellsTaken 43 = .ok (.aload_n 0, 1) := by decide +kernel
theorem dX3_cellsTaken_44 : decode cX3_cellsTaken 44 = .ok (.getfield 9, 3) := by decide +kernel
theorem dX3_cellsTaken_47 : decode cX3_cellsTaken 47 = .ok (.iload_n 3, 1) := by decide +kernel
theorem dX3_cellsTaken_48 : decode cX3_cellsTaken 48 = .ok (.iaload, 1) := by decide +kernel
theorem dX3_cellsTaken_49 : decode cX3_cellsTaken 49 = .ok (.istore_n 2, 1) := by decide +kernel
theorem dX3_cellsTaken_50 : decode cX3_cellsTaken 50 = .ok (.iinc 3 1, 3) := by decide +kernel
theorem dX3_cellsTaken_53 : decode cX3_cellsTaken 53 = .ok (.goto (-47), 3) := by decide +kernel
theorem dX3_cellsTaken_56 : decode cX3_cellsTaken 56 = .ok (.iload_n 1, 1) := by decide +kernel
theorem dX3_cellsTaken_57 : decode cX3_cellsTaken 57 = .ok (.iconst (-1), 1) := by decide +kernel
theorem dX3_cellsTaken_58 : decode cX3_cellsTaken 58 = .ok (.if_icmp .ne 5, 3) := by decide +kernel
theorem dX3_cellsTaken_61 : decode cX3_cellsTaken 61 = .ok (.iconst 0, 1) := by decide +kernel
theorem dX3_cellsTaken_62 : decode cX3_cellsTaken 62 = .ok (.ireturn, 1) := by decide +kernel
theorem dX3_cellsTaken_63 : decode cX3_cellsTaken 63 = .ok (.aload_n 0, 1) := by decide +kernel
theorem dX3_cellsTaken_64 : decode cX3_cellsTaken 64 = .ok (.getfield 22, 3) := by decide +kernel
theorem dX3_cellsTaken_67 : decode cX3_cellsTaken 67 = .ok (.iload_n 1, 1) := by decide +kernel
theorem dX3_cellsTaken_68 : decode cX3_cellsTaken 68 = .ok (.iaload, 1) := by decide +kernel
theorem dX3_cellsTaken_69 : decode cX3_cellsTaken 69 = .ok (.aload_n 0, 1) := by decide +kernel
theorem dX3_cellsTaken_70 : decode cX3_cellsTaken 70 = .ok (.getfield 38, 3) := by decide +kernel
theorem dX3_cellsTaken_73 : decode cX3_cellsTaken 73 = .ok (.getfield 93, 3) := by decide +kernel
theorem dX3_cellsTaken_76 : decode cX3_cellsTaken 76 = .ok (.iconst 1, 1) := by decide +kernel
theorem dX3_cellsTaken_77 : decode cX3_cellsTaken 77 = .ok (.isub, 1) := by decide +kernel
theorem dX3_cellsTaken_78 : decode cX3_cellsTaken 78 = .ok (.invokestatic 111, 3) := by decide +kernel
theorem dX3_cellsTaken_81 : decode cX3_cellsTaken 81 = .ok (.aload_n 0, 1) := by decide +kernel
theorem dX3_cellsTaken_82 : decode cX3_cellsTaken 82 = .ok (.iload_n 2, 1) := by decide +kernel
theorem dX3_cellsTaken_83 : decode cX3_cellsTaken 83 = .ok (.invokevirtual 84, 3) := by decide +kernel
theorem dX3_cellsTaken_86 : decode cX3_cellsTaken 86 = .ok (.iconst 0, 1) := by decide +kernel
theorem dX3_cellsTaken_87 : decode cX3_cellsTaken 87 = .ok (.invokestatic 105, 3) := by decide +kernel
theorem dX3_cellsTaken_90 : decode cX3_cellsTaken 90 = .ok (.isub, 1) := by decide +kernel
theorem dX3_cellsTaken_91 : decode cX3_cellsTaken 91 = .ok (.iconst 1, 1) := by decide +kernel
theorem dX3_cellsTaken_92 : decode cX3_cellsTaken 92 = .ok (.iadd, 1) := by decide +kernel
theorem dX3_cellsTaken_93 : decode cX3_cellsTaken 93 = .ok (.ireturn, 1) := by decide +kernel
theorem dX4_init_0 : decode cX4_init 0 = .ok (.aload_n 0, 1) := by decide +kernel
theorem dX4_init_1 : decode cX4_init 1 = .ok (.invokespecial 3, 3) := by decide +kernel
theorem dX4_init_4 : decode cX4_init 4 = .ok (.aload_n 0, 1) := by decide +kernel
theorem dX4_init_5 : decode cX4_init 5 = .ok (.sipush 400, 3) := by decide +kernel
theorem dX4_init_8 : decode cX4_init 8 = .ok (.newarray .byte, 2) := by decide +kernel
theorem dX4_init_10 : decode cX4_init 10 = .ok (.putfield 11, 3) := by decide +kernel
theorem dX4_init_13 : decode cX4_init 13 = .ok (.aload_n 0, 1) := by decide +kernel
theorem dX4_init_14 : decode cX4_init 14 = .ok (.iconst 0, 1) := by decide +kernel
theorem dX4_init_15 : decode cX4_init 15 = .ok (.putfield 15, 3) := by decide +kernel
theorem dX4_init_18 : decode cX4_init 18 = .ok (.aload_n 0, 1) := by decide +kernel
theorem dX4_init_19 : decode cX4_init 19 = .ok (.iconst 0, 1) := by decide +kernel
theorem dX4_init_20 : decode cX4_init 20 = .ok (.putfield 19, 3) := by decide +kernel
theorem dX4_init_23 : decode cX4_init 23 = .ok (.aload_n 0, 1) := by decide +kernel
theorem dX4_init_24 : decode cX4_init 24 = .ok (.iconst (-1), 1) := by decide +kernel
theorem dX4_init_25 : decode cX4_init 25 = .ok (.putfield 22, 3) := by decide +kernel
theorem dX4_init_28 : decode cX4_init 28 = .ok (.aload_n 0, 1) := by decide +kernel
theorem dX4_init_29 : decode cX4_init 29 = .ok (.bipush 9, 2) := by decide +kernel
theorem dX4_init_31 : decode cX4_init 31 = .ok (.putfield 25, 3) := by decide +kernel
theorem dX4_init_34 : decode cX4_init 34 = .ok (.aload_n 0, 1) := by decide +kernel
theorem dX4_init_35 : decode cX4_init 35 = .ok (.iconst 0, 1) := by decide +kernel
theorem dX4_init_36 : decode cX4_init 36 = .ok (.putfield 28, 3) := by decide +kernel
theorem dX4_init_39 : decode cX4_init 39 = .ok (.aload_n 0, 1) := by decide +kernel
theorem dX4_init_40 : decode cX4_init 40 = .ok (.iconst 0, 1) := by decide +kernel
theorem dX4_init_41 : decode cX4_init 41 = .ok (.putfield 31, 3) := by decide +kernel
theorem dX4_init_44 : decode cX4_init 44 = .ok (.aload_n 0, 1) := by decide +kernel
theorem dX4_init_45 : decode cX4_init 45 = .ok (.iconst 0, 1) := by decide +kernel
theorem dX4_init_46 : decode cX4_init 46 = .ok (.putfield 34, 3) := by decide +kernel
theorem dX4_init_49 : decode cX4_init 49 = .ok (.aload_n 0, 1) := by decide +kernel
theorem dX4_init_50 : decode cX4_init 50 = .ok (.aload_n 1, 1) := by decide +kernel
theorem dX4_init_51 : decode cX4_init 51 = .ok (.putfield 37, 3) := by decide +kernel
theorem dX4_init_54 : decode cX4_init 54 = .ok (.return_, 1) := by decide +kernel
theorem dX4_addFour_0 : decode cX4_addFour 0 = .ok (.bipush 24, 2) := by decide +kernel
theorem dX4_addFour_2 : decode cX4_addFour 2 = .ok (.istore_n 2, 1) := by decide +kernel
theorem dX4_addFour_3 : decode cX4_addFour 3 = .ok (.iload_n 2, 1) := by decide +kernel
theorem dX4_addFour_4 : decode cX4_addFour 4 = .ok (.ifCond .lt 42, 3) := by decide +kernel
theorem dX4_addFour_7 : decode cX4_addFour 7 = .ok (.aload_n 0, 1) := by decide +kernel
theorem dX4_addFour_8 : decode cX4_addFour 8 = .ok (.getfield 15, 3) := by decide +kernel
theorem dX4_addFour_11 : decode cX4_addFour 11 = .ok (.sipush 400, 3) := by decide +kernel
theorem dX4_addFour_14 : decode cX4_addFour 14 = .ok (.if_icmp .ge 32, 3) := by decide +kernel
theorem dX4_addFour_17 : decode cX4_addFour 17 = .ok (.aload_n 0, 1) := by decide +kernel
theorem dX4_addFour_18 : decode cX4_addFour 18 = .ok (.getfield 11, 3) := by decide +kernel
theorem dX4_addFour_21 : decode cX4_addFour 21 = .ok (.aload_n 0, 1) := by decide +kernel
theorem dX4_addFour_22 : decode cX4_addFour 22 = .ok (.getfield 15, 3) := by decide +kernel
theorem dX4_addFour_25 : decode cX4_addFour 25 = .ok (.iload_n 1, 1) := by decide +kernel
theorem dX4_addFour_26 : decode cX4_addFour 26 = .ok (.iload_n 2, 1) := by decide +kernel
theorem dX4_addFour_27 : decode cX4_addFour 27 = .ok (.iushr, 1) := by decide +kernel
theorem dX4_addFour_28 : decode cX4_addFour 28 = .ok (.i2b, 1) := by decide +kernel
theorem dX4_addFour_29 : decode cX4_addFour 29 = .ok (.bastore, 1) := by decide +kernel
theorem dX4_addFour_30 : decode cX4_addFour 30 = .ok (.aload_n 0, 1) := by decide +kernel
theorem dX4_addFour_31 : decode cX4_addFour 31 = .ok (.dup, 1) := by decide +kernel
theorem dX4_addFour_32 : decode cX4_addFour 32 = .ok (.getfield 15, 3) := by decide +kernel
theorem dX4_addFour_35 : decode cX4_addFour 35 = .ok (.iconst 1, 1) := by decide +kernel
theorem dX4_addFour_36 : decode cX4_addFour 36 = .ok (.iadd, 1) := by decide +kernel
theorem dX4_addFour_37 : decode cX4_addFour 37 = .ok (.putfield 15, 3) := by decide +kernel
theorem dX4_addFour_40 : decode cX4_addFour 40 = .ok (.iinc 2 (-8), 3) := by decide +kernel
theorem dX4_addFour_43 : decode cX4_addFour 43 = .ok (.goto (-40), 3) := by decide +kernel
theorem dX4_addFour_46 : decode cX4_addFour 46 = .ok (.return_, 1) := by decide +kernel
set_option maxRecDepth 20000 in
theorem ggX4_start_X4_goOn : GoodIn wsX4_start wsX4_goOn := goodIn_r _ [8, 3, 9, 10, 11, 12, 13, 14, 7, 15, 16, 17, 18, 19, 20, 21, 22, 23, 24, 25, 26, 27, 28, 29, 30, 31, 32, 33, 34, 35, 36, 37, 38, 39, 40, 41, 42, 43, 44, 45, 46, 47, 48, 49, 50, 51, 52, 53, 54, 55, 56, 57, 58, 59, 60, 61, 62, 63, 64, 65, 66, 67, 68, 69, 70, 71, 72, 73, 74, 75, 76, 77, 78, 79, 80, 81, 82, 83, 84, 85, 86, 87, 88, 89, 90, 91, 92, 93, 94, 95] (by decide +kernel) (by decide +kernel)
set_option maxRecDepth 20000 in
theorem gX4_start_X4_goOn : GoodIn wsX4_start (wsV RX4 41 RX4 yX4_goOn wsX4_goOn) := goodIn_app (goodIn_of _ (by decide +kernel)) ggX4_start_X4_goOn
theorem dX4_start_0 : decode cX4_start 0 = .ok (.aload_n 0, 1) := by decide +kernel
theorem dX4_start_1 : decode cX4_start 1 = .ok (.iconst 0, 1) := by decide +kernel
theorem dX4_start_2 : decode cX4_start 2 = .ok (.putfield 19, 3) := by decide +kernel
theorem dX4_start_5 : decode cX4_start 5 = .ok (.aload_n 0, 1) := by decide +kernel
theorem dX4_start_6 : decode cX4_start 6 = .ok (.iconst (-1), 1) := by decide +kernel
theorem dX4_start_7 : decode cX4_start 7 = .ok (.putfield 22, 3) := by decide +kernel
theorem dX4_start_10 : decode cX4_start 10 = .ok (.aload_n 0, 1) := by decide +kernel
theorem dX4_start_11 : decode cX4_start 11 = .ok (.iconst 0, 1) := by decide +kernel
theorem dX4_start_12 : decode cX4_start 12 = .ok (.putfield 31, 3) := by decide +kernel
theorem dX4_start_15 : decode cX4_start 15 = .ok (.aload_n 0, 1) := by decide +kernel
theorem dX4_start_16 : decode cX4_start 16 = .ok (.invokevirtual 41, 3) := by decide +kernel
theorem dX4_start_19 : decode cX4_start 19 = .ok (.return_, 1) := by decide +kernel
theorem dX4_hasMore_0 : decode cX4_hasMore 0 = .ok (.aload_n 0, 1) := by decide +kernel
theorem dX4_hasMore_1 : decode cX4_hasMore 1 = .ok (.getfield 25, 3) := by decide +kernel
theorem dX4_hasMore_4 : decode cX4_hasMore 4 = .ok (.bipush 9, 2) := by decide +kernel
theorem dX4_hasMore_6 : decode cX4_hasMore 6 = .ok (.if_icmp .eq 14, 3) := by decide +kernel
theorem dX4_hasMore_9 : decode cX4_hasMore 9 = .ok (.aload_n 0, 1) := by decide +kernel
theorem dX4_hasMore_10 : decode cX4_hasMore 10 = .ok (.getfield 19, 3) := by decide +kernel
theorem dX4_hasMore_13 : decode cX4_hasMore 13 = .ok (.ifCond .ne 7, 3) := by decide +kernel
theorem dX4_hasMore_16 : decode cX4_hasMore 16 = .ok (.iconst 1, 1) := by decide +kernel
theorem dX4_hasMore_17 : decode cX4_hasMore 17 = .ok (.goto 4, 3) := by decide +kernel
theorem dX4_hasMore_20 : decode cX4_hasMore 20 = .ok (.iconst 0, 1) := by decide +kernel
theorem dX4_hasMore_21 : decode cX4_hasMore 21 = .ok (.ireturn, 1) := by decide +kernel
set_option maxRecDepth 20000 in
theorem ggX4_readBar_X4_refuse : GoodIn wsX4_readBar wsX4_refuse := goodIn_r _ [8, 3, 9, 10, 116, 117, 118, 119, 120, 121, 122, 123, 124] (by decide +kernel) (by decide +kernel)
set_option maxRecDepth 20000 in
theorem gX4_readBar_X4_refuse : GoodIn wsX4_readBar (wsV RX4 44 RX4 yX4_refuse wsX4_refuse) := goodIn_app (goodIn_of _ (by decide +kernel)) ggX4_readBar_X4_refuse
set_option maxRecDepth 20000 in
theorem ggX4_readBar_X4_goOn : GoodIn wsX4_readBar wsX4_goOn := goodIn_r _ [14, 15, 16, 17, 9, 1, 18, 19, 7, 20, 21, 22, 23, 24, 25, 26, 27, 28, 29, 30, 31, 32, 33, 34, 35, 36, 37, 38, 39, 40, 41, 42, 43, 44, 45, 46, 47, 48, 49, 50, 51, 52, 53, 54, 55, 56, 57, 58, 59, 60, 61, 62, 63, 64, 65, 66, 67, 68, 69, 70, 71, 72, 73, 74, 75, 76, 77, 78, 79, 80, 81, 82, 83, 84, 85, 86, 87, 88, 89, 90, 91, 116, 117, 118, 119, 120, 121, 122, 123, 124] (by decide +kernel) (by decide +kernel)
set_option maxRecDepth 20000 in
theorem gX4_readBar_X4_goOn : GoodIn wsX4_readBar (wsV RX4 41 RX4 yX4_goOn wsX4_goOn) := goodIn_app (goodIn_of _ (by decide +kernel)) ggX4_readBar_X4_goOn
set_option maxRecDepth 20000 in
theorem ggX4_readBar_X4_readThing : GoodIn wsX4_readBar wsX4_readThing := goodIn_r _ [95, 3, 1, 96, 97, 11, 12, 13, 7, 14, 15, 16, 17, 9, 18, 19, 20, 21, 22, 23, 24, 25, 26, 27, 28, 29, 30, 31, 32, 33, 34, 35, 36, 37, 38, 39, 40, 41, 42, 43, 44, 45, 46, 47, 48, 49, 50, 51, 52, 53, 54, 55, 56, 57, 58, 59, 60, 61, 62, 63, 64, 65, 66, 67, 68, 69, 70, 71, 72, 73, 74, 75, 76, 77, 78, 79, 80, 81, 82, 83, 84, 85, 86, 87, 88, 89, 90, 91, 98, 99, 100, 101, 4, 5, 6, 8, 10, 116, 117, 118, 119, 120, 121, 122, 123, 124, 131, 132, 133, 134, 135, 136] (by decide +kernel) (by decide +kernel)
set_option maxRecDepth 20000 in
theorem gX4_readBar_X4_readThing : GoodIn wsX4_readBar (wsV RX4 53 RX4 yX4_readThing wsX4_readThing) := goodIn_app (goodIn_of _ (by decide +kernel)) ggX4_readBar_X4_readThing
set_option maxRecDepth 20000 in
theorem ggX4_readBar_X4_readNumber : GoodIn wsX4_readBar wsX4_readNumber := goodIn_r _ [101, 3, 1, 91, 4, 5, 6, 7, 8, 9, 10, 11, 12, 13, 14, 15, 16, 17, 18, 19, 20, 21, 22, 23, 24, 25, 26, 27, 28, 29, 30, 31, 32, 33, 34, 35, 36, 37, 38, 39, 40, 41, 42, 43, 44, 45, 46, 47, 48, 49, 50, 51, 52, 53, 54, 55, 56, 57, 58, 59, 60, 61, 62, 63, 64, 65, 66, 67, 68, 69, 70, 71, 72, 73, 74, 75, 76, 77, 78, 79, 80, 81, 82, 83, 84, 85, 86, 87, 88, 89, 90, 116, 117, 118, 119, 120, 121, 122, 123, 124] (by decide +kernel) (by decide +kernel)
set_option maxRecDepth 20000 in
theorem gX4_readBar_X4_readNumber : GoodIn wsX4_readBar (wsV RX4 57 RX4 yX4_readNumber wsX4_readNumber) := goodIn_app (goodIn_of _ (by decide +kernel)) ggX4_readBar_X4_readNumber
set_option maxRecDepth 20000 in
theorem ggX4_readBar_X4_readSemicolon : GoodIn wsX4_readBar wsX4_readSemicolon := goodIn_r _ [105, 3, 1, 4, 5, 6, 7, 8, 9, 10, 11, 12, 13, 14, 15, 16, 17, 18, 19, 20, 21, 22, 23, 24, 25, 26, 27, 28, 29, 30, 31, 32, 33, 34, 35, 36, 37, 38, 39, 40, 41, 42, 43, 44, 45, 46, 47, 48, 49, 50, 51, 52, 53, 54, 55, 56, 57, 58, 59, 60, 61, 62, 63, 64, 65, 66, 67, 68, 69, 70, 71, 72, 73, 74, 75, 76, 77, 78, 79, 80, 81, 82, 83, 84, 85, 86, 87, 88, 89, 90, 91, 116, 117, 118, 119, 120, 121, 122, 123, 124] (by decide +kernel) (by decide +kernel)
set_option maxRecDepth 20000 in
theorem gX4_readBar_X4_readSemicolon : GoodIn wsX4_readBar (wsV RX4 61 RX4 yX4_readSemicolon wsX4_readSemicolon) := goodIn_app (goodIn_of _ (by decide +kernel)) ggX4_readBar_X4_readSemicolon
set_option maxRecDepth 20000 in
theorem ggX4_readBar_X0_add : GoodIn wsX4_readBar wsX0_add := goodIn_r _ [110, 111, 112, 113, 114, 115, 125, 126, 127, 128, 129, 130] (by decide +kernel) (by decide +kernel)
set_option maxRecDepth 20000 in
theorem gX4_readBar_X0_add : GoodIn wsX4_readBar (wsV RX4 64 RX0 yX0_add wsX0_add) := goodIn_app (goodIn_of _ (by decide +kernel)) ggX4_readBar_X0_add
theorem dX4_readBar_0 : decode cX4_readBar 0 = .ok (.aload_n 0, 1) := by decide +kernel
theorem dX4_readBar_1 : decode cX4_readBar 1 = .ok (.getfield 25, 3) := by decide +kernel
theorem dX4_readBar_4 : decode cX4_readBar 4 = .ok (.istore_n 2, 1) := by decide +kernel
theorem dX4_readBar_5 : decode cX4_readBar 5 = .ok (.iload_n 2, 1) := by decide +kernel
theorem dX4_readBar_6 : decode cX4_readBar 6 = .ok (.iconst 1, 1) := by decide +kernel
theorem dX4_readBar_7 : decode cX4_readBar 7 = .ok (.if_icmp .eq 29, 3) := by decide +kernel
theorem dX4_readBar_10 : decode cX4_readBar 10 = .ok (.iload_n 2, 1) := by decide +kernel
theorem dX4_readBar_11 : decode cX4_readBar 11 = .ok (.iconst 2, 1) := by decide +kernel
theorem dX4_readBar_12 : decode cX4_readBar 12 = .ok (.if_icmp .eq 24, 3) := by decide +kernel
theorem dX4_readBar_15 : decode cX4_readBar 15 = .ok (.iload_n 2, 1) := by decide +kernel
theorem dX4_readBar_16 : decode cX4_readBar 16 = .ok (.iconst 3, 1) := by decide +kernel
theorem dX4_readBar_17 : decode cX4_readBar 17 = .ok (.if_icmp .eq 19, 3) := by decide +kernel
theorem dX4_readBar_20 : decode cX4_readBar 20 = .ok (.iload_n 2, 1) := by decide +kernel
theorem dX4_readBar_21 : decode cX4_readBar 21 = .ok (.iconst 4, 1) := by decide +kernel
theorem dX4_readBar_22 : decode cX4_readBar 22 = .ok (.if_icmp .eq 14, 3) := by decide +kernel
theorem dX4_readBar_25 : decode cX4_readBar 25 = .ok (.iload_n 2, 1) := by decide +kernel
theorem dX4_readBar_26 : decode cX4_readBar 26 = .ok (.iconst 5, 1) := by decide +kernel
theorem dX4_readBar_27 : decode cX4_readBar 27 = .ok (.if_icmp .eq 9, 3) := by decide +kernel
theorem dX4_readBar_30 : decode cX4_readBar 30 = .ok (.aload_n 0, 1) := by decide +kernel
theorem dX4_readBar_31 : decode cX4_readBar 31 = .ok (.iconst 1, 1) := by decide +kernel
theorem dX4_readBar_32 : decode cX4_readBar 32 = .ok (.invokevirtual 44, 3) := by decide +kernel
theorem dX4_readBar_35 : decode cX4_readBar 35 = .ok (.return_, 1) := by decide +kernel
theorem dX4_readBar_36 : decode cX4_readBar 36 = .ok (.aload_n 1, 1) := by decide +kernel
theorem dX4_readBar_37 : decode cX4_readBar 37 = .ok (.getfield 48, 3) := by decide +kernel
theorem dX4_readBar_40 : decode cX4_readBar 40 = .ok (.bipush 10, 2) := by decide +kernel
theorem dX4_readBar_42 : decode cX4_readBar 42 = .ok (.if_icmp .lt 9, 3) := by decide +kernel
theorem dX4_readBar_45 : decode cX4_readBar 45 = .ok (.aload_n 0, 1) := by decide +kernel
theorem dX4_readBar_46 : decode cX4_readBar 46 = .ok (.iconst 3, 1) := by decide +kernel
theorem dX4_readBar_47 : decode cX4_readBar 47 = .ok (.invokevirtual 44, 3) := by decide +kernel
theorem dX4_readBar_50 : decode cX4_readBar 50 = .ok (.return_, 1) := by decide +kernel
theorem dX4_readBar_51 : decode cX4_readBar 51 = .ok (.aload_n 0, 1) := by decide +kernel
theorem dX4_readBar_52 : decode cX4_readBar 52 = .ok (.invokevirtual 41, 3) := by decide +kernel
theorem dX4_readBar_55 : decode cX4_readBar 55 = .ok (.iload_n 2, 1) := by decide +kernel
theorem dX4_readBar_56 : decode cX4_readBar 56 = .ok (.iconst 5, 1) := by decide +kernel
theorem dX4_readBar_57 : decode cX4_readBar 57 = .ok (.if_icmp .ne 7, 3) := by decide +kernel
theorem dX4_readBar_60 : decode cX4_readBar 60 = .ok (.iconst 0, 1) := by decide +kernel
theorem dX4_readBar_61 : decode cX4_readBar 61 = .ok (.goto 7, 3) := by decide +kernel
theorem dX4_readBar_64 : decode cX4_readBar 64 = .ok (.aload_n 0, 1) := by decide +kernel
theorem dX4_readBar_65 : decode cX4_readBar 65 = .ok (.invokevirtual 53, 3) := by decide +kernel
theorem dX4_readBar_68 : decode cX4_readBar 68 = .ok (.istore_n 3, 1) := by decide +kernel
theorem dX4_readBar_69 : decode cX4_readBar 69 = .ok (.iload_n 2, 1) := by decide +kernel
theorem dX4_readBar_70 : decode cX4_readBar 70 = .ok (.iconst 1, 1) := by decide +kernel
theorem dX4_readBar_71 : decode cX4_readBar 71 = .ok (.if_icmp .eq 8, 3) := by decide +kernel
theorem dX4_readBar_74 : decode cX4_readBar 74 = .ok (.iload_n 2, 1) := by decide +kernel
theorem dX4_readBar_75 : decode cX4_readBar 75 = .ok (.iconst 2, 1) := by decide +kernel
theorem dX4_readBar_76 : decode cX4_readBar 76 = .ok (.if_icmp .ne 10, 3) := by decide +kernel
theorem dX4_readBar_79 : decode cX4_readBar 79 = .ok (.aload_n 0, 1) := by decide +kernel
theorem dX4_readBar_80 : decode cX4_readBar 80 = .ok (.invokevirtual 53, 3) := by decide +kernel
theorem dX4_readBar_83 : decode cX4_readBar 83 = .ok (.goto 4, 3) := by decide +kernel
theorem dX4_readBar_86 : decode cX4_readBar 86 = .ok (.iconst 0, 1) := by decide +kernel
theorem dX4_readBar_87 : decode cX4_readBar 87 = .ok (.istore 4, 2) := by decide +kernel
theorem dX4_readBar_89 : decode cX4_readBar 89 = .ok (.iconst 0, 1) := by decide +kernel
theorem dX4_readBar_90 : decode cX4_readBar 90 = .ok (.istore 5, 2) := by decide +kernel
theorem dX4_readBar_92 : decode cX4_readBar 92 = .ok (.iload_n 2, 1) := by decide +kernel
theorem dX4_readBar_93 : decode cX4_readBar 93 = .ok (.iconst 1, 1) := by decide +kernel
theorem dX4_readBar_94 : decode cX4_readBar 94 = .ok (.if_icmp .ne 15, 3) := by decide +kernel
theorem dX4_readBar_97 : decode cX4_readBar 97 = .ok (.aload_n 0, 1) := by decide +kernel
theorem dX4_readBar_98 : decode cX4_readBar 98 = .ok (.iconst 1, 1) := by decide +kernel
theorem dX4_readBar_99 : decode cX4_readBar 99 = .ok (.bipush 7, 2) := by decide +kernel
theorem dX4_readBar_101 : decode cX4_readBar 101 = .ok (.invokevirtual 57, 3) := by decide +kernel
theorem dX4_readBar_104 : decode cX4_readBar 104 = .ok (.istore 5, 2) := by decide +kernel
theorem dX4_readBar_106 : decode cX4_readBar 106 = .ok (.goto 17, 3) := by decide +kernel
theorem dX4_readBar_109 : decode cX4_readBar 109 = .ok (.iload_n 2, 1) := by decide +kernel
theorem dX4_readBar_110 : decode cX4_readBar 110 = .ok (.iconst 5, 1) := by decide +kernel
theorem dX4_readBar_111 : decode cX4_readBar 111 = .ok (.if_icmp .ne 12, 3) := by decide +kernel
theorem dX4_readBar_114 : decode cX4_readBar 114 = .ok (.aload_n 0, 1) := by decide +kernel
theorem dX4_readBar_115 : decode cX4_readBar 115 = .ok (.iconst 0, 1) := by decide +kernel
theorem dX4_readBar_116 : decode cX4_readBar 116 = .ok (.bipush 18, 2) := by decide +kernel
theorem dX4_readBar_118 : decode cX4_readBar 118 = .ok (.invokevirtual 57, 3) := by decide +kernel
theorem dX4_readBar_121 : decode cX4_readBar 121 = .ok (.istore 5, 2) := by decide +kernel
theorem dX4_readBar_123 : decode cX4_readBar 123 = .ok (.aload_n 0, 1) := by decide +kernel
theorem dX4_readBar_124 : decode cX4_readBar 124 = .ok (.invokevirtual 61, 3) := by decide +kernel
theorem dX4_readBar_127 : decode cX4_readBar 127 = .ok (.aload_n 0, 1) := by decide +kernel
theorem dX4_readBar_128 : decode cX4_readBar 128 = .ok (.getfield 19, 3) := by decide +kernel
theorem dX4_readBar_131 : decode cX4_readBar 131 = .ok (.ifCond .ne 13, 3) := by decide +kernel
theorem dX4_readBar_134 : decode cX4_readBar 134 = .ok (.aload_n 1, 1) := by decide +kernel
theorem dX4_readBar_135 : decode cX4_readBar 135 = .ok (.iload_n 2, 1) := by decide +kernel
theorem dX4_readBar_136 : decode cX4_readBar 136 = .ok (.iload_n 3, 1) := by decide +kernel
theorem dX4_readBar_137 : decode cX4_readBar 137 = .ok (.iload 4, 2) := by decide +kernel
theorem dX4_readBar_139 : decode cX4_readBar 139 = .ok (.iload 5, 2) := by decide +kernel
theorem dX4_readBar_141 : decode cX4_readBar 141 = .ok (.invokevirtual 64, 3) := by decide +kernel
theorem dX4_readBar_144 : decode cX4_readBar 144 = .ok (.return_, 1) := by decide +kernel
set_option maxRecDepth 20000 in
theorem ggX4_readThing_X4_goOn : GoodIn wsX4_readThing wsX4_goOn := goodIn_r _ [9, 10, 11, 12, 13, 2, 14, 15, 8, 16, 17, 18, 19, 20, 21, 22, 23, 24, 25, 26, 27, 28, 29, 30, 31, 32, 33, 34, 35, 36, 37, 38, 39, 40, 41, 42, 43, 44, 45, 46, 47, 48, 49, 50, 51, 52, 53, 54, 55, 56, 57, 58, 59, 60, 61, 62, 63, 64, 65, 66, 67, 68, 69, 70, 71, 72, 73, 74, 75, 76, 77, 78, 79, 80, 81, 82, 83, 84, 85, 86, 87, 97, 98, 99, 100, 101, 102, 103, 104, 105] (by decide +kernel) (by decide +kernel)
set_option maxRecDepth 20000 in
theorem gX4_readThing_X4_goOn : GoodIn wsX4_readThing (wsV RX4 41 RX4 yX4_goOn wsX4_goOn) := goodIn_app (goodIn_of _ (by decide +kernel)) ggX4_readThing_X4_goOn
set_option maxRecDepth 20000 in
theorem ggX4_readThing_X4_readNumber : GoodIn wsX4_readThing wsX4_readNumber := goodIn_r _ [91, 1, 2, 87, 92, 93, 94, 8, 95, 13, 96, 5, 6, 7, 9, 10, 11, 12, 14, 15, 16, 17, 18, 19, 20, 21, 22, 23, 24, 25, 26, 27, 28, 29, 30, 31, 32, 33, 34, 35, 36, 37, 38, 39, 40, 41, 42, 43, 44, 45, 46, 47, 48, 49, 50, 51, 52, 53, 54, 55, 56, 57, 58, 59, 60, 61, 62, 63, 64, 65, 66, 67, 68, 69, 70, 71, 72, 73, 74, 75, 76, 77, 78, 79, 80, 81, 82, 83, 84, 85, 86, 97, 98, 99, 100, 101, 102, 103, 104, 105] (by decide +kernel) (by decide +kernel)
set_option maxRecDepth 20000 in
theorem gX4_readThing_X4_readNumber : GoodIn wsX4_readThing (wsV RX4 57 RX4 yX4_readNumber wsX4_readNumber) := goodIn_app (goodIn_of _ (by decide +kernel)) ggX4_readThing_X4_readNumber
theorem dX4_readThing_0 : decode cX4_readThing 0 = .ok (.aload_n 0, 1) := by decide +kernel
theorem dX4_readThing_1 : decode cX4_readThing 1 = .ok (.getfield 19, 3) := by decide +kernel
theorem dX4_readThing_4 : decode cX4_readThing 4 = .ok (.ifCond .ne 26, 3) := by decide +kernel
theorem dX4_readThing_7 : decode cX4_readThing 7 = .ok (.aload_n 0, 1) := by decide +kernel
theorem dX4_readThing_8 : decode cX4_readThing 8 = .ok (.getfield 25, 3) := by decide +kernel
theorem dX4_readThing_11 : decode cX4_readThing 11 = .ok (.bipush 6, 2) := by decide +kernel
theorem dX4_readThing_13 : decode cX4_readThing 13 = .ok (.if_icmp .ne 17, 3) := by decide +kernel
theorem dX4_readThing_16 : decode cX4_readThing 16 = .ok (.aload_n 0, 1) := by decide +kernel
theorem dX4_readThing_17 : decode cX4_readThing 17 = .ok (.invokevirtual 41, 3) := by decide +kernel
theorem dX4_readThing_20 : decode cX4_readThing 20 = .ok (.bipush 8, 2) := by decide +kernel
theorem dX4_readThing_22 : decode cX4_readThing 22 = .ok (.aload_n 0, 1) := by decide +kernel
theorem dX4_readThing_23 : decode cX4_readThing 23 = .ok (.iconst 0, 1) := by decide +kernel
theorem dX4_readThing_24 : decode cX4_readThing 24 = .ok (.iconst 4, 1) := by decide +kernel
theorem dX4_readThing_25 : decode cX4_readThing 25 = .ok (.invokevirtual 57, 3) := by decide +kernel
theorem dX4_readThing_28 : decode cX4_readThing 28 = .ok (.iadd, 1) := by decide +kernel
theorem dX4_readThing_29 : decode cX4_readThing 29 = .ok (.ireturn, 1) := by decide +kernel
theorem dX4_readThing_30 : decode cX4_readThing 30 = .ok (.aload_n 0, 1) := by decide +kernel
theorem dX4_readThing_31 : decode cX4_readThing 31 = .ok (.iconst 0, 1) := by decide +kernel
theorem dX4_readThing_32 : decode cX4_readThing 32 = .ok (.aload_n 0, 1) := by decide +kernel
theorem dX4_readThing_33 : decode cX4_readThing 33 = .ok (.getfield 37, 3) := by decide +kernel
theorem dX4_readThing_36 : decode cX4_readThing 36 = .ok (.getfield 68, 3) := by decide +kernel
theorem dX4_readThing_39 : decode cX4_readThing 39 = .ok (.iconst 1, 1) := by decide +kernel
theorem dX4_readThing_40 : decode cX4_readThing 40 = .ok (.isub, 1) := by decide +kernel
theorem dX4_readThing_41 : decode cX4_readThing 41 = .ok (.invokevirtual 57, 3) := by decide +kernel
theorem dX4_readThing_44 : decode cX4_readThing 44 = .ok (.ireturn, 1) := by decide +kernel
set_option maxRecDepth 20000 in
theorem ggX4_readNumber_X4_refuse : GoodIn wsX4_readNumber wsX4_refuse := goodIn_r _ [8, 1, 9, 10, 91, 92, 93, 94, 95, 96, 97, 98, 99] (by decide +kernel) (by decide +kernel)
set_option maxRecDepth 20000 in
theorem gX4_readNumber_X4_refuse : GoodIn wsX4_readNumber (wsV RX4 44 RX4 yX4_refuse wsX4_refuse) := goodIn_app (goodIn_of _ (by decide +kernel)) ggX4_readNumber_X4_refuse
set_option maxRecDepth 20000 in
theorem ggX4_readNumber_X4_goOn : GoodIn wsX4_readNumber wsX4_goOn := goodIn_r _ [14, 15, 16, 17, 9, 2, 18, 19, 7, 20, 21, 22, 23, 24, 25, 26, 27, 28, 29, 30, 31, 32, 33, 34, 35, 36, 37, 38, 39, 40, 41, 42, 43, 44, 45, 46, 47, 48, 49, 50, 51, 52, 53, 54, 55, 56, 57, 58, 59, 60, 61, 62, 63, 64, 65, 66, 67, 68, 69, 70, 71, 72, 73, 74, 75, 76, 77, 78, 79, 80, 81, 82, 83, 84, 85, 86, 87, 88, 89, 90, 3, 91, 92, 93, 94, 95, 96, 97, 98, 99] (by decide +kernel) (by decide +kernel)
set_option maxRecDepth 20000 in
theorem gX4_readNumber_X4_goOn : GoodIn wsX4_readNumber (wsV RX4 41 RX4 yX4_goOn wsX4_goOn) := goodIn_app (goodIn_of _ (by decide +kernel)) ggX4_readNumber_X4_goOn
theorem dX4_readNumber_0 : decode cX4_readNumber 0 = .ok (.aload_n 0, 1) := by decide +kernel
theorem dX4_readNumber_1 : decode cX4_readNumber 1 = .ok (.getfield 19, 3) := by decide +kernel
theorem dX4_readNumber_4 : decode cX4_readNumber 4 = .ok (.ifCond .eq 5, 3) := by decide +kernel
theorem dX4_readNumber_7 : decode cX4_readNumber 7 = .ok (.iconst 0, 1) := by decide +kernel
theorem dX4_readNumber_8 : decode cX4_readNumber 8 = .ok (.ireturn, 1) := by decide +kernel
theorem dX4_readNumber_9 : decode cX4_readNumber 9 = .ok (.aload_n 0, 1) := by decide +kernel
theorem dX4_readNumber_10 : decode cX4_readNumber 10 = .ok (.getfield 25, 3) := by decide +kernel
theorem dX4_readNumber_13 : decode cX4_readNumber 13 = .ok (.bipush 7, 2) := by decide +kernel
theorem dX4_readNumber_15 : decode cX4_readNumber 15 = .ok (.if_icmp .eq 10, 3) := by decide +kernel
theorem dX4_readNumber_18 : decode cX4_readNumber 18 = .ok (.aload_n 0, 1) := by decide +kernel
theorem dX4_readNumber_19 : decode cX4_readNumber 19 = .ok (.iconst 1, 1) := by decide +kernel
theorem dX4_readNumber_20 : decode cX4_readNumber 20 = .ok (.invokevirtual 44, 3) := by decide +kernel
theorem dX4_readNumber_23 : decode cX4_readNumber 23 = .ok (.iconst 0, 1) := by decide +kernel
theorem dX4_readNumber_24 : decode cX4_readNumber 24 = .ok (.ireturn, 1) := by decide +kernel
theorem dX4_readNumber_25 : decode cX4_readNumber 25 = .ok (.aload_n 0, 1) := by decide +kernel
theorem dX4_readNumber_26 : decode cX4_readNumber 26 = .ok (.getfield 34, 3) := by decide +kernel
theorem dX4_readNumber_29 : decode cX4_readNumber 29 = .ok (.iload_n 1, 1) := by decide +kernel
theorem dX4_readNumber_30 : decode cX4_readNumber 30 = .ok (.if_icmp .lt 11, 3) := by decide +kernel
theorem dX4_readNumber_33 : decode cX4_readNumber 33 = .ok (.aload_n 0, 1) := by decide +kernel
theorem dX4_readNumber_34 : decode cX4_readNumber 34 = .ok (.getfield 34, 3) := by decide +kernel
theorem dX4_readNumber_37 : decode cX4_readNumber 37 = .ok (.iload_n 2, 1) := by decide +kernel
theorem dX4_readNumber_38 : decode cX4_readNumber 38 = .ok (.if_icmp .le 10, 3) := by decide +kernel
theorem dX4_readNumber_41 : decode cX4_readNumber 41 = .ok (.aload_n 0, 1) := by decide +kernel
theorem dX4_readNumber_42 : decode cX4_readNumber 42 = .ok (.iconst 2, 1) := by decide +kernel
theorem dX4_readNumber_43 : decode cX4_readNumber 43 = .ok (.invokevirtual 44, 3) := by decide +kernel
theorem dX4_readNumber_46 : decode cX4_readNumber 46 = .ok (.iconst 0, 1) := by decide +kernel
theorem dX4_readNumber_47 : decode cX4_readNumber 47 = .ok (.ireturn, 1) := by decide +kernel
theorem dX4_readNumber_48 : decode cX4_readNumber 48 = .ok (.aload_n 0, 1) := by decide +kernel
theorem dX4_readNumber_49 : decode cX4_readNumber 49 = .ok (.getfield 34, 3) := by decide +kernel
theorem dX4_readNumber_52 : decode cX4_readNumber 52 = .ok (.istore_n 3, 1) := by decide +kernel
theorem dX4_readNumber_53 : decode cX4_readNumber 53 = .ok (.aload_n 0, 1) := by decide +kernel
theorem dX4_readNumber_54 : decode cX4_readNumber 54 = .ok (.invokevirtual 41, 3) := by decide +kernel
theorem dX4_readNumber_57 : decode cX4_readNumber 57 = .ok (.iload_n 3, 1) := by decide +kernel
theorem dX4_readNumber_58 : decode cX4_readNumber 58 = .ok (.ireturn, 1) := by decide +kernel
set_option maxRecDepth 20000 in
theorem ggX4_readSemicolon_X4_refuse : GoodIn wsX4_readSemicolon wsX4_refuse := goodIn_r _ [7, 1, 8, 9, 91, 92, 93, 94, 95, 96, 97, 98, 99] (by decide +kernel) (by decide +kernel)
set_option maxRecDepth 20000 in
theorem gX4_readSemicolon_X4_refuse : GoodIn wsX4_readSemicolon (wsV RX4 44 RX4 yX4_refuse wsX4_refuse) := goodIn_app (goodIn_of _ (by decide +kernel)) ggX4_readSemicolon_X4_refuse
set_option maxRecDepth 20000 in
theorem ggX4_readSemicolon_X4_goOn : GoodIn wsX4_readSemicolon wsX4_goOn := goodIn_r _ [13, 14, 15, 16, 8, 2, 17, 18, 6, 19, 20, 21, 22, 23, 24, 25, 26, 27, 28, 29, 30, 31, 32, 33, 34, 35, 36, 37, 38, 39, 40, 41, 42, 43, 44, 45, 46, 47, 48, 49, 50, 51, 52, 53, 54, 55, 56, 57, 58, 59, 60, 61, 62, 63, 64, 65, 66, 67, 68, 69, 70, 71, 72, 73, 74, 75, 76, 77, 78, 79, 80, 81, 82, 83, 84, 85, 86, 87, 88, 89, 90, 91, 92, 93, 94, 95, 96, 97, 98, 99] (by decide +kernel) (by decide +kernel)
set_option maxRecDepth 20000 in
theorem gX4_readSemicolon_X4_goOn : GoodIn wsX4_readSemicolon (wsV RX4 41 RX4 yX4_goOn wsX4_goOn) := goodIn_app (goodIn_of _ (by decide +kernel)) ggX4_readSemicolon_X4_goOn
theorem dX4_readSemicolon_0 : decode cX4_readSemicolon 0 = .ok (.aload_n 0, 1) := by decide +kernel
theorem dX4_readSemicolon_1 : decode cX4_readSemicolon 1 = .ok (.getfield 19, 3) := by decide +kernel
theorem dX4_readSemicolon_4 : decode cX4_readSemicolon 4 = .ok (.ifCond .eq 4, 3) := by decide +kernel
theorem dX4_readSemicolon_7 : decode cX4_readSemicolon 7 = .ok (.return_, 1) := by decide +kernel
theorem dX4_readSemicolon_8 : decode cX4_readSemicolon 8 = .ok (.aload_n 0, 1) := by decide +kernel
theorem dX4_readSemicolon_9 : decode cX4_readSemicolon 9 = .ok (.getfield 25, 3) := by decide +kernel
theorem dX4_readSemicolon_12 : decode cX4_readSemicolon 12 = .ok (.bipush 8, 2) := by decide +kernel
theorem dX4_readSemicolon_14 : decode cX4_readSemicolon 14 = .ok (.if_icmp .eq 9, 3) := by decide +kernel
theorem dX4_readSemicolon_17 : decode cX4_readSemicolon 17 = .ok (.aload_n 0, 1) := by decide +kernel
theorem dX4_readSemicolon_18 : decode cX4_readSemicolon 18 = .ok (.iconst 1, 1) := by decide +kernel
theorem dX4_readSemicolon_19 : decode cX4_readSemicolon 19 = .ok (.invokevirtual 44, 3) := by decide +kernel
theorem dX4_readSemicolon_22 : decode cX4_readSemicolon 22 = .ok (.return_, 1) := by decide +kernel
theorem dX4_readSemicolon_23 : decode cX4_readSemicolon 23 = .ok (.aload_n 0, 1) := by decide +kernel
theorem dX4_readSemicolon_24 : decode cX4_readSemicolon 24 = .ok (.invokevirtual 41, 3) := by decide +kernel
theorem dX4_readSemicolon_27 : decode cX4_readSemicolon 27 = .ok (.return_, 1) := by decide +kernel
theorem dX4_refuse_0 : decode cX4_refuse 0 = .ok (.aload_n 0, 1) := by decide +kernel
theorem dX4_refuse_1 : decode cX4_refuse 1 = .ok (.iload_n 1, 1) := by decide +kernel
theorem dX4_refuse_2 : decode cX4_refuse 2 = .ok (.putfield 19, 3) := by decide +kernel
theorem dX4_refuse_5 : decode cX4_refuse 5 = .ok (.aload_n 0, 1) := by decide +kernel
theorem dX4_refuse_6 : decode cX4_refuse 6 = .ok (.aload_n 0, 1) := by decide +kernel
theorem dX4_refuse_7 : decode cX4_refuse 7 = .ok (.getfield 28, 3) := by decide +kernel
theorem dX4_refuse_10 : decode cX4_refuse 10 = .ok (.putfield 22, 3) := by decide +kernel
theorem dX4_refuse_13 : decode cX4_refuse 13 = .ok (.return_, 1) := by decide +kernel
set_option maxRecDepth 20000 in
theorem ggX4_goOn_X4_isBlank : GoodIn wsX4_goOn wsX4_isBlank := goodIn_r _ [9] (by decide +kernel) (by decide +kernel)
set_option maxRecDepth 20000 in
theorem gX4_goOn_X4_isBlank : GoodIn wsX4_goOn (va_wsS RX4 71 yX4_isBlank wsX4_isBlank) := goodIn_app (goodIn_of _ (by decide +kernel)) ggX4_goOn_X4_isBlank
set_option maxRecDepth 20000 in
theorem ggX4_goOn_X4_isLetter : GoodIn wsX4_goOn wsX4_isLetter := goodIn_r _ [12] (by decide +kernel) (by decide +kernel)
set_option maxRecDepth 20000 in
theorem gX4_goOn_X4_isLetter : GoodIn wsX4_goOn (va_wsS RX4 75 yX4_isLetter wsX4_isLetter) := goodIn_app (goodIn_of _ (by decide +kernel)) ggX4_goOn_X4_isLetter
set_option maxRecDepth 20000 in
theorem ggX4_goOn_X4_takeLetters : GoodIn wsX4_goOn wsX4_takeLetters := goodIn_r _ [16, 4, 2, 3, 1, 5, 10, 11, 8, 12, 17, 18, 19, 20, 21, 22, 23, 24, 25, 26, 27, 28, 29, 30, 31, 32, 33, 34, 35, 36, 37, 38, 39, 40, 41, 42, 43, 44, 45, 46, 47, 48, 49, 50, 51, 52, 53, 54, 55, 56, 57, 58, 59, 60, 61, 62, 63, 64, 65, 66, 67, 68, 69, 70, 71, 72, 81, 82, 83, 84, 85, 86, 87, 88, 89] (by decide +kernel) (by decide +kernel)
set_option maxRecDepth 20000 in
theorem gX4_goOn_X4_takeLetters : GoodIn wsX4_goOn (wsV RX4 78 RX4 yX4_takeLetters wsX4_takeLetters) := goodIn_app (goodIn_of _ (by decide +kernel)) ggX4_goOn_X4_takeLetters
set_option maxRecDepth 20000 in
theorem ggX4_goOn_X4_isDigit : GoodIn wsX4_goOn wsX4_isDigit := goodIn_r _ [75] (by decide +kernel) (by decide +kernel)
set_option maxRecDepth 20000 in
theorem gX4_goOn_X4_isDigit : GoodIn wsX4_goOn (va_wsS RX4 81 yX4_isDigit wsX4_isDigit) := goodIn_app (goodIn_of _ (by decide +kernel)) ggX4_goOn_X4_isDigit
set_option maxRecDepth 20000 in
theorem ggX4_goOn_X4_takeDigits : GoodIn wsX4_goOn wsX4_takeDigits := goodIn_r _ [79, 4, 80, 2, 3, 1, 5, 73, 74, 8, 75, 81, 82, 83, 84, 85, 86, 87, 88, 89] (by decide +kernel) (by decide +kernel)
set_option maxRecDepth 20000 in
theorem gX4_goOn_X4_takeDigits : GoodIn wsX4_goOn (wsV RX4 84 RX4 yX4_takeDigits wsX4_takeDigits) := goodIn_app (goodIn_of _ (by decide +kernel)) ggX4_goOn_X4_takeDigits
theorem dX4_goOn_0 : decode cX4_goOn 0 = .ok (.aload_n 0, 1) := by decide +kernel
theorem dX4_goOn_1 : decode cX4_goOn 1 = .ok (.getfield 31, 3) := by decide +kernel
theorem dX4_goOn_4 : decode cX4_goOn 4 = .ok (.istore_n 1, 1) := by decide +kernel
theorem dX4_goOn_5 : decode cX4_goOn 5 = .ok (.iload_n 1, 1) := by decide +kernel
theorem dX4_goOn_6 : decode cX4_goOn 6 = .ok (.aload_n 0, 1) := by decide +kernel
theorem dX4_goOn_7 : decode cX4_goOn 7 = .ok (.getfield 15, 3) := by decide +kernel
theorem dX4_goOn_10 : decode cX4_goOn 10 = .ok (.if_icmp .ge 21, 3) := by decide +kernel
theorem dX4_goOn_13 : decode cX4_goOn 13 = .ok (.aload_n 0, 1) := by decide +kernel
theorem dX4_goOn_14 : decode cX4_goOn 14 = .ok (.getfield 11, 3) := by decide +kernel
theorem dX4_goOn_17 : decode cX4_goOn 17 = .ok (.iload_n 1, 1) := by decide +kernel
theorem dX4_goOn_18 : decode cX4_goOn 18 = .ok (.baload, 1) := by decide +kernel
theorem dX4_goOn_19 : decode cX4_goOn 19 = .ok (.invokestatic 71, 3) := by decide +kernel
theorem dX4_goOn_22 : decode cX4_goOn 22 = .ok (.ifCond .eq 9, 3) := by decide +kernel
theorem dX4_goOn_25 : decode cX4_goOn 25 = .ok (.iinc 1 1, 3) := by decide +kernel
theorem dX4_goOn_28 : decode cX4_goOn 28 = .ok (.goto (-23), 3) := by decide +kernel
theorem dX4_goOn_31 : decode cX4_goOn 31 = .ok (.aload_n 0, 1) := by decide +kernel
theorem dX4_goOn_32 : decode cX4_goOn 32 = .ok (.iload_n 1, 1) := by decide +kernel
theorem dX4_goOn_33 : decode cX4_goOn 33 = .ok (.putfield 28, 3) := by decide +kernel
theorem dX4_goOn_36 : decode cX4_goOn 36 = .ok (.iload_n 1, 1) := by decide +kernel
theorem dX4_goOn_37 : decode cX4_goOn 37 = .ok (.aload_n 0, 1) := by decide +kernel
theorem dX4_goOn_38 : decode cX4_goOn 38 = .ok (.getfield 15, 3) := by decide +kernel
theorem dX4_goOn_41 : decode cX4_goOn 41 = .ok (.if_icmp .lt 17, 3) := by decide +kernel
theorem dX4_goOn_44 : decode cX4_goOn 44 = .ok (.aload_n 0, 1) := by decide +kernel
theorem dX4_goOn_45 : decode cX4_goOn 45 = .ok (.iload_n 1, 1) := by decide +kernel
theorem dX4_goOn_46 : decode cX4_goOn 46 = .ok (.putfield 31, 3) := by decide +kernel
theorem dX4_goOn_49 : decode cX4_goOn 49 = .ok (.aload_n 0, 1) := by decide +kernel
theorem dX4_goOn_50 : decode cX4_goOn 50 = .ok (.bipush 9, 2) := by decide +kernel
theorem dX4_goOn_52 : decode cX4_goOn 52 = .ok (.putfield 25, 3) := by decide +kernel
theorem dX4_goOn_55 : decode cX4_goOn 55 = .ok (.goto 70, 3) := by decide +kernel
theorem dX4_goOn_58 : decode cX4_goOn 58 = .ok (.aload_n 0, 1) := by decide +kernel
theorem dX4_goOn_59 : decode cX4_goOn 59 = .ok (.getfield 11, 3) := by decide +kernel
theorem dX4_goOn_62 : decode cX4_goOn 62 = .ok (.iload_n 1, 1) := by decide +kernel
theorem dX4_goOn_63 : decode cX4_goOn 63 = .ok (.baload, 1) := by decide +kernel
theorem dX4_goOn_64 : decode cX4_goOn 64 = .ok (.invokestatic 75, 3) := by decide +kernel
theorem dX4_goOn_67 : decode cX4_goOn 67 = .ok (.ifCond .eq 10, 3) := by decide +kernel
theorem dX4_goOn_70 : decode cX4_goOn 70 = .ok (.aload_n 0, 1) := by decide +kernel
theorem dX4_goOn_71 : decode cX4_goOn 71 = .ok (.invokevirtual 78, 3) := by decide +kernel
theorem dX4_goOn_74 : decode cX4_goOn 74 = .ok (.goto 51, 3) := by decide +kernel
theorem dX4_goOn_77 : decode cX4_goOn 77 = .ok (.aload_n 0, 1) := by decide +kernel
theorem dX4_goOn_78 : decode cX4_goOn 78 = .ok (.getfield 11, 3) := by decide +kernel
theorem dX4_goOn_81 : decode cX4_goOn 81 = .ok (.iload_n 1, 1) := by decide +kernel
theorem dX4_goOn_82 : decode cX4_goOn 82 = .ok (.baload, 1) := by decide +kernel
theorem dX4_goOn_83 : decode cX4_goOn 83 = .ok (.invokestatic 81, 3) := by decide +kernel
theorem dX4_goOn_86 : decode cX4_goOn 86 = .ok (.ifCond .eq 10, 3) := by decide +kernel
theorem dX4_goOn_89 : decode cX4_goOn 89 = .ok (.aload_n 0, 1) := by decide +kernel
theorem dX4_goOn_90 : decode cX4_goOn 90 = .ok (.invokevirtual 84, 3) := by decide +kernel
theorem dX4_goOn_93 : decode cX4_goOn 93 = .ok (.goto 32, 3) := by decide +kernel
theorem dX4_goOn_96 : decode cX4_goOn 96 = .ok (.aload_n 0, 1) := by decide +kernel
theorem dX4_goOn_97 : decode cX4_goOn 97 = .ok (.iload_n 1, 1) := by decide +kernel
theorem dX4_goOn_98 : decode cX4_goOn 98 = .ok (.iconst 1, 1) := by decide +kernel
theorem dX4_goOn_99 : decode cX4_goOn 99 = .ok (.iadd, 1) := by decide +kernel
theorem dX4_goOn_100 : decode cX4_goOn 100 = .ok (.putfield 31, 3) := by decide +kernel
theorem dX4_goOn_103 : decode cX4_goOn 103 = .ok (.aload_n 0, 1) := by decide +kernel
theorem dX4_goOn_104 : decode cX4_goOn 104 = .ok (.aload_n 0, 1) := by decide +kernel
theorem dX4_goOn_105 : decode cX4_goOn 105 = .ok (.getfield 11, 3) := by decide +kernel
theorem dX4_goOn_108 : decode cX4_goOn 108 = .ok (.iload_n 1, 1) := by decide +kernel
theorem dX4_goOn_109 : decode cX4_goOn 109 = .ok (.baload, 1) := by decide +kernel
theorem dX4_goOn_110 : decode cX4_goOn 110 = .ok (.bipush 59, 2) := by decide +kernel
theorem dX4_goOn_112 : decode cX4_goOn 112 = .ok (.if_icmp .ne 8, 3) := by decide +kernel
theorem dX4_goOn_115 : decode cX4_goOn 115 = .ok (.bipush 8, 2) := by decide +kernel
theorem dX4_goOn_117 : decode cX4_goOn 117 = .ok (.goto 5, 3) := by decide +kernel
theorem dX4_goOn_120 : decode cX4_goOn 120 = .ok (.bipush 10, 2) := by decide +kernel
theorem dX4_goOn_122 : decode cX4_goOn 122 = .ok (.putfield 25, 3) := by decide +kernel
theorem dX4_goOn_125 : decode cX4_goOn 125 = .ok (.return_, 1) := by decide +kernel
set_option maxRecDepth 20000 in
theorem ggX4_takeLetters_X4_isLetter : GoodIn wsX4_takeLetters wsX4_isLetter := goodIn_r _ [9] (by decide +kernel) (by decide +kernel)
set_option maxRecDepth 20000 in
theorem gX4_takeLetters_X4_isLetter : GoodIn wsX4_takeLetters (va_wsS RX4 75 yX4_isLetter wsX4_isLetter) := goodIn_app (goodIn_of _ (by decide +kernel)) ggX4_takeLetters_X4_isLetter
set_option maxRecDepth 20000 in
theorem ggX4_takeLetters_X4_textOf : GoodIn wsX4_takeLetters wsX4_textOf := goodIn_r _ [12] (by decide +kernel) (by decide +kernel)
set_option maxRecDepth 20000 in
theorem gX4_takeLetters_X4_textOf : GoodIn wsX4_takeLetters (va_wsS RX4 87 yX4_textOf wsX4_textOf) := goodIn_app (goodIn_of _ (by decide +kernel)) ggX4_takeLetters_X4_textOf
set_option maxRecDepth 20000 in
theorem ggX4_takeLetters_X4_tokenIs : GoodIn wsX4_takeLetters wsX4_tokenIs := goodIn_r _ [16, 4, 1, 3, 17, 18, 19, 20, 21, 22, 23, 24, 25, 26, 27, 28, 29, 30, 31, 32, 33, 34, 35, 36, 37, 38, 39, 40, 41, 42, 43, 44, 45, 46, 47, 48, 49, 50, 51, 52, 53, 54, 55, 56, 57, 58, 59, 60, 61, 62, 63, 64, 65, 66, 67, 68, 69, 70, 71, 72, 73, 74] (by decide +kernel) (by decide +kernel)
set_option maxRecDepth 20000 in
theorem gX4_takeLetters_X4_tokenIs : GoodIn wsX4_takeLetters (wsV RX4 91 RX4 yX4_tokenIs wsX4_tokenIs) := goodIn_app (goodIn_of _ (by decide +kernel)) ggX4_takeLetters_X4_tokenIs
theorem dX4_takeLetters_0 : decode cX4_takeLetters 0 = .ok (.aload_n 0, 1) := by decide +kernel
theorem dX4_takeLetters_1 : decode cX4_takeLetters 1 = .ok (.getfield 28, 3) := by decide +kernel
theorem dX4_takeLetters_4 : decode cX4_takeLetters 4 = .ok (.istore_n 1, 1) := by decide +kernel
theorem dX4_takeLetters_5 : decode cX4_takeLetters 5 = .ok (.iload_n 1, 1) := by decide +kernel
theorem dX4_takeLetters_6 : decode cX4_takeLetters 6 = .ok (.aload_n 0, 1) := by decide +kernel
theorem dX4_takeLetters_7 : decode cX4_takeLetters 7 = .ok (.getfield 15, 3) := by decide +kernel
theorem dX4_takeLetters_10 : decode cX4_takeLetters 10 = .ok (.if_icmp .ge 21, 3) := by decide +kernel
theorem dX4_takeLetters_13 : decode cX4_takeLetters 13 = .ok (.aload_n 0, 1) := by decide +kernel
theorem dX4_takeLetters_14 : decode cX4_takeLetters 14 = .ok (.getfield 11, 3) := by decide +kernel
theorem dX4_takeLetters_17 : decode cX4_takeLetters 17 = .ok (.iload_n 1, 1) := by decide +kernel
theorem dX4_takeLetters_18 : decode cX4_takeLetters 18 = .ok (.baload, 1) := by decide +kernel
theorem dX4_takeLetters_19 : decode cX4_takeLetters 19 = .ok (.invokestatic 75, 3) := by decide +kernel
theorem dX4_takeLetters_22 : decode cX4_takeLetters 22 = .ok (.ifCond .eq 9, 3) := by decide +kernel
theorem dX4_takeLetters_25 : decode cX4_takeLetters 25 = .ok (.iinc 1 1, 3) := by decide +kernel
theorem dX4_takeLetters_28 : decode cX4_takeLetters 28 = .ok (.goto (-23), 3) := by decide +kernel
theorem dX4_takeLetters_31 : decode cX4_takeLetters 31 = .ok (.aload_n 0, 1) := by decide +kernel
theorem dX4_takeLetters_32 : decode cX4_takeLetters 32 = .ok (.iload_n 1, 1) := by decide +kernel
theorem dX4_takeLetters_33 : decode cX4_takeLetters 33 = .ok (.putfield 31, 3) := by decide +kernel
theorem dX4_takeLetters_36 : decode cX4_takeLetters 36 = .ok (.aload_n 0, 1) := by decide +kernel
theorem dX4_takeLetters_37 : decode cX4_takeLetters 37 = .ok (.bipush 10, 2) := by decide +kernel
theorem dX4_takeLetters_39 : decode cX4_takeLetters 39 = .ok (.putfield 25, 3) := by decide +kernel
theorem dX4_takeLetters_42 : decode cX4_takeLetters 42 = .ok (.iconst 1, 1) := by decide +kernel
theorem dX4_takeLetters_43 : decode cX4_takeLetters 43 = .ok (.istore_n 2, 1) := by decide +kernel
theorem dX4_takeLetters_44 : decode cX4_takeLetters 44 = .ok (.iload_n 2, 1) := by decide +kernel
theorem dX4_takeLetters_45 : decode cX4_takeLetters 45 = .ok (.bipush 6, 2) := by decide +kernel
theorem dX4_takeLetters_47 : decode cX4_takeLetters 47 = .ok (.if_icmp .gt 25, 3) := by decide +kernel
theorem dX4_takeLetters_50 : decode cX4_takeLetters 50 = .ok (.aload_n 0, 1) := by decide +kernel
theorem dX4_takeLetters_51 : decode cX4_takeLetters 51 = .ok (.iload_n 2, 1) := by decide +kernel
theorem dX4_takeLetters_52 : decode cX4_takeLetters 52 = .ok (.invokestatic 87, 3) := by decide +kernel
theorem dX4_takeLetters_55 : decode cX4_takeLetters 55 = .ok (.invokevirtual 91, 3) := by decide +kernel
theorem dX4_takeLetters_58 : decode cX4_takeLetters 58 = .ok (.ifCond .eq 8, 3) := by decide +kernel
theorem dX4_takeLetters_61 : decode cX4_takeLetters 61 = .ok (.aload_n 0, 1) := by decide +kernel
theorem dX4_takeLetters_62 : decode cX4_takeLetters 62 = .ok (.iload_n 2, 1) := by decide +kernel
theorem dX4_takeLetters_63 : decode cX4_takeLetters 63 = .ok (.putfield 25, 3) := by decide +kernel
theorem dX4_takeLetters_66 : decode cX4_takeLetters 66 = .ok (.iinc 2 1, 3) := by decide +kernel
theorem dX4_takeLetters_69 : decode cX4_takeLetters 69 = .ok (.goto (-25), 3) := by decide +kernel
theorem dX4_takeLetters_72 : decode cX4_takeLetters 72 = .ok (.return_, 1) := by decide +kernel
set_option maxRecDepth 20000 in
theorem ggX4_takeDigits_X4_isDigit : GoodIn wsX4_takeDigits wsX4_isDigit := goodIn_r _ [10] (by decide +kernel) (by decide +kernel)
set_option maxRecDepth 20000 in
theorem gX4_takeDigits_X4_isDigit : GoodIn wsX4_takeDigits (va_wsS RX4 81 yX4_isDigit wsX4_isDigit) := goodIn_app (goodIn_of _ (by decide +kernel)) ggX4_takeDigits_X4_isDigit
theorem dX4_takeDigits_0 : decode cX4_takeDigits 0 = .ok (.aload_n 0, 1) := by decide +kernel
theorem dX4_takeDigits_1 : decode cX4_takeDigits 1 = .ok (.getfield 28, 3) := by decide +kernel
theorem dX4_takeDigits_4 : decode cX4_takeDigits 4 = .ok (.istore_n 1, 1) := by decide +kernel
theorem dX4_takeDigits_5 : decode cX4_takeDigits 5 = .ok (.aload_n 0, 1) := by decide +kernel
theorem dX4_takeDigits_6 : decode cX4_takeDigits 6 = .ok (.iconst 0, 1) := by decide +kernel
theorem dX4_takeDigits_7 : decode cX4_takeDigits 7 = .ok (.putfield 34, 3) := by decide +kernel
theorem dX4_takeDigits_10 : decode cX4_takeDigits 10 = .ok (.iload_n 1, 1) := by decide +kernel
theorem dX4_takeDigits_11 : decode cX4_takeDigits 11 = .ok (.aload_n 0, 1) := by decide +kernel
theorem dX4_takeDigits_12 : decode cX4_takeDigits 12 = .ok (.getfield 15, 3) := by decide +kernel
theorem dX4_takeDigits_15 : decode cX4_takeDigits 15 = .ok (.if_icmp .ge 46, 3) := by decide +kernel
theorem dX4_takeDigits_18 : decode cX4_takeDigits 18 = .ok (.aload_n 0, 1) := by decide +kernel
theorem dX4_takeDigits_19 : decode cX4_takeDigits 19 = .ok (.getfield 11, 3) := by decide +kernel
theorem dX4_takeDigits_22 : decode cX4_takeDigits 22 = .ok (.iload_n 1, 1) := by decide +kernel
theorem dX4_takeDigits_23 : decode cX4_takeDigits 23 = .ok (.baload, 1) := by decide +kernel
theorem dX4_takeDigits_24 : decode cX4_takeDigits 24 = .ok (.invokestatic 81, 3) := by decide +kernel
theorem dX4_takeDigits_27 : decode cX4_takeDigits 27 = .ok (.ifCond .eq 34, 3) := by decide +kernel
theorem dX4_takeDigits_30 : decode cX4_takeDigits 30 = .ok (.aload_n 0, 1) := by decide +kernel
theorem dX4_takeDigits_31 : decode cX4_takeDigits 31 = .ok (.aload_n 0, 1) := by decide +kernel
theorem dX4_takeDigits_32 : decode cX4_takeDigits 32 = .ok (.getfield 34, 3) := by decide +kernel
theorem dX4_takeDigits_35 : decode cX4_takeDigits 35 = .ok (.bipush 10, 2) := by decide +kernel
theorem dX4_takeDigits_37 : decode cX4_takeDigits 37 = .ok (.imul, 1) := by decide +kernel
theorem dX4_takeDigits_38 : decode cX4_takeDigits 38 = .ok (.aload_n 0, 1) := by decide +kernel
theorem dX4_takeDigits_39 : decode cX4_takeDigits 39 = .ok (.getfield 11, 3) := by decide +kernel
theorem dX4_takeDigits_42 : decode cX4_takeDigits 42 = .ok (.iload_n 1, 1) := by decide +kernel
theorem dX4_takeDigits_43 : decode cX4_takeDigits 43 = .ok (.baload, 1) := by decide +kernel
theorem dX4_takeDigits_44 : decode cX4_takeDigits 44 = .ok (.iadd, 1) := by decide +kernel
theorem dX4_takeDigits_45 : decode cX4_takeDigits 45 = .ok (.bipush 48, 2) := by decide +kernel
theorem dX4_takeDigits_47 : decode cX4_takeDigits 47 = .ok (.isub, 1) := by decide +kernel
theorem dX4_takeDigits_48 : decode cX4_takeDigits 48 = .ok (.sipush 1000, 3) := by decide +kernel
theorem dX4_takeDigits_51 : decode cX4_takeDigits 51 = .ok (.irem, 1) := by decide +kernel
theorem dX4_takeDigits_52 : decode cX4_takeDigits 52 = .ok (.putfield 34, 3) := by decide +kernel
theorem dX4_takeDigits_55 : decode cX4_takeDigits 55 = .ok (.iinc 1 1, 3) := by decide +kernel
theorem dX4_takeDigits_58 : decode cX4_takeDigits 58 = .ok (.goto (-48), 3) := by decide +kernel
theorem dX4_takeDigits_61 : decode cX4_takeDigits 61 = .ok (.aload_n 0, 1) := by decide +kernel
theorem dX4_takeDigits_62 : decode cX4_takeDigits 62 = .ok (.iload_n 1, 1) := by decide +kernel
theorem dX4_takeDigits_63 : decode cX4_takeDigits 63 = .ok (.putfield 31, 3) := by decide +kernel
theorem dX4_takeDigits_66 : decode cX4_takeDigits 66 = .ok (.aload_n 0, 1) := by decide +kernel
theorem dX4_takeDigits_67 : decode cX4_takeDigits 67 = .ok (.aload_n 0, 1) := by decide +kernel
theorem dX4_takeDigits_68 : decode cX4_takeDigits 68 = .ok (.getfield 31, 3) := by decide +kernel
theorem dX4_takeDigits_71 : decode cX4_takeDigits 71 = .ok (.aload_n 0, 1) := by decide +kernel
theorem dX4_takeDigits_72 : decode cX4_takeDigits 72 = .ok (.getfield 28, 3) := by decide +kernel
theorem dX4_takeDigits_75 : decode cX4_takeDigits 75 = .ok (.isub, 1) := by decide +kernel
theorem dX4_takeDigits_76 : decode cX4_takeDigits 76 = .ok (.iconst 2, 1) := by decide +kernel
theorem dX4_takeDigits_77 : decode cX4_takeDigits 77 = .ok (.if_icmp .gt 8, 3) := by decide +kernel
theorem dX4_takeDigits_80 : decode cX4_takeDigits 80 = .ok (.bipush 7, 2) := by decide +kernel
theorem dX4_takeDigits_82 : decode cX4_takeDigits 82 = .ok (.goto 5, 3) := by decide +kernel
theorem dX4_takeDigits_85 : decode cX4_takeDigits 85 = .ok (.bipush 10, 2) := by decide +kernel
theorem dX4_takeDigits_87 : decode cX4_takeDigits 87 = .ok (.putfield 25, 3) := by decide +kernel
theorem dX4_takeDigits_90 : decode cX4_takeDigits 90 = .ok (.return_, 1) := by decide +kernel
set_option maxRecDepth 20000 in
theorem ggX4_tokenIs_J0_length_8abf5 : GoodIn wsX4_tokenIs wsJ0_length_8abf5 := goodIn_r _ [8, 9, 10, 11, 12, 7, 13, 14, 15] (by decide +kernel) (by decide +kernel)
set_option maxRecDepth 20000 in
theorem gX4_tokenIs_J0_length_8abf5 : GoodIn wsX4_tokenIs (wsV RX4 95 RJ0 yJ0_length_8abf5 wsJ0_length_8abf5) := goodIn_app (goodIn_of _ (by decide +kernel)) ggX4_tokenIs_J0_length_8abf5
set_option maxRecDepth 20000 in
theorem ggX4_tokenIs_J0_charAt_5068e : GoodIn wsX4_tokenIs wsJ0_charAt_5068e := goodIn_r _ [19, 9, 20, 21, 22, 7, 23, 14, 15, 24, 25, 26, 27, 28, 29, 30, 31, 32, 33, 34, 35, 36, 37, 38, 39, 40, 41, 42, 43, 44, 45, 46, 47, 48, 49, 50, 51, 52] (by decide +kernel) (by decide +kernel)
set_option maxRecDepth 20000 in
theorem gX4_tokenIs_J0_charAt_5068e : GoodIn wsX4_tokenIs (wsV RX4 99 RJ0 yJ0_charAt_5068e wsJ0_charAt_5068e) := goodIn_app (goodIn_of _ (by decide +kernel)) ggX4_tokenIs_J0_charAt_5068e
theorem dX4_tokenIs_0 : decode cX4_tokenIs 0 = .ok (.aload_n 1, 1) := by decide +kernel
theorem dX4_tokenIs_1 : decode cX4_tokenIs 1 = .ok (.invokevirtual 95, 3) := by decide +kernel
theorem dX4_tokenIs_4 : decode cX4_tokenIs 4 = .ok (.aload_n 0, 1) := by decide +kernel
theorem dX4_tokenIs_5 : decode cX4_tokenIs 5 = .ok (.getfield 31, 3) := by decide +kernel
theorem dX4_tokenIs_8 : decode cX4_tokenIs 8 = .ok (.aload_n 0, 1) := by decide +kernel
theorem dX4_tokenIs_9 : decode cX4_tokenIs 9 = .ok (.getfield 28, 3) := by decide +kernel
theorem dX4_tokenIs_12 : decode cX4_tokenIs 12 = .ok (.isub, 1) := by decide +kernel
theorem dX4_tokenIs_13 : decode cX4_tokenIs 13 = .ok (.if_icmp .eq 5, 3) := by decide +kernel
theorem dX4_tokenIs_16 : decode cX4_tokenIs 16 = .ok (.iconst 0, 1) := by decide +kernel
theorem dX4_tokenIs_17 : decode cX4_tokenIs 17 = .ok (.ireturn, 1) := by decide +kernel
theorem dX4_tokenIs_18 : decode cX4_tokenIs 18 = .ok (.iconst 0, 1) := by decide +kernel
theorem dX4_tokenIs_19 : decode cX4_tokenIs 19 = .ok (.istore_n 2, 1) := by decide +kernel
theorem dX4_tokenIs_20 : decode cX4_tokenIs 20 = .ok (.iload_n 2, 1) := by decide +kernel
theorem dX4_tokenIs_21 : decode cX4_tokenIs 21 = .ok (.aload_n 1, 1) := by decide +kernel
theorem dX4_tokenIs_22 : decode cX4_tokenIs 22 = .ok (.invokevirtual 95, 3) := by decide +kernel
theorem dX4_tokenIs_25 : decode cX4_tokenIs 25 = .ok (.if_icmp .ge 30, 3) := by decide +kernel
theorem dX4_tokenIs_28 : decode cX4_tokenIs 28 = .ok (.aload_n 1, 1) := by decide +kernel
theorem dX4_tokenIs_29 : decode cX4_tokenIs 29 = .ok (.iload_n 2, 1) := by decide +kernel
theorem dX4_tokenIs_30 : decode cX4_tokenIs 30 = .ok (.invokevirtual 99, 3) := by decide +kernel
theorem dX4_tokenIs_33 : decode cX4_tokenIs 33 = .ok (.aload_n 0, 1) := by decide +kernel
theorem dX4_tokenIs_34 : decode cX4_tokenIs 34 = .ok (.getfield 11, 3) := by decide +kernel
theorem dX4_tokenIs_37 : decode cX4_tokenIs 37 = .ok (.aload_n 0, 1) := by decide +kernel
theorem dX4_tokenIs_38 : decode cX4_tokenIs 38 = .ok (.getfield 28, 3) := by decide +kernel
theorem dX4_tokenIs_41 : decode cX4_tokenIs 41 = .ok (.iload_n 2, 1) := by decide +kernel
theorem dX4_tokenIs_42 : decode cX4_tokenIs 42 = .ok (.iadd, 1) := by decide +kernel
theorem dX4_tokenIs_43 : decode cX4_tokenIs 43 = .ok (.baload, 1) := by decide +kernel
theorem dX4_tokenIs_44 : decode cX4_tokenIs 44 = .ok (.if_icmp .eq 5, 3) := by decide +kernel
theorem dX4_tokenIs_47 : decode cX4_tokenIs 47 = .ok (.iconst 0, 1) := by decide +kernel
theorem dX4_tokenIs_48 : decode cX4_tokenIs 48 = .ok (.ireturn, 1) := by decide +kernel
theorem dX4_tokenIs_49 : decode cX4_tokenIs 49 = .ok (.iinc 2 1, 3) := by decide +kernel
theorem dX4_tokenIs_52 : decode cX4_tokenIs 52 = .ok (.goto (-32), 3) := by decide +kernel
theorem dX4_tokenIs_55 : decode cX4_tokenIs 55 = .ok (.iconst 1, 1) := by decide +kernel
theorem dX4_tokenIs_56 : decode cX4_tokenIs 56 = .ok (.ireturn, 1) := by decide +kernel
theorem dX4_textOf_0 : decode cX4_textOf 0 = .ok (.iload_n 0, 1) := by decide +kernel
theorem dX4_textOf_1 : decode cX4_textOf 1 = .ok (.tableswitch 50 1 5 #[35, 38, 41, 44, 47], 35) := by decide +kernel
theorem dX4_textOf_36 : decode cX4_textOf 36 = .ok (.ldc 103, 2) := by decide +kernel
theorem dX4_textOf_38 : decode cX4_textOf 38 = .ok (.areturn, 1) := by decide +kernel
theorem dX4_textOf_39 : decode cX4_textOf 39 = .ok (.ldc 105, 2) := by decide +kernel
theorem dX4_textOf_41 : decode cX4_textOf 41 = .ok (.areturn, 1) := by decide +kernel
theorem dX4_textOf_42 : decode cX4_textOf 42 = .ok (.ldc 107, 2) := by decide +kernel
theorem dX4_textOf_44 : decode cX4_textOf 44 = .ok (.areturn, 1) := by decide +kernel
theorem dX4_textOf_45 : decode cX4_textOf 45 = .ok (.ldc 109, 2) := by decide +kernel
theorem dX4_textOf_47 : decode cX4_textOf 47 = .ok (.areturn, 1) := by decide +kernel
theorem dX4_textOf_48 : decode cX4_textOf 48 = .ok (.ldc 111, 2) := by decide +kernel
theorem dX4_textOf_50 : decode cX4_textOf 50 = .ok (.areturn, 1) := by decide +kernel
theorem dX4_textOf_51 : decode cX4_textOf 51 = .ok (.ldc 113, 2) := by decide +kernel
theorem dX4_textOf_53 : decode cX4_textOf 53 = .ok (.areturn, 1) := by decide +kernel
theorem dX4_isBlank_0 : decode cX4_isBlank 0 = .ok (.iload_n 0, 1) := by decide +kernel
theorem dX4_isBlank_1 : decode cX4_isBlank 1 = .ok (.bipush 32, 2) := by decide +kernel
theorem dX4_isBlank_3 : decode cX4_isBlank 3 = .ok (.if_icmp .eq 9, 3) := by decide +kernel
theorem dX4_isBlank_6 : decode cX4_isBlank 6 = .ok (.iload_n 0, 1) := by decide +kernel
theorem dX4_isBlank_7 : decode cX4_isBlank 7 = .ok (.bipush 10, 2) := by decide +kernel
theorem dX4_isBlank_9 : decode cX4_isBlank 9 = .ok (.if_icmp .ne 7, 3) := by decide +kernel
theorem dX4_isBlank_12 : decode cX4_isBlank 12 = .ok (.iconst 1, 1) := by decide +kernel
theorem dX4_isBlank_13 : decode cX4_isBlank 13 = .ok (.goto 4, 3) := by decide +kernel
theorem dX4_isBlank_16 : decode cX4_isBlank 16 = .ok (.iconst 0, 1) := by decide +kernel
theorem dX4_isBlank_17 : decode cX4_isBlank 17 = .ok (.ireturn, 1) := by decide +kernel
theorem dX4_isLetter_0 : decode cX4_isLetter 0 = .ok (.iload_n 0, 1) := by decide +kernel
theorem dX4_isLetter_1 : decode cX4_isLetter 1 = .ok (.bipush 97, 2) := by decide +kernel
theorem dX4_isLetter_3 : decode cX4_isLetter 3 = .ok (.if_icmp .lt 9, 3) := by decide +kernel
theorem dX4_isLetter_6 : decode cX4_isLetter 6 = .ok (.iload_n 0, 1) := by decide +kernel
theorem dX4_isLetter_7 : decode cX4_isLetter 7 = .ok (.bipush 122, 2) := by decide +kernel
theorem dX4_isLetter_9 : decode cX4_isLetter 9 = .ok (.if_icmp .le 15, 3) := by decide +kernel
theorem dX4_isLetter_12 : decode cX4_isLetter 12 = .ok (.iload_n 0, 1) := by decide +kernel
theorem dX4_isLetter_13 : decode cX4_isLetter 13 = .ok (.bipush 65, 2) := by decide +kernel
theorem dX4_isLetter_15 : decode cX4_isLetter 15 = .ok (.if_icmp .lt 13, 3) := by decide +kernel
theorem dX4_isLetter_18 : decode cX4_isLetter 18 = .ok (.iload_n 0, 1) := by decide +kernel
theorem dX4_isLetter_19 : decode cX4_isLetter 19 = .ok (.bipush 90, 2) := by decide +kernel
theorem dX4_isLetter_21 : decode cX4_isLetter 21 = .ok (.if_icmp .gt 7, 3) := by decide +kernel
theorem dX4_isLetter_24 : decode cX4_isLetter 24 = .ok (.iconst 1, 1) := by decide +kernel
theorem dX4_isLetter_25 : decode cX4_isLetter 25 = .ok (.goto 4, 3) := by decide +kernel
theorem dX4_isLetter_28 : decode cX4_isLetter 28 = .ok (.iconst 0, 1) := by decide +kernel
theorem dX4_isLetter_29 : decode cX4_isLetter 29 = .ok (.ireturn, 1) := by decide +kernel
theorem dX4_isDigit_0 : decode cX4_isDigit 0 = .ok (.iload_n 0, 1) := by decide +kernel
theorem dX4_isDigit_1 : decode cX4_isDigit 1 = .ok (.bipush 48, 2) := by decide +kernel
theorem dX4_isDigit_3 : decode cX4_isDigit 3 = .ok (.if_icmp .lt 13, 3) := by decide +kernel
theorem dX4_isDigit_6 : decode cX4_isDigit 6 = .ok (.iload_n 0, 1) := by decide +kernel
theorem dX4_isDigit_7 : decode cX4_isDigit 7 = .ok (.bipush 57, 2) := by decide +kernel
theorem dX4_isDigit_9 : decode cX4_isDigit 9 = .ok (.if_icmp .gt 7, 3) := by decide +kernel
theorem dX4_isDigit_12 : decode cX4_isDigit 12 = .ok (.iconst 1, 1) := by decide +kernel
theorem dX4_isDigit_13 : decode cX4_isDigit 13 = .ok (.goto 4, 3) := by decide +kernel
theorem dX4_isDigit_16 : decode cX4_isDigit 16 = .ok (.iconst 0, 1) := by decide +kernel
theorem dX4_isDigit_17 : decode cX4_isDigit 17 = .ok (.ireturn, 1) := by decide +kernel
theorem dX5_init_0 : decode cX5_init 0 = .ok (.aload_n 0, 1) := by decide +kernel
theorem dX5_init_1 : decode cX5_init 1 = .ok (.invokespecial 3, 3) := by decide +kernel
theorem dX5_init_4 : decode cX5_init 4 = .ok (.aload_n 0, 1) := by decide +kernel
theorem dX5_init_5 : decode cX5_init 5 = .ok (.bipush 8, 2) := by decide +kernel
theorem dX5_init_7 : decode cX5_init 7 = .ok (.newarray .int, 2) := by decide +kernel
theorem dX5_init_9 : decode cX5_init 9 = .ok (.putfield 9, 3) := by decide +kernel
theorem dX5_init_12 : decode cX5_init 12 = .ok (.aload_n 0, 1) := by decide +kernel
theorem dX5_init_13 : decode cX5_init 13 = .ok (.bipush 8, 2) := by decide +kernel
theorem dX5_init_15 : decode cX5_init 15 = .ok (.newarray .int, 2) := by decide +kernel
theorem dX5_init_17 : decode cX5_init 17 = .ok (.putfield 15, 3) := by decide +kernel
theorem dX5_init_20 : decode cX5_init 20 = .ok (.aload_n 0, 1) := by decide +kernel
theorem dX5_init_21 : decode cX5_init 21 = .ok (.bipush 64, 2) := by decide +kernel
theorem dX5_init_23 : decode cX5_init 23 = .ok (.newarray .int, 2) := by decide +kernel
theorem dX5_init_25 : decode cX5_init 25 = .ok (.putfield 18, 3) := by decide +kernel
theorem dX5_init_28 : decode cX5_init 28 = .ok (.aload_n 0, 1) := by decide +kernel
theorem dX5_init_29 : decode cX5_init 29 = .ok (.iconst 0, 1) := by decide +kernel
theorem dX5_init_30 : decode cX5_init 30 = .ok (.putfield 21, 3) := by decide +kernel
theorem dX5_init_33 : decode cX5_init 33 = .ok (.aload_n 0, 1) := by decide +kernel
theorem dX5_init_34 : decode cX5_init 34 = .ok (.iconst 0, 1) := by decide +kernel
theorem dX5_init_35 : decode cX5_init 35 = .ok (.putfield 25, 3) := by decide +kernel
theorem dX5_init_38 : decode cX5_init 38 = .ok (.aload_n 0, 1) := by decide +kernel
theorem dX5_init_39 : decode cX5_init 39 = .ok (.iconst 0, 1) := by decide +kernel
theorem dX5_init_40 : decode cX5_init 40 = .ok (.putfield 28, 3) := by decide +kernel
theorem dX5_init_43 : decode cX5_init 43 = .ok (.aload_n 0, 1) := by decide +kernel
theorem dX5_init_44 : decode cX5_init 44 = .ok (.iconst 0, 1) := by decide +kernel
theorem dX5_init_45 : decode cX5_init 45 = .ok (.putfield 31, 3) := by decide +kernel
theorem dX5_init_48 : decode cX5_init 48 = .ok (.aload_n 0, 1) := by decide +kernel
theorem dX5_init_49 : decode cX5_init 49 = .ok (.aload_n 1, 1) := by decide +kernel
theorem dX5_init_50 : decode cX5_init 50 = .ok (.putfield 35, 3) := by decide +kernel
theorem dX5_init_53 : decode cX5_init 53 = .ok (.return_, 1) := by decide +kernel
set_option maxRecDepth 20000 in
theorem ggX5_start_X0_mayEnd : GoodIn wsX5_start wsX0_mayEnd := goodIn_r _ [13, 14, 15, 16, 17, 18, 19, 12, 20, 21, 22, 74, 75, 76, 77, 78, 79, 68, 69, 70, 71, 72, 73] (by decide +kernel) (by decide +kernel)
set_option maxRecDepth 20000 in
theorem gX5_start_X0_mayEnd : GoodIn wsX5_start (wsV RX5 44 RX0 yX0_mayEnd wsX0_mayEnd) := goodIn_app (goodIn_of _ (by decide +kernel)) ggX5_start_X0_mayEnd
set_option maxRecDepth 20000 in
theorem ggX5_start_X5_barredBehind : GoodIn wsX5_start wsX5_barredBehind := goodIn_r _ [27, 3, 4, 28, 29, 30, 12, 31, 14, 32, 33, 34, 35, 36, 37, 38, 39, 15, 40, 16, 41, 21, 42, 17, 18, 19, 20, 22, 43, 44, 45, 46, 47, 48, 49, 50, 60, 61, 62, 63, 64, 65, 66, 67, 68, 69, 70, 71, 72, 73, 74, 75, 76, 77, 78, 79] (by decide +kernel) (by decide +kernel)
set_option maxRecDepth 20000 in
theorem gX5_start_X5_barredBehind : GoodIn wsX5_start (wsV RX5 50 RX5 yX5_barredBehind wsX5_barredBehind) := goodIn_app (goodIn_of _ (by decide +kernel)) ggX5_start_X5_barredBehind
set_option maxRecDepth 20000 in
theorem ggX5_start_X5_openAt : GoodIn wsX5_start wsX5_openAt := goodIn_r _ [54, 3, 4, 55, 5, 1, 2, 60, 61, 62, 63, 64, 65, 66, 67, 68, 69, 70, 71, 72, 73] (by decide +kernel) (by decide +kernel)
set_option maxRecDepth 20000 in
theorem gX5_start_X5_openAt : GoodIn wsX5_start (wsV RX5 54 RX5 yX5_openAt wsX5_openAt) := goodIn_app (goodIn_of _ (by decide +kernel)) ggX5_start_X5_openAt
set_option maxRecDepth 20000 in
theorem ggX5_start_X0_hasWord : GoodIn wsX5_start wsX0_hasWord := goodIn_r _ [59, 14, 15, 74, 75, 76, 77, 78, 79] (by decide +kernel) (by decide +kernel)
set_option maxRecDepth 20000 in
theorem gX5_start_X0_hasWord : GoodIn wsX5_start (wsV RX5 58 RX0 yX0_hasWord wsX0_hasWord) := goodIn_app (goodIn_of _ (by decide +kernel)) ggX5_start_X0_hasWord
theorem dX5_start_0 : decode cX5_start 0 = .ok (.aload_n 0, 1) := by decide +kernel
theorem dX5_start_1 : decode cX5_start 1 = .ok (.iconst 0, 1) := by decide +kernel
theorem dX5_start_2 : decode cX5_start 2 = .ok (.putfield 21, 3) := by decide +kernel
theorem dX5_start_5 : decode cX5_start 5 = .ok (.aload_n 0, 1) := by decide +kernel
theorem dX5_start_6 : decode cX5_start 6 = .ok (.iconst 0, 1) := by decide +kernel
theorem dX5_start_7 : decode cX5_start 7 = .ok (.putfield 25, 3) := by decide +kernel
theorem dX5_start_10 : decode cX5_start 10 = .ok (.iconst 0, 1) := by decide +kernel
theorem dX5_start_11 : decode cX5_start 11 = .ok (.istore_n 2, 1) := by decide +kernel
theorem dX5_start_12 : decode cX5_start 12 = .ok (.iload_n 2, 1) := by decide +kernel
theorem dX5_start_13 : decode cX5_start 13 = .ok (.aload_n 0, 1) := by decide +kernel
theorem dX5_start_14 : decode cX5_start 14 = .ok (.getfield 35, 3) := by decide +kernel
theorem dX5_start_17 : decode cX5_start 17 = .ok (.getfield 39, 3) := by decide +kernel
theorem dX5_start_20 : decode cX5_start 20 = .ok (.if_icmp .ge 96, 3) := by decide +kernel
theorem dX5_start_23 : decode cX5_start 23 = .ok (.aload_n 0, 1) := by decide +kernel
theorem dX5_start_24 : decode cX5_start 24 = .ok (.dup, 1) := by decide +kernel
theorem dX5_start_25 : decode cX5_start 25 = .ok (.getfield 21, 3) := by decide +kernel
theorem dX5_start_28 : decode cX5_start 28 = .ok (.aload_n 1, 1) := by decide +kernel
theorem dX5_start_29 : decode cX5_start 29 = .ok (.iconst 3, 1) := by decide +kernel
theorem dX5_start_30 : decode cX5_start 30 = .ok (.iload_n 2, 1) := by decide +kernel
theorem dX5_start_31 : decode cX5_start 31 = .ok (.invokevirtual 44, 3) := by decide +kernel
theorem dX5_start_34 : decode cX5_start 34 = .ok (.ifCond .eq 9, 3) := by decide +kernel
theorem dX5_start_37 : decode cX5_start 37 = .ok (.iconst 1, 1) := by decide +kernel
theorem dX5_start_38 : decode cX5_start 38 = .ok (.iload_n 2, 1) := by decide +kernel
theorem dX5_start_39 : decode cX5_start 39 = .ok (.ishl, 1) := by decide +kernel
theorem dX5_start_40 : decode cX5_start 40 = .ok (.goto 4, 3) := by decide +kernel
theorem dX5_start_43 : decode cX5_start 43 = .ok (.iconst 0, 1) := by decide +kernel
theorem dX5_start_44 : decode cX5_start 44 = .ok (.ior, 1) := by decide +kernel
theorem dX5_start_45 : decode cX5_start 45 = .ok (.putfield 21, 3) := by decide +kernel
theorem dX5_start_48 : decode cX5_start 48 = .ok (.aload_n 0, 1) := by decide +kernel
theorem dX5_start_49 : decode cX5_start 49 = .ok (.dup, 1) := by decide +kernel
theorem dX5_start_50 : decode cX5_start 50 = .ok (.getfield 25, 3) := by decide +kernel
theorem dX5_start_53 : decode cX5_start 53 = .ok (.aload_n 1, 1) := by decide +kernel
theorem dX5_start_54 : decode cX5_start 54 = .ok (.iconst 4, 1) := by decide +kernel
theorem dX5_start_55 : decode cX5_start 55 = .ok (.iload_n 2, 1) := by decide +kernel
theorem dX5_start_56 : decode cX5_start 56 = .ok (.invokevirtual 44, 3) := by decide +kernel
theorem dX5_start_59 : decode cX5_start 59 = .ok (.ifCond .eq 9, 3) := by decide +kernel
theorem dX5_start_62 : decode cX5_start 62 = .ok (.iconst 1, 1) := by decide +kernel
theorem dX5_start_63 : decode cX5_start 63 = .ok (.iload_n 2, 1) := by decide +kernel
theorem dX5_start_64 : decode cX5_start 64 = .ok (.ishl, 1) := by decide +kernel
theorem dX5_start_65 : decode cX5_start 65 = .ok (.goto 4, 3) := by decide +kernel
theorem dX5_start_68 : decode cX5_start 68 = .ok (.iconst 0, 1) := by decide +kernel
theorem dX5_start_69 : decode cX5_start 69 = .ok (.ior, 1) := by decide +kernel
theorem dX5_start_70 : decode cX5_start 70 = .ok (.putfield 25, 3) := by decide +kernel
theorem dX5_start_73 : decode cX5_start 73 = .ok (.iconst 1, 1) := by decide +kernel
theorem dX5_start_74 : decode cX5_start 74 = .ok (.istore_n 3, 1) := by decide +kernel
theorem dX5_start_75 : decode cX5_start 75 = .ok (.iload_n 3, 1) := by decide +kernel
theorem dX5_start_76 : decode cX5_start 76 = .ok (.aload_n 0, 1) := by decide +kernel
theorem dX5_start_77 : decode cX5_start 77 = .ok (.getfield 35, 3) := by decide +kernel
theorem dX5_start_80 : decode cX5_start 80 = .ok (.getfield 39, 3) := by decide +kernel
theorem dX5_start_83 : decode cX5_start 83 = .ok (.if_icmp .ge 27, 3) := by decide +kernel
theorem dX5_start_86 : decode cX5_start 86 = .ok (.aload_n 0, 1) := by decide +kernel
theorem dX5_start_87 : decode cX5_start 87 = .ok (.getfield 18, 3) := by decide +kernel
theorem dX5_start_90 : decode cX5_start 90 = .ok (.iload_n 3, 1) := by decide +kernel
theorem dX5_start_91 : decode cX5_start 91 = .ok (.bipush 8, 2) := by decide +kernel
theorem dX5_start_93 : decode cX5_start 93 = .ok (.imul, 1) := by decide +kernel
theorem dX5_start_94 : decode cX5_start 94 = .ok (.iload_n 2, 1) := by decide +kernel
theorem dX5_start_95 : decode cX5_start 95 = .ok (.iadd, 1) := by decide +kernel
theorem dX5_start_96 : decode cX5_start 96 = .ok (.aload_n 0, 1) := by decide +kernel
theorem dX5_start_97 : decode cX5_start 97 = .ok (.aload_n 1, 1) := by decide +kernel
theorem dX5_start_98 : decode cX5_start 98 = .ok (.iload_n 2, 1) := by decide +kernel
theorem dX5_start_99 : decode cX5_start 99 = .ok (.iload_n 3, 1) := by decide +kernel
theorem dX5_start_100 : decode cX5_start 100 = .ok (.invokevirtual 50, 3) := by decide +kernel
theorem dX5_start_103 : decode cX5_start 103 = .ok (.iastore, 1) := by decide +kernel
theorem dX5_start_104 : decode cX5_start 104 = .ok (.iinc 3 1, 3) := by decide +kernel
theorem dX5_start_107 : decode cX5_start 107 = .ok (.goto (-32), 3) := by decide +kernel
theorem dX5_start_110 : decode cX5_start 110 = .ok (.iinc 2 1, 3) := by decide +kernel
theorem dX5_start_113 : decode cX5_start 113 = .ok (.goto (-101), 3) := by decide +kernel
theorem dX5_start_116 : decode cX5_start 116 = .ok (.aload_n 0, 1) := by decide +kernel
theorem dX5_start_117 : decode cX5_start 117 = .ok (.iconst 0, 1) := by decide +kernel
theorem dX5_start_118 : decode cX5_start 118 = .ok (.putfield 28, 3) := by decide +kernel
theorem dX5_start_121 : decode cX5_start 121 = .ok (.aload_n 0, 1) := by decide +kernel
theorem dX5_start_122 : decode cX5_start 122 = .ok (.getfield 15, 3) := by decide +kernel
theorem dX5_start_125 : decode cX5_start 125 = .ok (.iconst 0, 1) := by decide +kernel
theorem dX5_start_126 : decode cX5_start 126 = .ok (.aload_n 0, 1) := by decide +kernel
theorem dX5_start_127 : decode cX5_start 127 = .ok (.iconst 0, 1) := by decide +kernel
theorem dX5_start_128 : decode cX5_start 128 = .ok (.invokevirtual 54, 3) := by decide +kernel
theorem dX5_start_131 : decode cX5_start 131 = .ok (.iastore, 1) := by decide +kernel
theorem dX5_start_132 : decode cX5_start 132 = .ok (.aload_n 0, 1) := by decide +kernel
theorem dX5_start_133 : decode cX5_start 133 = .ok (.aload_n 0, 1) := by decide +kernel
theorem dX5_start_134 : decode cX5_start 134 = .ok (.getfield 35, 3) := by decide +kernel
theorem dX5_start_137 : decode cX5_start 137 = .ok (.getfield 39, 3) := by decide +kernel
theorem dX5_start_140 : decode cX5_start 140 = .ok (.ifCond .ne 23, 3) := by decide +kernel
theorem dX5_start_143 : decode cX5_start 143 = .ok (.aload_n 1, 1) := by decide +kernel
theorem dX5_start_144 : decode cX5_start 144 = .ok (.iconst 3, 1) := by decide +kernel
theorem dX5_start_145 : decode cX5_start 145 = .ok (.invokevirtual 58, 3) := by decide +kernel
theorem dX5_start_148 : decode cX5_start 148 = .ok (.ifCond .ne 15, 3) := by decide +kernel
theorem dX5_start_151 : decode cX5_start 151 = .ok (.aload_n 1, 1) := by decide +kernel
theorem dX5_start_152 : decode cX5_start 152 = .ok (.iconst 4, 1) := by decide +kernel
theorem dX5_start_153 : decode cX5_start 153 = .ok (.invokevirtual 58, 3) := by decide +kernel
theorem dX5_start_156 : decode cX5_start 156 = .ok (.ifCond .ne 7, 3) := by decide +kernel
theorem dX5_start_159 : decode cX5_start 159 = .ok (.iconst 1, 1) := by decide +kernel
theorem dX5_start_160 : decode cX5_start 160 = .ok (.goto 4, 3) := by decide +kernel
theorem dX5_start_163 : decode cX5_start 163 = .ok (.iconst 0, 1) := by decide +kernel
theorem dX5_start_164 : decode cX5_start 164 = .ok (.putfield 31, 3) := by decide +kernel
theorem dX5_start_167 : decode cX5_start 167 = .ok (.return_, 1) := by decide +kernel
set_option maxRecDepth 20000 in
theorem ggX5_barredBehind_X0_anyBreaks : GoodIn wsX5_barredBehind wsX0_anyBreaks := goodIn_r _ [7, 8, 9, 10, 11, 6, 12, 13, 14, 15, 16, 17, 18, 19, 20, 21, 22, 23, 24, 25, 26, 27, 28, 29, 30, 31, 32, 33, 34, 35, 50, 51, 52, 53, 54, 55, 44, 45, 46, 47, 48, 49] (by decide +kernel) (by decide +kernel)
set_option maxRecDepth 20000 in
theorem gX5_barredBehind_X0_anyBreaks : GoodIn wsX5_barredBehind (wsV RX5 62 RX0 yX0_anyBreaks wsX0_anyBreaks) := goodIn_app (goodIn_of _ (by decide +kernel)) ggX5_barredBehind_X0_anyBreaks
theorem dX5_barredBehind_0 : decode cX5_barredBehind 0 = .ok (.iconst 0, 1) := by decide +kernel
theorem dX5_barredBehind_1 : decode cX5_barredBehind 1 = .ok (.istore 4, 2) := by decide +kernel
theorem dX5_barredBehind_3 : decode cX5_barredBehind 3 = .ok (.iconst 0, 1) := by decide +kernel
theorem dX5_barredBehind_4 : decode cX5_barredBehind 4 = .ok (.istore 5, 2) := by decide +kernel
theorem dX5_barredBehind_6 : decode cX5_barredBehind 6 = .ok (.iload 5, 2) := by decide +kernel
theorem dX5_barredBehind_8 : decode cX5_barredBehind 8 = .ok (.aload_n 0, 1) := by decide +kernel
theorem dX5_barredBehind_9 : decode cX5_barredBehind 9 = .ok (.getfield 35, 3) := by decide +kernel
theorem dX5_barredBehind_12 : decode cX5_barredBehind 12 = .ok (.getfield 39, 3) := by decide +kernel
theorem dX5_barredBehind_15 : decode cX5_barredBehind 15 = .ok (.if_icmp .ge 35, 3) := by decide +kernel
theorem dX5_barredBehind_18 : decode cX5_barredBehind 18 = .ok (.iload 5, 2) := by decide +kernel
theorem dX5_barredBehind_20 : decode cX5_barredBehind 20 = .ok (.iload_n 2, 1) := by decide +kernel
theorem dX5_barredBehind_21 : decode cX5_barredBehind 21 = .ok (.if_icmp .eq 23, 3) := by decide +kernel
theorem dX5_barredBehind_24 : decode cX5_barredBehind 24 = .ok (.aload_n 1, 1) := by decide +kernel
theorem dX5_barredBehind_25 : decode cX5_barredBehind 25 = .ok (.iload_n 2, 1) := by decide +kernel
theorem dX5_barredBehind_26 : decode cX5_barredBehind 26 = .ok (.iload 5, 2) := by decide +kernel
theorem dX5_barredBehind_28 : decode cX5_barredBehind 28 = .ok (.iload_n 3, 1) := by decide +kernel
theorem dX5_barredBehind_29 : decode cX5_barredBehind 29 = .ok (.invokevirtual 62, 3) := by decide +kernel
theorem dX5_barredBehind_32 : decode cX5_barredBehind 32 = .ok (.ifCond .eq 12, 3) := by decide +kernel
theorem dX5_barredBehind_35 : decode cX5_barredBehind 35 = .ok (.iload 4, 2) := by decide +kernel
theorem dX5_barredBehind_37 : decode cX5_barredBehind 37 = .ok (.iconst 1, 1) := by decide +kernel
theorem dX5_barredBehind_38 : decode cX5_barredBehind 38 = .ok (.iload 5, 2) := by decide +kernel
theorem dX5_barredBehind_40 : decode cX5_barredBehind 40 = .ok (.ishl, 1) := by decide +kernel
theorem dX5_barredBehind_41 : decode cX5_barredBehind 41 = .ok (.ior, 1) := by decide +kernel
theorem dX5_barredBehind_42 : decode cX5_barredBehind 42 = .ok (.istore 4, 2) := by decide +kernel
theorem dX5_barredBehind_44 : decode cX5_barredBehind 44 = .ok (.iinc 5 1, 3) := by decide +kernel
theorem dX5_barredBehind_47 : decode cX5_barredBehind 47 = .ok (.goto (-41), 3) := by decide +kernel
theorem dX5_barredBehind_50 : decode cX5_barredBehind 50 = .ok (.iload 4, 2) := by decide +kernel
theorem dX5_barredBehind_52 : decode cX5_barredBehind 52 = .ok (.ireturn, 1) := by decide +kernel
theorem dX5_openAt_0 : decode cX5_openAt 0 = .ok (.iconst 1, 1) := by decide +kernel
theorem dX5_openAt_1 : decode cX5_openAt 1 = .ok (.aload_n 0, 1) := by decide +kernel
theorem dX5_openAt_2 : decode cX5_openAt 2 = .ok (.getfield 35, 3) := by decide +kernel
theorem dX5_openAt_5 : decode cX5_openAt 5 = .ok (.getfield 39, 3) := by decide +kernel
theorem dX5_openAt_8 : decode cX5_openAt 8 = .ok (.ishl, 1) := by decide +kernel
theorem dX5_openAt_9 : decode cX5_openAt 9 = .ok (.iconst 1, 1) := by decide +kernel
theorem dX5_openAt_10 : decode cX5_openAt 10 = .ok (.isub, 1) := by decide +kernel
theorem dX5_openAt_11 : decode cX5_openAt 11 = .ok (.istore_n 2, 1) := by decide +kernel
theorem dX5_openAt_12 : decode cX5_openAt 12 = .ok (.iconst 0, 1) := by decide +kernel
theorem dX5_openAt_13 : decode cX5_openAt 13 = .ok (.istore_n 3, 1) := by decide +kernel
theorem dX5_openAt_14 : decode cX5_openAt 14 = .ok (.iload_n 3, 1) := by decide +kernel
theorem dX5_openAt_15 : decode cX5_openAt 15 = .ok (.iload_n 1, 1) := by decide +kernel
theorem dX5_openAt_16 : decode cX5_openAt 16 = .ok (.if_icmp .ge 43, 3) := by decide +kernel
theorem dX5_openAt_19 : decode cX5_openAt 19 = .ok (.iload_n 2, 1) := by decide +kernel
theorem dX5_openAt_20 : decode cX5_openAt 20 = .ok (.iconst 1, 1) := by decide +kernel
theorem dX5_openAt_21 : decode cX5_openAt 21 = .ok (.aload_n 0, 1) := by decide +kernel
theorem dX5_openAt_22 : decode cX5_openAt 22 = .ok (.getfield 9, 3) := by decide +kernel
theorem dX5_openAt_25 : decode cX5_openAt 25 = .ok (.iload_n 3, 1) := by decide +kernel
theorem dX5_openAt_26 : decode cX5_openAt 26 = .ok (.iaload, 1) := by decide +kernel
theorem dX5_openAt_27 : decode cX5_openAt 27 = .ok (.ishl, 1) := by decide +kernel
theorem dX5_openAt_28 : decode cX5_openAt 28 = .ok (.iconst (-1), 1) := by decide +kernel
theorem dX5_openAt_29 : decode cX5_openAt 29 = .ok (.ixor, 1) := by decide +kernel
theorem dX5_openAt_30 : decode cX5_openAt 30 = .ok (.aload_n 0, 1) := by decide +kernel
theorem dX5_openAt_31 : decode cX5_openAt 31 = .ok (.getfield 18, 3) := by decide +kernel
theorem dX5_openAt_34 : decode cX5_openAt 34 = .ok (.iload_n 1, 1) := by decide +kernel
theorem dX5_openAt_35 : decode cX5_openAt 35 = .ok (.iload_n 3, 1) := by decide +kernel
theorem dX5_openAt_36 : decode cX5_openAt 36 = .ok (.isub, 1) := by decide +kernel
theorem dX5_openAt_37 : decode cX5_openAt 37 = .ok (.bipush 8, 2) := by decide +kernel
theorem dX5_openAt_39 : decode cX5_openAt 39 = .ok (.imul, 1) := by decide +kernel
theorem dX5_openAt_40 : decode cX5_openAt 40 = .ok (.aload_n 0, 1) := by decide +kernel
theorem dX5_openAt_41 : decode cX5_openAt 41 = .ok (.getfield 9, 3) := by decide +kernel
theorem dX5_openAt_44 : decode cX5_openAt 44 = .ok (.iload_n 3, 1) := by decide +kernel
theorem dX5_openAt_45 : decode cX5_openAt 45 = .ok (.iaload, 1) := by decide +kernel
theorem dX5_openAt_46 : decode cX5_openAt 46 = .ok (.iadd, 1) := by decide +kernel
theorem dX5_openAt_47 : decode cX5_openAt 47 = .ok (.iaload, 1) := by decide +kernel
theorem dX5_openAt_48 : decode cX5_openAt 48 = .ok (.iconst (-1), 1) := by decide +kernel
theorem dX5_openAt_49 : decode cX5_openAt 49 = .ok (.ixor, 1) := by decide +kernel
theorem dX5_openAt_50 : decode cX5_openAt 50 = .ok (.iand, 1) := by decide +kernel
theorem dX5_openAt_51 : decode cX5_openAt 51 = .ok (.iand, 1) := by decide +kernel
theorem dX5_openAt_52 : decode cX5_openAt 52 = .ok (.istore_n 2, 1) := by decide +kernel
theorem dX5_openAt_53 : decode cX5_openAt 53 = .ok (.iinc 3 1, 3) := by decide +kernel
theorem dX5_openAt_56 : decode cX5_openAt 56 = .ok (.goto (-42), 3) := by decide +kernel
theorem dX5_openAt_59 : decode cX5_openAt 59 = .ok (.iload_n 1, 1) := by decide +kernel
theorem dX5_openAt_60 : decode cX5_openAt 60 = .ok (.ifCond .ne 10, 3) := by decide +kernel
theorem dX5_openAt_63 : decode cX5_openAt 63 = .ok (.iload_n 2, 1) := by decide +kernel
theorem dX5_openAt_64 : decode cX5_openAt 64 = .ok (.aload_n 0, 1) := by decide +kernel
theorem dX5_openAt_65 : decode cX5_openAt 65 = .ok (.getfield 21, 3) := by decide +kernel
theorem dX5_openAt_68 : decode cX5_openAt 68 = .ok (.iand, 1) := by decide +kernel
theorem dX5_openAt_69 : decode cX5_openAt 69 = .ok (.istore_n 2, 1) := by decide +kernel
theorem dX5_openAt_70 : decode cX5_openAt 70 = .ok (.iload_n 1, 1) := by decide +kernel
theorem dX5_openAt_71 : decode cX5_openAt 71 = .ok (.aload_n 0, 1) := by decide +kernel
theorem dX5_openAt_72 : decode cX5_openAt 72 = .ok (.getfield 35, 3) := by decide +kernel
theorem dX5_openAt_75 : decode cX5_openAt 75 = .ok (.getfield 39, 3) := by decide +kernel
theorem dX5_openAt_78 : decode cX5_openAt 78 = .ok (.iconst 1, 1) := by decide +kernel
theorem dX5_openAt_79 : decode cX5_openAt 79 = .ok (.isub, 1) := by decide +kernel
theorem dX5_openAt_80 : decode cX5_openAt 80 = .ok (.if_icmp .ne 10, 3) := by decide +kernel
theorem dX5_openAt_83 : decode cX5_openAt 83 = .ok (.iload_n 2, 1) := by decide +kernel
theorem dX5_openAt_84 : decode cX5_openAt 84 = .ok (.aload_n 0, 1) := by decide +kernel
theorem dX5_openAt_85 : decode cX5_openAt 85 = .ok (.getfield 25, 3) := by decide +kernel
theorem dX5_openAt_88 : decode cX5_openAt 88 = .ok (.iand, 1) := by decide +kernel
theorem dX5_openAt_89 : decode cX5_openAt 89 = .ok (.istore_n 2, 1) := by decide +kernel
theorem dX5_openAt_90 : decode cX5_openAt 90 = .ok (.iload_n 2, 1) := by decide +kernel
theorem dX5_openAt_91 : decode cX5_openAt 91 = .ok (.ireturn, 1) := by decide +kernel
theorem dX5_lowestOf_0 : decode cX5_lowestOf 0 = .ok (.iconst 0, 1) := by decide +kernel
theorem dX5_lowestOf_1 : decode cX5_lowestOf 1 = .ok (.istore_n 1, 1) := by decide +kernel
theorem dX5_lowestOf_2 : decode cX5_lowestOf 2 = .ok (.iload_n 1, 1) := by decide +kernel
theorem dX5_lowestOf_3 : decode cX5_lowestOf 3 = .ok (.bipush 8, 2) := by decide +kernel
theorem dX5_lowestOf_5 : decode cX5_lowestOf 5 = .ok (.if_icmp .ge 19, 3) := by decide +kernel
theorem dX5_lowestOf_8 : decode cX5_lowestOf 8 = .ok (.iload_n 0, 1) := by decide +kernel
theorem dX5_lowestOf_9 : decode cX5_lowestOf 9 = .ok (.iload_n 1, 1) := by decide +kernel
theorem dX5_lowestOf_10 : decode cX5_lowestOf 10 = .ok (.ishr, 1) := by decide +kernel
theorem dX5_lowestOf_11 : decode cX5_lowestOf 11 = .ok (.iconst 1, 1) := by decide +kernel
theorem dX5_lowestOf_12 : decode cX5_lowestOf 12 = .ok (.iand, 1) := by decide +kernel
theorem dX5_lowestOf_13 : decode cX5_lowestOf 13 = .ok (.ifCond .eq 5, 3) := by decide +kernel
theorem dX5_lowestOf_16 : decode cX5_lowestOf 16 = .ok (.iload_n 1, 1) := by decide +kernel
theorem dX5_lowestOf_17 : decode cX5_lowestOf 17 = .ok (.ireturn, 1) := by decide +kernel
theorem dX5_lowestOf_18 : decode cX5_lowestOf 18 = .ok (.iinc 1 1, 3) := by decide +kernel
theorem dX5_lowestOf_21 : decode cX5_lowestOf 21 = .ok (.goto (-19), 3) := by decide +kernel
theorem dX5_lowestOf_24 : decode cX5_lowestOf 24 = .ok (.iconst 0, 1) := by decide +kernel
theorem dX5_lowestOf_25 : decode cX5_lowestOf 25 = .ok (.ireturn, 1) := by decide +kernel
set_option maxRecDepth 20000 in
theorem ggX5_findNext_X5_lowestOf : GoodIn wsX5_findNext wsX5_lowestOf := goodIn_r _ [11] (by decide +kernel) (by decide +kernel)
set_option maxRecDepth 20000 in
theorem gX5_findNext_X5_lowestOf : GoodIn wsX5_findNext (va_wsS RX5 67 yX5_lowestOf wsX5_lowestOf) := goodIn_app (goodIn_of _ (by decide +kernel)) ggX5_findNext_X5_lowestOf
set_option maxRecDepth 20000 in
theorem ggX5_findNext_X5_openAt : GoodIn wsX5_findNext wsX5_openAt := goodIn_r _ [15, 1, 2, 7, 16, 17, 18, 19, 20, 21, 22, 23, 24, 25, 26, 27, 28, 29, 30, 31, 32] (by decide +kernel) (by decide +kernel)
set_option maxRecDepth 20000 in
theorem gX5_findNext_X5_openAt : GoodIn wsX5_findNext (wsV RX5 54 RX5 yX5_openAt wsX5_openAt) := goodIn_app (goodIn_of _ (by decide +kernel)) ggX5_findNext_X5_openAt
theorem dX5_findNext_0 : decode cX5_findNext 0 = .ok (.aload_n 0, 1) := by decide +kernel
theorem dX5_findNext_1 : decode cX5_findNext 1 = .ok (.getfield 35, 3) := by decide +kernel
theorem dX5_findNext_4 : decode cX5_findNext 4 = .ok (.getfield 39, 3) := by decide +kernel
theorem dX5_findNext_7 : decode cX5_findNext 7 = .ok (.ifCond .ne 15, 3) := by decide +kernel
theorem dX5_findNext_10 : decode cX5_findNext 10 = .ok (.aload_n 0, 1) := by decide +kernel
theorem dX5_findNext_11 : decode cX5_findNext 11 = .ok (.getfield 31, 3) := by decide +kernel
theorem dX5_findNext_14 : decode cX5_findNext 14 = .ok (.istore_n 1, 1) := by decide +kernel
theorem dX5_findNext_15 : decode cX5_findNext 15 = .ok (.aload_n 0, 1) := by decide +kernel
theorem dX5_findNext_16 : decode cX5_findNext 16 = .ok (.iconst 0, 1) := by decide +kernel
theorem dX5_findNext_17 : decode cX5_findNext 17 = .ok (.putfield 31, 3) := by decide +kernel
theorem dX5_findNext_20 : decode cX5_findNext 20 = .ok (.iload_n 1, 1) := by decide +kernel
theorem dX5_findNext_21 : decode cX5_findNext 21 = .ok (.ireturn, 1) := by decide +kernel
theorem dX5_findNext_22 : decode cX5_findNext 22 = .ok (.iconst 0, 1) := by decide +kernel
theorem dX5_findNext_23 : decode cX5_findNext 23 = .ok (.istore_n 1, 1) := by decide +kernel
theorem dX5_findNext_24 : decode cX5_findNext 24 = .ok (.iload_n 1, 1) := by decide +kernel
theorem dX5_findNext_25 : decode cX5_findNext 25 = .ok (.ldc 66, 2) := by decide +kernel
theorem dX5_findNext_27 : decode cX5_findNext 27 = .ok (.if_icmp .ge 115, 3) := by decide +kernel
theorem dX5_findNext_30 : decode cX5_findNext 30 = .ok (.aload_n 0, 1) := by decide +kernel
theorem dX5_findNext_31 : decode cX5_findNext 31 = .ok (.getfield 28, 3) := by decide +kernel
theorem dX5_findNext_34 : decode cX5_findNext 34 = .ok (.ifCond .lt 108, 3) := by decide +kernel
theorem dX5_findNext_37 : decode cX5_findNext 37 = .ok (.aload_n 0, 1) := by decide +kernel
theorem dX5_findNext_38 : decode cX5_findNext 38 = .ok (.getfield 15, 3) := by decide +kernel
theorem dX5_findNext_41 : decode cX5_findNext 41 = .ok (.aload_n 0, 1) := by decide +kernel
theorem dX5_findNext_42 : decode cX5_findNext 42 = .ok (.getfield 28, 3) := by decide +kernel
theorem dX5_findNext_45 : decode cX5_findNext 45 = .ok (.iaload, 1) := by decide +kernel
theorem dX5_findNext_46 : decode cX5_findNext 46 = .ok (.istore_n 2, 1) := by decide +kernel
theorem dX5_findNext_47 : decode cX5_findNext 47 = .ok (.iload_n 2, 1) := by decide +kernel
theorem dX5_findNext_48 : decode cX5_findNext 48 = .ok (.ifCond .ne 16, 3) := by decide +kernel
theorem dX5_findNext_51 : decode cX5_findNext 51 = .ok (.aload_n 0, 1) := by decide +kernel
theorem dX5_findNext_52 : decode cX5_findNext 52 = .ok (.dup, 1) := by decide +kernel
theorem dX5_findNext_53 : decode cX5_findNext 53 = .ok (.getfield 28, 3) := by decide +kernel
theorem dX5_findNext_56 : decode cX5_findNext 56 = .ok (.iconst 1, 1) := by decide +kernel
theorem dX5_findNext_57 : decode cX5_findNext 57 = .ok (.isub, 1) := by decide +kernel
theorem dX5_findNext_58 : decode cX5_findNext 58 = .ok (.putfield 28, 3) := by decide +kernel
theorem dX5_findNext_61 : decode cX5_findNext 61 = .ok (.goto 75, 3) := by decide +kernel
theorem dX5_findNext_64 : decode cX5_findNext 64 = .ok (.aload_n 0, 1) := by decide +kernel
theorem dX5_findNext_65 : decode cX5_findNext 65 = .ok (.getfield 9, 3) := by decide +kernel
theorem dX5_findNext_68 : decode cX5_findNext 68 = .ok (.aload_n 0, 1) := by decide +kernel
theorem dX5_findNext_69 : decode cX5_findNext 69 = .ok (.getfield 28, 3) := by decide +kernel
theorem dX5_findNext_72 : decode cX5_findNext 72 = .ok (.iload_n 2, 1) := by decide +kernel
theorem dX5_findNext_73 : decode cX5_findNext 73 = .ok (.invokestatic 67, 3) := by decide +kernel
theorem dX5_findNext_76 : decode cX5_findNext 76 = .ok (.iastore, 1) := by decide +kernel
theorem dX5_findNext_77 : decode cX5_findNext 77 = .ok (.aload_n 0, 1) := by decide +kernel
theorem dX5_findNext_78 : decode cX5_findNext 78 = .ok (.getfield 15, 3) := by decide +kernel
theorem dX5_findNext_81 : decode cX5_findNext 81 = .ok (.aload_n 0, 1) := by decide +kernel
theorem dX5_findNext_82 : decode cX5_findNext 82 = .ok (.getfield 28, 3) := by decide +kernel
theorem dX5_findNext_85 : decode cX5_findNext 85 = .ok (.iload_n 2, 1) := by decide +kernel
theorem dX5_findNext_86 : decode cX5_findNext 86 = .ok (.iload_n 2, 1) := by decide +kernel
theorem dX5_findNext_87 : decode cX5_findNext 87 = .ok (.iconst 1, 1) := by decide +kernel
theorem dX5_findNext_88 : decode cX5_findNext 88 = .ok (.isub, 1) := by decide +kernel
theorem dX5_findNext_89 : decode cX5_findNext 89 = .ok (.iand, 1) := by decide +kernel
theorem dX5_findNext_90 : decode cX5_findNext 90 = .ok (.iastore, 1) := by decide +kernel
theorem dX5_findNext_91 : decode cX5_findNext 91 = .ok (.aload_n 0, 1) := by decide +kernel
theorem dX5_findNext_92 : decode cX5_findNext 92 = .ok (.getfield 28, 3) := by decide +kernel
theorem dX5_findNext_95 : decode cX5_findNext 95 = .ok (.aload_n 0, 1) := by decide +kernel
theorem dX5_findNext_96 : decode cX5_findNext 96 = .ok (.getfield 35, 3) := by decide +kernel
theorem dX5_findNext_99 : decode cX5_findNext 99 = .ok (.getfield 39, 3) := by decide +kernel
theorem dX5_findNext_102 : decode cX5_findNext 102 = .ok (.iconst 1, 1) := by decide +kernel
theorem dX5_findNext_103 : decode cX5_findNext 103 = .ok (.isub, 1) := by decide +kernel
theorem dX5_findNext_104 : decode cX5_findNext 104 = .ok (.if_icmp .ne 5, 3) := by decide +kernel
theorem dX5_findNext_107 : decode cX5_findNext 107 = .ok (.iconst 1, 1) := by decide +kernel
theorem dX5_findNext_108 : decode cX5_findNext 108 = .ok (.ireturn, 1) := by decide +kernel
theorem dX5_findNext_109 : decode cX5_findNext 109 = .ok (.aload_n 0, 1) := by decide +kernel
theorem dX5_findNext_110 : decode cX5_findNext 110 = .ok (.dup, 1) := by decide +kernel
theorem dX5_findNext_111 : decode cX5_findNext 111 = .ok (.getfield 28, 3) := by decide +kernel
theorem dX5_findNext_114 : decode cX5_findNext 114 = .ok (.iconst 1, 1) := by decide +kernel
theorem dX5_findNext_115 : decode cX5_findNext 115 = .ok (.iadd, 1) := by decide +kernel
theorem dX5_findNext_116 : decode cX5_findNext 116 = .ok (.putfield 28, 3) := by decide +kernel
theorem dX5_findNext_119 : decode cX5_findNext 119 = .ok (.aload_n 0, 1) := by decide +kernel
theorem dX5_findNext_120 : decode cX5_findNext 120 = .ok (.getfield 15, 3) := by decide +kernel
theorem dX5_findNext_123 : decode cX5_findNext 123 = .ok (.aload_n 0, 1) := by decide +kernel
theorem dX5_findNext_124 : decode cX5_findNext 124 = .ok (.getfield 28, 3) := by decide +kernel
theorem dX5_findNext_127 : decode cX5_findNext 127 = .ok (.aload_n 0, 1) := by decide +kernel
theorem dX5_findNext_128 : decode cX5_findNext 128 = .ok (.aload_n 0, 1) := by decide +kernel
theorem dX5_findNext_129 : decode cX5_findNext 129 = .ok (.getfield 28, 3) := by decide +kernel
theorem dX5_findNext_132 : decode cX5_findNext 132 = .ok (.invokevirtual 54, 3) := by decide +kernel
theorem dX5_findNext_135 : decode cX5_findNext 135 = .ok (.iastore, 1) := by decide +kernel
theorem dX5_findNext_136 : decode cX5_findNext 136 = .ok (.iinc 1 1, 3) := by decide +kernel
theorem dX5_findNext_139 : decode cX5_findNext 139 = .ok (.goto (-115), 3) := by decide +kernel
theorem dX5_findNext_142 : decode cX5_findNext 142 = .ok (.iconst 0, 1) := by decide +kernel
theorem dX5_findNext_143 : decode cX5_findNext 143 = .ok (.ireturn, 1) := by decide +kernel
theorem dX6_init_0 : decode cX6_init 0 = .ok (.aload_n 0, 1) := by decide +kernel
theorem dX6_init_1 : decode cX6_init 1 = .ok (.invokespecial 3, 3) := by decide +kernel
theorem dX6_init_4 : decode cX6_init 4 = .ok (.aload_n 0, 1) := by decide +kernel
theorem dX6_init_5 : decode cX6_init 5 = .ok (.bipush 20, 2) := by decide +kernel
theorem dX6_init_7 : decode cX6_init 7 = .ok (.putfield 9, 3) := by decide +kernel
theorem dX6_init_10 : decode cX6_init 10 = .ok (.aload_n 0, 1) := by decide +kernel
theorem dX6_init_11 : decode cX6_init 11 = .ok (.iconst 1, 1) := by decide +kernel
theorem dX6_init_12 : decode cX6_init 12 = .ok (.putfield 15, 3) := by decide +kernel
theorem dX6_init_15 : decode cX6_init 15 = .ok (.aload_n 0, 1) := by decide +kernel
theorem dX6_init_16 : decode cX6_init 16 = .ok (.bipush 50, 2) := by decide +kernel
theorem dX6_init_18 : decode cX6_init 18 = .ok (.newarray .int, 2) := by decide +kernel
theorem dX6_init_20 : decode cX6_init 20 = .ok (.putfield 18, 3) := by decide +kernel
theorem dX6_init_23 : decode cX6_init 23 = .ok (.aload_n 0, 1) := by decide +kernel
theorem dX6_init_24 : decode cX6_init 24 = .ok (.bipush 50, 2) := by decide +kernel
theorem dX6_init_26 : decode cX6_init 26 = .ok (.newarray .int, 2) := by decide +kernel
theorem dX6_init_28 : decode cX6_init 28 = .ok (.putfield 22, 3) := by decide +kernel
theorem dX6_init_31 : decode cX6_init 31 = .ok (.return_, 1) := by decide +kernel
theorem dX6_clear_0 : decode cX6_clear 0 = .ok (.aload_n 0, 1) := by decide +kernel
theorem dX6_clear_1 : decode cX6_clear 1 = .ok (.iload_n 1, 1) := by decide +kernel
theorem dX6_clear_2 : decode cX6_clear 2 = .ok (.putfield 9, 3) := by decide +kernel
theorem dX6_clear_5 : decode cX6_clear 5 = .ok (.aload_n 0, 1) := by decide +kernel
theorem dX6_clear_6 : decode cX6_clear 6 = .ok (.iload_n 2, 1) := by decide +kernel
theorem dX6_clear_7 : decode cX6_clear 7 = .ok (.putfield 15, 3) := by decide +kernel
theorem dX6_clear_10 : decode cX6_clear 10 = .ok (.iconst 0, 1) := by decide +kernel
theorem dX6_clear_11 : decode cX6_clear 11 = .ok (.istore_n 3, 1) := by decide +kernel
theorem dX6_clear_12 : decode cX6_clear 12 = .ok (.iload_n 3, 1) := by decide +kernel
theorem dX6_clear_13 : decode cX6_clear 13 = .ok (.bipush 50, 2) := by decide +kernel
theorem dX6_clear_15 : decode cX6_clear 15 = .ok (.if_icmp .ge 23, 3) := by decide +kernel
theorem dX6_clear_18 : decode cX6_clear 18 = .ok (.aload_n 0, 1) := by decide +kernel
theorem dX6_clear_19 : decode cX6_clear 19 = .ok (.getfield 18, 3) := by decide +kernel
theorem dX6_clear_22 : decode cX6_clear 22 = .ok (.iload_n 3, 1) := by decide +kernel
theorem dX6_clear_23 : decode cX6_clear 23 = .ok (.iconst 0, 1) := by decide +kernel
theorem dX6_clear_24 : decode cX6_clear 24 = .ok (.iastore, 1) := by decide +kernel
theorem dX6_clear_25 : decode cX6_clear 25 = .ok (.aload_n 0, 1) := by decide +kernel
theorem dX6_clear_26 : decode cX6_clear 26 = .ok (.getfield 22, 3) := by decide +kernel
theorem dX6_clear_29 : decode cX6_clear 29 = .ok (.iload_n 3, 1) := by decide +kernel
theorem dX6_clear_30 : decode cX6_clear 30 = .ok (.iconst 0, 1) := by decide +kernel
theorem dX6_clear_31 : decode cX6_clear 31 = .ok (.iastore, 1) := by decide +kernel
theorem dX6_clear_32 : decode cX6_clear 32 = .ok (.iinc 3 1, 3) := by decide +kernel
theorem dX6_clear_35 : decode cX6_clear 35 = .ok (.goto (-23), 3) := by decide +kernel
theorem dX6_clear_38 : decode cX6_clear 38 = .ok (.return_, 1) := by decide +kernel
theorem dX6_has_0 : decode cX6_has 0 = .ok (.iload_n 1, 1) := by decide +kernel
theorem dX6_has_1 : decode cX6_has 1 = .ok (.ifCond .lt 15, 3) := by decide +kernel
theorem dX6_has_4 : decode cX6_has 4 = .ok (.iload_n 1, 1) := by decide +kernel
theorem dX6_has_5 : decode cX6_has 5 = .ok (.aload_n 0, 1) := by decide +kernel
theorem dX6_has_6 : decode cX6_has 6 = .ok (.getfield 9, 3) := by decide +kernel
theorem dX6_has_9 : decode cX6_has 9 = .ok (.if_icmp .ge 7, 3) := by decide +kernel
theorem dX6_has_12 : decode cX6_has 12 = .ok (.iconst 1, 1) := by decide +kernel
theorem dX6_has_13 : decode cX6_has 13 = .ok (.goto 4, 3) := by decide +kernel
theorem dX6_has_16 : decode cX6_has 16 = .ok (.iconst 0, 1) := by decide +kernel
theorem dX6_has_17 : decode cX6_has 17 = .ok (.ireturn, 1) := by decide +kernel
theorem dX6_minutesAt_0 : decode cX6_minutesAt 0 = .ok (.iload_n 1, 1) := by decide +kernel
theorem dX6_minutesAt_1 : decode cX6_minutesAt 1 = .ok (.ifCond .lt 20, 3) := by decide +kernel
theorem dX6_minutesAt_4 : decode cX6_minutesAt 4 = .ok (.iload_n 1, 1) := by decide +kernel
theorem dX6_minutesAt_5 : decode cX6_minutesAt 5 = .ok (.aload_n 0, 1) := by decide +kernel
theorem dX6_minutesAt_6 : decode cX6_minutesAt 6 = .ok (.getfield 9, 3) := by decide +kernel
theorem dX6_minutesAt_9 : decode cX6_minutesAt 9 = .ok (.if_icmp .ge 12, 3) := by decide +kernel
theorem dX6_minutesAt_12 : decode cX6_minutesAt 12 = .ok (.aload_n 0, 1) := by decide +kernel
theorem dX6_minutesAt_13 : decode cX6_minutesAt 13 = .ok (.getfield 22, 3) := by decide +kernel
theorem dX6_minutesAt_16 : decode cX6_minutesAt 16 = .ok (.iload_n 1, 1) := by decide +kernel
theorem dX6_minutesAt_17 : decode cX6_minutesAt 17 = .ok (.iaload, 1) := by decide +kernel
theorem dX6_minutesAt_18 : decode cX6_minutesAt 18 = .ok (.goto 4, 3) := by decide +kernel
theorem dX6_minutesAt_21 : decode cX6_minutesAt 21 = .ok (.iconst 0, 1) := by decide +kernel
theorem dX6_minutesAt_22 : decode cX6_minutesAt 22 = .ok (.ireturn, 1) := by decide +kernel
theorem dX6_firstTooLow_0 : decode cX6_firstTooLow 0 = .ok (.iconst 0, 1) := by decide +kernel
theorem dX6_firstTooLow_1 : decode cX6_firstTooLow 1 = .ok (.istore_n 2, 1) := by decide +kernel
theorem dX6_firstTooLow_2 : decode cX6_firstTooLow 2 = .ok (.iload_n 2, 1) := by decide +kernel
theorem dX6_firstTooLow_3 : decode cX6_firstTooLow 3 = .ok (.aload_n 0, 1) := by decide +kernel
theorem dX6_firstTooLow_4 : decode cX6_firstTooLow 4 = .ok (.getfield 9, 3) := by decide +kernel
theorem dX6_firstTooLow_7 : decode cX6_firstTooLow 7 = .ok (.if_icmp .ge 30, 3) := by decide +kernel
theorem dX6_firstTooLow_10 : decode cX6_firstTooLow 10 = .ok (.aload_n 0, 1) := by decide +kernel
theorem dX6_firstTooLow_11 : decode cX6_firstTooLow 11 = .ok (.getfield 18, 3) := by decide +kernel
theorem dX6_firstTooLow_14 : decode cX6_firstTooLow 14 = .ok (.iload_n 2, 1) := by decide +kernel
theorem dX6_firstTooLow_15 : decode cX6_firstTooLow 15 = .ok (.iaload, 1) := by decide +kernel
theorem dX6_firstTooLow_16 : decode cX6_firstTooLow 16 = .ok (.ifCond .eq 15, 3) := by decide +kernel
theorem dX6_firstTooLow_19 : decode cX6_firstTooLow 19 = .ok (.iload_n 1, 1) := by decide +kernel
theorem dX6_firstTooLow_20 : decode cX6_firstTooLow 20 = .ok (.aload_n 0, 1) := by decide +kernel
theorem dX6_firstTooLow_21 : decode cX6_firstTooLow 21 = .ok (.getfield 18, 3) := by decide +kernel
theorem dX6_firstTooLow_24 : decode cX6_firstTooLow 24 = .ok (.iload_n 2, 1) := by decide +kernel
theorem dX6_firstTooLow_25 : decode cX6_firstTooLow 25 = .ok (.iaload, 1) := by decide +kernel
theorem dX6_firstTooLow_26 : decode cX6_firstTooLow 26 = .ok (.if_icmp .le 5, 3) := by decide +kernel
theorem dX6_firstTooLow_29 : decode cX6_firstTooLow 29 = .ok (.iload_n 2, 1) := by decide +kernel
theorem dX6_firstTooLow_30 : decode cX6_firstTooLow 30 = .ok (.ireturn, 1) := by decide +kernel
theorem dX6_firstTooLow_31 : decode cX6_firstTooLow 31 = .ok (.iinc 2 1, 3) := by decide +kernel
theorem dX6_firstTooLow_34 : decode cX6_firstTooLow 34 = .ok (.goto (-32), 3) := by decide +kernel
theorem dX6_firstTooLow_37 : decode cX6_firstTooLow 37 = .ok (.iconst (-1), 1) := by decide +kernel
theorem dX6_firstTooLow_38 : decode cX6_firstTooLow 38 = .ok (.ireturn, 1) := by decide +kernel
set_option maxRecDepth 20000 in
theorem ggX7_init_X2_init : GoodIn wsX7_init wsX2_init := goodIn_r _ [39, 40, 2, 3, 41, 8, 42, 43, 44, 45, 46, 109, 110, 111, 112, 113, 114] (by decide +kernel) (by decide +kernel)
set_option maxRecDepth 20000 in
theorem gX7_init_X2_init_n9 : GoodIn wsX7_init (wsX2_init) := ggX7_init_X2_init
set_option maxRecDepth 20000 in
theorem ggX7_init_X4_init : GoodIn wsX7_init wsX4_init := goodIn_r _ [49, 50, 2, 3, 51, 52, 53, 54, 55, 56, 57, 58, 59, 60, 127, 128, 129, 130, 131, 132, 133, 134, 135] (by decide +kernel) (by decide +kernel)
set_option maxRecDepth 20000 in
theorem gX7_init_X4_init : GoodIn wsX7_init (wsX4_init) := ggX7_init_X4_init
set_option maxRecDepth 20000 in
theorem ggX7_init_X0_init : GoodIn wsX7_init wsX0_init := goodIn_r _ [63, 64, 2, 3, 65, 8, 66, 67, 68, 69, 70, 136, 137, 138, 139, 140, 141] (by decide +kernel) (by decide +kernel)
set_option maxRecDepth 20000 in
theorem gX7_init_X0_init : GoodIn wsX7_init (wsX0_init) := ggX7_init_X0_init
set_option maxRecDepth 20000 in
theorem ggX7_init_X5_init : GoodIn wsX7_init wsX5_init := goodIn_r _ [73, 74, 2, 3, 8, 75, 76, 77, 78, 79, 80, 81, 82, 142, 143, 144, 145, 146, 147, 148, 149] (by decide +kernel) (by decide +kernel)
set_option maxRecDepth 20000 in
theorem gX7_init_X5_init : GoodIn wsX7_init (wsX5_init) := ggX7_init_X5_init
set_option maxRecDepth 20000 in
theorem ggX7_init_X1_init : GoodIn wsX7_init wsX1_init := goodIn_r _ [84, 85, 2, 3, 86, 87, 88, 150, 151, 152] (by decide +kernel) (by decide +kernel)
set_option maxRecDepth 20000 in
theorem gX7_init_X1_init_n51 : GoodIn wsX7_init (wsX1_init) := ggX7_init_X1_init
set_option maxRecDepth 20000 in
theorem ggX7_init_X6_init : GoodIn wsX7_init wsX6_init := goodIn_r _ [90, 91, 2, 3, 92, 93, 8, 94, 95, 153, 154, 155, 156] (by decide +kernel) (by decide +kernel)
set_option maxRecDepth 20000 in
theorem gX7_init_X6_init_n58 : GoodIn wsX7_init (wsX6_init) := ggX7_init_X6_init
set_option maxRecDepth 20000 in
theorem ggX7_init_X3_init : GoodIn wsX7_init wsX3_init := goodIn_r _ [98, 99, 2, 3, 8, 100, 101, 102, 103, 104, 105, 106, 107, 108, 157, 158, 159, 160, 161, 162, 163, 164, 165] (by decide +kernel) (by decide +kernel)
set_option maxRecDepth 20000 in
theorem gX7_init_X3_init : GoodIn wsX7_init (wsX3_init) := ggX7_init_X3_init
theorem dX7_init_0 : decode cX7_init 0 = .ok (.aload_n 0, 1) := by decide +kernel
theorem dX7_init_1 : decode cX7_init 1 = .ok (.invokespecial 1, 3) := by decide +kernel
theorem dX7_init_4 : decode cX7_init 4 = .ok (.aload_n 0, 1) := by decide +kernel
theorem dX7_init_5 : decode cX7_init 5 = .ok (.new 7, 3) := by decide +kernel
theorem dX7_init_8 : decode cX7_init 8 = .ok (.dup, 1) := by decide +kernel
theorem dX7_init_9 : decode cX7_init 9 = .ok (.invokespecial 9, 3) := by decide +kernel
theorem dX7_init_12 : decode cX7_init 12 = .ok (.putfield 10, 3) := by decide +kernel
theorem dX7_init_15 : decode cX7_init 15 = .ok (.aload_n 0, 1) := by decide +kernel
theorem dX7_init_16 : decode cX7_init 16 = .ok (.bipush 8, 2) := by decide +kernel
theorem dX7_init_18 : decode cX7_init 18 = .ok (.newarray .int, 2) := by decide +kernel
theorem dX7_init_20 : decode cX7_init 20 = .ok (.putfield 16, 3) := by decide +kernel
theorem dX7_init_23 : decode cX7_init 23 = .ok (.aload_n 0, 1) := by decide +kernel
theorem dX7_init_24 : decode cX7_init 24 = .ok (.bipush 8, 2) := by decide +kernel
theorem dX7_init_26 : decode cX7_init 26 = .ok (.newarray .int, 2) := by decide +kernel
theorem dX7_init_28 : decode cX7_init 28 = .ok (.putfield 20, 3) := by decide +kernel
theorem dX7_init_31 : decode cX7_init 31 = .ok (.aload_n 0, 1) := by decide +kernel
theorem dX7_init_32 : decode cX7_init 32 = .ok (.new 23, 3) := by decide +kernel
theorem dX7_init_35 : decode cX7_init 35 = .ok (.dup, 1) := by decide +kernel
theorem dX7_init_36 : decode cX7_init 36 = .ok (.aload_n 0, 1) := by decide +kernel
theorem dX7_init_37 : decode cX7_init 37 = .ok (.getfield 10, 3) := by decide +kernel
theorem dX7_init_40 : decode cX7_init 40 = .ok (.invokespecial 25, 3) := by decide +kernel
theorem dX7_init_43 : decode cX7_init 43 = .ok (.putfield 28, 3) := by decide +kernel
theorem dX7_init_46 : decode cX7_init 46 = .ok (.aload_n 0, 1) := by decide +kernel
theorem dX7_init_47 : decode cX7_init 47 = .ok (.new 32, 3) := by decide +kernel
theorem dX7_init_50 : decode cX7_init 50 = .ok (.dup, 1) := by decide +kernel
theorem dX7_init_51 : decode cX7_init 51 = .ok (.aload_n 0, 1) := by decide +kernel
theorem dX7_init_52 : decode cX7_init 52 = .ok (.getfield 10, 3) := by decide +kernel
theorem dX7_init_55 : decode cX7_init 55 = .ok (.invokespecial 34, 3) := by decide +kernel
theorem dX7_init_58 : decode cX7_init 58 = .ok (.putfield 35, 3) := by decide +kernel
theorem dX7_init_61 : decode cX7_init 61 = .ok (.aload_n 0, 1) := by decide +kernel
theorem dX7_init_62 : decode cX7_init 62 = .ok (.new 32, 3) := by decide +kernel
theorem dX7_init_65 : decode cX7_init 65 = .ok (.dup, 1) := by decide +kernel
theorem dX7_init_66 : decode cX7_init 66 = .ok (.aload_n 0, 1) := by decide +kernel
theorem dX7_init_67 : decode cX7_init 67 = .ok (.getfield 10, 3) := by decide +kernel
theorem dX7_init_70 : decode cX7_init 70 = .ok (.invokespecial 34, 3) := by decide +kernel
theorem dX7_init_73 : decode cX7_init 73 = .ok (.putfield 39, 3) := by decide +kernel
theorem dX7_init_76 : decode cX7_init 76 = .ok (.aload_n 0, 1) := by decide +kernel
theorem dX7_init_77 : decode cX7_init 77 = .ok (.new 42, 3) := by decide +kernel
theorem dX7_init_80 : decode cX7_init 80 = .ok (.dup, 1) := by decide +kernel
theorem dX7_init_81 : decode cX7_init 81 = .ok (.aload_n 0, 1) := by decide +kernel
theorem dX7_init_82 : decode cX7_init 82 = .ok (.getfield 10, 3) := by decide +kernel
theorem dX7_init_85 : decode cX7_init 85 = .ok (.invokespecial 44, 3) := by decide +kernel
theorem dX7_init_88 : decode cX7_init 88 = .ok (.putfield 45, 3) := by decide +kernel
theorem dX7_init_91 : decode cX7_init 91 = .ok (.aload_n 0, 1) := by decide +kernel
theorem dX7_init_92 : decode cX7_init 92 = .ok (.new 49, 3) := by decide +kernel
theorem dX7_init_95 : decode cX7_init 95 = .ok (.dup, 1) := by decide +kernel
theorem dX7_init_96 : decode cX7_init 96 = .ok (.invokespecial 51, 3) := by decide +kernel
theorem dX7_init_99 : decode cX7_init 99 = .ok (.putfield 52, 3) := by decide +kernel
theorem dX7_init_102 : decode cX7_init 102 = .ok (.aload_n 0, 1) := by decide +kernel
theorem dX7_init_103 : decode cX7_init 103 = .ok (.new 56, 3) := by decide +kernel
theorem dX7_init_106 : decode cX7_init 106 = .ok (.dup, 1) := by decide +kernel
theorem dX7_init_107 : decode cX7_init 107 = .ok (.invokespecial 58, 3) := by decide +kernel
theorem dX7_init_110 : decode cX7_init 110 = .ok (.putfield 59, 3) := by decide +kernel
theorem dX7_init_113 : decode cX7_init 113 = .ok (.aload_n 0, 1) := by decide +kernel
theorem dX7_init_114 : decode cX7_init 114 = .ok (.new 63, 3) := by decide +kernel
theorem dX7_init_117 : decode cX7_init 117 = .ok (.dup, 1) := by decide +kernel
theorem dX7_init_118 : decode cX7_init 118 = .ok (.aload_n 0, 1) := by decide +kernel
theorem dX7_init_119 : decode cX7_init 119 = .ok (.getfield 10, 3) := by decide +kernel
theorem dX7_init_122 : decode cX7_init 122 = .ok (.aload_n 0, 1) := by decide +kernel
theorem dX7_init_123 : decode cX7_init 123 = .ok (.getfield 59, 3) := by decide +kernel
theorem dX7_init_126 : decode cX7_init 126 = .ok (.invokespecial 65, 3) := by decide +kernel
theorem dX7_init_129 : decode cX7_init 129 = .ok (.putfield 68, 3) := by decide +kernel
theorem dX7_init_132 : decode cX7_init 132 = .ok (.aload_n 0, 1) := by decide +kernel
theorem dX7_init_133 : decode cX7_init 133 = .ok (.new 63, 3) := by decide +kernel
theorem dX7_init_136 : decode cX7_init 136 = .ok (.dup, 1) := by decide +kernel
theorem dX7_init_137 : decode cX7_init 137 = .ok (.aload_n 0, 1) := by decide +kernel
theorem dX7_init_138 : decode cX7_init 138 = .ok (.getfield 10, 3) := by decide +kernel
theorem dX7_init_141 : decode cX7_init 141 = .ok (.aload_n 0, 1) := by decide +kernel
theorem dX7_init_142 : decode cX7_init 142 = .ok (.getfield 59, 3) := by decide +kernel
theorem dX7_init_145 : decode cX7_init 145 = .ok (.invokespecial 65, 3) := by decide +kernel
theorem dX7_init_148 : decode cX7_init 148 = .ok (.putfield 72, 3) := by decide +kernel
theorem dX7_init_151 : decode cX7_init 151 = .ok (.aload_n 0, 1) := by decide +kernel
theorem dX7_init_152 : decode cX7_init 152 = .ok (.iconst 0, 1) := by decide +kernel
theorem dX7_init_153 : decode cX7_init 153 = .ok (.putfield 75, 3) := by decide +kernel
theorem dX7_init_156 : decode cX7_init 156 = .ok (.return_, 1) := by decide +kernel
set_option maxRecDepth 20000 in
theorem ggX7_guest_X2_canBe : GoodIn wsX7_guest wsX2_canBe := goodIn_r _ [8] (by decide +kernel) (by decide +kernel)
set_option maxRecDepth 20000 in
theorem gX7_guest_X2_canBe : GoodIn wsX7_guest (va_wsS RX7 83 yX2_canBe wsX2_canBe) := goodIn_app (goodIn_of _ (by decide +kernel)) ggX7_guest_X2_canBe
set_option maxRecDepth 20000 in
theorem ggX7_guest_X2_add : GoodIn wsX7_guest wsX2_add := goodIn_r _ [12, 13, 14, 15, 16, 17, 18, 31, 32, 33, 34, 35, 36] (by decide +kernel) (by decide +kernel)
set_option maxRecDepth 20000 in
theorem gX7_guest_X2_add : GoodIn wsX7_guest (wsV RX7 87 RX2 yX2_add wsX2_add) := goodIn_app (goodIn_of _ (by decide +kernel)) ggX7_guest_X2_add
theorem dX7_guest_0 : decode cX7_guest 0 = .ok (.aload_n 0, 1) := by decide +kernel
theorem dX7_guest_1 : decode cX7_guest 1 = .ok (.getfield 10, 3) := by decide +kernel
theorem dX7_guest_4 : decode cX7_guest 4 = .ok (.getfield 79, 3) := by decide +kernel
theorem dX7_guest_7 : decode cX7_guest 7 = .ok (.bipush 8, 2) := by decide +kernel
theorem dX7_guest_9 : decode cX7_guest 9 = .ok (.if_icmp .ge 16, 3) := by decide +kernel
theorem dX7_guest_12 : decode cX7_guest 12 = .ok (.iload_n 1, 1) := by decide +kernel
theorem dX7_guest_13 : decode cX7_guest 13 = .ok (.iload_n 2, 1) := by decide +kernel
theorem dX7_guest_14 : decode cX7_guest 14 = .ok (.iload_n 3, 1) := by decide +kernel
theorem dX7_guest_15 : decode cX7_guest 15 = .ok (.iload 4, 2) := by decide +kernel
theorem dX7_guest_17 : decode cX7_guest 17 = .ok (.iload 5, 2) := by decide +kernel
theorem dX7_guest_19 : decode cX7_guest 19 = .ok (.invokestatic 83, 3) := by decide +kernel
theorem dX7_guest_22 : decode cX7_guest 22 = .ok (.ifCond .ne 5, 3) := by decide +kernel
theorem dX7_guest_25 : decode cX7_guest 25 = .ok (.iconst (-1), 1) := by decide +kernel
theorem dX7_guest_26 : decode cX7_guest 26 = .ok (.ireturn, 1) := by decide +kernel
theorem dX7_guest_27 : decode cX7_guest 27 = .ok (.aload_n 0, 1) := by decide +kernel
theorem dX7_guest_28 : decode cX7_guest 28 = .ok (.getfield 10, 3) := by decide +kernel
theorem dX7_guest_31 : decode cX7_guest 31 = .ok (.iload_n 1, 1) := by decide +kernel
theorem dX7_guest_32 : decode cX7_guest 32 = .ok (.iload_n 2, 1) := by decide +kernel
theorem dX7_guest_33 : decode cX7_guest 33 = .ok (.iload_n 3, 1) := by decide +kernel
theorem dX7_guest_34 : decode cX7_guest 34 = .ok (.iload 4, 2) := by decide +kernel
theorem dX7_guest_36 : decode cX7_guest 36 = .ok (.iload 5, 2) := by decide +kernel
theorem dX7_guest_38 : decode cX7_guest 38 = .ok (.invokevirtual 87, 3) := by decide +kernel
theorem dX7_guest_41 : decode cX7_guest 41 = .ok (.iconst 0, 1) := by decide +kernel
theorem dX7_guest_42 : decode cX7_guest 42 = .ok (.istore 6, 2) := by decide +kernel
theorem dX7_guest_44 : decode cX7_guest 44 = .ok (.iload 6, 2) := by decide +kernel
theorem dX7_guest_46 : decode cX7_guest 46 = .ok (.aload_n 0, 1) := by decide +kernel
theorem dX7_guest_47 : decode cX7_guest 47 = .ok (.getfield 10, 3) := by decide +kernel
theorem dX7_guest_50 : decode cX7_guest 50 = .ok (.getfield 79, 3) := by decide +kernel
theorem dX7_guest_53 : decode cX7_guest 53 = .ok (.if_icmp .ge 18, 3) := by decide +kernel
theorem dX7_guest_56 : decode cX7_guest 56 = .ok (.aload_n 0, 1) := by decide +kernel
theorem dX7_guest_57 : decode cX7_guest 57 = .ok (.getfield 16, 3) := by decide +kernel
theorem dX7_guest_60 : decode cX7_guest 60 = .ok (.iload 6, 2) := by decide +kernel
theorem dX7_guest_62 : decode cX7_guest 62 = .ok (.iload 6, 2) := by decide +kernel
theorem dX7_guest_64 : decode cX7_guest 64 = .ok (.iastore, 1) := by decide +kernel
theorem dX7_guest_65 : decode cX7_guest 65 = .ok (.iinc 6 1, 3) := by decide +kernel
theorem dX7_guest_68 : decode cX7_guest 68 = .ok (.goto (-24), 3) := by decide +kernel
theorem dX7_guest_71 : decode cX7_guest 71 = .ok (.aload_n 0, 1) := by decide +kernel
theorem dX7_guest_72 : decode cX7_guest 72 = .ok (.iconst 0, 1) := by decide +kernel
theorem dX7_guest_73 : decode cX7_guest 73 = .ok (.putfield 75, 3) := by decide +kernel
theorem dX7_guest_76 : decode cX7_guest 76 = .ok (.aload_n 0, 1) := by decide +kernel
theorem dX7_guest_77 : decode cX7_guest 77 = .ok (.getfield 10, 3) := by decide +kernel
theorem dX7_guest_80 : decode cX7_guest 80 = .ok (.getfield 79, 3) := by decide +kernel
theorem dX7_guest_83 : decode cX7_guest 83 = .ok (.iconst 1, 1) := by decide +kernel
theorem dX7_guest_84 : decode cX7_guest 84 = .ok (.isub, 1) := by decide +kernel
theorem dX7_guest_85 : decode cX7_guest 85 = .ok (.ireturn, 1) := by decide +kernel
set_option maxRecDepth 20000 in
theorem ggX7_of_X7_needGuest : GoodIn wsX7_of wsX7_needGuest := goodIn_ca (goodIn_r _ [11, 12, 13, 1, 14, 15, 16, 17, 18, 19, 20, 21, 22, 23, 24, 25, 26, 27, 28, 29, 30, 31, 32, 33, 34, 35, 36, 37] (by decide +kernel) (by decide +kernel)) (goodIn_sub (fun _ h => List.mem_cons_of_mem _ (List.mem_append_right _ h)) (by decide +kernel))
set_option maxRecDepth 20000 in
theorem gX7_of_X7_needGuest : GoodIn wsX7_of (wsV RX7 91 RX7 yX7_needGuest wsX7_needGuest) := goodIn_app (goodIn_of _ (by decide +kernel)) ggX7_of_X7_needGuest
theorem dX7_of_0 : decode cX7_of 0 = .ok (.aload_n 0, 1) := by decide +kernel
theorem dX7_of_1 : decode cX7_of 1 = .ok (.iload_n 1, 1) := by decide +kernel
theorem dX7_of_2 : decode cX7_of 2 = .ok (.invokevirtual 91, 3) := by decide +kernel
theorem dX7_of_5 : decode cX7_of 5 = .ok (.iload_n 2, 1) := by decide +kernel
theorem dX7_of_6 : decode cX7_of 6 = .ok (.tableswitch 84 0 4 #[34, 44, 54, 64, 74], 34) := by decide +kernel
theorem dX7_of_40 : decode cX7_of 40 = .ok (.aload_n 0, 1) := by decide +kernel
theorem dX7_of_41 : decode cX7_of 41 = .ok (.getfield 10, 3) := by decide +kernel
theorem dX7_of_44 : decode cX7_of 44 = .ok (.getfield 95, 3) := by decide +kernel
theorem dX7_of_47 : decode cX7_of 47 = .ok (.iload_n 1, 1) := by decide +kernel
theorem dX7_of_48 : decode cX7_of 48 = .ok (.iaload, 1) := by decide +kernel
theorem dX7_of_49 : decode cX7_of 49 = .ok (.ireturn, 1) := by decide +kernel
theorem dX7_of_50 : decode cX7_of 50 = .ok (.aload_n 0, 1) := by decide +kernel
theorem dX7_of_51 : decode cX7_of 51 = .ok (.getfield 10, 3) := by decide +kernel
theorem dX7_of_54 : decode cX7_of 54 = .ok (.getfield 98, 3) := by decide +kernel
theorem dX7_of_57 : decode cX7_of 57 = .ok (.iload_n 1, 1) := by decide +kernel
theorem dX7_of_58 : decode cX7_of 58 = .ok (.iaload, 1) := by decide +kernel
theorem dX7_of_59 : decode cX7_of 59 = .ok (.ireturn, 1) := by decide +kernel
theorem dX7_of_60 : decode cX7_of 60 = .ok (.aload_n 0, 1) := by decide +kernel
theorem dX7_of_61 : decode cX7_of 61 = .ok (.getfield 10, 3) := by decide +kernel
theorem dX7_of_64 : decode cX7_of 64 = .ok (.getfield 101, 3) := by decide +kernel
theorem dX7_of_67 : decode cX7_of 67 = .ok (.iload_n 1, 1) := by decide +kernel
theorem dX7_of_68 : decode cX7_of 68 = .ok (.iaload, 1) := by decide +kernel
theorem dX7_of_69 : decode cX7_of 69 = .ok (.ireturn, 1) := by decide +kernel
theorem dX7_of_70 : decode cX7_of 70 = .ok (.aload_n 0, 1) := by decide +kernel
theorem dX7_of_71 : decode cX7_of 71 = .ok (.getfield 10, 3) := by decide +kernel
theorem dX7_of_74 : decode cX7_of 74 = .ok (.getfield 104, 3) := by decide +kernel
theorem dX7_of_77 : decode cX7_of 77 = .ok (.iload_n 1, 1) := by decide +kernel
theorem dX7_of_78 : decode cX7_of 78 = .ok (.iaload, 1) := by decide +kernel
theorem dX7_of_79 : decode cX7_of 79 = .ok (.ireturn, 1) := by decide +kernel
theorem dX7_of_80 : decode cX7_of 80 = .ok (.aload_n 0, 1) := by decide +kernel
theorem dX7_of_81 : decode cX7_of 81 = .ok (.getfield 10, 3) := by decide +kernel
theorem dX7_of_84 : decode cX7_of 84 = .ok (.getfield 107, 3) := by decide +kernel
theorem dX7_of_87 : decode cX7_of 87 = .ok (.iload_n 1, 1) := by decide +kernel
theorem dX7_of_88 : decode cX7_of 88 = .ok (.iaload, 1) := by decide +kernel
theorem dX7_of_89 : decode cX7_of 89 = .ok (.ireturn, 1) := by decide +kernel
theorem dX7_of_90 : decode cX7_of 90 = .ok (.iconst (-1), 1) := by decide +kernel
theorem dX7_of_91 : decode cX7_of 91 = .ok (.ireturn, 1) := by decide +kernel
set_option maxRecDepth 20000 in
theorem ggX7_feed_X4_addFour : GoodIn wsX7_feed wsX4_addFour := goodIn_r _ [7, 8, 9, 22, 23, 24, 25, 26, 27, 28, 29, 30] (by decide +kernel) (by decide +kernel)
set_option maxRecDepth 20000 in
theorem gX7_feed_X4_addFour : GoodIn wsX7_feed (wsV RX7 113 RX4 yX4_addFour wsX4_addFour) := goodIn_app (goodIn_of _ (by decide +kernel)) ggX7_feed_X4_addFour
theorem dX7_feed_0 : decode cX7_feed 0 = .ok (.aload_n 0, 1) := by decide +kernel
theorem dX7_feed_1 : decode cX7_feed 1 = .ok (.getfield 28, 3) := by decide +kernel
theorem dX7_feed_4 : decode cX7_feed 4 = .ok (.getfield 110, 3) := by decide +kernel
theorem dX7_feed_7 : decode cX7_feed 7 = .ok (.bipush 20, 2) := by decide +kernel
theorem dX7_feed_9 : decode cX7_feed 9 = .ok (.iadd, 1) := by decide +kernel
theorem dX7_feed_10 : decode cX7_feed 10 = .ok (.sipush 400, 3) := by decide +kernel
theorem dX7_feed_13 : decode cX7_feed 13 = .ok (.if_icmp .le 5, 3) := by decide +kernel
theorem dX7_feed_16 : decode cX7_feed 16 = .ok (.iconst (-1), 1) := by decide +kernel
theorem dX7_feed_17 : decode cX7_feed 17 = .ok (.ireturn, 1) := by decide +kernel
theorem dX7_feed_18 : decode cX7_feed 18 = .ok (.aload_n 0, 1) := by decide +kernel
theorem dX7_feed_19 : decode cX7_feed 19 = .ok (.getfield 28, 3) := by decide +kernel
theorem dX7_feed_22 : decode cX7_feed 22 = .ok (.iload_n 1, 1) := by decide +kernel
theorem dX7_feed_23 : decode cX7_feed 23 = .ok (.invokevirtual 113, 3) := by decide +kernel
theorem dX7_feed_26 : decode cX7_feed 26 = .ok (.aload_n 0, 1) := by decide +kernel
theorem dX7_feed_27 : decode cX7_feed 27 = .ok (.getfield 28, 3) := by decide +kernel
theorem dX7_feed_30 : decode cX7_feed 30 = .ok (.iload_n 2, 1) := by decide +kernel
theorem dX7_feed_31 : decode cX7_feed 31 = .ok (.invokevirtual 113, 3) := by decide +kernel
theorem dX7_feed_34 : decode cX7_feed 34 = .ok (.aload_n 0, 1) := by decide +kernel
theorem dX7_feed_35 : decode cX7_feed 35 = .ok (.getfield 28, 3) := by decide +kernel
theorem dX7_feed_38 : decode cX7_feed 38 = .ok (.iload_n 3, 1) := by decide +kernel
theorem dX7_feed_39 : decode cX7_feed 39 = .ok (.invokevirtual 113, 3) := by decide +kernel
theorem dX7_feed_42 : decode cX7_feed 42 = .ok (.aload_n 0, 1) := by decide +kernel
theorem dX7_feed_43 : decode cX7_feed 43 = .ok (.getfield 28, 3) := by decide +kernel
theorem dX7_feed_46 : decode cX7_feed 46 = .ok (.iload 4, 2) := by decide +kernel
theorem dX7_feed_48 : decode cX7_feed 48 = .ok (.invokevirtual 113, 3) := by decide +kernel
theorem dX7_feed_51 : decode cX7_feed 51 = .ok (.aload_n 0, 1) := by decide +kernel
theorem dX7_feed_52 : decode cX7_feed 52 = .ok (.getfield 28, 3) := by decide +kernel
theorem dX7_feed_55 : decode cX7_feed 55 = .ok (.iload 5, 2) := by decide +kernel
theorem dX7_feed_57 : decode cX7_feed 57 = .ok (.invokevirtual 113, 3) := by decide +kernel
theorem dX7_feed_60 : decode cX7_feed 60 = .ok (.aload_n 0, 1) := by decide +kernel
theorem dX7_feed_61 : decode cX7_feed 61 = .ok (.getfield 28, 3) := by decide +kernel
theorem dX7_feed_64 : decode cX7_feed 64 = .ok (.getfield 110, 3) := by decide +kernel
theorem dX7_feed_67 : decode cX7_feed 67 = .ok (.ireturn, 1) := by decide +kernel
theorem dX7_end_0 : decode cX7_end 0 = .ok (.iload_n 1, 1) := by decide +kernel
theorem dX7_end_1 : decode cX7_end 1 = .ok (.ifCond .lt 14, 3) := by decide +kernel
theorem dX7_end_4 : decode cX7_end 4 = .ok (.iload_n 1, 1) := by decide +kernel
theorem dX7_end_5 : decode cX7_end 5 = .ok (.aload_n 0, 1) := by decide +kernel
theorem dX7_end_6 : decode cX7_end 6 = .ok (.getfield 28, 3) := by decide +kernel
theorem dX7_end_9 : decode cX7_end 9 = .ok (.getfield 110, 3) := by decide +kernel
theorem dX7_end_12 : decode cX7_end 12 = .ok (.if_icmp .le 5, 3) := by decide +kernel
theorem dX7_end_15 : decode cX7_end 15 = .ok (.iconst 0, 1) := by decide +kernel
theorem dX7_end_16 : decode cX7_end 16 = .ok (.ireturn, 1) := by decide +kernel
theorem dX7_end_17 : decode cX7_end 17 = .ok (.aload_n 0, 1) := by decide +kernel
theorem dX7_end_18 : decode cX7_end 18 = .ok (.getfield 28, 3) := by decide +kernel
theorem dX7_end_21 : decode cX7_end 21 = .ok (.iload_n 1, 1) := by decide +kernel
theorem dX7_end_22 : decode cX7_end 22 = .ok (.putfield 110, 3) := by decide +kernel
theorem dX7_end_25 : decode cX7_end 25 = .ok (.iconst 1, 1) := by decide +kernel
theorem dX7_end_26 : decode cX7_end 26 = .ok (.ireturn, 1) := by decide +kernel
set_option maxRecDepth 20000 in
theorem ggX7_load_X4_start : GoodIn wsX7_load wsX4_start := goodIn_r _ [11, 12, 13, 14, 15, 16, 17, 10, 18, 19, 20, 21, 22, 23, 24, 25, 26, 27, 28, 29, 30, 31, 32, 33, 34, 35, 36, 37, 38, 39, 40, 41, 42, 43, 44, 45, 46, 47, 48, 49, 50, 51, 52, 53, 54, 55, 56, 57, 58, 59, 60, 61, 62, 63, 64, 65, 66, 67, 68, 69, 70, 71, 72, 73, 74, 75, 76, 77, 78, 79, 80, 81, 82, 83, 84, 85, 86, 87, 88, 89, 90, 91, 92, 93, 94, 95, 96, 152, 153, 154, 155, 156, 157, 158, 159, 160] (by decide +kernel) (by decide +kernel)
set_option maxRecDepth 20000 in
theorem gX7_load_X4_start : GoodIn wsX7_load (wsV RX7 117 RX4 yX4_start wsX4_start) := goodIn_app (goodIn_of _ (by decide +kernel)) ggX7_load_X4_start
set_option maxRecDepth 20000 in
theorem ggX7_load_X4_hasMore : GoodIn wsX7_load wsX4_hasMore := goodIn_r _ [100, 22, 12, 152, 153, 154, 155, 156, 157, 158, 159, 160] (by decide +kernel) (by decide +kernel)
set_option maxRecDepth 20000 in
theorem gX7_load_X4_hasMore : GoodIn wsX7_load (wsV RX7 120 RX4 yX4_hasMore wsX4_hasMore) := goodIn_app (goodIn_of _ (by decide +kernel)) ggX7_load_X4_hasMore
set_option maxRecDepth 20000 in
theorem ggX7_load_X4_readBar : GoodIn wsX7_load wsX4_readBar := goodIn_r _ [104, 22, 105, 12, 106, 107, 108, 10, 109, 21, 13, 15, 16, 17, 18, 14, 19, 20, 23, 24, 25, 26, 27, 28, 29, 30, 31, 32, 33, 34, 35, 36, 37, 38, 39, 40, 41, 42, 43, 44, 45, 46, 47, 48, 49, 50, 51, 52, 53, 54, 55, 56, 57, 58, 59, 60, 61, 62, 63, 64, 65, 66, 67, 68, 69, 70, 71, 72, 73, 74, 75, 76, 77, 78, 79, 80, 81, 82, 83, 84, 85, 86, 87, 88, 89, 90, 91, 92, 93, 94, 95, 96, 110, 111, 112, 113, 114, 115, 116, 117, 118, 119, 120, 121, 122, 123, 124, 125, 126, 127, 128, 129, 130, 131, 132, 133, 152, 153, 154, 155, 156, 157, 158, 159, 160, 146, 147, 148, 149, 150, 151, 161, 162, 163, 164, 165, 166] (by decide +kernel) (by decide +kernel)
set_option maxRecDepth 20000 in
theorem gX7_load_X4_readBar : GoodIn wsX7_load (wsV RX7 124 RX4 yX4_readBar wsX4_readBar) := goodIn_app (goodIn_of _ (by decide +kernel)) ggX7_load_X4_readBar
theorem dX7_load_0 : decode cX7_load 0 = .ok (.aload_n 0, 1) := by decide +kernel
theorem dX7_load_1 : decode cX7_load 1 = .ok (.getfield 39, 3) := by decide +kernel
theorem dX7_load_4 : decode cX7_load 4 = .ok (.iconst 0, 1) := by decide +kernel
theorem dX7_load_5 : decode cX7_load 5 = .ok (.putfield 116, 3) := by decide +kernel
theorem dX7_load_8 : decode cX7_load 8 = .ok (.aload_n 0, 1) := by decide +kernel
theorem dX7_load_9 : decode cX7_load 9 = .ok (.getfield 28, 3) := by decide +kernel
theorem dX7_load_12 : decode cX7_load 12 = .ok (.invokevirtual 117, 3) := by decide +kernel
theorem dX7_load_15 : decode cX7_load 15 = .ok (.iconst 0, 1) := by decide +kernel
theorem dX7_load_16 : decode cX7_load 16 = .ok (.istore_n 1, 1) := by decide +kernel
theorem dX7_load_17 : decode cX7_load 17 = .ok (.iload_n 1, 1) := by decide +kernel
theorem dX7_load_18 : decode cX7_load 18 = .ok (.bipush 10, 2) := by decide +kernel
theorem dX7_load_20 : decode cX7_load 20 = .ok (.if_icmp .gt 30, 3) := by decide +kernel
theorem dX7_load_23 : decode cX7_load 23 = .ok (.aload_n 0, 1) := by decide +kernel
theorem dX7_load_24 : decode cX7_load 24 = .ok (.getfield 28, 3) := by decide +kernel
theorem dX7_load_27 : decode cX7_load 27 = .ok (.invokevirtual 120, 3) := by decide +kernel
theorem dX7_load_30 : decode cX7_load 30 = .ok (.ifCond .eq 20, 3) := by decide +kernel
theorem dX7_load_33 : decode cX7_load 33 = .ok (.aload_n 0, 1) := by decide +kernel
theorem dX7_load_34 : decode cX7_load 34 = .ok (.getfield 28, 3) := by decide +kernel
theorem dX7_load_37 : decode cX7_load 37 = .ok (.aload_n 0, 1) := by decide +kernel
theorem dX7_load_38 : decode cX7_load 38 = .ok (.getfield 39, 3) := by decide +kernel
theorem dX7_load_41 : decode cX7_load 41 = .ok (.invokevirtual 124, 3) := by decide +kernel
theorem dX7_load_44 : decode cX7_load 44 = .ok (.iinc 1 1, 3) := by decide +kernel
theorem dX7_load_47 : decode cX7_load 47 = .ok (.goto (-30), 3) := by decide +kernel
theorem dX7_load_50 : decode cX7_load 50 = .ok (.aload_n 0, 1) := by decide +kernel
theorem dX7_load_51 : decode cX7_load 51 = .ok (.getfield 28, 3) := by decide +kernel
theorem dX7_load_54 : decode cX7_load 54 = .ok (.iconst 0, 1) := by decide +kernel
theorem dX7_load_55 : decode cX7_load 55 = .ok (.putfield 110, 3) := by decide +kernel
theorem dX7_load_58 : decode cX7_load 58 = .ok (.aload_n 0, 1) := by decide +kernel
theorem dX7_load_59 : decode cX7_load 59 = .ok (.getfield 28, 3) := by decide +kernel
theorem dX7_load_62 : decode cX7_load 62 = .ok (.getfield 128, 3) := by decide +kernel
theorem dX7_load_65 : decode cX7_load 65 = .ok (.ifCond .eq 5, 3) := by decide +kernel
theorem dX7_load_68 : decode cX7_load 68 = .ok (.iconst (-1), 1) := by decide +kernel
theorem dX7_load_69 : decode cX7_load 69 = .ok (.ireturn, 1) := by decide +kernel
theorem dX7_load_70 : decode cX7_load 70 = .ok (.aload_n 0, 1) := by decide +kernel
theorem dX7_load_71 : decode cX7_load 71 = .ok (.getfield 35, 3) := by decide +kernel
theorem dX7_load_74 : decode cX7_load 74 = .ok (.astore_n 1, 1) := by decide +kernel
theorem dX7_load_75 : decode cX7_load 75 = .ok (.aload_n 0, 1) := by decide +kernel
theorem dX7_load_76 : decode cX7_load 76 = .ok (.aload_n 0, 1) := by decide +kernel
theorem dX7_load_77 : decode cX7_load 77 = .ok (.getfield 39, 3) := by decide +kernel
theorem dX7_load_80 : decode cX7_load 80 = .ok (.putfield 35, 3) := by decide +kernel
theorem dX7_load_83 : decode cX7_load 83 = .ok (.aload_n 0, 1) := by decide +kernel
theorem dX7_load_84 : decode cX7_load 84 = .ok (.aload_n 1, 1) := by decide +kernel
theorem dX7_load_85 : decode cX7_load 85 = .ok (.putfield 39, 3) := by decide +kernel
theorem dX7_load_88 : decode cX7_load 88 = .ok (.aload_n 0, 1) := by decide +kernel
theorem dX7_load_89 : decode cX7_load 89 = .ok (.getfield 35, 3) := by decide +kernel
theorem dX7_load_92 : decode cX7_load 92 = .ok (.getfield 116, 3) := by decide +kernel
theorem dX7_load_95 : decode cX7_load 95 = .ok (.ireturn, 1) := by decide +kernel
theorem dX7_fault_0 : decode cX7_fault 0 = .ok (.iload_n 1, 1) := by decide +kernel
theorem dX7_fault_1 : decode cX7_fault 1 = .ok (.lookupswitch 43 #[(0, 27), (1, 35)], 27) := by decide +kernel
theorem dX7_fault_28 : decode cX7_fault 28 = .ok (.aload_n 0, 1) := by decide +kernel
theorem dX7_fault_29 : decode cX7_fault 29 = .ok (.getfield 28, 3) := by decide +kernel
theorem dX7_fault_32 : decode cX7_fault 32 = .ok (.getfield 128, 3) := by decide +kernel
theorem dX7_fault_35 : decode cX7_fault 35 = .ok (.ireturn, 1) := by decide +kernel
theorem dX7_fault_36 : decode cX7_fault 36 = .ok (.aload_n 0, 1) := by decide +kernel
theorem dX7_fault_37 : decode cX7_fault 37 = .ok (.getfield 28, 3) := by decide +kernel
theorem dX7_fault_40 : decode cX7_fault 40 = .ok (.getfield 131, 3) := by decide +kernel
theorem dX7_fault_43 : decode cX7_fault 43 = .ok (.ireturn, 1) := by decide +kernel
theorem dX7_fault_44 : decode cX7_fault 44 = .ok (.iconst (-1), 1) := by decide +kernel
theorem dX7_fault_45 : decode cX7_fault 45 = .ok (.ireturn, 1) := by decide +kernel
theorem dX7_look_0 : decode cX7_look 0 = .ok (.iload_n 1, 1) := by decide +kernel
theorem dX7_look_1 : decode cX7_look 1 = .ok (.tableswitch 80 0 4 #[35, 43, 51, 59, 67], 35) := by decide +kernel
theorem dX7_look_36 : decode cX7_look 36 = .ok (.aload_n 0, 1) := by decide +kernel
theorem dX7_look_37 : decode cX7_look 37 = .ok (.getfield 10, 3) := by decide +kernel
theorem dX7_look_40 : decode cX7_look 40 = .ok (.getfield 79, 3) := by decide +kernel
theorem dX7_look_43 : decode cX7_look 43 = .ok (.ireturn, 1) := by decide +kernel
theorem dX7_look_44 : decode cX7_look 44 = .ok (.aload_n 0, 1) := by decide +kernel
theorem dX7_look_45 : decode cX7_look 45 = .ok (.getfield 35, 3) := by decide +kernel
theorem dX7_look_48 : decode cX7_look 48 = .ok (.getfield 116, 3) := by decide +kernel
theorem dX7_look_51 : decode cX7_look 51 = .ok (.ireturn, 1) := by decide +kernel
theorem dX7_look_52 : decode cX7_look 52 = .ok (.aload_n 0, 1) := by decide +kernel
theorem dX7_look_53 : decode cX7_look 53 = .ok (.getfield 59, 3) := by decide +kernel
theorem dX7_look_56 : decode cX7_look 56 = .ok (.getfield 134, 3) := by decide +kernel
theorem dX7_look_59 : decode cX7_look 59 = .ok (.ireturn, 1) := by decide +kernel
theorem dX7_look_60 : decode cX7_look 60 = .ok (.aload_n 0, 1) := by decide +kernel
theorem dX7_look_61 : decode cX7_look 61 = .ok (.getfield 59, 3) := by decide +kernel
theorem dX7_look_64 : decode cX7_look 64 = .ok (.getfield 137, 3) := by decide +kernel
theorem dX7_look_67 : decode cX7_look 67 = .ok (.ireturn, 1) := by decide +kernel
theorem dX7_look_68 : decode cX7_look 68 = .ok (.aload_n 0, 1) := by decide +kernel
theorem dX7_look_69 : decode cX7_look 69 = .ok (.getfield 75, 3) := by decide +kernel
theorem dX7_look_72 : decode cX7_look 72 = .ok (.ifCond .eq 7, 3) := by decide +kernel
theorem dX7_look_75 : decode cX7_look 75 = .ok (.iconst 1, 1) := by decide +kernel
theorem dX7_look_76 : decode cX7_look 76 = .ok (.goto 4, 3) := by decide +kernel
theorem dX7_look_79 : decode cX7_look 79 = .ok (.iconst 0, 1) := by decide +kernel
theorem dX7_look_80 : decode cX7_look 80 = .ok (.ireturn, 1) := by decide +kernel
theorem dX7_look_81 : decode cX7_look 81 = .ok (.iconst (-1), 1) := by decide +kernel
theorem dX7_look_82 : decode cX7_look 82 = .ok (.ireturn, 1) := by decide +kernel
theorem dX7_lay_0 : decode cX7_lay 0 = .ok (.iconst 0, 1) := by decide +kernel
theorem dX7_lay_1 : decode cX7_lay 1 = .ok (.istore_n 2, 1) := by decide +kernel
theorem dX7_lay_2 : decode cX7_lay 2 = .ok (.iconst 0, 1) := by decide +kernel
theorem dX7_lay_3 : decode cX7_lay 3 = .ok (.istore_n 3, 1) := by decide +kernel
theorem dX7_lay_4 : decode cX7_lay 4 = .ok (.iload_n 3, 1) := by decide +kernel
theorem dX7_lay_5 : decode cX7_lay 5 = .ok (.aload_n 0, 1) := by decide +kernel
theorem dX7_lay_6 : decode cX7_lay 6 = .ok (.getfield 10, 3) := by decide +kernel
theorem dX7_lay_9 : decode cX7_lay 9 = .ok (.getfield 79, 3) := by decide +kernel
theorem dX7_lay_12 : decode cX7_lay 12 = .ok (.if_icmp .ge 22, 3) := by decide +kernel
theorem dX7_lay_15 : decode cX7_lay 15 = .ok (.iload_n 2, 1) := by decide +kernel
theorem dX7_lay_16 : decode cX7_lay 16 = .ok (.iconst 1, 1) := by decide +kernel
theorem dX7_lay_17 : decode cX7_lay 17 = .ok (.iload_n 1, 1) := by decide +kernel
theorem dX7_lay_18 : decode cX7_lay 18 = .ok (.iconst 4, 1) := by decide +kernel
theorem dX7_lay_19 : decode cX7_lay 19 = .ok (.iload_n 3, 1) := by decide +kernel
theorem dX7_lay_20 : decode cX7_lay 20 = .ok (.imul, 1) := by decide +kernel
theorem dX7_lay_21 : decode cX7_lay 21 = .ok (.iushr, 1) := by decide +kernel
theorem dX7_lay_22 : decode cX7_lay 22 = .ok (.bipush 15, 2) := by decide +kernel
theorem dX7_lay_24 : decode cX7_lay 24 = .ok (.iand, 1) := by decide +kernel
theorem dX7_lay_25 : decode cX7_lay 25 = .ok (.ishl, 1) := by decide +kernel
theorem dX7_lay_26 : decode cX7_lay 26 = .ok (.ior, 1) := by decide +kernel
theorem dX7_lay_27 : decode cX7_lay 27 = .ok (.istore_n 2, 1) := by decide +kernel
theorem dX7_lay_28 : decode cX7_lay 28 = .ok (.iinc 3 1, 3) := by decide +kernel
theorem dX7_lay_31 : decode cX7_lay 31 = .ok (.goto (-27), 3) := by decide +kernel
theorem dX7_lay_34 : decode cX7_lay 34 = .ok (.iload_n 2, 1) := by decide +kernel
theorem dX7_lay_35 : decode cX7_lay 35 = .ok (.iconst 1, 1) := by decide +kernel
theorem dX7_lay_36 : decode cX7_lay 36 = .ok (.aload_n 0, 1) := by decide +kernel
theorem dX7_lay_37 : decode cX7_lay 37 = .ok (.getfield 10, 3) := by decide +kernel
theorem dX7_lay_40 : decode cX7_lay 40 = .ok (.getfield 79, 3) := by decide +kernel
theorem dX7_lay_43 : decode cX7_lay 43 = .ok (.ishl, 1) := by decide +kernel
theorem dX7_lay_44 : decode cX7_lay 44 = .ok (.iconst 1, 1) := by decide +kernel
theorem dX7_lay_45 : decode cX7_lay 45 = .ok (.isub, 1) := by decide +kernel
theorem dX7_lay_46 : decode cX7_lay 46 = .ok (.if_icmp .eq 5, 3) := by decide +kernel
theorem dX7_lay_49 : decode cX7_lay 49 = .ok (.iconst 0, 1) := by decide +kernel
theorem dX7_lay_50 : decode cX7_lay 50 = .ok (.ireturn, 1) := by decide +kernel
theorem dX7_lay_51 : decode cX7_lay 51 = .ok (.iconst 0, 1) := by decide +kernel
theorem dX7_lay_52 : decode cX7_lay 52 = .ok (.istore_n 3, 1) := by decide +kernel
theorem dX7_lay_53 : decode cX7_lay 53 = .ok (.iload_n 3, 1) := by decide +kernel
theorem dX7_lay_54 : decode cX7_lay 54 = .ok (.aload_n 0, 1) := by decide +kernel
theorem dX7_lay_55 : decode cX7_lay 55 = .ok (.getfield 10, 3) := by decide +kernel
theorem dX7_lay_58 : decode cX7_lay 58 = .ok (.getfield 79, 3) := by decide +kernel
theorem dX7_lay_61 : decode cX7_lay 61 = .ok (.if_icmp .ge 23, 3) := by decide +kernel
theorem dX7_lay_64 : decode cX7_lay 64 = .ok (.aload_n 0, 1) := by decide +kernel
theorem dX7_lay_65 : decode cX7_lay 65 = .ok (.getfield 16, 3) := by decide +kernel
theorem dX7_lay_68 : decode cX7_lay 68 = .ok (.iload_n 3, 1) := by decide +kernel
theorem dX7_lay_69 : decode cX7_lay 69 = .ok (.iload_n 1, 1) := by decide +kernel
theorem dX7_lay_70 : decode cX7_lay 70 = .ok (.iconst 4, 1) := by decide +kernel
theorem dX7_lay_71 : decode cX7_lay 71 = .ok (.iload_n 3, 1) := by decide +kernel
theorem dX7_lay_72 : decode cX7_lay 72 = .ok (.imul, 1) := by decide +kernel
theorem dX7_lay_73 : decode cX7_lay 73 = .ok (.iushr, 1) := by decide +kernel
theorem dX7_lay_74 : decode cX7_lay 74 = .ok (.bipush 15, 2) := by decide +kernel
theorem dX7_lay_76 : decode cX7_lay 76 = .ok (.iand, 1) := by decide +kernel
theorem dX7_lay_77 : decode cX7_lay 77 = .ok (.iastore, 1) := by decide +kernel
theorem dX7_lay_78 : decode cX7_lay 78 = .ok (.iinc 3 1, 3) := by decide +kernel
theorem dX7_lay_81 : decode cX7_lay 81 = .ok (.goto (-28), 3) := by decide +kernel
theorem dX7_lay_84 : decode cX7_lay 84 = .ok (.aload_n 0, 1) := by decide +kernel
theorem dX7_lay_85 : decode cX7_lay 85 = .ok (.iconst 0, 1) := by decide +kernel
theorem dX7_lay_86 : decode cX7_lay 86 = .ok (.putfield 75, 3) := by decide +kernel
theorem dX7_lay_89 : decode cX7_lay 89 = .ok (.iconst 1, 1) := by decide +kernel
theorem dX7_lay_90 : decode cX7_lay 90 = .ok (.ireturn, 1) := by decide +kernel
set_option maxRecDepth 20000 in
theorem ggX7_place_X2_has : GoodIn wsX7_place wsX2_has := goodIn_r _ [7, 8, 21, 22, 23, 24, 25, 26] (by decide +kernel) (by decide +kernel)
set_option maxRecDepth 20000 in
theorem gX7_place_X2_has : GoodIn wsX7_place (wsV RX7 140 RX2 yX2_has wsX2_has) := goodIn_app (goodIn_of _ (by decide +kernel)) ggX7_place_X2_has
theorem dX7_place_0 : decode cX7_place 0 = .ok (.aload_n 0, 1) := by decide +kernel
theorem dX7_place_1 : decode cX7_place 1 = .ok (.getfield 10, 3) := by decide +kernel
theorem dX7_place_4 : decode cX7_place 4 = .ok (.iload_n 1, 1) := by decide +kernel
theorem dX7_place_5 : decode cX7_place 5 = .ok (.invokevirtual 140, 3) := by decide +kernel
theorem dX7_place_8 : decode cX7_place 8 = .ok (.ifCond .eq 12, 3) := by decide +kernel
theorem dX7_place_11 : decode cX7_place 11 = .ok (.aload_n 0, 1) := by decide +kernel
theorem dX7_place_12 : decode cX7_place 12 = .ok (.getfield 16, 3) := by decide +kernel
theorem dX7_place_15 : decode cX7_place 15 = .ok (.iload_n 1, 1) := by decide +kernel
theorem dX7_place_16 : decode cX7_place 16 = .ok (.iaload, 1) := by decide +kernel
theorem dX7_place_17 : decode cX7_place 17 = .ok (.goto 4, 3) := by decide +kernel
theorem dX7_place_20 : decode cX7_place 20 = .ok (.iconst (-1), 1) := by decide +kernel
theorem dX7_place_21 : decode cX7_place 21 = .ok (.ireturn, 1) := by decide +kernel
set_option maxRecDepth 20000 in
theorem ggX7_orders_X5_start : GoodIn wsX7_orders wsX5_start := goodIn_r _ [8, 9, 10, 11, 12, 13, 14, 15, 16, 17, 18, 19, 20, 21, 22, 23, 24, 25, 26, 27, 28, 29, 30, 31, 32, 33, 7, 34, 35, 36, 37, 38, 39, 40, 41, 42, 43, 44, 45, 46, 47, 48, 49, 50, 51, 52, 53, 54, 55, 56, 57, 58, 59, 60, 61, 62, 63, 64, 65, 66, 87, 88, 89, 90, 91, 92, 93, 94, 95, 96, 97, 98, 99, 100, 101, 102, 103, 104, 105, 106] (by decide +kernel) (by decide +kernel)
set_option maxRecDepth 20000 in
theorem gX7_orders_X5_start : GoodIn wsX7_orders (wsV RX7 144 RX5 yX5_start wsX5_start) := goodIn_app (goodIn_of _ (by decide +kernel)) ggX7_orders_X5_start
set_option maxRecDepth 20000 in
theorem ggX7_orders_X5_findNext : GoodIn wsX7_orders wsX5_findNext := goodIn_r _ [70, 11, 12, 16, 71, 14, 15, 62, 72, 73, 7, 74, 58, 59, 60, 61, 13, 9, 10, 87, 88, 89, 90, 91, 92, 93, 94, 95, 96, 97, 98, 99, 100] (by decide +kernel) (by decide +kernel)
set_option maxRecDepth 20000 in
theorem gX7_orders_X5_findNext : GoodIn wsX7_orders (wsV RX7 147 RX5 yX5_findNext wsX5_findNext) := goodIn_app (goodIn_of _ (by decide +kernel)) ggX7_orders_X5_findNext
theorem dX7_orders_0 : decode cX7_orders 0 = .ok (.aload_n 0, 1) := by decide +kernel
theorem dX7_orders_1 : decode cX7_orders 1 = .ok (.getfield 45, 3) := by decide +kernel
theorem dX7_orders_4 : decode cX7_orders 4 = .ok (.aload_n 0, 1) := by decide +kernel
theorem dX7_orders_5 : decode cX7_orders 5 = .ok (.getfield 35, 3) := by decide +kernel
theorem dX7_orders_8 : decode cX7_orders 8 = .ok (.invokevirtual 144, 3) := by decide +kernel
theorem dX7_orders_11 : decode cX7_orders 11 = .ok (.iconst 0, 1) := by decide +kernel
theorem dX7_orders_12 : decode cX7_orders 12 = .ok (.istore_n 1, 1) := by decide +kernel
theorem dX7_orders_13 : decode cX7_orders 13 = .ok (.iload_n 1, 1) := by decide +kernel
theorem dX7_orders_14 : decode cX7_orders 14 = .ok (.ldc 146, 2) := by decide +kernel
theorem dX7_orders_16 : decode cX7_orders 16 = .ok (.if_icmp .ge 19, 3) := by decide +kernel
theorem dX7_orders_19 : decode cX7_orders 19 = .ok (.aload_n 0, 1) := by decide +kernel
theorem dX7_orders_20 : decode cX7_orders 20 = .ok (.getfield 45, 3) := by decide +kernel
theorem dX7_orders_23 : decode cX7_orders 23 = .ok (.invokevirtual 147, 3) := by decide +kernel
theorem dX7_orders_26 : decode cX7_orders 26 = .ok (.ifCond .eq 9, 3) := by decide +kernel
theorem dX7_orders_29 : decode cX7_orders 29 = .ok (.iinc 1 1, 3) := by decide +kernel
theorem dX7_orders_32 : decode cX7_orders 32 = .ok (.goto (-19), 3) := by decide +kernel
theorem dX7_orders_35 : decode cX7_orders 35 = .ok (.iload_n 1, 1) := by decide +kernel
theorem dX7_orders_36 : decode cX7_orders 36 = .ok (.ireturn, 1) := by decide +kernel
set_option maxRecDepth 20000 in
theorem ggX7_pick_X5_start : GoodIn wsX7_pick wsX5_start := goodIn_r _ [9, 10, 11, 12, 13, 14, 15, 16, 17, 18, 19, 20, 21, 22, 23, 24, 25, 26, 27, 28, 29, 30, 31, 32, 33, 34, 8, 35, 36, 37, 38, 39, 40, 41, 42, 43, 44, 45, 46, 47, 48, 49, 50, 51, 52, 53, 54, 55, 56, 57, 58, 59, 60, 61, 62, 63, 64, 65, 66, 67, 99, 100, 101, 102, 103, 104, 105, 106, 107, 108, 109, 110, 111, 112, 113, 114, 115, 116, 117, 118] (by decide +kernel) (by decide +kernel)
set_option maxRecDepth 20000 in
theorem gX7_pick_X5_start : GoodIn wsX7_pick (wsV RX7 144 RX5 yX5_start wsX5_start) := goodIn_app (goodIn_of _ (by decide +kernel)) ggX7_pick_X5_start
set_option maxRecDepth 20000 in
theorem ggX7_pick_X5_findNext : GoodIn wsX7_pick wsX5_findNext := goodIn_r _ [71, 12, 13, 17, 72, 15, 16, 63, 73, 74, 8, 75, 59, 60, 61, 62, 14, 10, 11, 99, 100, 101, 102, 103, 104, 105, 106, 107, 108, 109, 110, 111, 112] (by decide +kernel) (by decide +kernel)
set_option maxRecDepth 20000 in
theorem gX7_pick_X5_findNext : GoodIn wsX7_pick (wsV RX7 147 RX5 yX5_findNext wsX5_findNext) := goodIn_app (goodIn_of _ (by decide +kernel)) ggX7_pick_X5_findNext
set_option maxRecDepth 20000 in
theorem ggX7_pick_X7_takeRow : GoodIn wsX7_pick wsX7_takeRow := goodIn_r _ [80, 81, 82, 83, 84, 85, 86, 87, 88, 89, 90, 91, 92, 93, 94, 95, 96, 97, 98] (by decide +kernel) (by decide +kernel)
set_option maxRecDepth 20000 in
theorem gX7_pick_X7_takeRow : GoodIn wsX7_pick (wsV RX7 153 RX7 yX7_takeRow wsX7_takeRow) := goodIn_app (goodIn_of _ (by decide +kernel)) ggX7_pick_X7_takeRow
theorem dX7_pick_0 : decode cX7_pick 0 = .ok (.iload_n 1, 1) := by decide +kernel
theorem dX7_pick_1 : decode cX7_pick 1 = .ok (.ifCond .lt 9, 3) := by decide +kernel
theorem dX7_pick_4 : decode cX7_pick 4 = .ok (.iload_n 1, 1) := by decide +kernel
theorem dX7_pick_5 : decode cX7_pick 5 = .ok (.ldc 146, 2) := by decide +kernel
theorem dX7_pick_7 : decode cX7_pick 7 = .ok (.if_icmp .lt 5, 3) := by decide +kernel
theorem dX7_pick_10 : decode cX7_pick 10 = .ok (.iconst 0, 1) := by decide +kernel
theorem dX7_pick_11 : decode cX7_pick 11 = .ok (.ireturn, 1) := by decide +kernel
theorem dX7_pick_12 : decode cX7_pick 12 = .ok (.aload_n 0, 1) := by decide +kernel
theorem dX7_pick_13 : decode cX7_pick 13 = .ok (.getfield 45, 3) := by decide +kernel
theorem dX7_pick_16 : decode cX7_pick 16 = .ok (.aload_n 0, 1) := by decide +kernel
theorem dX7_pick_17 : decode cX7_pick 17 = .ok (.getfield 35, 3) := by decide +kernel
theorem dX7_pick_20 : decode cX7_pick 20 = .ok (.invokevirtual 144, 3) := by decide +kernel
theorem dX7_pick_23 : decode cX7_pick 23 = .ok (.iconst 0, 1) := by decide +kernel
theorem dX7_pick_24 : decode cX7_pick 24 = .ok (.istore_n 2, 1) := by decide +kernel
theorem dX7_pick_25 : decode cX7_pick 25 = .ok (.iload_n 2, 1) := by decide +kernel
theorem dX7_pick_26 : decode cX7_pick 26 = .ok (.iload_n 1, 1) := by decide +kernel
theorem dX7_pick_27 : decode cX7_pick 27 = .ok (.if_icmp .gt 21, 3) := by decide +kernel
theorem dX7_pick_30 : decode cX7_pick 30 = .ok (.aload_n 0, 1) := by decide +kernel
theorem dX7_pick_31 : decode cX7_pick 31 = .ok (.getfield 45, 3) := by decide +kernel
theorem dX7_pick_34 : decode cX7_pick 34 = .ok (.invokevirtual 147, 3) := by decide +kernel
theorem dX7_pick_37 : decode cX7_pick 37 = .ok (.ifCond .ne 5, 3) := by decide +kernel
theorem dX7_pick_40 : decode cX7_pick 40 = .ok (.iconst 0, 1) := by decide +kernel
theorem dX7_pick_41 : decode cX7_pick 41 = .ok (.ireturn, 1) := by decide +kernel
theorem dX7_pick_42 : decode cX7_pick 42 = .ok (.iinc 2 1, 3) := by decide +kernel
theorem dX7_pick_45 : decode cX7_pick 45 = .ok (.goto (-20), 3) := by decide +kernel
theorem dX7_pick_48 : decode cX7_pick 48 = .ok (.aload_n 0, 1) := by decide +kernel
theorem dX7_pick_49 : decode cX7_pick 49 = .ok (.aload_n 0, 1) := by decide +kernel
theorem dX7_pick_50 : decode cX7_pick 50 = .ok (.getfield 45, 3) := by decide +kernel
theorem dX7_pick_53 : decode cX7_pick 53 = .ok (.getfield 150, 3) := by decide +kernel
theorem dX7_pick_56 : decode cX7_pick 56 = .ok (.invokevirtual 153, 3) := by decide +kernel
theorem dX7_pick_59 : decode cX7_pick 59 = .ok (.iconst 1, 1) := by decide +kernel
theorem dX7_pick_60 : decode cX7_pick 60 = .ok (.ireturn, 1) := by decide +kernel
set_option maxRecDepth 20000 in
theorem ggX7_rank_X5_start : GoodIn wsX7_rank wsX5_start := goodIn_r _ [9, 10, 11, 12, 13, 14, 15, 16, 17, 18, 19, 20, 21, 22, 23, 24, 25, 26, 27, 28, 29, 30, 31, 32, 33, 34, 8, 35, 36, 37, 38, 39, 40, 41, 42, 43, 44, 45, 46, 47, 48, 49, 50, 51, 52, 53, 54, 55, 56, 57, 58, 59, 60, 61, 62, 63, 64, 65, 66, 67, 96, 97, 98, 99, 100, 101, 102, 103, 104, 105, 106, 107, 108, 109, 110, 111, 112, 113, 114, 115] (by decide +kernel) (by decide +kernel)
set_option maxRecDepth 20000 in
theorem gX7_rank_X5_start : GoodIn wsX7_rank (wsV RX7 144 RX5 yX5_start wsX5_start) := goodIn_app (goodIn_of _ (by decide +kernel)) ggX7_rank_X5_start
set_option maxRecDepth 20000 in
theorem ggX7_rank_X5_findNext : GoodIn wsX7_rank wsX5_findNext := goodIn_r _ [71, 12, 13, 17, 72, 15, 16, 63, 73, 74, 8, 75, 59, 60, 61, 62, 14, 10, 11, 96, 97, 98, 99, 100, 101, 102, 103, 104, 105, 106, 107, 108, 109] (by decide +kernel) (by decide +kernel)
set_option maxRecDepth 20000 in
theorem gX7_rank_X5_findNext : GoodIn wsX7_rank (wsV RX7 147 RX5 yX5_findNext wsX5_findNext) := goodIn_app (goodIn_of _ (by decide +kernel)) ggX7_rank_X5_findNext
set_option maxRecDepth 20000 in
theorem ggX7_rank_X7_isRow : GoodIn wsX7_rank wsX7_isRow := goodIn_r _ [80, 81, 82, 83, 84, 85, 86, 87, 88, 89, 90, 91, 92, 93, 94, 95, 104, 105, 106, 107, 108, 109] (by decide +kernel) (by decide +kernel)
set_option maxRecDepth 20000 in
theorem gX7_rank_X7_isRow : GoodIn wsX7_rank (wsV RX7 157 RX7 yX7_isRow wsX7_isRow) := goodIn_app (goodIn_of _ (by decide +kernel)) ggX7_rank_X7_isRow
theorem dX7_rank_0 : decode cX7_rank 0 = .ok (.aload_n 0, 1) := by decide +kernel
theorem dX7_rank_1 : decode cX7_rank 1 = .ok (.getfield 45, 3) := by decide +kernel
theorem dX7_rank_4 : decode cX7_rank 4 = .ok (.aload_n 0, 1) := by decide +kernel
theorem dX7_rank_5 : decode cX7_rank 5 = .ok (.getfield 35, 3) := by decide +kernel
theorem dX7_rank_8 : decode cX7_rank 8 = .ok (.invokevirtual 144, 3) := by decide +kernel
theorem dX7_rank_11 : decode cX7_rank 11 = .ok (.iconst 0, 1) := by decide +kernel
theorem dX7_rank_12 : decode cX7_rank 12 = .ok (.istore_n 1, 1) := by decide +kernel
theorem dX7_rank_13 : decode cX7_rank 13 = .ok (.iload_n 1, 1) := by decide +kernel
theorem dX7_rank_14 : decode cX7_rank 14 = .ok (.ldc 146, 2) := by decide +kernel
theorem dX7_rank_16 : decode cX7_rank 16 = .ok (.if_icmp .ge 35, 3) := by decide +kernel
theorem dX7_rank_19 : decode cX7_rank 19 = .ok (.aload_n 0, 1) := by decide +kernel
theorem dX7_rank_20 : decode cX7_rank 20 = .ok (.getfield 45, 3) := by decide +kernel
theorem dX7_rank_23 : decode cX7_rank 23 = .ok (.invokevirtual 147, 3) := by decide +kernel
theorem dX7_rank_26 : decode cX7_rank 26 = .ok (.ifCond .eq 25, 3) := by decide +kernel
theorem dX7_rank_29 : decode cX7_rank 29 = .ok (.aload_n 0, 1) := by decide +kernel
theorem dX7_rank_30 : decode cX7_rank 30 = .ok (.aload_n 0, 1) := by decide +kernel
theorem dX7_rank_31 : decode cX7_rank 31 = .ok (.getfield 45, 3) := by decide +kernel
theorem dX7_rank_34 : decode cX7_rank 34 = .ok (.getfield 150, 3) := by decide +kernel
theorem dX7_rank_37 : decode cX7_rank 37 = .ok (.invokevirtual 157, 3) := by decide +kernel
theorem dX7_rank_40 : decode cX7_rank 40 = .ok (.ifCond .eq 5, 3) := by decide +kernel
theorem dX7_rank_43 : decode cX7_rank 43 = .ok (.iload_n 1, 1) := by decide +kernel
theorem dX7_rank_44 : decode cX7_rank 44 = .ok (.ireturn, 1) := by decide +kernel
theorem dX7_rank_45 : decode cX7_rank 45 = .ok (.iinc 1 1, 3) := by decide +kernel
theorem dX7_rank_48 : decode cX7_rank 48 = .ok (.goto (-35), 3) := by decide +kernel
theorem dX7_rank_51 : decode cX7_rank 51 = .ok (.iconst (-1), 1) := by decide +kernel
theorem dX7_rank_52 : decode cX7_rank 52 = .ok (.ireturn, 1) := by decide +kernel
set_option maxRecDepth 20000 in
theorem ggX7_best_X5_start : GoodIn wsX7_best wsX5_start := goodIn_r _ [15, 16, 17, 18, 19, 20, 21, 22, 23, 24, 25, 26, 27, 28, 29, 30, 31, 32, 33, 34, 35, 36, 37, 38, 39, 40, 14, 41, 42, 43, 44, 45, 46, 47, 48, 49, 50, 51, 52, 53, 54, 55, 56, 57, 58, 59, 60, 61, 62, 63, 64, 65, 66, 67, 68, 69, 70, 71, 72, 73, 106, 107, 108, 109, 110, 111, 112, 113, 114, 115, 116, 117, 118, 119, 120, 121, 122, 123, 124, 125] (by decide +kernel) (by decide +kernel)
set_option maxRecDepth 20000 in
theorem gX7_best_X5_start : GoodIn wsX7_best (wsV RX7 144 RX5 yX5_start wsX5_start) := goodIn_app (goodIn_of _ (by decide +kernel)) ggX7_best_X5_start
set_option maxRecDepth 20000 in
theorem ggX7_best_X5_findNext : GoodIn wsX7_best wsX5_findNext := goodIn_r _ [77, 18, 19, 23, 78, 21, 22, 69, 79, 80, 14, 81, 65, 66, 67, 68, 20, 16, 17, 106, 107, 108, 109, 110, 111, 112, 113, 114, 115, 116, 117, 118, 119] (by decide +kernel) (by decide +kernel)
set_option maxRecDepth 20000 in
theorem gX7_best_X5_findNext : GoodIn wsX7_best (wsV RX7 147 RX5 yX5_findNext wsX5_findNext) := goodIn_app (goodIn_of _ (by decide +kernel)) ggX7_best_X5_findNext
set_option maxRecDepth 20000 in
theorem ggX7_best_X2_noiseOf : GoodIn wsX7_best wsX2_noiseOf := goodIn_r _ [85, 86, 63, 114, 115, 116, 117, 118, 119] (by decide +kernel) (by decide +kernel)
set_option maxRecDepth 20000 in
theorem gX7_best_X2_noiseOf : GoodIn wsX7_best (wsV RX7 161 RX2 yX2_noiseOf wsX2_noiseOf) := goodIn_app (goodIn_of _ (by decide +kernel)) ggX7_best_X2_noiseOf
set_option maxRecDepth 20000 in
theorem ggX7_best_X7_takeRow : GoodIn wsX7_best wsX7_takeRow := goodIn_r _ [91, 92, 7, 8, 9, 10, 93, 94, 95, 96, 97, 98, 99, 100, 101, 102, 103, 104, 105] (by decide +kernel) (by decide +kernel)
set_option maxRecDepth 20000 in
theorem gX7_best_X7_takeRow : GoodIn wsX7_best (wsV RX7 153 RX7 yX7_takeRow wsX7_takeRow) := goodIn_app (goodIn_of _ (by decide +kernel)) ggX7_best_X7_takeRow
theorem dX7_best_0 : decode cX7_best 0 = .ok (.aload_n 0, 1) := by decide +kernel
theorem dX7_best_1 : decode cX7_best 1 = .ok (.getfield 45, 3) := by decide +kernel
theorem dX7_best_4 : decode cX7_best 4 = .ok (.aload_n 0, 1) := by decide +kernel
theorem dX7_best_5 : decode cX7_best 5 = .ok (.getfield 35, 3) := by decide +kernel
theorem dX7_best_8 : decode cX7_best 8 = .ok (.invokevirtual 144, 3) := by decide +kernel
theorem dX7_best_11 : decode cX7_best 11 = .ok (.iconst (-1), 1) := by decide +kernel
theorem dX7_best_12 : decode cX7_best 12 = .ok (.istore_n 1, 1) := by decide +kernel
theorem dX7_best_13 : decode cX7_best 13 = .ok (.iconst 0, 1) := by decide +kernel
theorem dX7_best_14 : decode cX7_best 14 = .ok (.istore_n 2, 1) := by decide +kernel
theorem dX7_best_15 : decode cX7_best 15 = .ok (.iload_n 2, 1) := by decide +kernel
theorem dX7_best_16 : decode cX7_best 16 = .ok (.ldc 146, 2) := by decide +kernel
theorem dX7_best_18 : decode cX7_best 18 = .ok (.if_icmp .ge 64, 3) := by decide +kernel
theorem dX7_best_21 : decode cX7_best 21 = .ok (.aload_n 0, 1) := by decide +kernel
theorem dX7_best_22 : decode cX7_best 22 = .ok (.getfield 45, 3) := by decide +kernel
theorem dX7_best_25 : decode cX7_best 25 = .ok (.invokevirtual 147, 3) := by decide +kernel
theorem dX7_best_28 : decode cX7_best 28 = .ok (.ifCond .eq 54, 3) := by decide +kernel
theorem dX7_best_31 : decode cX7_best 31 = .ok (.aload_n 0, 1) := by decide +kernel
theorem dX7_best_32 : decode cX7_best 32 = .ok (.getfield 10, 3) := by decide +kernel
theorem dX7_best_35 : decode cX7_best 35 = .ok (.aload_n 0, 1) := by decide +kernel
theorem dX7_best_36 : decode cX7_best 36 = .ok (.getfield 45, 3) := by decide +kernel
theorem dX7_best_39 : decode cX7_best 39 = .ok (.getfield 150, 3) := by decide +kernel
theorem dX7_best_42 : decode cX7_best 42 = .ok (.invokevirtual 161, 3) := by decide +kernel
theorem dX7_best_45 : decode cX7_best 45 = .ok (.istore_n 3, 1) := by decide +kernel
theorem dX7_best_46 : decode cX7_best 46 = .ok (.iload_n 1, 1) := by decide +kernel
theorem dX7_best_47 : decode cX7_best 47 = .ok (.iconst (-1), 1) := by decide +kernel
theorem dX7_best_48 : decode cX7_best 48 = .ok (.if_icmp .eq 8, 3) := by decide +kernel
theorem dX7_best_51 : decode cX7_best 51 = .ok (.iload_n 3, 1) := by decide +kernel
theorem dX7_best_52 : decode cX7_best 52 = .ok (.iload_n 1, 1) := by decide +kernel
theorem dX7_best_53 : decode cX7_best 53 = .ok (.if_icmp .ge 23, 3) := by decide +kernel
theorem dX7_best_56 : decode cX7_best 56 = .ok (.iload_n 3, 1) := by decide +kernel
theorem dX7_best_57 : decode cX7_best 57 = .ok (.istore_n 1, 1) := by decide +kernel
theorem dX7_best_58 : decode cX7_best 58 = .ok (.aload_n 0, 1) := by decide +kernel
theorem dX7_best_59 : decode cX7_best 59 = .ok (.getfield 45, 3) := by decide +kernel
theorem dX7_best_62 : decode cX7_best 62 = .ok (.getfield 150, 3) := by decide +kernel
theorem dX7_best_65 : decode cX7_best 65 = .ok (.iconst 0, 1) := by decide +kernel
theorem dX7_best_66 : decode cX7_best 66 = .ok (.aload_n 0, 1) := by decide +kernel
theorem dX7_best_67 : decode cX7_best 67 = .ok (.getfield 20, 3) := by decide +kernel
theorem dX7_best_70 : decode cX7_best 70 = .ok (.iconst 0, 1) := by decide +kernel
theorem dX7_best_71 : decode cX7_best 71 = .ok (.bipush 8, 2) := by decide +kernel
theorem dX7_best_73 : decode cX7_best 73 = .ok (.invokestatic 165, 3) := by decide +kernel
theorem dX7_best_76 : decode cX7_best 76 = .ok (.iinc 2 1, 3) := by decide +kernel
theorem dX7_best_79 : decode cX7_best 79 = .ok (.goto (-64), 3) := by decide +kernel
theorem dX7_best_82 : decode cX7_best 82 = .ok (.iload_n 1, 1) := by decide +kernel
theorem dX7_best_83 : decode cX7_best 83 = .ok (.iconst (-1), 1) := by decide +kernel
theorem dX7_best_84 : decode cX7_best 84 = .ok (.if_icmp .eq 11, 3) := by decide +kernel
theorem dX7_best_87 : decode cX7_best 87 = .ok (.aload_n 0, 1) := by decide +kernel
theorem dX7_best_88 : decode cX7_best 88 = .ok (.aload_n 0, 1) := by decide +kernel
theorem dX7_best_89 : decode cX7_best 89 = .ok (.getfield 20, 3) := by decide +kernel
theorem dX7_best_92 : decode cX7_best 92 = .ok (.invokevirtual 153, 3) := by decide +kernel
theorem dX7_best_95 : decode cX7_best 95 = .ok (.iload_n 1, 1) := by decide +kernel
theorem dX7_best_96 : decode cX7_best 96 = .ok (.ireturn, 1) := by decide +kernel
set_option maxRecDepth 20000 in
theorem ggX7_noise_X2_noiseOf : GoodIn wsX7_noise wsX2_noiseOf := goodIn_r _ [7, 8, 9, 22, 23, 24, 25, 26, 27] (by decide +kernel) (by decide +kernel)
set_option maxRecDepth 20000 in
theorem gX7_noise_X2_noiseOf : GoodIn wsX7_noise (wsV RX7 161 RX2 yX2_noiseOf wsX2_noiseOf) := goodIn_app (goodIn_of _ (by decide +kernel)) ggX7_noise_X2_noiseOf
theorem dX7_noise_0 : decode cX7_noise 0 = .ok (.aload_n 0, 1) := by decide +kernel
theorem dX7_noise_1 : decode cX7_noise 1 = .ok (.getfield 10, 3) := by decide +kernel
theorem dX7_noise_4 : decode cX7_noise 4 = .ok (.aload_n 0, 1) := by decide +kernel
theorem dX7_noise_5 : decode cX7_noise 5 = .ok (.getfield 16, 3) := by decide +kernel
theorem dX7_noise_8 : decode cX7_noise 8 = .ok (.invokevirtual 161, 3) := by decide +kernel
theorem dX7_noise_11 : decode cX7_noise 11 = .ok (.ireturn, 1) := by decide +kernel
set_option maxRecDepth 20000 in
theorem ggX7_why_X1_findIn : GoodIn wsX7_why wsX1_findIn := goodIn_r _ [12, 13, 14, 15, 16, 17, 18, 19, 11, 20, 21, 22, 23, 24, 25, 26, 27, 28, 29, 30, 31, 32, 33, 34, 35, 36, 37, 38, 39, 40, 41, 42, 43, 44, 45, 46, 47, 48, 49, 50, 51, 52, 53, 54, 55, 56, 57, 58, 59, 60, 61, 77, 78, 79, 80, 81, 82, 74, 75, 76, 83, 84, 85, 86, 87, 88] (by decide +kernel) (by decide +kernel)
set_option maxRecDepth 20000 in
theorem gX7_why_X1_findIn : GoodIn wsX7_why (wsV RX7 171 RX1 yX1_findIn wsX1_findIn) := goodIn_app (goodIn_of _ (by decide +kernel)) ggX7_why_X1_findIn
theorem dX7_why_0 : decode cX7_why 0 = .ok (.aload_n 0, 1) := by decide +kernel
theorem dX7_why_1 : decode cX7_why 1 = .ok (.getfield 52, 3) := by decide +kernel
theorem dX7_why_4 : decode cX7_why 4 = .ok (.aload_n 0, 1) := by decide +kernel
theorem dX7_why_5 : decode cX7_why 5 = .ok (.getfield 35, 3) := by decide +kernel
theorem dX7_why_8 : decode cX7_why 8 = .ok (.aload_n 0, 1) := by decide +kernel
theorem dX7_why_9 : decode cX7_why 9 = .ok (.getfield 10, 3) := by decide +kernel
theorem dX7_why_12 : decode cX7_why 12 = .ok (.aload_n 0, 1) := by decide +kernel
theorem dX7_why_13 : decode cX7_why 13 = .ok (.getfield 16, 3) := by decide +kernel
theorem dX7_why_16 : decode cX7_why 16 = .ok (.invokevirtual 171, 3) := by decide +kernel
theorem dX7_why_19 : decode cX7_why 19 = .ok (.iload_n 1, 1) := by decide +kernel
theorem dX7_why_20 : decode cX7_why 20 = .ok (.tableswitch 52 0 2 #[28, 36, 44], 28) := by decide +kernel
theorem dX7_why_48 : decode cX7_why 48 = .ok (.aload_n 0, 1) := by decide +kernel
theorem dX7_why_49 : decode cX7_why 49 = .ok (.getfield 52, 3) := by decide +kernel
theorem dX7_why_52 : decode cX7_why 52 = .ok (.getfield 175, 3) := by decide +kernel
theorem dX7_why_55 : decode cX7_why 55 = .ok (.ireturn, 1) := by decide +kernel
theorem dX7_why_56 : decode cX7_why 56 = .ok (.aload_n 0, 1) := by decide +kernel
theorem dX7_why_57 : decode cX7_why 57 = .ok (.getfield 52, 3) := by decide +kernel
theorem dX7_why_60 : decode cX7_why 60 = .ok (.getfield 178, 3) := by decide +kernel
theorem dX7_why_63 : decode cX7_why 63 = .ok (.ireturn, 1) := by decide +kernel
theorem dX7_why_64 : decode cX7_why 64 = .ok (.aload_n 0, 1) := by decide +kernel
theorem dX7_why_65 : decode cX7_why 65 = .ok (.getfield 52, 3) := by decide +kernel
theorem dX7_why_68 : decode cX7_why 68 = .ok (.getfield 181, 3) := by decide +kernel
theorem dX7_why_71 : decode cX7_why 71 = .ok (.ireturn, 1) := by decide +kernel
theorem dX7_why_72 : decode cX7_why 72 = .ok (.iconst (-1), 1) := by decide +kernel
theorem dX7_why_73 : decode cX7_why 73 = .ok (.ireturn, 1) := by decide +kernel
set_option maxRecDepth 20000 in
theorem ggX7_road_X6_clear : GoodIn wsX7_road wsX6_clear := goodIn_r _ [7, 8, 9, 10, 11, 24, 25, 26, 27] (by decide +kernel) (by decide +kernel)
set_option maxRecDepth 20000 in
theorem gX7_road_X6_clear : GoodIn wsX7_road (wsV RX7 184 RX6 yX6_clear wsX6_clear) := goodIn_app (goodIn_of _ (by decide +kernel)) ggX7_road_X6_clear
theorem dX7_road_0 : decode cX7_road 0 = .ok (.iload_n 1, 1) := by decide +kernel
theorem dX7_road_1 : decode cX7_road 1 = .ok (.iconst 1, 1) := by decide +kernel
theorem dX7_road_2 : decode cX7_road 2 = .ok (.if_icmp .lt 18, 3) := by decide +kernel
theorem dX7_road_5 : decode cX7_road 5 = .ok (.iload_n 1, 1) := by decide +kernel
theorem dX7_road_6 : decode cX7_road 6 = .ok (.bipush 50, 2) := by decide +kernel
theorem dX7_road_8 : decode cX7_road 8 = .ok (.if_icmp .gt 12, 3) := by decide +kernel
theorem dX7_road_11 : decode cX7_road 11 = .ok (.iload_n 2, 1) := by decide +kernel
theorem dX7_road_12 : decode cX7_road 12 = .ok (.ifCond .lt 8, 3) := by decide +kernel
theorem dX7_road_15 : decode cX7_road 15 = .ok (.iload_n 2, 1) := by decide +kernel
theorem dX7_road_16 : decode cX7_road 16 = .ok (.iconst 3, 1) := by decide +kernel
theorem dX7_road_17 : decode cX7_road 17 = .ok (.if_icmp .le 5, 3) := by decide +kernel
theorem dX7_road_20 : decode cX7_road 20 = .ok (.iconst 0, 1) := by decide +kernel
theorem dX7_road_21 : decode cX7_road 21 = .ok (.ireturn, 1) := by decide +kernel
theorem dX7_road_22 : decode cX7_road 22 = .ok (.aload_n 0, 1) := by decide +kernel
theorem dX7_road_23 : decode cX7_road 23 = .ok (.getfield 59, 3) := by decide +kernel
theorem dX7_road_26 : decode cX7_road 26 = .ok (.iload_n 1, 1) := by decide +kernel
theorem dX7_road_27 : decode cX7_road 27 = .ok (.iload_n 2, 1) := by decide +kernel
theorem dX7_road_28 : decode cX7_road 28 = .ok (.invokevirtual 184, 3) := by decide +kernel
theorem dX7_road_31 : decode cX7_road 31 = .ok (.aload_n 0, 1) := by decide +kernel
theorem dX7_road_32 : decode cX7_road 32 = .ok (.iconst 0, 1) := by decide +kernel
theorem dX7_road_33 : decode cX7_road 33 = .ok (.putfield 75, 3) := by decide +kernel
theorem dX7_road_36 : decode cX7_road 36 = .ok (.iconst 1, 1) := by decide +kernel
theorem dX7_road_37 : decode cX7_road 37 = .ok (.ireturn, 1) := by decide +kernel
set_option maxRecDepth 20000 in
theorem ggX7_wire_X6_has : GoodIn wsX7_wire wsX6_has := goodIn_r _ [8, 9, 22, 23, 24, 25] (by decide +kernel) (by decide +kernel)
set_option maxRecDepth 20000 in
theorem gX7_wire_X6_has : GoodIn wsX7_wire (wsV RX7 188 RX6 yX6_has wsX6_has) := goodIn_app (goodIn_of _ (by decide +kernel)) ggX7_wire_X6_has
theorem dX7_wire_0 : decode cX7_wire 0 = .ok (.aload_n 0, 1) := by decide +kernel
theorem dX7_wire_1 : decode cX7_wire 1 = .ok (.getfield 59, 3) := by decide +kernel
theorem dX7_wire_4 : decode cX7_wire 4 = .ok (.iload_n 1, 1) := by decide +kernel
theorem dX7_wire_5 : decode cX7_wire 5 = .ok (.invokevirtual 188, 3) := by decide +kernel
theorem dX7_wire_8 : decode cX7_wire 8 = .ok (.ifCond .eq 13, 3) := by decide +kernel
theorem dX7_wire_11 : decode cX7_wire 11 = .ok (.iload_n 2, 1) := by decide +kernel
theorem dX7_wire_12 : decode cX7_wire 12 = .ok (.ifCond .lt 9, 3) := by decide +kernel
theorem dX7_wire_15 : decode cX7_wire 15 = .ok (.iload_n 2, 1) := by decide +kernel
theorem dX7_wire_16 : decode cX7_wire 16 = .ok (.bipush 9, 2) := by decide +kernel
theorem dX7_wire_18 : decode cX7_wire 18 = .ok (.if_icmp .le 5, 3) := by decide +kernel
theorem dX7_wire_21 : decode cX7_wire 21 = .ok (.iconst 0, 1) := by decide +kernel
theorem dX7_wire_22 : decode cX7_wire 22 = .ok (.ireturn, 1) := by decide +kernel
theorem dX7_wire_23 : decode cX7_wire 23 = .ok (.aload_n 0, 1) := by decide +kernel
theorem dX7_wire_24 : decode cX7_wire 24 = .ok (.getfield 59, 3) := by decide +kernel
theorem dX7_wire_27 : decode cX7_wire 27 = .ok (.getfield 189, 3) := by decide +kernel
theorem dX7_wire_30 : decode cX7_wire 30 = .ok (.iload_n 1, 1) := by decide +kernel
theorem dX7_wire_31 : decode cX7_wire 31 = .ok (.iload_n 2, 1) := by decide +kernel
theorem dX7_wire_32 : decode cX7_wire 32 = .ok (.iastore, 1) := by decide +kernel
theorem dX7_wire_33 : decode cX7_wire 33 = .ok (.aload_n 0, 1) := by decide +kernel
theorem dX7_wire_34 : decode cX7_wire 34 = .ok (.iconst 0, 1) := by decide +kernel
theorem dX7_wire_35 : decode cX7_wire 35 = .ok (.putfield 75, 3) := by decide +kernel
theorem dX7_wire_38 : decode cX7_wire 38 = .ok (.iconst 1, 1) := by decide +kernel
theorem dX7_wire_39 : decode cX7_wire 39 = .ok (.ireturn, 1) := by decide +kernel
set_option maxRecDepth 20000 in
theorem ggX7_stand_X6_has : GoodIn wsX7_stand wsX6_has := goodIn_r _ [8, 9, 22, 23, 24, 25] (by decide +kernel) (by decide +kernel)
set_option maxRecDepth 20000 in
theorem gX7_stand_X6_has : GoodIn wsX7_stand (wsV RX7 188 RX6 yX6_has wsX6_has) := goodIn_app (goodIn_of _ (by decide +kernel)) ggX7_stand_X6_has
theorem dX7_stand_0 : decode cX7_stand 0 = .ok (.aload_n 0, 1) := by decide +kernel
theorem dX7_stand_1 : decode cX7_stand 1 = .ok (.getfield 59, 3) := by decide +kernel
theorem dX7_stand_4 : decode cX7_stand 4 = .ok (.iload_n 1, 1) := by decide +kernel
theorem dX7_stand_5 : decode cX7_stand 5 = .ok (.invokevirtual 188, 3) := by decide +kernel
theorem dX7_stand_8 : decode cX7_stand 8 = .ok (.ifCond .eq 13, 3) := by decide +kernel
theorem dX7_stand_11 : decode cX7_stand 11 = .ok (.iload_n 2, 1) := by decide +kernel
theorem dX7_stand_12 : decode cX7_stand 12 = .ok (.ifCond .lt 9, 3) := by decide +kernel
theorem dX7_stand_15 : decode cX7_stand 15 = .ok (.iload_n 2, 1) := by decide +kernel
theorem dX7_stand_16 : decode cX7_stand 16 = .ok (.bipush 9, 2) := by decide +kernel
theorem dX7_stand_18 : decode cX7_stand 18 = .ok (.if_icmp .le 5, 3) := by decide +kernel
theorem dX7_stand_21 : decode cX7_stand 21 = .ok (.iconst 0, 1) := by decide +kernel
theorem dX7_stand_22 : decode cX7_stand 22 = .ok (.ireturn, 1) := by decide +kernel
theorem dX7_stand_23 : decode cX7_stand 23 = .ok (.aload_n 0, 1) := by decide +kernel
theorem dX7_stand_24 : decode cX7_stand 24 = .ok (.getfield 59, 3) := by decide +kernel
theorem dX7_stand_27 : decode cX7_stand 27 = .ok (.getfield 192, 3) := by decide +kernel
theorem dX7_stand_30 : decode cX7_stand 30 = .ok (.iload_n 1, 1) := by decide +kernel
theorem dX7_stand_31 : decode cX7_stand 31 = .ok (.iload_n 2, 1) := by decide +kernel
theorem dX7_stand_32 : decode cX7_stand 32 = .ok (.iastore, 1) := by decide +kernel
theorem dX7_stand_33 : decode cX7_stand 33 = .ok (.aload_n 0, 1) := by decide +kernel
theorem dX7_stand_34 : decode cX7_stand 34 = .ok (.iconst 0, 1) := by decide +kernel
theorem dX7_stand_35 : decode cX7_stand 35 = .ok (.putfield 75, 3) := by decide +kernel
theorem dX7_stand_38 : decode cX7_stand 38 = .ok (.iconst 1, 1) := by decide +kernel
theorem dX7_stand_39 : decode cX7_stand 39 = .ok (.ireturn, 1) := by decide +kernel
set_option maxRecDepth 20000 in
theorem ggX7_passes_X7_needGuest : GoodIn wsX7_passes wsX7_needGuest := goodIn_ca (goodIn_r _ [8, 9, 10, 2, 11, 12, 13, 14, 15, 16, 24, 25, 26, 27, 28, 29, 30, 31, 32, 33, 34, 35, 36, 37, 38, 39, 40, 41] (by decide +kernel) (by decide +kernel)) (goodIn_sub (fun _ h => List.mem_cons_of_mem _ (List.mem_append_right _ h)) (by decide +kernel))
set_option maxRecDepth 20000 in
theorem gX7_passes_X7_needGuest : GoodIn wsX7_passes (wsV RX7 91 RX7 yX7_needGuest wsX7_needGuest) := goodIn_app (goodIn_of _ (by decide +kernel)) ggX7_passes_X7_needGuest
set_option maxRecDepth 20000 in
theorem ggX7_passes_X6_firstTooLow : GoodIn wsX7_passes wsX6_firstTooLow := goodIn_r _ [21, 22, 23, 42, 43, 44, 45] (by decide +kernel) (by decide +kernel)
set_option maxRecDepth 20000 in
theorem gX7_passes_X6_firstTooLow : GoodIn wsX7_passes (wsV RX7 195 RX6 yX6_firstTooLow wsX6_firstTooLow) := goodIn_app (goodIn_of _ (by decide +kernel)) ggX7_passes_X6_firstTooLow
theorem dX7_passes_0 : decode cX7_passes 0 = .ok (.aload_n 0, 1) := by decide +kernel
theorem dX7_passes_1 : decode cX7_passes 1 = .ok (.iload_n 1, 1) := by decide +kernel
theorem dX7_passes_2 : decode cX7_passes 2 = .ok (.invokevirtual 91, 3) := by decide +kernel
theorem dX7_passes_5 : decode cX7_passes 5 = .ok (.aload_n 0, 1) := by decide +kernel
theorem dX7_passes_6 : decode cX7_passes 6 = .ok (.getfield 59, 3) := by decide +kernel
theorem dX7_passes_9 : decode cX7_passes 9 = .ok (.aload_n 0, 1) := by decide +kernel
theorem dX7_passes_10 : decode cX7_passes 10 = .ok (.getfield 10, 3) := by decide +kernel
theorem dX7_passes_13 : decode cX7_passes 13 = .ok (.getfield 104, 3) := by decide +kernel
theorem dX7_passes_16 : decode cX7_passes 16 = .ok (.iload_n 1, 1) := by decide +kernel
theorem dX7_passes_17 : decode cX7_passes 17 = .ok (.iaload, 1) := by decide +kernel
theorem dX7_passes_18 : decode cX7_passes 18 = .ok (.invokevirtual 195, 3) := by decide +kernel
theorem dX7_passes_21 : decode cX7_passes 21 = .ok (.ireturn, 1) := by decide +kernel
set_option maxRecDepth 20000 in
theorem ggX7_begin_X6_firstTooLow : GoodIn wsX7_begin wsX6_firstTooLow := goodIn_r _ [12, 13, 14, 55, 56, 57, 58] (by decide +kernel) (by decide +kernel)
set_option maxRecDepth 20000 in
theorem gX7_begin_X6_firstTooLow : GoodIn wsX7_begin (wsV RX7 195 RX6 yX6_firstTooLow wsX6_firstTooLow) := goodIn_app (goodIn_of _ (by decide +kernel)) ggX7_begin_X6_firstTooLow
set_option maxRecDepth 20000 in
theorem ggX7_begin_X3_startRow : GoodIn wsX7_begin wsX3_startRow := goodIn_r _ [19, 20, 21, 22, 23, 24, 25, 26, 27, 28, 29, 30, 18, 31, 32, 33, 34, 35, 36, 59, 60, 61, 62, 63, 64, 65, 66, 67, 49, 50, 51, 52, 53, 54] (by decide +kernel) (by decide +kernel)
set_option maxRecDepth 20000 in
theorem gX7_begin_X3_startRow : GoodIn wsX7_begin (wsV RX7 199 RX3 yX3_startRow wsX3_startRow) := goodIn_app (goodIn_of _ (by decide +kernel)) ggX7_begin_X3_startRow
theorem dX7_begin_0 : decode cX7_begin 0 = .ok (.aload_n 0, 1) := by decide +kernel
theorem dX7_begin_1 : decode cX7_begin 1 = .ok (.getfield 10, 3) := by decide +kernel
theorem dX7_begin_4 : decode cX7_begin 4 = .ok (.getfield 79, 3) := by decide +kernel
theorem dX7_begin_7 : decode cX7_begin 7 = .ok (.ifCond .ne 5, 3) := by decide +kernel
theorem dX7_begin_10 : decode cX7_begin 10 = .ok (.iconst 0, 1) := by decide +kernel
theorem dX7_begin_11 : decode cX7_begin 11 = .ok (.ireturn, 1) := by decide +kernel
theorem dX7_begin_12 : decode cX7_begin 12 = .ok (.iconst 0, 1) := by decide +kernel
theorem dX7_begin_13 : decode cX7_begin 13 = .ok (.istore_n 1, 1) := by decide +kernel
theorem dX7_begin_14 : decode cX7_begin 14 = .ok (.iload_n 1, 1) := by decide +kernel
theorem dX7_begin_15 : decode cX7_begin 15 = .ok (.aload_n 0, 1) := by decide +kernel
theorem dX7_begin_16 : decode cX7_begin 16 = .ok (.getfield 10, 3) := by decide +kernel
theorem dX7_begin_19 : decode cX7_begin 19 = .ok (.getfield 79, 3) := by decide +kernel
theorem dX7_begin_22 : decode cX7_begin 22 = .ok (.if_icmp .ge 31, 3) := by decide +kernel
theorem dX7_begin_25 : decode cX7_begin 25 = .ok (.aload_n 0, 1) := by decide +kernel
theorem dX7_begin_26 : decode cX7_begin 26 = .ok (.getfield 59, 3) := by decide +kernel
theorem dX7_begin_29 : decode cX7_begin 29 = .ok (.aload_n 0, 1) := by decide +kernel
theorem dX7_begin_30 : decode cX7_begin 30 = .ok (.getfield 10, 3) := by decide +kernel
theorem dX7_begin_33 : decode cX7_begin 33 = .ok (.getfield 104, 3) := by decide +kernel
theorem dX7_begin_36 : decode cX7_begin 36 = .ok (.iload_n 1, 1) := by decide +kernel
theorem dX7_begin_37 : decode cX7_begin 37 = .ok (.iaload, 1) := by decide +kernel
theorem dX7_begin_38 : decode cX7_begin 38 = .ok (.invokevirtual 195, 3) := by decide +kernel
theorem dX7_begin_41 : decode cX7_begin 41 = .ok (.iconst (-1), 1) := by decide +kernel
theorem dX7_begin_42 : decode cX7_begin 42 = .ok (.if_icmp .eq 5, 3) := by decide +kernel
theorem dX7_begin_45 : decode cX7_begin 45 = .ok (.iconst 0, 1) := by decide +kernel
theorem dX7_begin_46 : decode cX7_begin 46 = .ok (.ireturn, 1) := by decide +kernel
theorem dX7_begin_47 : decode cX7_begin 47 = .ok (.iinc 1 1, 3) := by decide +kernel
theorem dX7_begin_50 : decode cX7_begin 50 = .ok (.goto (-36), 3) := by decide +kernel
theorem dX7_begin_53 : decode cX7_begin 53 = .ok (.aload_n 0, 1) := by decide +kernel
theorem dX7_begin_54 : decode cX7_begin 54 = .ok (.getfield 68, 3) := by decide +kernel
theorem dX7_begin_57 : decode cX7_begin 57 = .ok (.aload_n 0, 1) := by decide +kernel
theorem dX7_begin_58 : decode cX7_begin 58 = .ok (.getfield 16, 3) := by decide +kernel
theorem dX7_begin_61 : decode cX7_begin 61 = .ok (.invokevirtual 199, 3) := by decide +kernel
theorem dX7_begin_64 : decode cX7_begin 64 = .ok (.aload_n 0, 1) := by decide +kernel
theorem dX7_begin_65 : decode cX7_begin 65 = .ok (.iconst 1, 1) := by decide +kernel
theorem dX7_begin_66 : decode cX7_begin 66 = .ok (.putfield 75, 3) := by decide +kernel
theorem dX7_begin_69 : decode cX7_begin 69 = .ok (.iconst 1, 1) := by decide +kernel
theorem dX7_begin_70 : decode cX7_begin 70 = .ok (.ireturn, 1) := by decide +kernel
set_option maxRecDepth 20000 in
theorem ggX7_run_X7_needRun : GoodIn wsX7_run wsX7_needRun := goodIn_ca (goodIn_r _ [6, 7, 8, 9, 63, 64, 65, 66, 67, 68, 69, 70, 71, 72, 73, 74] (by decide +kernel) (by decide +kernel)) (goodIn_sub (fun _ h => List.mem_cons_of_mem _ (List.mem_append_right _ h)) (by decide +kernel))
set_option maxRecDepth 20000 in
theorem gX7_run_X7_needRun : GoodIn wsX7_run (wsV RX7 202 RX7 yX7_needRun wsX7_needRun) := goodIn_app (goodIn_of _ (by decide +kernel)) ggX7_run_X7_needRun
set_option maxRecDepth 20000 in
theorem ggX7_run_X3_allOut : GoodIn wsX7_run wsX3_allOut := goodIn_r _ [14, 15, 16, 17, 18, 19, 13, 20, 21, 75, 76, 77, 78, 79, 80, 81, 82, 83] (by decide +kernel) (by decide +kernel)
set_option maxRecDepth 20000 in
theorem gX7_run_X3_allOut : GoodIn wsX7_run (wsV RX7 205 RX3 yX3_allOut wsX3_allOut) := goodIn_app (goodIn_of _ (by decide +kernel)) ggX7_run_X3_allOut
set_option maxRecDepth 20000 in
theorem ggX7_run_X3_step : GoodIn wsX7_run wsX3_step := goodIn_r _ [25, 26, 15, 16, 17, 18, 19, 13, 20, 21, 27, 28, 29, 30, 31, 32, 33, 34, 35, 36, 37, 38, 39, 40, 41, 42, 43, 44, 45, 46, 47, 48, 49, 50, 51, 52, 53, 54, 55, 56, 57, 58, 59, 60, 61, 62, 75, 76, 77, 78, 79, 80, 81, 82, 83, 84, 85, 86, 87, 88, 89, 90, 91, 92, 93] (by decide +kernel) (by decide +kernel)
set_option maxRecDepth 20000 in
theorem gX7_run_X3_step : GoodIn wsX7_run (wsV RX7 208 RX3 yX3_step wsX3_step) := goodIn_app (goodIn_of _ (by decide +kernel)) ggX7_run_X3_step
theorem dX7_run_0 : decode cX7_run 0 = .ok (.aload_n 0, 1) := by decide +kernel
theorem dX7_run_1 : decode cX7_run 1 = .ok (.invokevirtual 202, 3) := by decide +kernel
theorem dX7_run_4 : decode cX7_run 4 = .ok (.iload_n 1, 1) := by decide +kernel
theorem dX7_run_5 : decode cX7_run 5 = .ok (.ifCond .lt 10, 3) := by decide +kernel
theorem dX7_run_8 : decode cX7_run 8 = .ok (.iload_n 1, 1) := by decide +kernel
theorem dX7_run_9 : decode cX7_run 9 = .ok (.sipush 500, 3) := by decide +kernel
theorem dX7_run_12 : decode cX7_run 12 = .ok (.if_icmp .le 5, 3) := by decide +kernel
theorem dX7_run_15 : decode cX7_run 15 = .ok (.iconst (-1), 1) := by decide +kernel
theorem dX7_run_16 : decode cX7_run 16 = .ok (.ireturn, 1) := by decide +kernel
theorem dX7_run_17 : decode cX7_run 17 = .ok (.iconst 0, 1) := by decide +kernel
theorem dX7_run_18 : decode cX7_run 18 = .ok (.istore_n 2, 1) := by decide +kernel
theorem dX7_run_19 : decode cX7_run 19 = .ok (.iload_n 2, 1) := by decide +kernel
theorem dX7_run_20 : decode cX7_run 20 = .ok (.iload_n 1, 1) := by decide +kernel
theorem dX7_run_21 : decode cX7_run 21 = .ok (.if_icmp .ge 26, 3) := by decide +kernel
theorem dX7_run_24 : decode cX7_run 24 = .ok (.aload_n 0, 1) := by decide +kernel
theorem dX7_run_25 : decode cX7_run 25 = .ok (.getfield 68, 3) := by decide +kernel
theorem dX7_run_28 : decode cX7_run 28 = .ok (.invokevirtual 205, 3) := by decide +kernel
theorem dX7_run_31 : decode cX7_run 31 = .ok (.ifCond .ne 16, 3) := by decide +kernel
theorem dX7_run_34 : decode cX7_run 34 = .ok (.aload_n 0, 1) := by decide +kernel
theorem dX7_run_35 : decode cX7_run 35 = .ok (.getfield 68, 3) := by decide +kernel
theorem dX7_run_38 : decode cX7_run 38 = .ok (.invokevirtual 208, 3) := by decide +kernel
theorem dX7_run_41 : decode cX7_run 41 = .ok (.iinc 2 1, 3) := by decide +kernel
theorem dX7_run_44 : decode cX7_run 44 = .ok (.goto (-25), 3) := by decide +kernel
theorem dX7_run_47 : decode cX7_run 47 = .ok (.iload_n 2, 1) := by decide +kernel
theorem dX7_run_48 : decode cX7_run 48 = .ok (.ireturn, 1) := by decide +kernel
set_option maxRecDepth 20000 in
theorem ggX7_minute_X7_needRun : GoodIn wsX7_minute wsX7_needRun := goodIn_ca (goodIn_r _ [7, 8, 9, 10, 11, 12, 13, 14, 15, 16, 17, 18, 19, 20, 21, 22] (by decide +kernel) (by decide +kernel)) (goodIn_sub (fun _ h => List.mem_cons_of_mem _ (List.mem_append_right _ h)) (by decide +kernel))
set_option maxRecDepth 20000 in
theorem gX7_minute_X7_needRun : GoodIn wsX7_minute (wsV RX7 202 RX7 yX7_needRun wsX7_needRun) := goodIn_app (goodIn_of _ (by decide +kernel)) ggX7_minute_X7_needRun
theorem dX7_minute_0 : decode cX7_minute 0 = .ok (.aload_n 0, 1) := by decide +kernel
theorem dX7_minute_1 : decode cX7_minute 1 = .ok (.invokevirtual 202, 3) := by decide +kernel
theorem dX7_minute_4 : decode cX7_minute 4 = .ok (.aload_n 0, 1) := by decide +kernel
theorem dX7_minute_5 : decode cX7_minute 5 = .ok (.getfield 68, 3) := by decide +kernel
theorem dX7_minute_8 : decode cX7_minute 8 = .ok (.getfield 211, 3) := by decide +kernel
theorem dX7_minute_11 : decode cX7_minute 11 = .ok (.ireturn, 1) := by decide +kernel
set_option maxRecDepth 20000 in
theorem ggX7_at_X7_needGuest : GoodIn wsX7_at wsX7_needGuest := goodIn_ca (goodIn_r _ [9, 10, 11, 12, 13, 14, 15, 16, 17, 18, 44, 45, 46, 47, 48, 49, 50, 51, 52, 53, 54, 55, 65, 66, 67, 68, 69, 70] (by decide +kernel) (by decide +kernel)) (goodIn_sub (fun _ h => List.mem_cons_of_mem _ (List.mem_append_left _ (List.mem_append_right _ h))) (by decide +kernel))
set_option maxRecDepth 20000 in
theorem gX7_at_X7_needGuest : GoodIn wsX7_at (wsV RX7 91 RX7 yX7_needGuest wsX7_needGuest) := goodIn_app (goodIn_of _ (by decide +kernel)) ggX7_at_X7_needGuest
set_option maxRecDepth 20000 in
theorem ggX7_at_X7_needRun : GoodIn wsX7_at wsX7_needRun := goodIn_ca (goodIn_r _ [22, 23, 24, 25, 44, 45, 46, 47, 48, 49, 50, 51, 52, 53, 54, 55] (by decide +kernel) (by decide +kernel)) (goodIn_sub (fun _ h => List.mem_cons_of_mem _ (List.mem_append_right _ h)) (by decide +kernel))
set_option maxRecDepth 20000 in
theorem gX7_at_X7_needRun : GoodIn wsX7_at (wsV RX7 202 RX7 yX7_needRun wsX7_needRun) := goodIn_app (goodIn_of _ (by decide +kernel)) ggX7_at_X7_needRun
set_option maxRecDepth 20000 in
theorem ggX7_at_X3_tailOf : GoodIn wsX7_at wsX3_tailOf := goodIn_r _ [30, 31, 32, 33, 56, 57, 58, 59, 60, 61, 62, 63, 64, 65, 66, 67, 68, 69, 70] (by decide +kernel) (by decide +kernel)
set_option maxRecDepth 20000 in
theorem gX7_at_X3_tailOf : GoodIn wsX7_at (wsV RX7 217 RX3 yX3_tailOf wsX3_tailOf) := goodIn_app (goodIn_of _ (by decide +kernel)) ggX7_at_X3_tailOf
set_option maxRecDepth 20000 in
theorem ggX7_at_X3_stateOf : GoodIn wsX7_at wsX3_stateOf := goodIn_r _ [37, 31, 38, 39, 40, 41, 29, 42, 43, 56, 57, 58, 59, 60, 61, 62, 63, 64] (by decide +kernel) (by decide +kernel)
set_option maxRecDepth 20000 in
theorem gX7_at_X3_stateOf : GoodIn wsX7_at (wsV RX7 220 RX3 yX3_stateOf wsX3_stateOf) := goodIn_app (goodIn_of _ (by decide +kernel)) ggX7_at_X3_stateOf
theorem dX7_at_0 : decode cX7_at 0 = .ok (.aload_n 0, 1) := by decide +kernel
theorem dX7_at_1 : decode cX7_at 1 = .ok (.iload_n 1, 1) := by decide +kernel
theorem dX7_at_2 : decode cX7_at 2 = .ok (.invokevirtual 91, 3) := by decide +kernel
theorem dX7_at_5 : decode cX7_at 5 = .ok (.aload_n 0, 1) := by decide +kernel
theorem dX7_at_6 : decode cX7_at 6 = .ok (.invokevirtual 202, 3) := by decide +kernel
theorem dX7_at_9 : decode cX7_at 9 = .ok (.iload_n 2, 1) := by decide +kernel
theorem dX7_at_10 : decode cX7_at 10 = .ok (.tableswitch 82 0 4 #[34, 44, 53, 62, 72], 34) := by decide +kernel
theorem dX7_at_44 : decode cX7_at 44 = .ok (.aload_n 0, 1) := by decide +kernel
theorem dX7_at_45 : decode cX7_at 45 = .ok (.getfield 68, 3) := by decide +kernel
theorem dX7_at_48 : decode cX7_at 48 = .ok (.getfield 214, 3) := by decide +kernel
theorem dX7_at_51 : decode cX7_at 51 = .ok (.iload_n 1, 1) := by decide +kernel
theorem dX7_at_52 : decode cX7_at 52 = .ok (.iaload, 1) := by decide +kernel
theorem dX7_at_53 : decode cX7_at 53 = .ok (.ireturn, 1) := by decide +kernel
theorem dX7_at_54 : decode cX7_at 54 = .ok (.aload_n 0, 1) := by decide +kernel
theorem dX7_at_55 : decode cX7_at 55 = .ok (.getfield 68, 3) := by decide +kernel
theorem dX7_at_58 : decode cX7_at 58 = .ok (.iload_n 1, 1) := by decide +kernel
theorem dX7_at_59 : decode cX7_at 59 = .ok (.invokevirtual 217, 3) := by decide +kernel
theorem dX7_at_62 : decode cX7_at 62 = .ok (.ireturn, 1) := by decide +kernel
theorem dX7_at_63 : decode cX7_at 63 = .ok (.aload_n 0, 1) := by decide +kernel
theorem dX7_at_64 : decode cX7_at 64 = .ok (.getfield 68, 3) := by decide +kernel
theorem dX7_at_67 : decode cX7_at 67 = .ok (.iload_n 1, 1) := by decide +kernel
theorem dX7_at_68 : decode cX7_at 68 = .ok (.invokevirtual 220, 3) := by decide +kernel
theorem dX7_at_71 : decode cX7_at 71 = .ok (.ireturn, 1) := by decide +kernel
theorem dX7_at_72 : decode cX7_at 72 = .ok (.aload_n 0, 1) := by decide +kernel
theorem dX7_at_73 : decode cX7_at 73 = .ok (.getfield 68, 3) := by decide +kernel
theorem dX7_at_76 : decode cX7_at 76 = .ok (.getfield 223, 3) := by decide +kernel
theorem dX7_at_79 : decode cX7_at 79 = .ok (.iload_n 1, 1) := by decide +kernel
theorem dX7_at_80 : decode cX7_at 80 = .ok (.iaload, 1) := by decide +kernel
theorem dX7_at_81 : decode cX7_at 81 = .ok (.ireturn, 1) := by decide +kernel
theorem dX7_at_82 : decode cX7_at 82 = .ok (.aload_n 0, 1) := by decide +kernel
theorem dX7_at_83 : decode cX7_at 83 = .ok (.getfield 68, 3) := by decide +kernel
theorem dX7_at_86 : decode cX7_at 86 = .ok (.getfield 226, 3) := by decide +kernel
theorem dX7_at_89 : decode cX7_at 89 = .ok (.iload_n 1, 1) := by decide +kernel
theorem dX7_at_90 : decode cX7_at 90 = .ok (.iaload, 1) := by decide +kernel
theorem dX7_at_91 : decode cX7_at 91 = .ok (.ireturn, 1) := by decide +kernel
theorem dX7_at_92 : decode cX7_at 92 = .ok (.bipush (-100), 2) := by decide +kernel
theorem dX7_at_94 : decode cX7_at 94 = .ok (.ireturn, 1) := by decide +kernel
set_option maxRecDepth 20000 in
theorem ggX7_who_X7_needRun : GoodIn wsX7_who wsX7_needRun := goodIn_ca (goodIn_r _ [7, 8, 9, 10, 40, 41, 42, 43, 44, 45, 46, 47, 48, 49, 50, 51] (by decide +kernel) (by decide +kernel)) (goodIn_sub (fun _ h => List.mem_cons_of_mem _ (List.mem_append_right _ h)) (by decide +kernel))
set_option maxRecDepth 20000 in
theorem gX7_who_X7_needRun : GoodIn wsX7_who (wsV RX7 202 RX7 yX7_needRun wsX7_needRun) := goodIn_app (goodIn_of _ (by decide +kernel)) ggX7_who_X7_needRun
set_option maxRecDepth 20000 in
theorem ggX7_who_X6_has : GoodIn wsX7_who wsX6_has := goodIn_r _ [15, 16, 52, 53, 54, 55] (by decide +kernel) (by decide +kernel)
set_option maxRecDepth 20000 in
theorem gX7_who_X6_has : GoodIn wsX7_who (wsV RX7 188 RX6 yX6_has wsX6_has) := goodIn_app (goodIn_of _ (by decide +kernel)) ggX7_who_X6_has
set_option maxRecDepth 20000 in
theorem ggX7_who_X3_standsOn : GoodIn wsX7_who wsX3_standsOn := goodIn_r _ [21, 22, 23, 24, 25, 26, 27, 20, 28, 29, 30, 31, 32, 33, 34, 35, 36, 37, 38, 39, 56, 57, 58, 59, 60, 61, 62, 63, 64, 65, 66, 67, 68, 69, 70] (by decide +kernel) (by decide +kernel)
set_option maxRecDepth 20000 in
theorem gX7_who_X3_standsOn : GoodIn wsX7_who (wsV RX7 229 RX3 yX3_standsOn wsX3_standsOn) := goodIn_app (goodIn_of _ (by decide +kernel)) ggX7_who_X3_standsOn
theorem dX7_who_0 : decode cX7_who 0 = .ok (.aload_n 0, 1) := by decide +kernel
theorem dX7_who_1 : decode cX7_who 1 = .ok (.invokevirtual 202, 3) := by decide +kernel
theorem dX7_who_4 : decode cX7_who 4 = .ok (.aload_n 0, 1) := by decide +kernel
theorem dX7_who_5 : decode cX7_who 5 = .ok (.getfield 59, 3) := by decide +kernel
theorem dX7_who_8 : decode cX7_who 8 = .ok (.iload_n 1, 1) := by decide +kernel
theorem dX7_who_9 : decode cX7_who 9 = .ok (.invokevirtual 188, 3) := by decide +kernel
theorem dX7_who_12 : decode cX7_who 12 = .ok (.ifCond .eq 14, 3) := by decide +kernel
theorem dX7_who_15 : decode cX7_who 15 = .ok (.aload_n 0, 1) := by decide +kernel
theorem dX7_who_16 : decode cX7_who 16 = .ok (.getfield 68, 3) := by decide +kernel
theorem dX7_who_19 : decode cX7_who 19 = .ok (.iload_n 1, 1) := by decide +kernel
theorem dX7_who_20 : decode cX7_who 20 = .ok (.invokevirtual 229, 3) := by decide +kernel
theorem dX7_who_23 : decode cX7_who 23 = .ok (.goto 4, 3) := by decide +kernel
theorem dX7_who_26 : decode cX7_who 26 = .ok (.iconst (-1), 1) := by decide +kernel
theorem dX7_who_27 : decode cX7_who 27 = .ok (.ireturn, 1) := by decide +kernel
set_option maxRecDepth 20000 in
theorem ggX7_hole_X7_needRun : GoodIn wsX7_hole wsX7_needRun := goodIn_ca (goodIn_r _ [6, 7, 8, 9, 37, 38, 39, 40, 41, 42, 43, 44, 45, 46, 47, 48] (by decide +kernel) (by decide +kernel)) (goodIn_sub (fun _ h => List.mem_cons_of_mem _ (List.mem_append_right _ h)) (by decide +kernel))
set_option maxRecDepth 20000 in
theorem gX7_hole_X7_needRun : GoodIn wsX7_hole (wsV RX7 202 RX7 yX7_needRun wsX7_needRun) := goodIn_app (goodIn_of _ (by decide +kernel)) ggX7_hole_X7_needRun
set_option maxRecDepth 20000 in
theorem ggX7_hole_X3_widestHole : GoodIn wsX7_hole wsX3_widestHole := goodIn_r _ [14, 15, 16, 17, 18, 19, 20, 21, 22, 23, 24, 13, 25, 26, 27, 28, 29, 30, 31, 32, 33, 34, 35, 36, 49, 50, 51, 52, 53, 54, 55, 56, 57, 58, 59, 60, 61, 62, 63] (by decide +kernel) (by decide +kernel)
set_option maxRecDepth 20000 in
theorem gX7_hole_X3_widestHole : GoodIn wsX7_hole (wsV RX7 232 RX3 yX3_widestHole wsX3_widestHole) := goodIn_app (goodIn_of _ (by decide +kernel)) ggX7_hole_X3_widestHole
theorem dX7_hole_0 : decode cX7_hole 0 = .ok (.aload_n 0, 1) := by decide +kernel
theorem dX7_hole_1 : decode cX7_hole 1 = .ok (.invokevirtual 202, 3) := by decide +kernel
theorem dX7_hole_4 : decode cX7_hole 4 = .ok (.aload_n 0, 1) := by decide +kernel
theorem dX7_hole_5 : decode cX7_hole 5 = .ok (.getfield 68, 3) := by decide +kernel
theorem dX7_hole_8 : decode cX7_hole 8 = .ok (.invokevirtual 232, 3) := by decide +kernel
theorem dX7_hole_11 : decode cX7_hole 11 = .ok (.ireturn, 1) := by decide +kernel
set_option maxRecDepth 20000 in
theorem ggX7_rowLong_X7_needRun : GoodIn wsX7_rowLong wsX7_needRun := goodIn_ca (goodIn_r _ [6, 7, 8, 9, 42, 43, 44, 45, 46, 47, 48, 49, 50, 51, 52, 53] (by decide +kernel) (by decide +kernel)) (goodIn_sub (fun _ h => List.mem_cons_of_mem _ (List.mem_append_right _ h)) (by decide +kernel))
set_option maxRecDepth 20000 in
theorem gX7_rowLong_X7_needRun : GoodIn wsX7_rowLong (wsV RX7 202 RX7 yX7_needRun wsX7_needRun) := goodIn_app (goodIn_of _ (by decide +kernel)) ggX7_rowLong_X7_needRun
