set_option maxRecDepth 20000 in
theorem gX8_wire_X8_isIn : GoodIn wsX8_wire (va_wsS RX8 75 yX8_isIn wsX8_isIn) := goodIn_app (goodIn_of _ (by decide +kernel)) ggX8_wire_X8_isIn
theorem dX8_wire_0 : decode cX8_wire 0 = .ok (.aload_n 0, 1) := by decide +kernel
theorem dX8_wire_1 : decode cX8_wire 1 = .ok (.iconst 0, 1) := by decide +kernel
theorem dX8_wire_2 : decode cX8_wire 2 = .ok (.putfield 69, 3) := by decide +kernel
theorem dX8_wire_5 : decode cX8_wire 5 = .ok (.aload_n 0, 1) := by decide +kernel
theorem dX8_wire_6 : decode cX8_wire 6 = .ok (.iload_n 1, 1) := by decide +kernel
theorem dX8_wire_7 : decode cX8_wire 7 = .ok (.invokevirtual 202, 3) := by decide +kernel
theorem dX8_wire_10 : decode cX8_wire 10 = .ok (.ifCond .eq 13, 3) := by decide +kernel
theorem dX8_wire_13 : decode cX8_wire 13 = .ok (.iload_n 2, 1) := by decide +kernel
theorem dX8_wire_14 : decode cX8_wire 14 = .ok (.iconst 0, 1) := by decide +kernel
theorem dX8_wire_15 : decode cX8_wire 15 = .ok (.bipush 9, 2) := by decide +kernel
theorem dX8_wire_17 : decode cX8_wire 17 = .ok (.invokestatic 75, 3) := by decide +kernel
theorem dX8_wire_20 : decode cX8_wire 20 = .ok (.ifCond .ne 5, 3) := by decide +kernel
theorem dX8_wire_23 : decode cX8_wire 23 = .ok (.iconst 0, 1) := by decide +kernel
theorem dX8_wire_24 : decode cX8_wire 24 = .ok (.ireturn, 1) := by decide +kernel
theorem dX8_wire_25 : decode cX8_wire 25 = .ok (.aload_n 0, 1) := by decide +kernel
theorem dX8_wire_26 : decode cX8_wire 26 = .ok (.getfield 41, 3) := by decide +kernel
theorem dX8_wire_29 : decode cX8_wire 29 = .ok (.iload_n 1, 1) := by decide +kernel
theorem dX8_wire_30 : decode cX8_wire 30 = .ok (.iload_n 2, 1) := by decide +kernel
theorem dX8_wire_31 : decode cX8_wire 31 = .ok (.iastore, 1) := by decide +kernel
theorem dX8_wire_32 : decode cX8_wire 32 = .ok (.aload_n 0, 1) := by decide +kernel
theorem dX8_wire_33 : decode cX8_wire 33 = .ok (.iconst 0, 1) := by decide +kernel
theorem dX8_wire_34 : decode cX8_wire 34 = .ok (.putfield 79, 3) := by decide +kernel
theorem dX8_wire_37 : decode cX8_wire 37 = .ok (.iconst 1, 1) := by decide +kernel
theorem dX8_wire_38 : decode cX8_wire 38 = .ok (.ireturn, 1) := by decide +kernel
set_option maxRecDepth 20000 in
theorem ggX8_stand_X8_isCell : GoodIn wsX8_stand wsX8_isCell := goodIn_r _ [8, 9, 10, 11, 7, 12, 13, 14, 15, 16, 17, 18, 19, 20, 21, 22, 23, 24, 25, 26, 27, 28, 29, 30, 31, 32, 33, 34, 35, 36, 37, 38, 39, 40, 41, 42, 43, 44, 45, 46, 47, 48] (by decide +kernel) (by decide +kernel)
set_option maxRecDepth 20000 in
theorem gX8_stand_X8_isCell : GoodIn wsX8_stand (wsV RX8 202 RX8 yX8_isCell wsX8_isCell) := goodIn_app (goodIn_of _ (by decide +kernel)) ggX8_stand_X8_isCell
set_option maxRecDepth 20000 in
theorem ggX8_stand_X8_isIn : GoodIn wsX8_stand wsX8_isIn := goodIn_r _ [12] (by decide +kernel) (by decide +kernel)
set_option maxRecDepth 20000 in
theorem gX8_stand_X8_isIn : GoodIn wsX8_stand (va_wsS RX8 75 yX8_isIn wsX8_isIn) := goodIn_app (goodIn_of _ (by decide +kernel)) ggX8_stand_X8_isIn
theorem dX8_stand_0 : decode cX8_stand 0 = .ok (.aload_n 0, 1) := by decide +kernel
theorem dX8_stand_1 : decode cX8_stand 1 = .ok (.iconst 0, 1) := by decide +kernel
theorem dX8_stand_2 : decode cX8_stand 2 = .ok (.putfield 69, 3) := by decide +kernel
theorem dX8_stand_5 : decode cX8_stand 5 = .ok (.aload_n 0, 1) := by decide +kernel
theorem dX8_stand_6 : decode cX8_stand 6 = .ok (.iload_n 1, 1) := by decide +kernel
theorem dX8_stand_7 : decode cX8_stand 7 = .ok (.invokevirtual 202, 3) := by decide +kernel
theorem dX8_stand_10 : decode cX8_stand 10 = .ok (.ifCond .eq 13, 3) := by decide +kernel
theorem dX8_stand_13 : decode cX8_stand 13 = .ok (.iload_n 2, 1) := by decide +kernel
theorem dX8_stand_14 : decode cX8_stand 14 = .ok (.iconst 0, 1) := by decide +kernel
theorem dX8_stand_15 : decode cX8_stand 15 = .ok (.bipush 9, 2) := by decide +kernel
theorem dX8_stand_17 : decode cX8_stand 17 = .ok (.invokestatic 75, 3) := by decide +kernel
theorem dX8_stand_20 : decode cX8_stand 20 = .ok (.ifCond .ne 5, 3) := by decide +kernel
theorem dX8_stand_23 : decode cX8_stand 23 = .ok (.iconst 0, 1) := by decide +kernel
theorem dX8_stand_24 : decode cX8_stand 24 = .ok (.ireturn, 1) := by decide +kernel
theorem dX8_stand_25 : decode cX8_stand 25 = .ok (.aload_n 0, 1) := by decide +kernel
theorem dX8_stand_26 : decode cX8_stand 26 = .ok (.getfield 44, 3) := by decide +kernel
theorem dX8_stand_29 : decode cX8_stand 29 = .ok (.iload_n 1, 1) := by decide +kernel
theorem dX8_stand_30 : decode cX8_stand 30 = .ok (.iload_n 2, 1) := by decide +kernel
theorem dX8_stand_31 : decode cX8_stand 31 = .ok (.iastore, 1) := by decide +kernel
theorem dX8_stand_32 : decode cX8_stand 32 = .ok (.aload_n 0, 1) := by decide +kernel
theorem dX8_stand_33 : decode cX8_stand 33 = .ok (.iconst 0, 1) := by decide +kernel
theorem dX8_stand_34 : decode cX8_stand 34 = .ok (.putfield 79, 3) := by decide +kernel
theorem dX8_stand_37 : decode cX8_stand 37 = .ok (.iconst 1, 1) := by decide +kernel
theorem dX8_stand_38 : decode cX8_stand 38 = .ok (.ireturn, 1) := by decide +kernel
set_option maxRecDepth 20000 in
theorem ggX8_stops_X8_get : GoodIn wsX8_stops wsX8_get := goodIn_r _ [7, 8, 9, 10, 11, 12, 13, 14, 15, 16, 17, 18, 19, 20, 21, 22, 23, 24, 25, 26, 27, 28, 29, 30, 31, 32, 33, 34, 35, 36, 37, 38, 39, 40, 41, 42, 43, 44] (by decide +kernel) (by decide +kernel)
set_option maxRecDepth 20000 in
theorem gX8_stops_X8_get : GoodIn wsX8_stops (wsV RX8 91 RX8 yX8_get wsX8_get) := goodIn_app (goodIn_of _ (by decide +kernel)) ggX8_stops_X8_get
theorem dX8_stops_0 : decode cX8_stops 0 = .ok (.iconst 0, 1) := by decide +kernel
theorem dX8_stops_1 : decode cX8_stops 1 = .ok (.istore_n 2, 1) := by decide +kernel
theorem dX8_stops_2 : decode cX8_stops 2 = .ok (.iload_n 2, 1) := by decide +kernel
theorem dX8_stops_3 : decode cX8_stops 3 = .ok (.aload_n 0, 1) := by decide +kernel
theorem dX8_stops_4 : decode cX8_stops 4 = .ok (.getfield 35, 3) := by decide +kernel
theorem dX8_stops_7 : decode cX8_stops 7 = .ok (.if_icmp .ge 35, 3) := by decide +kernel
theorem dX8_stops_10 : decode cX8_stops 10 = .ok (.aload_n 0, 1) := by decide +kernel
theorem dX8_stops_11 : decode cX8_stops 11 = .ok (.getfield 41, 3) := by decide +kernel
theorem dX8_stops_14 : decode cX8_stops 14 = .ok (.iload_n 2, 1) := by decide +kernel
theorem dX8_stops_15 : decode cX8_stops 15 = .ok (.iaload, 1) := by decide +kernel
theorem dX8_stops_16 : decode cX8_stops 16 = .ok (.ifCond .le 20, 3) := by decide +kernel
theorem dX8_stops_19 : decode cX8_stops 19 = .ok (.aload_n 0, 1) := by decide +kernel
theorem dX8_stops_20 : decode cX8_stops 20 = .ok (.iload_n 1, 1) := by decide +kernel
theorem dX8_stops_21 : decode cX8_stops 21 = .ok (.iconst 3, 1) := by decide +kernel
theorem dX8_stops_22 : decode cX8_stops 22 = .ok (.invokevirtual 91, 3) := by decide +kernel
theorem dX8_stops_25 : decode cX8_stops 25 = .ok (.aload_n 0, 1) := by decide +kernel
theorem dX8_stops_26 : decode cX8_stops 26 = .ok (.getfield 41, 3) := by decide +kernel
theorem dX8_stops_29 : decode cX8_stops 29 = .ok (.iload_n 2, 1) := by decide +kernel
theorem dX8_stops_30 : decode cX8_stops 30 = .ok (.iaload, 1) := by decide +kernel
theorem dX8_stops_31 : decode cX8_stops 31 = .ok (.if_icmp .le 5, 3) := by decide +kernel
theorem dX8_stops_34 : decode cX8_stops 34 = .ok (.iload_n 2, 1) := by decide +kernel
theorem dX8_stops_35 : decode cX8_stops 35 = .ok (.ireturn, 1) := by decide +kernel
theorem dX8_stops_36 : decode cX8_stops 36 = .ok (.iinc 2 1, 3) := by decide +kernel
theorem dX8_stops_39 : decode cX8_stops 39 = .ok (.goto (-37), 3) := by decide +kernel
theorem dX8_stops_42 : decode cX8_stops 42 = .ok (.iconst (-1), 1) := by decide +kernel
theorem dX8_stops_43 : decode cX8_stops 43 = .ok (.ireturn, 1) := by decide +kernel
set_option maxRecDepth 20000 in
theorem ggX8_passes_X8_isNo : GoodIn wsX8_passes wsX8_isNo := goodIn_r _ [5, 6, 7, 8, 4, 9, 26, 27, 28, 29, 30, 31, 32, 33, 34, 35, 36, 37, 38, 39, 40, 41, 42, 43, 44, 45, 46, 47, 48, 49, 50, 51, 52, 53, 54, 55, 56, 57, 58, 59, 60, 61] (by decide +kernel) (by decide +kernel)
set_option maxRecDepth 20000 in
theorem gX8_passes_X8_isNo : GoodIn wsX8_passes (wsV RX8 83 RX8 yX8_isNo wsX8_isNo) := goodIn_app (goodIn_of _ (by decide +kernel)) ggX8_passes_X8_isNo
set_option maxRecDepth 20000 in
theorem ggX8_passes_X8_fails : GoodIn wsX8_passes wsX8_fails := goodIn_r _ [13, 14, 26, 27, 28, 29, 30, 31, 32, 33, 34, 35, 36, 37, 38, 39, 40, 41, 42, 43, 44, 45, 46, 47, 48, 49, 50, 51, 52, 53, 54, 55, 56, 57, 58, 59, 60, 61] (by decide +kernel) (by decide +kernel)
set_option maxRecDepth 20000 in
theorem gX8_passes_X8_fails : GoodIn wsX8_passes (wsV RX8 87 RX8 yX8_fails wsX8_fails) := goodIn_app (goodIn_of _ (by decide +kernel)) ggX8_passes_X8_fails
set_option maxRecDepth 20000 in
theorem ggX8_passes_X8_stops : GoodIn wsX8_passes wsX8_stops := goodIn_r _ [18, 19, 20, 21, 22, 23, 4, 24, 25, 26, 27, 28, 29, 30, 31, 32, 33, 34, 35, 36, 37, 38, 39, 40, 41, 42, 43, 44, 45, 46, 47, 48, 49, 50, 51, 52, 53, 54, 55, 56, 57, 58, 59, 60, 61] (by decide +kernel) (by decide +kernel)
set_option maxRecDepth 20000 in
theorem gX8_passes_X8_stops : GoodIn wsX8_passes (wsV RX8 205 RX8 yX8_stops wsX8_stops) := goodIn_app (goodIn_of _ (by decide +kernel)) ggX8_passes_X8_stops
theorem dX8_passes_0 : decode cX8_passes 0 = .ok (.aload_n 0, 1) := by decide +kernel
theorem dX8_passes_1 : decode cX8_passes 1 = .ok (.aload_n 0, 1) := by decide +kernel
theorem dX8_passes_2 : decode cX8_passes 2 = .ok (.iload_n 1, 1) := by decide +kernel
theorem dX8_passes_3 : decode cX8_passes 3 = .ok (.invokevirtual 83, 3) := by decide +kernel
theorem dX8_passes_6 : decode cX8_passes 6 = .ok (.iconst 0, 1) := by decide +kernel
theorem dX8_passes_7 : decode cX8_passes 7 = .ok (.invokevirtual 87, 3) := by decide +kernel
theorem dX8_passes_10 : decode cX8_passes 10 = .ok (.ifCond .eq 5, 3) := by decide +kernel
theorem dX8_passes_13 : decode cX8_passes 13 = .ok (.iconst 0, 1) := by decide +kernel
theorem dX8_passes_14 : decode cX8_passes 14 = .ok (.ireturn, 1) := by decide +kernel
theorem dX8_passes_15 : decode cX8_passes 15 = .ok (.aload_n 0, 1) := by decide +kernel
theorem dX8_passes_16 : decode cX8_passes 16 = .ok (.iload_n 1, 1) := by decide +kernel
theorem dX8_passes_17 : decode cX8_passes 17 = .ok (.invokevirtual 205, 3) := by decide +kernel
theorem dX8_passes_20 : decode cX8_passes 20 = .ok (.ireturn, 1) := by decide +kernel
set_option maxRecDepth 20000 in
theorem ggX8_begin_X8_stops : GoodIn wsX8_begin wsX8_stops := goodIn_r _ [12, 13, 14, 15, 16, 17, 11, 18, 19, 29, 30, 31, 32, 33, 34, 35, 36, 37, 38, 39, 40, 41, 42, 43, 44, 45, 46, 47, 48, 49, 50, 51, 52, 53, 54, 55, 56, 57, 58, 59, 60, 61, 62, 63, 64] (by decide +kernel) (by decide +kernel)
set_option maxRecDepth 20000 in
theorem gX8_begin_X8_stops : GoodIn wsX8_begin (wsV RX8 205 RX8 yX8_stops wsX8_stops) := goodIn_app (goodIn_of _ (by decide +kernel)) ggX8_begin_X8_stops
set_option maxRecDepth 20000 in
theorem ggX8_begin_X8_clear : GoodIn wsX8_begin wsX8_clear := goodIn_r _ [23, 24, 25, 26, 27, 28, 29, 30, 31, 32, 33, 34, 35, 36, 37, 38, 39, 40, 41, 42, 43, 44, 45, 46, 47, 48, 49, 50, 51, 52, 53, 54, 55, 56, 57, 58, 59, 60, 61, 62, 63, 64] (by decide +kernel) (by decide +kernel)
set_option maxRecDepth 20000 in
theorem gX8_begin_X8_clear : GoodIn wsX8_begin (wsV RX8 214 RX8 yX8_clear wsX8_clear) := goodIn_app (goodIn_of _ (by decide +kernel)) ggX8_begin_X8_clear
theorem dX8_begin_0 : decode cX8_begin 0 = .ok (.aload_n 0, 1) := by decide +kernel
theorem dX8_begin_1 : decode cX8_begin 1 = .ok (.iconst 0, 1) := by decide +kernel
theorem dX8_begin_2 : decode cX8_begin 2 = .ok (.putfield 69, 3) := by decide +kernel
theorem dX8_begin_5 : decode cX8_begin 5 = .ok (.aload_n 0, 1) := by decide +kernel
theorem dX8_begin_6 : decode cX8_begin 6 = .ok (.getfield 72, 3) := by decide +kernel
theorem dX8_begin_9 : decode cX8_begin 9 = .ok (.ifCond .ne 5, 3) := by decide +kernel
theorem dX8_begin_12 : decode cX8_begin 12 = .ok (.iconst 0, 1) := by decide +kernel
theorem dX8_begin_13 : decode cX8_begin 13 = .ok (.ireturn, 1) := by decide +kernel
theorem dX8_begin_14 : decode cX8_begin 14 = .ok (.iconst 0, 1) := by decide +kernel
theorem dX8_begin_15 : decode cX8_begin 15 = .ok (.istore_n 1, 1) := by decide +kernel
theorem dX8_begin_16 : decode cX8_begin 16 = .ok (.iload_n 1, 1) := by decide +kernel
theorem dX8_begin_17 : decode cX8_begin 17 = .ok (.aload_n 0, 1) := by decide +kernel
theorem dX8_begin_18 : decode cX8_begin 18 = .ok (.getfield 72, 3) := by decide +kernel
theorem dX8_begin_21 : decode cX8_begin 21 = .ok (.if_icmp .ge 20, 3) := by decide +kernel
theorem dX8_begin_24 : decode cX8_begin 24 = .ok (.aload_n 0, 1) := by decide +kernel
theorem dX8_begin_25 : decode cX8_begin 25 = .ok (.iload_n 1, 1) := by decide +kernel
theorem dX8_begin_26 : decode cX8_begin 26 = .ok (.invokevirtual 205, 3) := by decide +kernel
theorem dX8_begin_29 : decode cX8_begin 29 = .ok (.iconst (-1), 1) := by decide +kernel
theorem dX8_begin_30 : decode cX8_begin 30 = .ok (.if_icmp .eq 5, 3) := by decide +kernel
theorem dX8_begin_33 : decode cX8_begin 33 = .ok (.iconst 0, 1) := by decide +kernel
theorem dX8_begin_34 : decode cX8_begin 34 = .ok (.ireturn, 1) := by decide +kernel
theorem dX8_begin_35 : decode cX8_begin 35 = .ok (.iinc 1 1, 3) := by decide +kernel
theorem dX8_begin_38 : decode cX8_begin 38 = .ok (.goto (-22), 3) := by decide +kernel
theorem dX8_begin_41 : decode cX8_begin 41 = .ok (.aload_n 0, 1) := by decide +kernel
theorem dX8_begin_42 : decode cX8_begin 42 = .ok (.iconst 1, 1) := by decide +kernel
theorem dX8_begin_43 : decode cX8_begin 43 = .ok (.putfield 79, 3) := by decide +kernel
theorem dX8_begin_46 : decode cX8_begin 46 = .ok (.aload_n 0, 1) := by decide +kernel
theorem dX8_begin_47 : decode cX8_begin 47 = .ok (.iconst 0, 1) := by decide +kernel
theorem dX8_begin_48 : decode cX8_begin 48 = .ok (.putfield 208, 3) := by decide +kernel
theorem dX8_begin_51 : decode cX8_begin 51 = .ok (.aload_n 0, 1) := by decide +kernel
theorem dX8_begin_52 : decode cX8_begin 52 = .ok (.iconst 0, 1) := by decide +kernel
theorem dX8_begin_53 : decode cX8_begin 53 = .ok (.putfield 211, 3) := by decide +kernel
theorem dX8_begin_56 : decode cX8_begin 56 = .ok (.iconst 0, 1) := by decide +kernel
theorem dX8_begin_57 : decode cX8_begin 57 = .ok (.istore_n 1, 1) := by decide +kernel
theorem dX8_begin_58 : decode cX8_begin 58 = .ok (.iload_n 1, 1) := by decide +kernel
theorem dX8_begin_59 : decode cX8_begin 59 = .ok (.aload_n 0, 1) := by decide +kernel
theorem dX8_begin_60 : decode cX8_begin 60 = .ok (.getfield 72, 3) := by decide +kernel
theorem dX8_begin_63 : decode cX8_begin 63 = .ok (.if_icmp .ge 28, 3) := by decide +kernel
theorem dX8_begin_66 : decode cX8_begin 66 = .ok (.aload_n 0, 1) := by decide +kernel
theorem dX8_begin_67 : decode cX8_begin 67 = .ok (.iload_n 1, 1) := by decide +kernel
theorem dX8_begin_68 : decode cX8_begin 68 = .ok (.invokevirtual 214, 3) := by decide +kernel
theorem dX8_begin_71 : decode cX8_begin 71 = .ok (.aload_n 0, 1) := by decide +kernel
theorem dX8_begin_72 : decode cX8_begin 72 = .ok (.getfield 63, 3) := by decide +kernel
theorem dX8_begin_75 : decode cX8_begin 75 = .ok (.iload_n 1, 1) := by decide +kernel
theorem dX8_begin_76 : decode cX8_begin 76 = .ok (.iconst (-1), 1) := by decide +kernel
theorem dX8_begin_77 : decode cX8_begin 77 = .ok (.iastore, 1) := by decide +kernel
theorem dX8_begin_78 : decode cX8_begin 78 = .ok (.aload_n 0, 1) := by decide +kernel
theorem dX8_begin_79 : decode cX8_begin 79 = .ok (.getfield 66, 3) := by decide +kernel
theorem dX8_begin_82 : decode cX8_begin 82 = .ok (.iload_n 1, 1) := by decide +kernel
theorem dX8_begin_83 : decode cX8_begin 83 = .ok (.iconst (-1), 1) := by decide +kernel
theorem dX8_begin_84 : decode cX8_begin 84 = .ok (.iastore, 1) := by decide +kernel
theorem dX8_begin_85 : decode cX8_begin 85 = .ok (.iinc 1 1, 3) := by decide +kernel
theorem dX8_begin_88 : decode cX8_begin 88 = .ok (.goto (-30), 3) := by decide +kernel
theorem dX8_begin_91 : decode cX8_begin 91 = .ok (.iconst 1, 1) := by decide +kernel
theorem dX8_begin_92 : decode cX8_begin 92 = .ok (.ireturn, 1) := by decide +kernel
theorem dX8_clear_0 : decode cX8_clear 0 = .ok (.aload_n 0, 1) := by decide +kernel
theorem dX8_clear_1 : decode cX8_clear 1 = .ok (.getfield 47, 3) := by decide +kernel
theorem dX8_clear_4 : decode cX8_clear 4 = .ok (.iload_n 1, 1) := by decide +kernel
theorem dX8_clear_5 : decode cX8_clear 5 = .ok (.iconst (-1), 1) := by decide +kernel
theorem dX8_clear_6 : decode cX8_clear 6 = .ok (.iastore, 1) := by decide +kernel
theorem dX8_clear_7 : decode cX8_clear 7 = .ok (.aload_n 0, 1) := by decide +kernel
theorem dX8_clear_8 : decode cX8_clear 8 = .ok (.getfield 50, 3) := by decide +kernel
theorem dX8_clear_11 : decode cX8_clear 11 = .ok (.iload_n 1, 1) := by decide +kernel
theorem dX8_clear_12 : decode cX8_clear 12 = .ok (.iconst 0, 1) := by decide +kernel
theorem dX8_clear_13 : decode cX8_clear 13 = .ok (.iastore, 1) := by decide +kernel
theorem dX8_clear_14 : decode cX8_clear 14 = .ok (.aload_n 0, 1) := by decide +kernel
theorem dX8_clear_15 : decode cX8_clear 15 = .ok (.getfield 53, 3) := by decide +kernel
theorem dX8_clear_18 : decode cX8_clear 18 = .ok (.iload_n 1, 1) := by decide +kernel
theorem dX8_clear_19 : decode cX8_clear 19 = .ok (.iconst 0, 1) := by decide +kernel
theorem dX8_clear_20 : decode cX8_clear 20 = .ok (.iastore, 1) := by decide +kernel
theorem dX8_clear_21 : decode cX8_clear 21 = .ok (.aload_n 0, 1) := by decide +kernel
theorem dX8_clear_22 : decode cX8_clear 22 = .ok (.getfield 56, 3) := by decide +kernel
theorem dX8_clear_25 : decode cX8_clear 25 = .ok (.iload_n 1, 1) := by decide +kernel
theorem dX8_clear_26 : decode cX8_clear 26 = .ok (.iconst 0, 1) := by decide +kernel
theorem dX8_clear_27 : decode cX8_clear 27 = .ok (.iastore, 1) := by decide +kernel
theorem dX8_clear_28 : decode cX8_clear 28 = .ok (.aload_n 0, 1) := by decide +kernel
theorem dX8_clear_29 : decode cX8_clear 29 = .ok (.getfield 59, 3) := by decide +kernel
theorem dX8_clear_32 : decode cX8_clear 32 = .ok (.iload_n 1, 1) := by decide +kernel
theorem dX8_clear_33 : decode cX8_clear 33 = .ok (.iconst 0, 1) := by decide +kernel
theorem dX8_clear_34 : decode cX8_clear 34 = .ok (.bastore, 1) := by decide +kernel
theorem dX8_clear_35 : decode cX8_clear 35 = .ok (.return_, 1) := by decide +kernel
set_option maxRecDepth 20000 in
theorem ggX8_tail_X8_get : GoodIn wsX8_tail wsX8_get := goodIn_r _ [6, 7, 8, 9, 10, 11, 12, 13, 14, 15, 16, 17, 18, 19, 20, 21, 22, 23, 24, 25, 26, 27, 28, 29, 30, 31, 32, 33, 34, 35, 36, 37, 38, 39, 40, 41, 42, 43] (by decide +kernel) (by decide +kernel)
set_option maxRecDepth 20000 in
theorem gX8_tail_X8_get : GoodIn wsX8_tail (wsV RX8 91 RX8 yX8_get wsX8_get) := goodIn_app (goodIn_of _ (by decide +kernel)) ggX8_tail_X8_get
theorem dX8_tail_0 : decode cX8_tail 0 = .ok (.aload_n 0, 1) := by decide +kernel
theorem dX8_tail_1 : decode cX8_tail 1 = .ok (.getfield 47, 3) := by decide +kernel
theorem dX8_tail_4 : decode cX8_tail 4 = .ok (.iload_n 1, 1) := by decide +kernel
theorem dX8_tail_5 : decode cX8_tail 5 = .ok (.iload_n 2, 1) := by decide +kernel
theorem dX8_tail_6 : decode cX8_tail 6 = .ok (.iadd, 1) := by decide +kernel
theorem dX8_tail_7 : decode cX8_tail 7 = .ok (.iaload, 1) := by decide +kernel
theorem dX8_tail_8 : decode cX8_tail 8 = .ok (.aload_n 0, 1) := by decide +kernel
theorem dX8_tail_9 : decode cX8_tail 9 = .ok (.iload_n 2, 1) := by decide +kernel
theorem dX8_tail_10 : decode cX8_tail 10 = .ok (.iconst 1, 1) := by decide +kernel
theorem dX8_tail_11 : decode cX8_tail 11 = .ok (.invokevirtual 91, 3) := by decide +kernel
theorem dX8_tail_14 : decode cX8_tail 14 = .ok (.isub, 1) := by decide +kernel
theorem dX8_tail_15 : decode cX8_tail 15 = .ok (.iconst 1, 1) := by decide +kernel
theorem dX8_tail_16 : decode cX8_tail 16 = .ok (.iadd, 1) := by decide +kernel
theorem dX8_tail_17 : decode cX8_tail 17 = .ok (.ireturn, 1) := by decide +kernel
set_option maxRecDepth 20000 in
theorem ggX8_goes_X8_get : GoodIn wsX8_goes wsX8_get := goodIn_r _ [14, 15, 27, 28, 29, 30, 31, 32, 33, 34, 35, 36, 37, 38, 39, 40, 41, 42, 43, 44, 45, 46, 47, 48, 49, 50, 51, 52, 53, 54, 55, 56, 57, 58, 59, 60, 61, 62] (by decide +kernel) (by decide +kernel)
set_option maxRecDepth 20000 in
theorem gX8_goes_X8_get : GoodIn wsX8_goes (wsV RX8 91 RX8 yX8_get wsX8_get) := goodIn_app (goodIn_of _ (by decide +kernel)) ggX8_goes_X8_get
set_option maxRecDepth 20000 in
theorem ggX8_goes_X8_tail : GoodIn wsX8_goes wsX8_tail := goodIn_r _ [19, 5, 10, 11, 12, 13, 14, 15, 27, 28, 29, 30, 31, 32, 33, 34, 35, 36, 37, 38, 39, 40, 41, 42, 43, 44, 45, 46, 47, 48, 49, 50, 51, 52, 53, 54, 55, 56, 57, 58, 59, 60, 61, 62] (by decide +kernel) (by decide +kernel)
set_option maxRecDepth 20000 in
theorem gX8_goes_X8_tail : GoodIn wsX8_goes (wsV RX8 218 RX8 yX8_tail wsX8_tail) := goodIn_app (goodIn_of _ (by decide +kernel)) ggX8_goes_X8_tail
set_option maxRecDepth 20000 in
theorem ggX8_goes_X8_isCell : GoodIn wsX8_goes wsX8_isCell := goodIn_r _ [23, 9, 24, 25, 13, 26, 27, 28, 29, 30, 31, 32, 33, 34, 35, 36, 37, 38, 39, 40, 41, 42, 43, 44, 45, 46, 47, 48, 49, 50, 51, 52, 53, 54, 55, 56, 57, 58, 59, 60, 61, 62] (by decide +kernel) (by decide +kernel)
set_option maxRecDepth 20000 in
theorem gX8_goes_X8_isCell : GoodIn wsX8_goes (wsV RX8 202 RX8 yX8_isCell wsX8_isCell) := goodIn_app (goodIn_of _ (by decide +kernel)) ggX8_goes_X8_isCell
theorem dX8_goes_0 : decode cX8_goes 0 = .ok (.aload_n 0, 1) := by decide +kernel
theorem dX8_goes_1 : decode cX8_goes 1 = .ok (.getfield 13, 3) := by decide +kernel
theorem dX8_goes_4 : decode cX8_goes 4 = .ok (.iload_n 2, 1) := by decide +kernel
theorem dX8_goes_5 : decode cX8_goes 5 = .ok (.iaload, 1) := by decide +kernel
theorem dX8_goes_6 : decode cX8_goes 6 = .ok (.istore 5, 2) := by decide +kernel
theorem dX8_goes_8 : decode cX8_goes 8 = .ok (.iload_n 1, 1) := by decide +kernel
theorem dX8_goes_9 : decode cX8_goes 9 = .ok (.iload 5, 2) := by decide +kernel
theorem dX8_goes_11 : decode cX8_goes 11 = .ok (.iadd, 1) := by decide +kernel
theorem dX8_goes_12 : decode cX8_goes 12 = .ok (.istore 6, 2) := by decide +kernel
theorem dX8_goes_14 : decode cX8_goes 14 = .ok (.aload_n 0, 1) := by decide +kernel
theorem dX8_goes_15 : decode cX8_goes 15 = .ok (.getfield 59, 3) := by decide +kernel
theorem dX8_goes_18 : decode cX8_goes 18 = .ok (.iload 6, 2) := by decide +kernel
theorem dX8_goes_20 : decode cX8_goes 20 = .ok (.baload, 1) := by decide +kernel
theorem dX8_goes_21 : decode cX8_goes 21 = .ok (.ifCond .eq 5, 3) := by decide +kernel
theorem dX8_goes_24 : decode cX8_goes 24 = .ok (.iconst 0, 1) := by decide +kernel
theorem dX8_goes_25 : decode cX8_goes 25 = .ok (.ireturn, 1) := by decide +kernel
theorem dX8_goes_26 : decode cX8_goes 26 = .ok (.aload_n 0, 1) := by decide +kernel
theorem dX8_goes_27 : decode cX8_goes 27 = .ok (.getfield 50, 3) := by decide +kernel
theorem dX8_goes_30 : decode cX8_goes 30 = .ok (.iload 6, 2) := by decide +kernel
theorem dX8_goes_32 : decode cX8_goes 32 = .ok (.iaload, 1) := by decide +kernel
theorem dX8_goes_33 : decode cX8_goes 33 = .ok (.ifCond .gt 13, 3) := by decide +kernel
theorem dX8_goes_36 : decode cX8_goes 36 = .ok (.aload_n 0, 1) := by decide +kernel
theorem dX8_goes_37 : decode cX8_goes 37 = .ok (.getfield 53, 3) := by decide +kernel
theorem dX8_goes_40 : decode cX8_goes 40 = .ok (.iload 6, 2) := by decide +kernel
theorem dX8_goes_42 : decode cX8_goes 42 = .ok (.iaload, 1) := by decide +kernel
theorem dX8_goes_43 : decode cX8_goes 43 = .ok (.ifCond .le 40, 3) := by decide +kernel
theorem dX8_goes_46 : decode cX8_goes 46 = .ok (.aload_n 0, 1) := by decide +kernel
theorem dX8_goes_47 : decode cX8_goes 47 = .ok (.getfield 50, 3) := by decide +kernel
theorem dX8_goes_50 : decode cX8_goes 50 = .ok (.iload 6, 2) := by decide +kernel
theorem dX8_goes_52 : decode cX8_goes 52 = .ok (.iaload, 1) := by decide +kernel
theorem dX8_goes_53 : decode cX8_goes 53 = .ok (.ifCond .le 17, 3) := by decide +kernel
theorem dX8_goes_56 : decode cX8_goes 56 = .ok (.aload_n 0, 1) := by decide +kernel
theorem dX8_goes_57 : decode cX8_goes 57 = .ok (.getfield 50, 3) := by decide +kernel
theorem dX8_goes_60 : decode cX8_goes 60 = .ok (.iload 6, 2) := by decide +kernel
theorem dX8_goes_62 : decode cX8_goes 62 = .ok (.dup2, 1) := by decide +kernel
theorem dX8_goes_63 : decode cX8_goes 63 = .ok (.iaload, 1) := by decide +kernel
theorem dX8_goes_64 : decode cX8_goes 64 = .ok (.iconst 1, 1) := by decide +kernel
theorem dX8_goes_65 : decode cX8_goes 65 = .ok (.isub, 1) := by decide +kernel
theorem dX8_goes_66 : decode cX8_goes 66 = .ok (.iastore, 1) := by decide +kernel
theorem dX8_goes_67 : decode cX8_goes 67 = .ok (.goto 14, 3) := by decide +kernel
theorem dX8_goes_70 : decode cX8_goes 70 = .ok (.aload_n 0, 1) := by decide +kernel
theorem dX8_goes_71 : decode cX8_goes 71 = .ok (.getfield 53, 3) := by decide +kernel
theorem dX8_goes_74 : decode cX8_goes 74 = .ok (.iload 6, 2) := by decide +kernel
theorem dX8_goes_76 : decode cX8_goes 76 = .ok (.dup2, 1) := by decide +kernel
theorem dX8_goes_77 : decode cX8_goes 77 = .ok (.iaload, 1) := by decide +kernel
theorem dX8_goes_78 : decode cX8_goes 78 = .ok (.iconst 1, 1) := by decide +kernel
theorem dX8_goes_79 : decode cX8_goes 79 = .ok (.isub, 1) := by decide +kernel
theorem dX8_goes_80 : decode cX8_goes 80 = .ok (.iastore, 1) := by decide +kernel
theorem dX8_goes_81 : decode cX8_goes 81 = .ok (.iconst 0, 1) := by decide +kernel
theorem dX8_goes_82 : decode cX8_goes 82 = .ok (.ireturn, 1) := by decide +kernel
theorem dX8_goes_83 : decode cX8_goes 83 = .ok (.aload_n 0, 1) := by decide +kernel
theorem dX8_goes_84 : decode cX8_goes 84 = .ok (.iload 5, 2) := by decide +kernel
theorem dX8_goes_86 : decode cX8_goes 86 = .ok (.iconst 0, 1) := by decide +kernel
theorem dX8_goes_87 : decode cX8_goes 87 = .ok (.invokevirtual 91, 3) := by decide +kernel
theorem dX8_goes_90 : decode cX8_goes 90 = .ok (.iconst 3, 1) := by decide +kernel
theorem dX8_goes_91 : decode cX8_goes 91 = .ok (.if_icmp .eq 14, 3) := by decide +kernel
theorem dX8_goes_94 : decode cX8_goes 94 = .ok (.aload_n 0, 1) := by decide +kernel
theorem dX8_goes_95 : decode cX8_goes 95 = .ok (.iload 5, 2) := by decide +kernel
theorem dX8_goes_97 : decode cX8_goes 97 = .ok (.iconst 0, 1) := by decide +kernel
theorem dX8_goes_98 : decode cX8_goes 98 = .ok (.invokevirtual 91, 3) := by decide +kernel
theorem dX8_goes_101 : decode cX8_goes 101 = .ok (.iconst 4, 1) := by decide +kernel
theorem dX8_goes_102 : decode cX8_goes 102 = .ok (.if_icmp .ne 12, 3) := by decide +kernel
theorem dX8_goes_105 : decode cX8_goes 105 = .ok (.iload_n 3, 1) := by decide +kernel
theorem dX8_goes_106 : decode cX8_goes 106 = .ok (.iconst 2, 1) := by decide +kernel
theorem dX8_goes_107 : decode cX8_goes 107 = .ok (.irem, 1) := by decide +kernel
theorem dX8_goes_108 : decode cX8_goes 108 = .ok (.iconst 1, 1) := by decide +kernel
theorem dX8_goes_109 : decode cX8_goes 109 = .ok (.if_icmp .ne 5, 3) := by decide +kernel
theorem dX8_goes_112 : decode cX8_goes 112 = .ok (.iconst 0, 1) := by decide +kernel
theorem dX8_goes_113 : decode cX8_goes 113 = .ok (.ireturn, 1) := by decide +kernel
theorem dX8_goes_114 : decode cX8_goes 114 = .ok (.iload_n 2, 1) := by decide +kernel
theorem dX8_goes_115 : decode cX8_goes 115 = .ok (.iconst 1, 1) := by decide +kernel
theorem dX8_goes_116 : decode cX8_goes 116 = .ok (.isub, 1) := by decide +kernel
theorem dX8_goes_117 : decode cX8_goes 117 = .ok (.istore 7, 2) := by decide +kernel
theorem dX8_goes_119 : decode cX8_goes 119 = .ok (.iload 7, 2) := by decide +kernel
theorem dX8_goes_121 : decode cX8_goes 121 = .ok (.ifCond .lt 26, 3) := by decide +kernel
theorem dX8_goes_124 : decode cX8_goes 124 = .ok (.aload_n 0, 1) := by decide +kernel
theorem dX8_goes_125 : decode cX8_goes 125 = .ok (.getfield 59, 3) := by decide +kernel
theorem dX8_goes_128 : decode cX8_goes 128 = .ok (.iload_n 1, 1) := by decide +kernel
theorem dX8_goes_129 : decode cX8_goes 129 = .ok (.aload_n 0, 1) := by decide +kernel
theorem dX8_goes_130 : decode cX8_goes 130 = .ok (.getfield 13, 3) := by decide +kernel
theorem dX8_goes_133 : decode cX8_goes 133 = .ok (.iload 7, 2) := by decide +kernel
theorem dX8_goes_135 : decode cX8_goes 135 = .ok (.iaload, 1) := by decide +kernel
theorem dX8_goes_136 : decode cX8_goes 136 = .ok (.iadd, 1) := by decide +kernel
theorem dX8_goes_137 : decode cX8_goes 137 = .ok (.baload, 1) := by decide +kernel
theorem dX8_goes_138 : decode cX8_goes 138 = .ok (.ifCond .eq 9, 3) := by decide +kernel
theorem dX8_goes_141 : decode cX8_goes 141 = .ok (.iinc 7 (-1), 3) := by decide +kernel
theorem dX8_goes_144 : decode cX8_goes 144 = .ok (.goto (-25), 3) := by decide +kernel
theorem dX8_goes_147 : decode cX8_goes 147 = .ok (.iload 4, 2) := by decide +kernel
theorem dX8_goes_149 : decode cX8_goes 149 = .ok (.ifCond .ne 39, 3) := by decide +kernel
theorem dX8_goes_152 : decode cX8_goes 152 = .ok (.iload 7, 2) := by decide +kernel
theorem dX8_goes_154 : decode cX8_goes 154 = .ok (.ifCond .lt 34, 3) := by decide +kernel
theorem dX8_goes_157 : decode cX8_goes 157 = .ok (.aload_n 0, 1) := by decide +kernel
theorem dX8_goes_158 : decode cX8_goes 158 = .ok (.iload_n 1, 1) := by decide +kernel
theorem dX8_goes_159 : decode cX8_goes 159 = .ok (.aload_n 0, 1) := by decide +kernel
theorem dX8_goes_160 : decode cX8_goes 160 = .ok (.getfield 13, 3) := by decide +kernel
theorem dX8_goes_163 : decode cX8_goes 163 = .ok (.iload 7, 2) := by decide +kernel
theorem dX8_goes_165 : decode cX8_goes 165 = .ok (.iaload, 1) := by decide +kernel
theorem dX8_goes_166 : decode cX8_goes 166 = .ok (.invokevirtual 218, 3) := by decide +kernel
theorem dX8_goes_169 : decode cX8_goes 169 = .ok (.aload_n 0, 1) := by decide +kernel
theorem dX8_goes_170 : decode cX8_goes 170 = .ok (.getfield 47, 3) := by decide +kernel
theorem dX8_goes_173 : decode cX8_goes 173 = .ok (.iload 6, 2) := by decide +kernel
theorem dX8_goes_175 : decode cX8_goes 175 = .ok (.iaload, 1) := by decide +kernel
theorem dX8_goes_176 : decode cX8_goes 176 = .ok (.iconst 1, 1) := by decide +kernel
theorem dX8_goes_177 : decode cX8_goes 177 = .ok (.iadd, 1) := by decide +kernel
theorem dX8_goes_178 : decode cX8_goes 178 = .ok (.aload_n 0, 1) := by decide +kernel
theorem dX8_goes_179 : decode cX8_goes 179 = .ok (.getfield 38, 3) := by decide +kernel
theorem dX8_goes_182 : decode cX8_goes 182 = .ok (.iadd, 1) := by decide +kernel
theorem dX8_goes_183 : decode cX8_goes 183 = .ok (.if_icmp .gt 5, 3) := by decide +kernel
theorem dX8_goes_186 : decode cX8_goes 186 = .ok (.iconst 0, 1) := by decide +kernel
theorem dX8_goes_187 : decode cX8_goes 187 = .ok (.ireturn, 1) := by decide +kernel
theorem dX8_goes_188 : decode cX8_goes 188 = .ok (.aload_n 0, 1) := by decide +kernel
theorem dX8_goes_189 : decode cX8_goes 189 = .ok (.getfield 47, 3) := by decide +kernel
theorem dX8_goes_192 : decode cX8_goes 192 = .ok (.iload 6, 2) := by decide +kernel
theorem dX8_goes_194 : decode cX8_goes 194 = .ok (.dup2, 1) := by decide +kernel
theorem dX8_goes_195 : decode cX8_goes 195 = .ok (.iaload, 1) := by decide +kernel
theorem dX8_goes_196 : decode cX8_goes 196 = .ok (.iconst 1, 1) := by decide +kernel
theorem dX8_goes_197 : decode cX8_goes 197 = .ok (.iadd, 1) := by decide +kernel
theorem dX8_goes_198 : decode cX8_goes 198 = .ok (.iastore, 1) := by decide +kernel
theorem dX8_goes_199 : decode cX8_goes 199 = .ok (.aload_n 0, 1) := by decide +kernel
theorem dX8_goes_200 : decode cX8_goes 200 = .ok (.getfield 56, 3) := by decide +kernel
theorem dX8_goes_203 : decode cX8_goes 203 = .ok (.iload 6, 2) := by decide +kernel
theorem dX8_goes_205 : decode cX8_goes 205 = .ok (.dup2, 1) := by decide +kernel
theorem dX8_goes_206 : decode cX8_goes 206 = .ok (.iaload, 1) := by decide +kernel
theorem dX8_goes_207 : decode cX8_goes 207 = .ok (.iconst 1, 1) := by decide +kernel
theorem dX8_goes_208 : decode cX8_goes 208 = .ok (.iadd, 1) := by decide +kernel
theorem dX8_goes_209 : decode cX8_goes 209 = .ok (.iastore, 1) := by decide +kernel
theorem dX8_goes_210 : decode cX8_goes 210 = .ok (.aload_n 0, 1) := by decide +kernel
theorem dX8_goes_211 : decode cX8_goes 211 = .ok (.aload_n 0, 1) := by decide +kernel
theorem dX8_goes_212 : decode cX8_goes 212 = .ok (.getfield 47, 3) := by decide +kernel
theorem dX8_goes_215 : decode cX8_goes 215 = .ok (.iload 6, 2) := by decide +kernel
theorem dX8_goes_217 : decode cX8_goes 217 = .ok (.iaload, 1) := by decide +kernel
theorem dX8_goes_218 : decode cX8_goes 218 = .ok (.invokevirtual 202, 3) := by decide +kernel
theorem dX8_goes_221 : decode cX8_goes 221 = .ok (.ifCond .eq 65, 3) := by decide +kernel
theorem dX8_goes_224 : decode cX8_goes 224 = .ok (.aload_n 0, 1) := by decide +kernel
theorem dX8_goes_225 : decode cX8_goes 225 = .ok (.getfield 44, 3) := by decide +kernel
theorem dX8_goes_228 : decode cX8_goes 228 = .ok (.aload_n 0, 1) := by decide +kernel
theorem dX8_goes_229 : decode cX8_goes 229 = .ok (.getfield 47, 3) := by decide +kernel
theorem dX8_goes_232 : decode cX8_goes 232 = .ok (.iload 6, 2) := by decide +kernel
theorem dX8_goes_234 : decode cX8_goes 234 = .ok (.iaload, 1) := by decide +kernel
theorem dX8_goes_235 : decode cX8_goes 235 = .ok (.iaload, 1) := by decide +kernel
theorem dX8_goes_236 : decode cX8_goes 236 = .ok (.ifCond .le 50, 3) := by decide +kernel
theorem dX8_goes_239 : decode cX8_goes 239 = .ok (.aload_n 0, 1) := by decide +kernel
theorem dX8_goes_240 : decode cX8_goes 240 = .ok (.getfield 50, 3) := by decide +kernel
theorem dX8_goes_243 : decode cX8_goes 243 = .ok (.iload 6, 2) := by decide +kernel
theorem dX8_goes_245 : decode cX8_goes 245 = .ok (.aload_n 0, 1) := by decide +kernel
theorem dX8_goes_246 : decode cX8_goes 246 = .ok (.iload 5, 2) := by decide +kernel
theorem dX8_goes_248 : decode cX8_goes 248 = .ok (.iconst 0, 1) := by decide +kernel
theorem dX8_goes_249 : decode cX8_goes 249 = .ok (.invokevirtual 91, 3) := by decide +kernel
theorem dX8_goes_252 : decode cX8_goes 252 = .ok (.iconst 1, 1) := by decide +kernel
theorem dX8_goes_253 : decode cX8_goes 253 = .ok (.if_icmp .ne 20, 3) := by decide +kernel
theorem dX8_goes_256 : decode cX8_goes 256 = .ok (.iconst 2, 1) := by decide +kernel
theorem dX8_goes_257 : decode cX8_goes 257 = .ok (.aload_n 0, 1) := by decide +kernel
theorem dX8_goes_258 : decode cX8_goes 258 = .ok (.getfield 44, 3) := by decide +kernel
theorem dX8_goes_261 : decode cX8_goes 261 = .ok (.aload_n 0, 1) := by decide +kernel
theorem dX8_goes_262 : decode cX8_goes 262 = .ok (.getfield 47, 3) := by decide +kernel
theorem dX8_goes_265 : decode cX8_goes 265 = .ok (.iload 6, 2) := by decide +kernel
theorem dX8_goes_267 : decode cX8_goes 267 = .ok (.iaload, 1) := by decide +kernel
theorem dX8_goes_268 : decode cX8_goes 268 = .ok (.iaload, 1) := by decide +kernel
theorem dX8_goes_269 : decode cX8_goes 269 = .ok (.imul, 1) := by decide +kernel
theorem dX8_goes_270 : decode cX8_goes 270 = .ok (.goto 15, 3) := by decide +kernel
theorem dX8_goes_273 : decode cX8_goes 273 = .ok (.aload_n 0, 1) := by decide +kernel
theorem dX8_goes_274 : decode cX8_goes 274 = .ok (.getfield 44, 3) := by decide +kernel
theorem dX8_goes_277 : decode cX8_goes 277 = .ok (.aload_n 0, 1) := by decide +kernel
theorem dX8_goes_278 : decode cX8_goes 278 = .ok (.getfield 47, 3) := by decide +kernel
theorem dX8_goes_281 : decode cX8_goes 281 = .ok (.iload 6, 2) := by decide +kernel
theorem dX8_goes_283 : decode cX8_goes 283 = .ok (.iaload, 1) := by decide +kernel
theorem dX8_goes_284 : decode cX8_goes 284 = .ok (.iaload, 1) := by decide +kernel
theorem dX8_goes_285 : decode cX8_goes 285 = .ok (.iastore, 1) := by decide +kernel
theorem dX8_goes_286 : decode cX8_goes 286 = .ok (.aload_n 0, 1) := by decide +kernel
theorem dX8_goes_287 : decode cX8_goes 287 = .ok (.iload 5, 2) := by decide +kernel
theorem dX8_goes_289 : decode cX8_goes 289 = .ok (.iconst 0, 1) := by decide +kernel
theorem dX8_goes_290 : decode cX8_goes 290 = .ok (.invokevirtual 91, 3) := by decide +kernel
theorem dX8_goes_293 : decode cX8_goes 293 = .ok (.iconst 4, 1) := by decide +kernel
theorem dX8_goes_294 : decode cX8_goes 294 = .ok (.if_icmp .ne 24, 3) := by decide +kernel
theorem dX8_goes_297 : decode cX8_goes 297 = .ok (.aload_n 0, 1) := by decide +kernel
theorem dX8_goes_298 : decode cX8_goes 298 = .ok (.getfield 56, 3) := by decide +kernel
theorem dX8_goes_301 : decode cX8_goes 301 = .ok (.iload 6, 2) := by decide +kernel
theorem dX8_goes_303 : decode cX8_goes 303 = .ok (.iaload, 1) := by decide +kernel
theorem dX8_goes_304 : decode cX8_goes 304 = .ok (.bipush 10, 2) := by decide +kernel
theorem dX8_goes_306 : decode cX8_goes 306 = .ok (.irem, 1) := by decide +kernel
theorem dX8_goes_307 : decode cX8_goes 307 = .ok (.ifCond .ne 11, 3) := by decide +kernel
theorem dX8_goes_310 : decode cX8_goes 310 = .ok (.aload_n 0, 1) := by decide +kernel
theorem dX8_goes_311 : decode cX8_goes 311 = .ok (.getfield 53, 3) := by decide +kernel
theorem dX8_goes_314 : decode cX8_goes 314 = .ok (.iload 6, 2) := by decide +kernel
theorem dX8_goes_316 : decode cX8_goes 316 = .ok (.iconst 3, 1) := by decide +kernel
theorem dX8_goes_317 : decode cX8_goes 317 = .ok (.iastore, 1) := by decide +kernel
theorem dX8_goes_318 : decode cX8_goes 318 = .ok (.aload_n 0, 1) := by decide +kernel
theorem dX8_goes_319 : decode cX8_goes 319 = .ok (.iload_n 1, 1) := by decide +kernel
theorem dX8_goes_320 : decode cX8_goes 320 = .ok (.iload 5, 2) := by decide +kernel
theorem dX8_goes_322 : decode cX8_goes 322 = .ok (.invokevirtual 218, 3) := by decide +kernel
theorem dX8_goes_325 : decode cX8_goes 325 = .ok (.aload_n 0, 1) := by decide +kernel
theorem dX8_goes_326 : decode cX8_goes 326 = .ok (.getfield 35, 3) := by decide +kernel
theorem dX8_goes_329 : decode cX8_goes 329 = .ok (.if_icmp .lt 11, 3) := by decide +kernel
theorem dX8_goes_332 : decode cX8_goes 332 = .ok (.aload_n 0, 1) := by decide +kernel
theorem dX8_goes_333 : decode cX8_goes 333 = .ok (.getfield 59, 3) := by decide +kernel
theorem dX8_goes_336 : decode cX8_goes 336 = .ok (.iload 6, 2) := by decide +kernel
theorem dX8_goes_338 : decode cX8_goes 338 = .ok (.iconst 1, 1) := by decide +kernel
theorem dX8_goes_339 : decode cX8_goes 339 = .ok (.bastore, 1) := by decide +kernel
theorem dX8_goes_340 : decode cX8_goes 340 = .ok (.iconst 1, 1) := by decide +kernel
theorem dX8_goes_341 : decode cX8_goes 341 = .ok (.ireturn, 1) := by decide +kernel
theorem dX8_isOver_0 : decode cX8_isOver 0 = .ok (.iconst 1, 1) := by decide +kernel
theorem dX8_isOver_1 : decode cX8_isOver 1 = .ok (.istore_n 2, 1) := by decide +kernel
theorem dX8_isOver_2 : decode cX8_isOver 2 = .ok (.iconst 0, 1) := by decide +kernel
theorem dX8_isOver_3 : decode cX8_isOver 3 = .ok (.istore_n 3, 1) := by decide +kernel
theorem dX8_isOver_4 : decode cX8_isOver 4 = .ok (.iload_n 3, 1) := by decide +kernel
theorem dX8_isOver_5 : decode cX8_isOver 5 = .ok (.aload_n 0, 1) := by decide +kernel
theorem dX8_isOver_6 : decode cX8_isOver 6 = .ok (.getfield 72, 3) := by decide +kernel
theorem dX8_isOver_9 : decode cX8_isOver 9 = .ok (.if_icmp .ge 30, 3) := by decide +kernel
theorem dX8_isOver_12 : decode cX8_isOver 12 = .ok (.iload_n 2, 1) := by decide +kernel
theorem dX8_isOver_13 : decode cX8_isOver 13 = .ok (.ifCond .eq 18, 3) := by decide +kernel
theorem dX8_isOver_16 : decode cX8_isOver 16 = .ok (.aload_n 0, 1) := by decide +kernel
theorem dX8_isOver_17 : decode cX8_isOver 17 = .ok (.getfield 59, 3) := by decide +kernel
theorem dX8_isOver_20 : decode cX8_isOver 20 = .ok (.iload_n 1, 1) := by decide +kernel
theorem dX8_isOver_21 : decode cX8_isOver 21 = .ok (.iload_n 3, 1) := by decide +kernel
theorem dX8_isOver_22 : decode cX8_isOver 22 = .ok (.iadd, 1) := by decide +kernel
theorem dX8_isOver_23 : decode cX8_isOver 23 = .ok (.baload, 1) := by decide +kernel
theorem dX8_isOver_24 : decode cX8_isOver 24 = .ok (.ifCond .eq 7, 3) := by decide +kernel
theorem dX8_isOver_27 : decode cX8_isOver 27 = .ok (.iconst 1, 1) := by decide +kernel
theorem dX8_isOver_28 : decode cX8_isOver 28 = .ok (.goto 4, 3) := by decide +kernel
theorem dX8_isOver_31 : decode cX8_isOver 31 = .ok (.iconst 0, 1) := by decide +kernel
theorem dX8_isOver_32 : decode cX8_isOver 32 = .ok (.istore_n 2, 1) := by decide +kernel
theorem dX8_isOver_33 : decode cX8_isOver 33 = .ok (.iinc 3 1, 3) := by decide +kernel
theorem dX8_isOver_36 : decode cX8_isOver 36 = .ok (.goto (-32), 3) := by decide +kernel
theorem dX8_isOver_39 : decode cX8_isOver 39 = .ok (.iload_n 2, 1) := by decide +kernel
theorem dX8_isOver_40 : decode cX8_isOver 40 = .ok (.ireturn, 1) := by decide +kernel
set_option maxRecDepth 20000 in
theorem ggX8_run_X8_fails : GoodIn wsX8_run wsX8_fails := goodIn_r _ [14, 15, 46, 47, 48, 49, 50, 51, 52, 53, 54, 55, 56, 57, 58, 59, 60, 61, 62, 63, 64, 65, 66, 67, 68, 69, 70, 71, 72, 73, 74, 75, 76, 77, 78, 79, 80, 81] (by decide +kernel) (by decide +kernel)
set_option maxRecDepth 20000 in
theorem gX8_run_X8_fails : GoodIn wsX8_run (wsV RX8 87 RX8 yX8_fails wsX8_fails) := goodIn_app (goodIn_of _ (by decide +kernel)) ggX8_run_X8_fails
set_option maxRecDepth 20000 in
theorem ggX8_run_X8_isIn : GoodIn wsX8_run wsX8_isIn := goodIn_r _ [18] (by decide +kernel) (by decide +kernel)
set_option maxRecDepth 20000 in
theorem gX8_run_X8_isIn : GoodIn wsX8_run (va_wsS RX8 75 yX8_isIn wsX8_isIn) := goodIn_app (goodIn_of _ (by decide +kernel)) ggX8_run_X8_isIn
set_option maxRecDepth 20000 in
theorem ggX8_run_X8_isOver : GoodIn wsX8_run wsX8_isOver := goodIn_r _ [22, 3, 7, 46, 47, 48, 49, 50, 51, 52, 53, 54, 55, 56, 57, 58, 59, 60, 61, 62, 63, 64, 65, 66, 67, 68, 69, 70, 71, 72, 73, 74, 75, 76, 77, 78, 79, 80, 81] (by decide +kernel) (by decide +kernel)
set_option maxRecDepth 20000 in
theorem gX8_run_X8_isOver : GoodIn wsX8_run (wsV RX8 221 RX8 yX8_isOver wsX8_isOver) := goodIn_app (goodIn_of _ (by decide +kernel)) ggX8_run_X8_isOver
set_option maxRecDepth 20000 in
theorem ggX8_run_X8_goes : GoodIn wsX8_run wsX8_goes := goodIn_r _ [26, 4, 7, 27, 28, 5, 29, 30, 31, 32, 33, 34, 35, 13, 36, 37, 38, 39, 40, 41, 42, 43, 44, 45, 16, 17, 18, 46, 47, 48, 49, 50, 51, 52, 53, 54, 55, 56, 57, 58, 59, 60, 61, 62, 63, 64, 65, 66, 67, 68, 69, 70, 71, 72, 73, 74, 75, 76, 77, 78, 79, 80, 81] (by decide +kernel) (by decide +kernel)
set_option maxRecDepth 20000 in
theorem gX8_run_X8_goes : GoodIn wsX8_run (wsV RX8 224 RX8 yX8_goes wsX8_goes) := goodIn_app (goodIn_of _ (by decide +kernel)) ggX8_run_X8_goes
theorem dX8_run_0 : decode cX8_run 0 = .ok (.aload_n 0, 1) := by decide +kernel
theorem dX8_run_1 : decode cX8_run 1 = .ok (.aload_n 0, 1) := by decide +kernel
theorem dX8_run_2 : decode cX8_run 2 = .ok (.getfield 79, 3) := by decide +kernel
theorem dX8_run_5 : decode cX8_run 5 = .ok (.ifCond .ne 7, 3) := by decide +kernel
theorem dX8_run_8 : decode cX8_run 8 = .ok (.iconst 1, 1) := by decide +kernel
theorem dX8_run_9 : decode cX8_run 9 = .ok (.goto 4, 3) := by decide +kernel
theorem dX8_run_12 : decode cX8_run 12 = .ok (.iconst 0, 1) := by decide +kernel
theorem dX8_run_13 : decode cX8_run 13 = .ok (.iconst 0, 1) := by decide +kernel
theorem dX8_run_14 : decode cX8_run 14 = .ok (.invokevirtual 87, 3) := by decide +kernel
theorem dX8_run_17 : decode cX8_run 17 = .ok (.ifCond .eq 5, 3) := by decide +kernel
theorem dX8_run_20 : decode cX8_run 20 = .ok (.iconst 0, 1) := by decide +kernel
theorem dX8_run_21 : decode cX8_run 21 = .ok (.ireturn, 1) := by decide +kernel
theorem dX8_run_22 : decode cX8_run 22 = .ok (.iload_n 1, 1) := by decide +kernel
theorem dX8_run_23 : decode cX8_run 23 = .ok (.iconst 0, 1) := by decide +kernel
theorem dX8_run_24 : decode cX8_run 24 = .ok (.sipush 500, 3) := by decide +kernel
theorem dX8_run_27 : decode cX8_run 27 = .ok (.invokestatic 75, 3) := by decide +kernel
theorem dX8_run_30 : decode cX8_run 30 = .ok (.ifCond .ne 5, 3) := by decide +kernel
theorem dX8_run_33 : decode cX8_run 33 = .ok (.iconst (-1), 1) := by decide +kernel
theorem dX8_run_34 : decode cX8_run 34 = .ok (.ireturn, 1) := by decide +kernel
theorem dX8_run_35 : decode cX8_run 35 = .ok (.iconst 0, 1) := by decide +kernel
theorem dX8_run_36 : decode cX8_run 36 = .ok (.istore_n 2, 1) := by decide +kernel
theorem dX8_run_37 : decode cX8_run 37 = .ok (.iload_n 2, 1) := by decide +kernel
theorem dX8_run_38 : decode cX8_run 38 = .ok (.iload_n 1, 1) := by decide +kernel
theorem dX8_run_39 : decode cX8_run 39 = .ok (.if_icmp .ge 121, 3) := by decide +kernel
theorem dX8_run_42 : decode cX8_run 42 = .ok (.aload_n 0, 1) := by decide +kernel
theorem dX8_run_43 : decode cX8_run 43 = .ok (.iconst 0, 1) := by decide +kernel
theorem dX8_run_44 : decode cX8_run 44 = .ok (.invokevirtual 221, 3) := by decide +kernel
theorem dX8_run_47 : decode cX8_run 47 = .ok (.ifCond .ne 113, 3) := by decide +kernel
theorem dX8_run_50 : decode cX8_run 50 = .ok (.iinc 2 1, 3) := by decide +kernel
theorem dX8_run_53 : decode cX8_run 53 = .ok (.aload_n 0, 1) := by decide +kernel
theorem dX8_run_54 : decode cX8_run 54 = .ok (.dup, 1) := by decide +kernel
theorem dX8_run_55 : decode cX8_run 55 = .ok (.getfield 208, 3) := by decide +kernel
theorem dX8_run_58 : decode cX8_run 58 = .ok (.iconst 1, 1) := by decide +kernel
theorem dX8_run_59 : decode cX8_run 59 = .ok (.iadd, 1) := by decide +kernel
theorem dX8_run_60 : decode cX8_run 60 = .ok (.putfield 208, 3) := by decide +kernel
theorem dX8_run_63 : decode cX8_run 63 = .ok (.iconst 0, 1) := by decide +kernel
theorem dX8_run_64 : decode cX8_run 64 = .ok (.istore_n 3, 1) := by decide +kernel
theorem dX8_run_65 : decode cX8_run 65 = .ok (.iload_n 3, 1) := by decide +kernel
theorem dX8_run_66 : decode cX8_run 66 = .ok (.aload_n 0, 1) := by decide +kernel
theorem dX8_run_67 : decode cX8_run 67 = .ok (.getfield 72, 3) := by decide +kernel
theorem dX8_run_70 : decode cX8_run 70 = .ok (.if_icmp .ge 87, 3) := by decide +kernel
theorem dX8_run_73 : decode cX8_run 73 = .ok (.aload_n 0, 1) := by decide +kernel
theorem dX8_run_74 : decode cX8_run 74 = .ok (.getfield 13, 3) := by decide +kernel
theorem dX8_run_77 : decode cX8_run 77 = .ok (.iload_n 3, 1) := by decide +kernel
theorem dX8_run_78 : decode cX8_run 78 = .ok (.iaload, 1) := by decide +kernel
theorem dX8_run_79 : decode cX8_run 79 = .ok (.istore 4, 2) := by decide +kernel
theorem dX8_run_81 : decode cX8_run 81 = .ok (.aload_n 0, 1) := by decide +kernel
theorem dX8_run_82 : decode cX8_run 82 = .ok (.iconst 0, 1) := by decide +kernel
theorem dX8_run_83 : decode cX8_run 83 = .ok (.iload_n 3, 1) := by decide +kernel
theorem dX8_run_84 : decode cX8_run 84 = .ok (.aload_n 0, 1) := by decide +kernel
theorem dX8_run_85 : decode cX8_run 85 = .ok (.getfield 208, 3) := by decide +kernel
theorem dX8_run_88 : decode cX8_run 88 = .ok (.iconst 0, 1) := by decide +kernel
theorem dX8_run_89 : decode cX8_run 89 = .ok (.invokevirtual 224, 3) := by decide +kernel
theorem dX8_run_92 : decode cX8_run 92 = .ok (.ifCond .ne 6, 3) := by decide +kernel
theorem dX8_run_95 : decode cX8_run 95 = .ok (.goto 56, 3) := by decide +kernel
theorem dX8_run_98 : decode cX8_run 98 = .ok (.aload_n 0, 1) := by decide +kernel
theorem dX8_run_99 : decode cX8_run 99 = .ok (.getfield 47, 3) := by decide +kernel
theorem dX8_run_102 : decode cX8_run 102 = .ok (.iload 4, 2) := by decide +kernel
theorem dX8_run_104 : decode cX8_run 104 = .ok (.iaload, 1) := by decide +kernel
theorem dX8_run_105 : decode cX8_run 105 = .ok (.ifCond .ne 14, 3) := by decide +kernel
theorem dX8_run_108 : decode cX8_run 108 = .ok (.aload_n 0, 1) := by decide +kernel
theorem dX8_run_109 : decode cX8_run 109 = .ok (.getfield 63, 3) := by decide +kernel
theorem dX8_run_112 : decode cX8_run 112 = .ok (.iload 4, 2) := by decide +kernel
theorem dX8_run_114 : decode cX8_run 114 = .ok (.aload_n 0, 1) := by decide +kernel
theorem dX8_run_115 : decode cX8_run 115 = .ok (.getfield 208, 3) := by decide +kernel
theorem dX8_run_118 : decode cX8_run 118 = .ok (.iastore, 1) := by decide +kernel
theorem dX8_run_119 : decode cX8_run 119 = .ok (.aload_n 0, 1) := by decide +kernel
theorem dX8_run_120 : decode cX8_run 120 = .ok (.getfield 59, 3) := by decide +kernel
theorem dX8_run_123 : decode cX8_run 123 = .ok (.iload 4, 2) := by decide +kernel
theorem dX8_run_125 : decode cX8_run 125 = .ok (.baload, 1) := by decide +kernel
theorem dX8_run_126 : decode cX8_run 126 = .ok (.ifCond .ne 6, 3) := by decide +kernel
theorem dX8_run_129 : decode cX8_run 129 = .ok (.goto 22, 3) := by decide +kernel
theorem dX8_run_132 : decode cX8_run 132 = .ok (.aload_n 0, 1) := by decide +kernel
theorem dX8_run_133 : decode cX8_run 133 = .ok (.getfield 66, 3) := by decide +kernel
theorem dX8_run_136 : decode cX8_run 136 = .ok (.iload 4, 2) := by decide +kernel
theorem dX8_run_138 : decode cX8_run 138 = .ok (.aload_n 0, 1) := by decide +kernel
theorem dX8_run_139 : decode cX8_run 139 = .ok (.getfield 208, 3) := by decide +kernel
theorem dX8_run_142 : decode cX8_run 142 = .ok (.iastore, 1) := by decide +kernel
theorem dX8_run_143 : decode cX8_run 143 = .ok (.aload_n 0, 1) := by decide +kernel
theorem dX8_run_144 : decode cX8_run 144 = .ok (.aload_n 0, 1) := by decide +kernel
theorem dX8_run_145 : decode cX8_run 145 = .ok (.getfield 208, 3) := by decide +kernel
theorem dX8_run_148 : decode cX8_run 148 = .ok (.putfield 211, 3) := by decide +kernel
theorem dX8_run_151 : decode cX8_run 151 = .ok (.iinc 3 1, 3) := by decide +kernel
theorem dX8_run_154 : decode cX8_run 154 = .ok (.goto (-89), 3) := by decide +kernel
theorem dX8_run_157 : decode cX8_run 157 = .ok (.goto (-120), 3) := by decide +kernel
theorem dX8_run_160 : decode cX8_run 160 = .ok (.iload_n 2, 1) := by decide +kernel
theorem dX8_run_161 : decode cX8_run 161 = .ok (.ireturn, 1) := by decide +kernel
set_option maxRecDepth 20000 in
theorem ggX8_minute_X8_fails : GoodIn wsX8_minute wsX8_fails := goodIn_r _ [7, 8, 9, 10, 11, 12, 13, 14, 15, 16, 17, 18, 19, 20, 21, 22, 23, 24, 25, 26, 27, 28, 29, 30, 31, 32, 33, 34, 35, 36, 37, 38, 39, 40, 41, 42, 43, 44] (by decide +kernel) (by decide +kernel)
set_option maxRecDepth 20000 in
theorem gX8_minute_X8_fails : GoodIn wsX8_minute (wsV RX8 87 RX8 yX8_fails wsX8_fails) := goodIn_app (goodIn_of _ (by decide +kernel)) ggX8_minute_X8_fails
theorem dX8_minute_0 : decode cX8_minute 0 = .ok (.aload_n 0, 1) := by decide +kernel
theorem dX8_minute_1 : decode cX8_minute 1 = .ok (.aload_n 0, 1) := by decide +kernel
theorem dX8_minute_2 : decode cX8_minute 2 = .ok (.getfield 79, 3) := by decide +kernel
theorem dX8_minute_5 : decode cX8_minute 5 = .ok (.ifCond .ne 7, 3) := by decide +kernel
theorem dX8_minute_8 : decode cX8_minute 8 = .ok (.iconst 1, 1) := by decide +kernel
theorem dX8_minute_9 : decode cX8_minute 9 = .ok (.goto 4, 3) := by decide +kernel
theorem dX8_minute_12 : decode cX8_minute 12 = .ok (.iconst 0, 1) := by decide +kernel
theorem dX8_minute_13 : decode cX8_minute 13 = .ok (.iconst 0, 1) := by decide +kernel
theorem dX8_minute_14 : decode cX8_minute 14 = .ok (.invokevirtual 87, 3) := by decide +kernel
theorem dX8_minute_17 : decode cX8_minute 17 = .ok (.ifCond .eq 5, 3) := by decide +kernel
theorem dX8_minute_20 : decode cX8_minute 20 = .ok (.iconst 0, 1) := by decide +kernel
theorem dX8_minute_21 : decode cX8_minute 21 = .ok (.ireturn, 1) := by decide +kernel
theorem dX8_minute_22 : decode cX8_minute 22 = .ok (.aload_n 0, 1) := by decide +kernel
theorem dX8_minute_23 : decode cX8_minute 23 = .ok (.getfield 208, 3) := by decide +kernel
theorem dX8_minute_26 : decode cX8_minute 26 = .ok (.ireturn, 1) := by decide +kernel
theorem dX8_isOn_0 : decode cX8_isOn 0 = .ok (.aload_n 0, 1) := by decide +kernel
theorem dX8_isOn_1 : decode cX8_isOn 1 = .ok (.getfield 59, 3) := by decide +kernel
theorem dX8_isOn_4 : decode cX8_isOn 4 = .ok (.iload_n 1, 1) := by decide +kernel
theorem dX8_isOn_5 : decode cX8_isOn 5 = .ok (.baload, 1) := by decide +kernel
theorem dX8_isOn_6 : decode cX8_isOn 6 = .ok (.ifCond .ne 16, 3) := by decide +kernel
theorem dX8_isOn_9 : decode cX8_isOn 9 = .ok (.aload_n 0, 1) := by decide +kernel
theorem dX8_isOn_10 : decode cX8_isOn 10 = .ok (.getfield 47, 3) := by decide +kernel
theorem dX8_isOn_13 : decode cX8_isOn 13 = .ok (.iload_n 1, 1) := by decide +kernel
theorem dX8_isOn_14 : decode cX8_isOn 14 = .ok (.iaload, 1) := by decide +kernel
theorem dX8_isOn_15 : decode cX8_isOn 15 = .ok (.ifCond .lt 7, 3) := by decide +kernel
theorem dX8_isOn_18 : decode cX8_isOn 18 = .ok (.iconst 1, 1) := by decide +kernel
theorem dX8_isOn_19 : decode cX8_isOn 19 = .ok (.goto 4, 3) := by decide +kernel
theorem dX8_isOn_22 : decode cX8_isOn 22 = .ok (.iconst 0, 1) := by decide +kernel
theorem dX8_isOn_23 : decode cX8_isOn 23 = .ok (.ireturn, 1) := by decide +kernel
set_option maxRecDepth 20000 in
theorem ggX8_at_X8_isNo : GoodIn wsX8_at wsX8_isNo := goodIn_r _ [12, 13, 14, 15, 11, 16, 31, 32, 33, 34, 35, 36, 37, 38, 39, 40, 41, 42, 43, 44, 45, 46, 47, 48, 49, 50, 51, 52, 53, 54, 55, 56, 57, 58, 59, 60, 61, 62, 63, 64, 65, 66] (by decide +kernel) (by decide +kernel)
set_option maxRecDepth 20000 in
theorem gX8_at_X8_isNo : GoodIn wsX8_at (wsV RX8 83 RX8 yX8_isNo wsX8_isNo) := goodIn_app (goodIn_of _ (by decide +kernel)) ggX8_at_X8_isNo
set_option maxRecDepth 20000 in
theorem ggX8_at_X8_fails : GoodIn wsX8_at wsX8_fails := goodIn_r _ [20, 21, 31, 32, 33, 34, 35, 36, 37, 38, 39, 40, 41, 42, 43, 44, 45, 46, 47, 48, 49, 50, 51, 52, 53, 54, 55, 56, 57, 58, 59, 60, 61, 62, 63, 64, 65, 66] (by decide +kernel) (by decide +kernel)
set_option maxRecDepth 20000 in
theorem gX8_at_X8_fails : GoodIn wsX8_at (wsV RX8 87 RX8 yX8_fails wsX8_fails) := goodIn_app (goodIn_of _ (by decide +kernel)) ggX8_at_X8_fails
set_option maxRecDepth 20000 in
theorem ggX8_at_X8_tail : GoodIn wsX8_at wsX8_tail := goodIn_r _ [25, 2, 26, 27, 28, 11, 29, 30, 31, 32, 33, 34, 35, 36, 37, 38, 39, 40, 41, 42, 43, 44, 45, 46, 47, 48, 49, 50, 51, 52, 53, 54, 55, 56, 57, 58, 59, 60, 61, 62, 63, 64, 65, 66] (by decide +kernel) (by decide +kernel)
set_option maxRecDepth 20000 in
theorem gX8_at_X8_tail : GoodIn wsX8_at (wsV RX8 218 RX8 yX8_tail wsX8_tail) := goodIn_app (goodIn_of _ (by decide +kernel)) ggX8_at_X8_tail
theorem dX8_at_0 : decode cX8_at 0 = .ok (.aload_n 0, 1) := by decide +kernel
theorem dX8_at_1 : decode cX8_at 1 = .ok (.aload_n 0, 1) := by decide +kernel
theorem dX8_at_2 : decode cX8_at 2 = .ok (.iload_n 1, 1) := by decide +kernel
theorem dX8_at_3 : decode cX8_at 3 = .ok (.invokevirtual 83, 3) := by decide +kernel
theorem dX8_at_6 : decode cX8_at 6 = .ok (.aload_n 0, 1) := by decide +kernel
theorem dX8_at_7 : decode cX8_at 7 = .ok (.getfield 79, 3) := by decide +kernel
theorem dX8_at_10 : decode cX8_at 10 = .ok (.ifCond .ne 7, 3) := by decide +kernel
theorem dX8_at_13 : decode cX8_at 13 = .ok (.iconst 1, 1) := by decide +kernel
theorem dX8_at_14 : decode cX8_at 14 = .ok (.goto 4, 3) := by decide +kernel
theorem dX8_at_17 : decode cX8_at 17 = .ok (.iconst 0, 1) := by decide +kernel
theorem dX8_at_18 : decode cX8_at 18 = .ok (.invokevirtual 87, 3) := by decide +kernel
theorem dX8_at_21 : decode cX8_at 21 = .ok (.ifCond .eq 5, 3) := by decide +kernel
theorem dX8_at_24 : decode cX8_at 24 = .ok (.iconst 0, 1) := by decide +kernel
theorem dX8_at_25 : decode cX8_at 25 = .ok (.ireturn, 1) := by decide +kernel
theorem dX8_at_26 : decode cX8_at 26 = .ok (.iload_n 2, 1) := by decide +kernel
theorem dX8_at_27 : decode cX8_at 27 = .ok (.tableswitch 111 0 4 #[33, 40, 47, 97, 104], 33) := by decide +kernel
theorem dX8_at_60 : decode cX8_at 60 = .ok (.aload_n 0, 1) := by decide +kernel
theorem dX8_at_61 : decode cX8_at 61 = .ok (.getfield 47, 3) := by decide +kernel
theorem dX8_at_64 : decode cX8_at 64 = .ok (.iload_n 1, 1) := by decide +kernel
theorem dX8_at_65 : decode cX8_at 65 = .ok (.iaload, 1) := by decide +kernel
theorem dX8_at_66 : decode cX8_at 66 = .ok (.ireturn, 1) := by decide +kernel
theorem dX8_at_67 : decode cX8_at 67 = .ok (.aload_n 0, 1) := by decide +kernel
theorem dX8_at_68 : decode cX8_at 68 = .ok (.iconst 0, 1) := by decide +kernel
theorem dX8_at_69 : decode cX8_at 69 = .ok (.iload_n 1, 1) := by decide +kernel
theorem dX8_at_70 : decode cX8_at 70 = .ok (.invokevirtual 218, 3) := by decide +kernel
theorem dX8_at_73 : decode cX8_at 73 = .ok (.ireturn, 1) := by decide +kernel
theorem dX8_at_74 : decode cX8_at 74 = .ok (.aload_n 0, 1) := by decide +kernel
theorem dX8_at_75 : decode cX8_at 75 = .ok (.getfield 59, 3) := by decide +kernel
theorem dX8_at_78 : decode cX8_at 78 = .ok (.iload_n 1, 1) := by decide +kernel
theorem dX8_at_79 : decode cX8_at 79 = .ok (.baload, 1) := by decide +kernel
theorem dX8_at_80 : decode cX8_at 80 = .ok (.ifCond .eq 7, 3) := by decide +kernel
theorem dX8_at_83 : decode cX8_at 83 = .ok (.iconst 3, 1) := by decide +kernel
theorem dX8_at_84 : decode cX8_at 84 = .ok (.goto 39, 3) := by decide +kernel
theorem dX8_at_87 : decode cX8_at 87 = .ok (.aload_n 0, 1) := by decide +kernel
theorem dX8_at_88 : decode cX8_at 88 = .ok (.getfield 47, 3) := by decide +kernel
theorem dX8_at_91 : decode cX8_at 91 = .ok (.iload_n 1, 1) := by decide +kernel
theorem dX8_at_92 : decode cX8_at 92 = .ok (.iaload, 1) := by decide +kernel
theorem dX8_at_93 : decode cX8_at 93 = .ok (.ifCond .ge 7, 3) := by decide +kernel
theorem dX8_at_96 : decode cX8_at 96 = .ok (.iconst 0, 1) := by decide +kernel
theorem dX8_at_97 : decode cX8_at 97 = .ok (.goto 26, 3) := by decide +kernel
theorem dX8_at_100 : decode cX8_at 100 = .ok (.aload_n 0, 1) := by decide +kernel
theorem dX8_at_101 : decode cX8_at 101 = .ok (.getfield 50, 3) := by decide +kernel
theorem dX8_at_104 : decode cX8_at 104 = .ok (.iload_n 1, 1) := by decide +kernel
theorem dX8_at_105 : decode cX8_at 105 = .ok (.iaload, 1) := by decide +kernel
theorem dX8_at_106 : decode cX8_at 106 = .ok (.ifCond .gt 12, 3) := by decide +kernel
theorem dX8_at_109 : decode cX8_at 109 = .ok (.aload_n 0, 1) := by decide +kernel
theorem dX8_at_110 : decode cX8_at 110 = .ok (.getfield 53, 3) := by decide +kernel
theorem dX8_at_113 : decode cX8_at 113 = .ok (.iload_n 1, 1) := by decide +kernel
theorem dX8_at_114 : decode cX8_at 114 = .ok (.iaload, 1) := by decide +kernel
theorem dX8_at_115 : decode cX8_at 115 = .ok (.ifCond .le 7, 3) := by decide +kernel
theorem dX8_at_118 : decode cX8_at 118 = .ok (.iconst 2, 1) := by decide +kernel
theorem dX8_at_119 : decode cX8_at 119 = .ok (.goto 4, 3) := by decide +kernel
theorem dX8_at_122 : decode cX8_at 122 = .ok (.iconst 1, 1) := by decide +kernel
theorem dX8_at_123 : decode cX8_at 123 = .ok (.ireturn, 1) := by decide +kernel
theorem dX8_at_124 : decode cX8_at 124 = .ok (.aload_n 0, 1) := by decide +kernel
theorem dX8_at_125 : decode cX8_at 125 = .ok (.getfield 63, 3) := by decide +kernel
theorem dX8_at_128 : decode cX8_at 128 = .ok (.iload_n 1, 1) := by decide +kernel
theorem dX8_at_129 : decode cX8_at 129 = .ok (.iaload, 1) := by decide +kernel
theorem dX8_at_130 : decode cX8_at 130 = .ok (.ireturn, 1) := by decide +kernel
theorem dX8_at_131 : decode cX8_at 131 = .ok (.aload_n 0, 1) := by decide +kernel
theorem dX8_at_132 : decode cX8_at 132 = .ok (.getfield 66, 3) := by decide +kernel
theorem dX8_at_135 : decode cX8_at 135 = .ok (.iload_n 1, 1) := by decide +kernel
theorem dX8_at_136 : decode cX8_at 136 = .ok (.iaload, 1) := by decide +kernel
theorem dX8_at_137 : decode cX8_at 137 = .ok (.ireturn, 1) := by decide +kernel
theorem dX8_at_138 : decode cX8_at 138 = .ok (.bipush (-100), 2) := by decide +kernel
theorem dX8_at_140 : decode cX8_at 140 = .ok (.ireturn, 1) := by decide +kernel
set_option maxRecDepth 20000 in
theorem ggX8_who_X8_fails : GoodIn wsX8_who wsX8_fails := goodIn_r _ [8, 9, 32, 33, 34, 35, 36, 37, 38, 39, 40, 41, 42, 43, 44, 45, 46, 47, 48, 49, 50, 51, 52, 53, 54, 55, 56, 57, 58, 59, 60, 61, 62, 63, 64, 65, 66, 67] (by decide +kernel) (by decide +kernel)
set_option maxRecDepth 20000 in
theorem gX8_who_X8_fails : GoodIn wsX8_who (wsV RX8 87 RX8 yX8_fails wsX8_fails) := goodIn_app (goodIn_of _ (by decide +kernel)) ggX8_who_X8_fails
set_option maxRecDepth 20000 in
theorem ggX8_who_X8_isCell : GoodIn wsX8_who wsX8_isCell := goodIn_r _ [13, 14, 15, 16, 7, 17, 32, 33, 34, 35, 36, 37, 38, 39, 40, 41, 42, 43, 44, 45, 46, 47, 48, 49, 50, 51, 52, 53, 54, 55, 56, 57, 58, 59, 60, 61, 62, 63, 64, 65, 66, 67] (by decide +kernel) (by decide +kernel)
set_option maxRecDepth 20000 in
theorem gX8_who_X8_isCell : GoodIn wsX8_who (wsV RX8 202 RX8 yX8_isCell wsX8_isCell) := goodIn_app (goodIn_of _ (by decide +kernel)) ggX8_who_X8_isCell
set_option maxRecDepth 20000 in
theorem ggX8_who_X8_isOn : GoodIn wsX8_who wsX8_isOn := goodIn_r _ [21, 22, 3, 32, 33, 34, 35, 36, 37, 38, 39, 40, 41, 42, 43, 44, 45, 46, 47, 48, 49, 50, 51, 52, 53, 54, 55, 56, 57, 58, 59, 60, 61, 62, 63, 64, 65, 66, 67] (by decide +kernel) (by decide +kernel)
set_option maxRecDepth 20000 in
theorem gX8_who_X8_isOn : GoodIn wsX8_who (wsV RX8 228 RX8 yX8_isOn wsX8_isOn) := goodIn_app (goodIn_of _ (by decide +kernel)) ggX8_who_X8_isOn
set_option maxRecDepth 20000 in
theorem ggX8_who_X8_tail : GoodIn wsX8_who wsX8_tail := goodIn_r _ [26, 3, 27, 28, 29, 7, 30, 31, 32, 33, 34, 35, 36, 37, 38, 39, 40, 41, 42, 43, 44, 45, 46, 47, 48, 49, 50, 51, 52, 53, 54, 55, 56, 57, 58, 59, 60, 61, 62, 63, 64, 65, 66, 67] (by decide +kernel) (by decide +kernel)
set_option maxRecDepth 20000 in
theorem gX8_who_X8_tail : GoodIn wsX8_who (wsV RX8 218 RX8 yX8_tail wsX8_tail) := goodIn_app (goodIn_of _ (by decide +kernel)) ggX8_who_X8_tail
theorem dX8_who_0 : decode cX8_who 0 = .ok (.aload_n 0, 1) := by decide +kernel
theorem dX8_who_1 : decode cX8_who 1 = .ok (.aload_n 0, 1) := by decide +kernel
theorem dX8_who_2 : decode cX8_who 2 = .ok (.getfield 79, 3) := by decide +kernel
theorem dX8_who_5 : decode cX8_who 5 = .ok (.ifCond .ne 7, 3) := by decide +kernel
theorem dX8_who_8 : decode cX8_who 8 = .ok (.iconst 1, 1) := by decide +kernel
theorem dX8_who_9 : decode cX8_who 9 = .ok (.goto 4, 3) := by decide +kernel
theorem dX8_who_12 : decode cX8_who 12 = .ok (.iconst 0, 1) := by decide +kernel
theorem dX8_who_13 : decode cX8_who 13 = .ok (.iconst 0, 1) := by decide +kernel
theorem dX8_who_14 : decode cX8_who 14 = .ok (.invokevirtual 87, 3) := by decide +kernel
theorem dX8_who_17 : decode cX8_who 17 = .ok (.ifCond .eq 5, 3) := by decide +kernel
theorem dX8_who_20 : decode cX8_who 20 = .ok (.iconst 0, 1) := by decide +kernel
theorem dX8_who_21 : decode cX8_who 21 = .ok (.ireturn, 1) := by decide +kernel
theorem dX8_who_22 : decode cX8_who 22 = .ok (.iconst 0, 1) := by decide +kernel
theorem dX8_who_23 : decode cX8_who 23 = .ok (.istore_n 2, 1) := by decide +kernel
theorem dX8_who_24 : decode cX8_who 24 = .ok (.iload_n 2, 1) := by decide +kernel
theorem dX8_who_25 : decode cX8_who 25 = .ok (.aload_n 0, 1) := by decide +kernel
theorem dX8_who_26 : decode cX8_who 26 = .ok (.getfield 72, 3) := by decide +kernel
theorem dX8_who_29 : decode cX8_who 29 = .ok (.if_icmp .ge 47, 3) := by decide +kernel
theorem dX8_who_32 : decode cX8_who 32 = .ok (.aload_n 0, 1) := by decide +kernel
theorem dX8_who_33 : decode cX8_who 33 = .ok (.iload_n 1, 1) := by decide +kernel
theorem dX8_who_34 : decode cX8_who 34 = .ok (.invokevirtual 202, 3) := by decide +kernel
theorem dX8_who_37 : decode cX8_who 37 = .ok (.ifCond .eq 39, 3) := by decide +kernel
theorem dX8_who_40 : decode cX8_who 40 = .ok (.aload_n 0, 1) := by decide +kernel
theorem dX8_who_41 : decode cX8_who 41 = .ok (.iload_n 2, 1) := by decide +kernel
theorem dX8_who_42 : decode cX8_who 42 = .ok (.invokevirtual 228, 3) := by decide +kernel
theorem dX8_who_45 : decode cX8_who 45 = .ok (.ifCond .eq 25, 3) := by decide +kernel
theorem dX8_who_48 : decode cX8_who 48 = .ok (.aload_n 0, 1) := by decide +kernel
theorem dX8_who_49 : decode cX8_who 49 = .ok (.iconst 0, 1) := by decide +kernel
theorem dX8_who_50 : decode cX8_who 50 = .ok (.iload_n 2, 1) := by decide +kernel
theorem dX8_who_51 : decode cX8_who 51 = .ok (.invokevirtual 218, 3) := by decide +kernel
theorem dX8_who_54 : decode cX8_who 54 = .ok (.iload_n 1, 1) := by decide +kernel
theorem dX8_who_55 : decode cX8_who 55 = .ok (.if_icmp .gt 15, 3) := by decide +kernel
theorem dX8_who_58 : decode cX8_who 58 = .ok (.aload_n 0, 1) := by decide +kernel
theorem dX8_who_59 : decode cX8_who 59 = .ok (.getfield 47, 3) := by decide +kernel
theorem dX8_who_62 : decode cX8_who 62 = .ok (.iload_n 2, 1) := by decide +kernel
theorem dX8_who_63 : decode cX8_who 63 = .ok (.iaload, 1) := by decide +kernel
theorem dX8_who_64 : decode cX8_who 64 = .ok (.iload_n 1, 1) := by decide +kernel
theorem dX8_who_65 : decode cX8_who 65 = .ok (.if_icmp .lt 5, 3) := by decide +kernel
theorem dX8_who_68 : decode cX8_who 68 = .ok (.iload_n 2, 1) := by decide +kernel
theorem dX8_who_69 : decode cX8_who 69 = .ok (.ireturn, 1) := by decide +kernel
theorem dX8_who_70 : decode cX8_who 70 = .ok (.iinc 2 1, 3) := by decide +kernel
theorem dX8_who_73 : decode cX8_who 73 = .ok (.goto (-49), 3) := by decide +kernel
theorem dX8_who_76 : decode cX8_who 76 = .ok (.iconst (-1), 1) := by decide +kernel
theorem dX8_who_77 : decode cX8_who 77 = .ok (.ireturn, 1) := by decide +kernel
set_option maxRecDepth 20000 in
theorem ggX8_hole_X8_fails : GoodIn wsX8_hole wsX8_fails := goodIn_r _ [13, 14, 29, 30, 31, 32, 33, 34, 35, 36, 37, 38, 39, 40, 41, 42, 43, 44, 45, 46, 47, 48, 49, 50, 51, 52, 53, 54, 55, 56, 57, 58, 59, 60, 61, 62, 63, 64] (by decide +kernel) (by decide +kernel)
set_option maxRecDepth 20000 in
theorem gX8_hole_X8_fails : GoodIn wsX8_hole (wsV RX8 87 RX8 yX8_fails wsX8_fails) := goodIn_app (goodIn_of _ (by decide +kernel)) ggX8_hole_X8_fails
set_option maxRecDepth 20000 in
theorem ggX8_hole_X8_isOn : GoodIn wsX8_hole wsX8_isOn := goodIn_r _ [18, 19, 4, 29, 30, 31, 32, 33, 34, 35, 36, 37, 38, 39, 40, 41, 42, 43, 44, 45, 46, 47, 48, 49, 50, 51, 52, 53, 54, 55, 56, 57, 58, 59, 60, 61, 62, 63, 64] (by decide +kernel) (by decide +kernel)
set_option maxRecDepth 20000 in
theorem gX8_hole_X8_isOn : GoodIn wsX8_hole (wsV RX8 228 RX8 yX8_isOn wsX8_isOn) := goodIn_app (goodIn_of _ (by decide +kernel)) ggX8_hole_X8_isOn
set_option maxRecDepth 20000 in
theorem ggX8_hole_X8_tail : GoodIn wsX8_hole wsX8_tail := goodIn_r _ [23, 4, 24, 25, 26, 12, 27, 28, 29, 30, 31, 32, 33, 34, 35, 36, 37, 38, 39, 40, 41, 42, 43, 44, 45, 46, 47, 48, 49, 50, 51, 52, 53, 54, 55, 56, 57, 58, 59, 60, 61, 62, 63, 64] (by decide +kernel) (by decide +kernel)
set_option maxRecDepth 20000 in
theorem gX8_hole_X8_tail : GoodIn wsX8_hole (wsV RX8 218 RX8 yX8_tail wsX8_tail) := goodIn_app (goodIn_of _ (by decide +kernel)) ggX8_hole_X8_tail
theorem dX8_hole_0 : decode cX8_hole 0 = .ok (.aload_n 0, 1) := by decide +kernel
theorem dX8_hole_1 : decode cX8_hole 1 = .ok (.aload_n 0, 1) := by decide +kernel
theorem dX8_hole_2 : decode cX8_hole 2 = .ok (.getfield 79, 3) := by decide +kernel
theorem dX8_hole_5 : decode cX8_hole 5 = .ok (.ifCond .ne 7, 3) := by decide +kernel
theorem dX8_hole_8 : decode cX8_hole 8 = .ok (.iconst 1, 1) := by decide +kernel
theorem dX8_hole_9 : decode cX8_hole 9 = .ok (.goto 4, 3) := by decide +kernel
theorem dX8_hole_12 : decode cX8_hole 12 = .ok (.iconst 0, 1) := by decide +kernel
theorem dX8_hole_13 : decode cX8_hole 13 = .ok (.iconst 0, 1) := by decide +kernel
theorem dX8_hole_14 : decode cX8_hole 14 = .ok (.invokevirtual 87, 3) := by decide +kernel
theorem dX8_hole_17 : decode cX8_hole 17 = .ok (.ifCond .eq 5, 3) := by decide +kernel
theorem dX8_hole_20 : decode cX8_hole 20 = .ok (.iconst 0, 1) := by decide +kernel
theorem dX8_hole_21 : decode cX8_hole 21 = .ok (.ireturn, 1) := by decide +kernel
theorem dX8_hole_22 : decode cX8_hole 22 = .ok (.iconst 0, 1) := by decide +kernel
theorem dX8_hole_23 : decode cX8_hole 23 = .ok (.istore_n 1, 1) := by decide +kernel
theorem dX8_hole_24 : decode cX8_hole 24 = .ok (.iconst (-1), 1) := by decide +kernel
theorem dX8_hole_25 : decode cX8_hole 25 = .ok (.istore_n 2, 1) := by decide +kernel
theorem dX8_hole_26 : decode cX8_hole 26 = .ok (.iconst 0, 1) := by decide +kernel
theorem dX8_hole_27 : decode cX8_hole 27 = .ok (.istore_n 3, 1) := by decide +kernel
theorem dX8_hole_28 : decode cX8_hole 28 = .ok (.iload_n 3, 1) := by decide +kernel
theorem dX8_hole_29 : decode cX8_hole 29 = .ok (.aload_n 0, 1) := by decide +kernel
theorem dX8_hole_30 : decode cX8_hole 30 = .ok (.getfield 72, 3) := by decide +kernel
theorem dX8_hole_33 : decode cX8_hole 33 = .ok (.if_icmp .ge 58, 3) := by decide +kernel
theorem dX8_hole_36 : decode cX8_hole 36 = .ok (.aload_n 0, 1) := by decide +kernel
theorem dX8_hole_37 : decode cX8_hole 37 = .ok (.getfield 13, 3) := by decide +kernel
theorem dX8_hole_40 : decode cX8_hole 40 = .ok (.iload_n 3, 1) := by decide +kernel
theorem dX8_hole_41 : decode cX8_hole 41 = .ok (.iaload, 1) := by decide +kernel
theorem dX8_hole_42 : decode cX8_hole 42 = .ok (.istore 4, 2) := by decide +kernel
theorem dX8_hole_44 : decode cX8_hole 44 = .ok (.aload_n 0, 1) := by decide +kernel
theorem dX8_hole_45 : decode cX8_hole 45 = .ok (.iload 4, 2) := by decide +kernel
theorem dX8_hole_47 : decode cX8_hole 47 = .ok (.invokevirtual 228, 3) := by decide +kernel
theorem dX8_hole_50 : decode cX8_hole 50 = .ok (.ifCond .ne 6, 3) := by decide +kernel
theorem dX8_hole_53 : decode cX8_hole 53 = .ok (.goto 32, 3) := by decide +kernel
theorem dX8_hole_56 : decode cX8_hole 56 = .ok (.iload_n 2, 1) := by decide +kernel
theorem dX8_hole_57 : decode cX8_hole 57 = .ok (.iconst (-1), 1) := by decide +kernel
theorem dX8_hole_58 : decode cX8_hole 58 = .ok (.if_icmp .eq 24, 3) := by decide +kernel
theorem dX8_hole_61 : decode cX8_hole 61 = .ok (.iload_n 1, 1) := by decide +kernel
theorem dX8_hole_62 : decode cX8_hole 62 = .ok (.aload_n 0, 1) := by decide +kernel
theorem dX8_hole_63 : decode cX8_hole 63 = .ok (.iconst 0, 1) := by decide +kernel
theorem dX8_hole_64 : decode cX8_hole 64 = .ok (.iload_n 2, 1) := by decide +kernel
theorem dX8_hole_65 : decode cX8_hole 65 = .ok (.invokevirtual 218, 3) := by decide +kernel
theorem dX8_hole_68 : decode cX8_hole 68 = .ok (.aload_n 0, 1) := by decide +kernel
theorem dX8_hole_69 : decode cX8_hole 69 = .ok (.getfield 47, 3) := by decide +kernel
theorem dX8_hole_72 : decode cX8_hole 72 = .ok (.iload 4, 2) := by decide +kernel
theorem dX8_hole_74 : decode cX8_hole 74 = .ok (.iaload, 1) := by decide +kernel
theorem dX8_hole_75 : decode cX8_hole 75 = .ok (.isub, 1) := by decide +kernel
theorem dX8_hole_76 : decode cX8_hole 76 = .ok (.iconst 1, 1) := by decide +kernel
theorem dX8_hole_77 : decode cX8_hole 77 = .ok (.isub, 1) := by decide +kernel
theorem dX8_hole_78 : decode cX8_hole 78 = .ok (.invokestatic 231, 3) := by decide +kernel
theorem dX8_hole_81 : decode cX8_hole 81 = .ok (.istore_n 1, 1) := by decide +kernel
theorem dX8_hole_82 : decode cX8_hole 82 = .ok (.iload 4, 2) := by decide +kernel
theorem dX8_hole_84 : decode cX8_hole 84 = .ok (.istore_n 2, 1) := by decide +kernel
theorem dX8_hole_85 : decode cX8_hole 85 = .ok (.iinc 3 1, 3) := by decide +kernel
theorem dX8_hole_88 : decode cX8_hole 88 = .ok (.goto (-60), 3) := by decide +kernel
theorem dX8_hole_91 : decode cX8_hole 91 = .ok (.iload_n 1, 1) := by decide +kernel
theorem dX8_hole_92 : decode cX8_hole 92 = .ok (.ireturn, 1) := by decide +kernel
set_option maxRecDepth 20000 in
theorem ggX8_rowLong_X8_fails : GoodIn wsX8_rowLong wsX8_fails := goodIn_r _ [10, 11, 26, 27, 28, 29, 30, 31, 32, 33, 34, 35, 36, 37, 38, 39, 40, 41, 42, 43, 44, 45, 46, 47, 48, 49, 50, 51, 52, 53, 54, 55, 56, 57, 58, 59, 60, 61] (by decide +kernel) (by decide +kernel)
set_option maxRecDepth 20000 in
theorem gX8_rowLong_X8_fails : GoodIn wsX8_rowLong (wsV RX8 87 RX8 yX8_fails wsX8_fails) := goodIn_app (goodIn_of _ (by decide +kernel)) ggX8_rowLong_X8_fails
set_option maxRecDepth 20000 in
theorem ggX8_rowLong_X8_isOn : GoodIn wsX8_rowLong wsX8_isOn := goodIn_r _ [15, 16, 4, 26, 27, 28, 29, 30, 31, 32, 33, 34, 35, 36, 37, 38, 39, 40, 41, 42, 43, 44, 45, 46, 47, 48, 49, 50, 51, 52, 53, 54, 55, 56, 57, 58, 59, 60, 61] (by decide +kernel) (by decide +kernel)
set_option maxRecDepth 20000 in
theorem gX8_rowLong_X8_isOn : GoodIn wsX8_rowLong (wsV RX8 228 RX8 yX8_isOn wsX8_isOn) := goodIn_app (goodIn_of _ (by decide +kernel)) ggX8_rowLong_X8_isOn
set_option maxRecDepth 20000 in
theorem ggX8_rowLong_X8_tail : GoodIn wsX8_rowLong wsX8_tail := goodIn_r _ [20, 4, 21, 22, 23, 9, 24, 25, 26, 27, 28, 29, 30, 31, 32, 33, 34, 35, 36, 37, 38, 39, 40, 41, 42, 43, 44, 45, 46, 47, 48, 49, 50, 51, 52, 53, 54, 55, 56, 57, 58, 59, 60, 61] (by decide +kernel) (by decide +kernel)
set_option maxRecDepth 20000 in
theorem gX8_rowLong_X8_tail : GoodIn wsX8_rowLong (wsV RX8 218 RX8 yX8_tail wsX8_tail) := goodIn_app (goodIn_of _ (by decide +kernel)) ggX8_rowLong_X8_tail
theorem dX8_rowLong_0 : decode cX8_rowLong 0 = .ok (.aload_n 0, 1) := by decide +kernel
theorem dX8_rowLong_1 : decode cX8_rowLong 1 = .ok (.aload_n 0, 1) := by decide +kernel
theorem dX8_rowLong_2 : decode cX8_rowLong 2 = .ok (.getfield 79, 3) := by decide +kernel
theorem dX8_rowLong_5 : decode cX8_rowLong 5 = .ok (.ifCond .ne 7, 3) := by decide +kernel
theorem dX8_rowLong_8 : decode cX8_rowLong 8 = .ok (.iconst 1, 1) := by decide +kernel
theorem dX8_rowLong_9 : decode cX8_rowLong 9 = .ok (.goto 4, 3) := by decide +kernel
theorem dX8_rowLong_12 : decode cX8_rowLong 12 = .ok (.iconst 0, 1) := by decide +kernel
theorem dX8_rowLong_13 : decode cX8_rowLong 13 = .ok (.iconst 0, 1) := by decide +kernel
theorem dX8_rowLong_14 : decode cX8_rowLong 14 = .ok (.invokevirtual 87, 3) := by decide +kernel
theorem dX8_rowLong_17 : decode cX8_rowLong 17 = .ok (.ifCond .eq 5, 3) := by decide +kernel
theorem dX8_rowLong_20 : decode cX8_rowLong 20 = .ok (.iconst 0, 1) := by decide +kernel
theorem dX8_rowLong_21 : decode cX8_rowLong 21 = .ok (.ireturn, 1) := by decide +kernel
theorem dX8_rowLong_22 : decode cX8_rowLong 22 = .ok (.iconst (-1), 1) := by decide +kernel
theorem dX8_rowLong_23 : decode cX8_rowLong 23 = .ok (.istore_n 1, 1) := by decide +kernel
theorem dX8_rowLong_24 : decode cX8_rowLong 24 = .ok (.iconst (-1), 1) := by decide +kernel
theorem dX8_rowLong_25 : decode cX8_rowLong 25 = .ok (.istore_n 2, 1) := by decide +kernel
theorem dX8_rowLong_26 : decode cX8_rowLong 26 = .ok (.iconst 0, 1) := by decide +kernel
theorem dX8_rowLong_27 : decode cX8_rowLong 27 = .ok (.istore_n 3, 1) := by decide +kernel
theorem dX8_rowLong_28 : decode cX8_rowLong 28 = .ok (.iload_n 3, 1) := by decide +kernel
theorem dX8_rowLong_29 : decode cX8_rowLong 29 = .ok (.aload_n 0, 1) := by decide +kernel
theorem dX8_rowLong_30 : decode cX8_rowLong 30 = .ok (.getfield 72, 3) := by decide +kernel
theorem dX8_rowLong_33 : decode cX8_rowLong 33 = .ok (.if_icmp .ge 48, 3) := by decide +kernel
theorem dX8_rowLong_36 : decode cX8_rowLong 36 = .ok (.aload_n 0, 1) := by decide +kernel
theorem dX8_rowLong_37 : decode cX8_rowLong 37 = .ok (.aload_n 0, 1) := by decide +kernel
theorem dX8_rowLong_38 : decode cX8_rowLong 38 = .ok (.getfield 13, 3) := by decide +kernel
theorem dX8_rowLong_41 : decode cX8_rowLong 41 = .ok (.iload_n 3, 1) := by decide +kernel
theorem dX8_rowLong_42 : decode cX8_rowLong 42 = .ok (.iaload, 1) := by decide +kernel
theorem dX8_rowLong_43 : decode cX8_rowLong 43 = .ok (.invokevirtual 228, 3) := by decide +kernel
theorem dX8_rowLong_46 : decode cX8_rowLong 46 = .ok (.ifCond .ne 6, 3) := by decide +kernel
theorem dX8_rowLong_49 : decode cX8_rowLong 49 = .ok (.goto 26, 3) := by decide +kernel
theorem dX8_rowLong_52 : decode cX8_rowLong 52 = .ok (.iload_n 1, 1) := by decide +kernel
theorem dX8_rowLong_53 : decode cX8_rowLong 53 = .ok (.iconst (-1), 1) := by decide +kernel
theorem dX8_rowLong_54 : decode cX8_rowLong 54 = .ok (.if_icmp .ne 12, 3) := by decide +kernel
theorem dX8_rowLong_57 : decode cX8_rowLong 57 = .ok (.aload_n 0, 1) := by decide +kernel
theorem dX8_rowLong_58 : decode cX8_rowLong 58 = .ok (.getfield 13, 3) := by decide +kernel
theorem dX8_rowLong_61 : decode cX8_rowLong 61 = .ok (.iload_n 3, 1) := by decide +kernel
theorem dX8_rowLong_62 : decode cX8_rowLong 62 = .ok (.iaload, 1) := by decide +kernel
theorem dX8_rowLong_63 : decode cX8_rowLong 63 = .ok (.goto 4, 3) := by decide +kernel
theorem dX8_rowLong_66 : decode cX8_rowLong 66 = .ok (.iload_n 1, 1) := by decide +kernel
theorem dX8_rowLong_67 : decode cX8_rowLong 67 = .ok (.istore_n 1, 1) := by decide +kernel
theorem dX8_rowLong_68 : decode cX8_rowLong 68 = .ok (.aload_n 0, 1) := by decide +kernel
theorem dX8_rowLong_69 : decode cX8_rowLong 69 = .ok (.getfield 13, 3) := by decide +kernel
theorem dX8_rowLong_72 : decode cX8_rowLong 72 = .ok (.iload_n 3, 1) := by decide +kernel
theorem dX8_rowLong_73 : decode cX8_rowLong 73 = .ok (.iaload, 1) := by decide +kernel
theorem dX8_rowLong_74 : decode cX8_rowLong 74 = .ok (.istore_n 2, 1) := by decide +kernel
theorem dX8_rowLong_75 : decode cX8_rowLong 75 = .ok (.iinc 3 1, 3) := by decide +kernel
theorem dX8_rowLong_78 : decode cX8_rowLong 78 = .ok (.goto (-50), 3) := by decide +kernel
theorem dX8_rowLong_81 : decode cX8_rowLong 81 = .ok (.iload_n 1, 1) := by decide +kernel
theorem dX8_rowLong_82 : decode cX8_rowLong 82 = .ok (.iconst (-1), 1) := by decide +kernel
theorem dX8_rowLong_83 : decode cX8_rowLong 83 = .ok (.if_icmp .ne 5, 3) := by decide +kernel
theorem dX8_rowLong_86 : decode cX8_rowLong 86 = .ok (.iconst 0, 1) := by decide +kernel
theorem dX8_rowLong_87 : decode cX8_rowLong 87 = .ok (.ireturn, 1) := by decide +kernel
theorem dX8_rowLong_88 : decode cX8_rowLong 88 = .ok (.aload_n 0, 1) := by decide +kernel
theorem dX8_rowLong_89 : decode cX8_rowLong 89 = .ok (.getfield 47, 3) := by decide +kernel
theorem dX8_rowLong_92 : decode cX8_rowLong 92 = .ok (.iload_n 1, 1) := by decide +kernel
theorem dX8_rowLong_93 : decode cX8_rowLong 93 = .ok (.iaload, 1) := by decide +kernel
theorem dX8_rowLong_94 : decode cX8_rowLong 94 = .ok (.aload_n 0, 1) := by decide +kernel
theorem dX8_rowLong_95 : decode cX8_rowLong 95 = .ok (.getfield 35, 3) := by decide +kernel
theorem dX8_rowLong_98 : decode cX8_rowLong 98 = .ok (.if_icmp .ge 12, 3) := by decide +kernel
theorem dX8_rowLong_101 : decode cX8_rowLong 101 = .ok (.aload_n 0, 1) := by decide +kernel
theorem dX8_rowLong_102 : decode cX8_rowLong 102 = .ok (.getfield 47, 3) := by decide +kernel
theorem dX8_rowLong_105 : decode cX8_rowLong 105 = .ok (.iload_n 1, 1) := by decide +kernel
theorem dX8_rowLong_106 : decode cX8_rowLong 106 = .ok (.iaload, 1) := by decide +kernel
theorem dX8_rowLong_107 : decode cX8_rowLong 107 = .ok (.goto 9, 3) := by decide +kernel
theorem dX8_rowLong_110 : decode cX8_rowLong 110 = .ok (.aload_n 0, 1) := by decide +kernel
theorem dX8_rowLong_111 : decode cX8_rowLong 111 = .ok (.getfield 35, 3) := by decide +kernel
theorem dX8_rowLong_114 : decode cX8_rowLong 114 = .ok (.iconst 1, 1) := by decide +kernel
theorem dX8_rowLong_115 : decode cX8_rowLong 115 = .ok (.isub, 1) := by decide +kernel
theorem dX8_rowLong_116 : decode cX8_rowLong 116 = .ok (.istore_n 3, 1) := by decide +kernel
theorem dX8_rowLong_117 : decode cX8_rowLong 117 = .ok (.aload_n 0, 1) := by decide +kernel
theorem dX8_rowLong_118 : decode cX8_rowLong 118 = .ok (.iconst 0, 1) := by decide +kernel
theorem dX8_rowLong_119 : decode cX8_rowLong 119 = .ok (.iload_n 2, 1) := by decide +kernel
theorem dX8_rowLong_120 : decode cX8_rowLong 120 = .ok (.invokevirtual 218, 3) := by decide +kernel
theorem dX8_rowLong_123 : decode cX8_rowLong 123 = .ok (.ifCond .le 12, 3) := by decide +kernel
theorem dX8_rowLong_126 : decode cX8_rowLong 126 = .ok (.aload_n 0, 1) := by decide +kernel
theorem dX8_rowLong_127 : decode cX8_rowLong 127 = .ok (.iconst 0, 1) := by decide +kernel
theorem dX8_rowLong_128 : decode cX8_rowLong 128 = .ok (.iload_n 2, 1) := by decide +kernel
theorem dX8_rowLong_129 : decode cX8_rowLong 129 = .ok (.invokevirtual 218, 3) := by decide +kernel
theorem dX8_rowLong_132 : decode cX8_rowLong 132 = .ok (.goto 4, 3) := by decide +kernel
theorem dX8_rowLong_135 : decode cX8_rowLong 135 = .ok (.iconst 0, 1) := by decide +kernel
theorem dX8_rowLong_136 : decode cX8_rowLong 136 = .ok (.istore 4, 2) := by decide +kernel
theorem dX8_rowLong_138 : decode cX8_rowLong 138 = .ok (.iload_n 3, 1) := by decide +kernel
theorem dX8_rowLong_139 : decode cX8_rowLong 139 = .ok (.iload 4, 2) := by decide +kernel
theorem dX8_rowLong_141 : decode cX8_rowLong 141 = .ok (.isub, 1) := by decide +kernel
theorem dX8_rowLong_142 : decode cX8_rowLong 142 = .ok (.iconst 1, 1) := by decide +kernel
theorem dX8_rowLong_143 : decode cX8_rowLong 143 = .ok (.iadd, 1) := by decide +kernel
theorem dX8_rowLong_144 : decode cX8_rowLong 144 = .ok (.ireturn, 1) := by decide +kernel
set_option maxRecDepth 20000 in
theorem ggX8_ends_X8_fails : GoodIn wsX8_ends wsX8_fails := goodIn_r _ [14, 15, 52, 53, 54, 55, 56, 57, 58, 59, 60, 61, 62, 63, 64, 65, 66, 67, 68, 69, 70, 71, 72, 73, 74, 75, 76, 77, 78, 79, 80, 81, 82, 83, 84, 85, 86, 87] (by decide +kernel) (by decide +kernel)
set_option maxRecDepth 20000 in
theorem gX8_ends_X8_fails : GoodIn wsX8_ends (wsV RX8 87 RX8 yX8_fails wsX8_fails) := goodIn_app (goodIn_of _ (by decide +kernel)) ggX8_ends_X8_fails
set_option maxRecDepth 20000 in
theorem ggX8_ends_X8_isIn : GoodIn wsX8_ends wsX8_isIn := goodIn_r _ [18] (by decide +kernel) (by decide +kernel)
set_option maxRecDepth 20000 in
theorem gX8_ends_X8_isIn : GoodIn wsX8_ends (va_wsS RX8 75 yX8_isIn wsX8_isIn) := goodIn_app (goodIn_of _ (by decide +kernel)) ggX8_ends_X8_isIn
set_option maxRecDepth 20000 in
theorem ggX8_ends_X8_alone : GoodIn wsX8_ends wsX8_alone := goodIn_r _ [22, 2, 23, 7, 24, 25, 26, 13, 27, 3, 4, 5, 6, 28, 29, 30, 31, 32, 33, 34, 35, 36, 37, 38, 39, 40, 41, 42, 43, 44, 45, 46, 47, 16, 17, 18, 52, 53, 54, 55, 56, 57, 58, 59, 60, 61, 62, 63, 64, 65, 66, 67, 68, 69, 70, 71, 72, 73, 74, 75, 76, 77, 78, 79, 80, 81, 82, 83, 84, 85, 86, 87] (by decide +kernel) (by decide +kernel)
set_option maxRecDepth 20000 in
theorem gX8_ends_X8_alone : GoodIn wsX8_ends (wsV RX8 236 RX8 yX8_alone wsX8_alone) := goodIn_app (goodIn_of _ (by decide +kernel)) ggX8_ends_X8_alone
set_option maxRecDepth 20000 in
theorem ggX8_ends_X8_isOver : GoodIn wsX8_ends wsX8_isOver := goodIn_r _ [51, 2, 7, 52, 53, 54, 55, 56, 57, 58, 59, 60, 61, 62, 63, 64, 65, 66, 67, 68, 69, 70, 71, 72, 73, 74, 75, 76, 77, 78, 79, 80, 81, 82, 83, 84, 85, 86, 87] (by decide +kernel) (by decide +kernel)
set_option maxRecDepth 20000 in
theorem gX8_ends_X8_isOver : GoodIn wsX8_ends (wsV RX8 221 RX8 yX8_isOver wsX8_isOver) := goodIn_app (goodIn_of _ (by decide +kernel)) ggX8_ends_X8_isOver
set_option maxRecDepth 20000 in
theorem ggX8_ends_X8_goes : GoodIn wsX8_ends wsX8_goes := goodIn_r _ [31, 23, 7, 4, 5, 3, 32, 6, 33, 34, 35, 36, 37, 13, 38, 39, 40, 41, 42, 43, 44, 45, 46, 47, 16, 17, 18, 52, 53, 54, 55, 56, 57, 58, 59, 60, 61, 62, 63, 64, 65, 66, 67, 68, 69, 70, 71, 72, 73, 74, 75, 76, 77, 78, 79, 80, 81, 82, 83, 84, 85, 86, 87] (by decide +kernel) (by decide +kernel)
set_option maxRecDepth 20000 in
theorem gX8_ends_X8_goes : GoodIn wsX8_ends (wsV RX8 224 RX8 yX8_goes wsX8_goes) := goodIn_app (goodIn_of _ (by decide +kernel)) ggX8_ends_X8_goes
theorem dX8_ends_0 : decode cX8_ends 0 = .ok (.aload_n 0, 1) := by decide +kernel
theorem dX8_ends_1 : decode cX8_ends 1 = .ok (.aload_n 0, 1) := by decide +kernel
theorem dX8_ends_2 : decode cX8_ends 2 = .ok (.getfield 79, 3) := by decide +kernel
theorem dX8_ends_5 : decode cX8_ends 5 = .ok (.ifCond .ne 7, 3) := by decide +kernel
theorem dX8_ends_8 : decode cX8_ends 8 = .ok (.iconst 1, 1) := by decide +kernel
theorem dX8_ends_9 : decode cX8_ends 9 = .ok (.goto 4, 3) := by decide +kernel
theorem dX8_ends_12 : decode cX8_ends 12 = .ok (.iconst 0, 1) := by decide +kernel
theorem dX8_ends_13 : decode cX8_ends 13 = .ok (.iconst 0, 1) := by decide +kernel
theorem dX8_ends_14 : decode cX8_ends 14 = .ok (.invokevirtual 87, 3) := by decide +kernel
theorem dX8_ends_17 : decode cX8_ends 17 = .ok (.ifCond .eq 5, 3) := by decide +kernel
theorem dX8_ends_20 : decode cX8_ends 20 = .ok (.iconst 0, 1) := by decide +kernel
theorem dX8_ends_21 : decode cX8_ends 21 = .ok (.ireturn, 1) := by decide +kernel
theorem dX8_ends_22 : decode cX8_ends 22 = .ok (.iload_n 1, 1) := by decide +kernel
theorem dX8_ends_23 : decode cX8_ends 23 = .ok (.iconst 0, 1) := by decide +kernel
theorem dX8_ends_24 : decode cX8_ends 24 = .ok (.iconst 1, 1) := by decide +kernel
theorem dX8_ends_25 : decode cX8_ends 25 = .ok (.invokestatic 75, 3) := by decide +kernel
theorem dX8_ends_28 : decode cX8_ends 28 = .ok (.ifCond .ne 5, 3) := by decide +kernel
theorem dX8_ends_31 : decode cX8_ends 31 = .ok (.iconst (-1), 1) := by decide +kernel
theorem dX8_ends_32 : decode cX8_ends 32 = .ok (.ireturn, 1) := by decide +kernel
theorem dX8_ends_33 : decode cX8_ends 33 = .ok (.iload_n 1, 1) := by decide +kernel
theorem dX8_ends_34 : decode cX8_ends 34 = .ok (.iconst 1, 1) := by decide +kernel
theorem dX8_ends_35 : decode cX8_ends 35 = .ok (.if_icmp .ne 8, 3) := by decide +kernel
theorem dX8_ends_38 : decode cX8_ends 38 = .ok (.aload_n 0, 1) := by decide +kernel
theorem dX8_ends_39 : decode cX8_ends 39 = .ok (.invokevirtual 236, 3) := by decide +kernel
theorem dX8_ends_42 : decode cX8_ends 42 = .ok (.ireturn, 1) := by decide +kernel
theorem dX8_ends_43 : decode cX8_ends 43 = .ok (.iconst 0, 1) := by decide +kernel
theorem dX8_ends_44 : decode cX8_ends 44 = .ok (.istore_n 2, 1) := by decide +kernel
theorem dX8_ends_45 : decode cX8_ends 45 = .ok (.iload_n 2, 1) := by decide +kernel
theorem dX8_ends_46 : decode cX8_ends 46 = .ok (.aload_n 0, 1) := by decide +kernel
theorem dX8_ends_47 : decode cX8_ends 47 = .ok (.getfield 72, 3) := by decide +kernel
theorem dX8_ends_50 : decode cX8_ends 50 = .ok (.if_icmp .ge 84, 3) := by decide +kernel
theorem dX8_ends_53 : decode cX8_ends 53 = .ok (.aload_n 0, 1) := by decide +kernel
theorem dX8_ends_54 : decode cX8_ends 54 = .ok (.getfield 47, 3) := by decide +kernel
theorem dX8_ends_57 : decode cX8_ends 57 = .ok (.bipush 8, 2) := by decide +kernel
theorem dX8_ends_59 : decode cX8_ends 59 = .ok (.iload_n 2, 1) := by decide +kernel
theorem dX8_ends_60 : decode cX8_ends 60 = .ok (.iadd, 1) := by decide +kernel
theorem dX8_ends_61 : decode cX8_ends 61 = .ok (.aload_n 0, 1) := by decide +kernel
theorem dX8_ends_62 : decode cX8_ends 62 = .ok (.getfield 47, 3) := by decide +kernel
theorem dX8_ends_65 : decode cX8_ends 65 = .ok (.iload_n 2, 1) := by decide +kernel
theorem dX8_ends_66 : decode cX8_ends 66 = .ok (.iaload, 1) := by decide +kernel
theorem dX8_ends_67 : decode cX8_ends 67 = .ok (.iastore, 1) := by decide +kernel
theorem dX8_ends_68 : decode cX8_ends 68 = .ok (.aload_n 0, 1) := by decide +kernel
theorem dX8_ends_69 : decode cX8_ends 69 = .ok (.getfield 50, 3) := by decide +kernel
theorem dX8_ends_72 : decode cX8_ends 72 = .ok (.bipush 8, 2) := by decide +kernel
theorem dX8_ends_74 : decode cX8_ends 74 = .ok (.iload_n 2, 1) := by decide +kernel
theorem dX8_ends_75 : decode cX8_ends 75 = .ok (.iadd, 1) := by decide +kernel
theorem dX8_ends_76 : decode cX8_ends 76 = .ok (.aload_n 0, 1) := by decide +kernel
theorem dX8_ends_77 : decode cX8_ends 77 = .ok (.getfield 50, 3) := by decide +kernel
theorem dX8_ends_80 : decode cX8_ends 80 = .ok (.iload_n 2, 1) := by decide +kernel
theorem dX8_ends_81 : decode cX8_ends 81 = .ok (.iaload, 1) := by decide +kernel
theorem dX8_ends_82 : decode cX8_ends 82 = .ok (.iastore, 1) := by decide +kernel
theorem dX8_ends_83 : decode cX8_ends 83 = .ok (.aload_n 0, 1) := by decide +kernel
theorem dX8_ends_84 : decode cX8_ends 84 = .ok (.getfield 53, 3) := by decide +kernel
theorem dX8_ends_87 : decode cX8_ends 87 = .ok (.bipush 8, 2) := by decide +kernel
theorem dX8_ends_89 : decode cX8_ends 89 = .ok (.iload_n 2, 1) := by decide +kernel
theorem dX8_ends_90 : decode cX8_ends 90 = .ok (.iadd, 1) := by decide +kernel
theorem dX8_ends_91 : decode cX8_ends 91 = .ok (.aload_n 0, 1) := by decide +kernel
theorem dX8_ends_92 : decode cX8_ends 92 = .ok (.getfield 53, 3) := by decide +kernel
theorem dX8_ends_95 : decode cX8_ends 95 = .ok (.iload_n 2, 1) := by decide +kernel
theorem dX8_ends_96 : decode cX8_ends 96 = .ok (.iaload, 1) := by decide +kernel
theorem dX8_ends_97 : decode cX8_ends 97 = .ok (.iastore, 1) := by decide +kernel
theorem dX8_ends_98 : decode cX8_ends 98 = .ok (.aload_n 0, 1) := by decide +kernel
theorem dX8_ends_99 : decode cX8_ends 99 = .ok (.getfield 56, 3) := by decide +kernel
theorem dX8_ends_102 : decode cX8_ends 102 = .ok (.bipush 8, 2) := by decide +kernel
theorem dX8_ends_104 : decode cX8_ends 104 = .ok (.iload_n 2, 1) := by decide +kernel
theorem dX8_ends_105 : decode cX8_ends 105 = .ok (.iadd, 1) := by decide +kernel
theorem dX8_ends_106 : decode cX8_ends 106 = .ok (.aload_n 0, 1) := by decide +kernel
theorem dX8_ends_107 : decode cX8_ends 107 = .ok (.getfield 56, 3) := by decide +kernel
theorem dX8_ends_110 : decode cX8_ends 110 = .ok (.iload_n 2, 1) := by decide +kernel
theorem dX8_ends_111 : decode cX8_ends 111 = .ok (.iaload, 1) := by decide +kernel
theorem dX8_ends_112 : decode cX8_ends 112 = .ok (.iastore, 1) := by decide +kernel
theorem dX8_ends_113 : decode cX8_ends 113 = .ok (.aload_n 0, 1) := by decide +kernel
theorem dX8_ends_114 : decode cX8_ends 114 = .ok (.getfield 59, 3) := by decide +kernel
theorem dX8_ends_117 : decode cX8_ends 117 = .ok (.bipush 8, 2) := by decide +kernel
theorem dX8_ends_119 : decode cX8_ends 119 = .ok (.iload_n 2, 1) := by decide +kernel
theorem dX8_ends_120 : decode cX8_ends 120 = .ok (.iadd, 1) := by decide +kernel
theorem dX8_ends_121 : decode cX8_ends 121 = .ok (.aload_n 0, 1) := by decide +kernel
theorem dX8_ends_122 : decode cX8_ends 122 = .ok (.getfield 59, 3) := by decide +kernel
theorem dX8_ends_125 : decode cX8_ends 125 = .ok (.iload_n 2, 1) := by decide +kernel
theorem dX8_ends_126 : decode cX8_ends 126 = .ok (.baload, 1) := by decide +kernel
theorem dX8_ends_127 : decode cX8_ends 127 = .ok (.bastore, 1) := by decide +kernel
theorem dX8_ends_128 : decode cX8_ends 128 = .ok (.iinc 2 1, 3) := by decide +kernel
theorem dX8_ends_131 : decode cX8_ends 131 = .ok (.goto (-86), 3) := by decide +kernel
theorem dX8_ends_134 : decode cX8_ends 134 = .ok (.aload_n 0, 1) := by decide +kernel
theorem dX8_ends_135 : decode cX8_ends 135 = .ok (.bipush 8, 2) := by decide +kernel
theorem dX8_ends_137 : decode cX8_ends 137 = .ok (.invokevirtual 221, 3) := by decide +kernel
theorem dX8_ends_140 : decode cX8_ends 140 = .ok (.ifCond .eq 8, 3) := by decide +kernel
theorem dX8_ends_143 : decode cX8_ends 143 = .ok (.aload_n 0, 1) := by decide +kernel
theorem dX8_ends_144 : decode cX8_ends 144 = .ok (.getfield 211, 3) := by decide +kernel
theorem dX8_ends_147 : decode cX8_ends 147 = .ok (.ireturn, 1) := by decide +kernel
theorem dX8_ends_148 : decode cX8_ends 148 = .ok (.aload_n 0, 1) := by decide +kernel
theorem dX8_ends_149 : decode cX8_ends 149 = .ok (.getfield 208, 3) := by decide +kernel
theorem dX8_ends_152 : decode cX8_ends 152 = .ok (.istore_n 2, 1) := by decide +kernel
theorem dX8_ends_153 : decode cX8_ends 153 = .ok (.iconst 0, 1) := by decide +kernel
theorem dX8_ends_154 : decode cX8_ends 154 = .ok (.istore_n 3, 1) := by decide +kernel
theorem dX8_ends_155 : decode cX8_ends 155 = .ok (.aload_n 0, 1) := by decide +kernel
theorem dX8_ends_156 : decode cX8_ends 156 = .ok (.bipush 8, 2) := by decide +kernel
theorem dX8_ends_158 : decode cX8_ends 158 = .ok (.invokevirtual 221, 3) := by decide +kernel
theorem dX8_ends_161 : decode cX8_ends 161 = .ok (.ifCond .ne 50, 3) := by decide +kernel
theorem dX8_ends_164 : decode cX8_ends 164 = .ok (.iinc 2 1, 3) := by decide +kernel
theorem dX8_ends_167 : decode cX8_ends 167 = .ok (.iconst 0, 1) := by decide +kernel
theorem dX8_ends_168 : decode cX8_ends 168 = .ok (.istore 4, 2) := by decide +kernel
theorem dX8_ends_170 : decode cX8_ends 170 = .ok (.iload 4, 2) := by decide +kernel
theorem dX8_ends_172 : decode cX8_ends 172 = .ok (.aload_n 0, 1) := by decide +kernel
theorem dX8_ends_173 : decode cX8_ends 173 = .ok (.getfield 72, 3) := by decide +kernel
theorem dX8_ends_176 : decode cX8_ends 176 = .ok (.if_icmp .ge 32, 3) := by decide +kernel
theorem dX8_ends_179 : decode cX8_ends 179 = .ok (.aload_n 0, 1) := by decide +kernel
theorem dX8_ends_180 : decode cX8_ends 180 = .ok (.bipush 8, 2) := by decide +kernel
theorem dX8_ends_182 : decode cX8_ends 182 = .ok (.iload 4, 2) := by decide +kernel
theorem dX8_ends_184 : decode cX8_ends 184 = .ok (.iload_n 2, 1) := by decide +kernel
theorem dX8_ends_185 : decode cX8_ends 185 = .ok (.iconst 0, 1) := by decide +kernel
theorem dX8_ends_186 : decode cX8_ends 186 = .ok (.invokevirtual 224, 3) := by decide +kernel
theorem dX8_ends_189 : decode cX8_ends 189 = .ok (.ifCond .ne 7, 3) := by decide +kernel
theorem dX8_ends_192 : decode cX8_ends 192 = .ok (.iload_n 3, 1) := by decide +kernel
theorem dX8_ends_193 : decode cX8_ends 193 = .ok (.ifCond .eq 7, 3) := by decide +kernel
theorem dX8_ends_196 : decode cX8_ends 196 = .ok (.iconst 1, 1) := by decide +kernel
theorem dX8_ends_197 : decode cX8_ends 197 = .ok (.goto 4, 3) := by decide +kernel
theorem dX8_ends_200 : decode cX8_ends 200 = .ok (.iconst 0, 1) := by decide +kernel
theorem dX8_ends_201 : decode cX8_ends 201 = .ok (.istore_n 3, 1) := by decide +kernel
theorem dX8_ends_202 : decode cX8_ends 202 = .ok (.iinc 4 1, 3) := by decide +kernel
theorem dX8_ends_205 : decode cX8_ends 205 = .ok (.goto (-35), 3) := by decide +kernel
theorem dX8_ends_208 : decode cX8_ends 208 = .ok (.goto (-53), 3) := by decide +kernel
theorem dX8_ends_211 : decode cX8_ends 211 = .ok (.iload_n 2, 1) := by decide +kernel
theorem dX8_ends_212 : decode cX8_ends 212 = .ok (.ireturn, 1) := by decide +kernel
set_option maxRecDepth 20000 in
theorem ggX8_alone_X8_clear : GoodIn wsX8_alone wsX8_clear := goodIn_r _ [8, 9, 10, 11, 12, 3, 36, 37, 38, 39, 40, 41, 42, 43, 44, 45, 46, 47, 48, 49, 50, 51, 52, 53, 54, 55, 56, 57, 58, 59, 60, 61, 62, 63, 64, 65, 66, 67, 68, 69, 70, 71] (by decide +kernel) (by decide +kernel)
set_option maxRecDepth 20000 in
theorem gX8_alone_X8_clear : GoodIn wsX8_alone (wsV RX8 214 RX8 yX8_clear wsX8_clear) := goodIn_app (goodIn_of _ (by decide +kernel)) ggX8_alone_X8_clear
set_option maxRecDepth 20000 in
theorem ggX8_alone_X8_goes : GoodIn wsX8_alone wsX8_goes := goodIn_r _ [16, 2, 3, 10, 11, 9, 17, 12, 18, 19, 20, 21, 22, 7, 23, 24, 25, 26, 27, 28, 29, 30, 31, 32, 33, 34, 35, 36, 37, 38, 39, 40, 41, 42, 43, 44, 45, 46, 47, 48, 49, 50, 51, 52, 53, 54, 55, 56, 57, 58, 59, 60, 61, 62, 63, 64, 65, 66, 67, 68, 69, 70, 71] (by decide +kernel) (by decide +kernel)
set_option maxRecDepth 20000 in
theorem gX8_alone_X8_goes : GoodIn wsX8_alone (wsV RX8 224 RX8 yX8_goes wsX8_goes) := goodIn_app (goodIn_of _ (by decide +kernel)) ggX8_alone_X8_goes
theorem dX8_alone_0 : decode cX8_alone 0 = .ok (.iconst 0, 1) := by decide +kernel
theorem dX8_alone_1 : decode cX8_alone 1 = .ok (.istore_n 1, 1) := by decide +kernel
theorem dX8_alone_2 : decode cX8_alone 2 = .ok (.iconst 0, 1) := by decide +kernel
theorem dX8_alone_3 : decode cX8_alone 3 = .ok (.istore_n 2, 1) := by decide +kernel
theorem dX8_alone_4 : decode cX8_alone 4 = .ok (.iload_n 2, 1) := by decide +kernel
theorem dX8_alone_5 : decode cX8_alone 5 = .ok (.aload_n 0, 1) := by decide +kernel
theorem dX8_alone_6 : decode cX8_alone 6 = .ok (.getfield 72, 3) := by decide +kernel
theorem dX8_alone_9 : decode cX8_alone 9 = .ok (.if_icmp .ge 74, 3) := by decide +kernel
theorem dX8_alone_12 : decode cX8_alone 12 = .ok (.aload_n 0, 1) := by decide +kernel
theorem dX8_alone_13 : decode cX8_alone 13 = .ok (.bipush 8, 2) := by decide +kernel
theorem dX8_alone_15 : decode cX8_alone 15 = .ok (.aload_n 0, 1) := by decide +kernel
theorem dX8_alone_16 : decode cX8_alone 16 = .ok (.getfield 13, 3) := by decide +kernel
theorem dX8_alone_19 : decode cX8_alone 19 = .ok (.iload_n 2, 1) := by decide +kernel
theorem dX8_alone_20 : decode cX8_alone 20 = .ok (.iaload, 1) := by decide +kernel
theorem dX8_alone_21 : decode cX8_alone 21 = .ok (.iadd, 1) := by decide +kernel
theorem dX8_alone_22 : decode cX8_alone 22 = .ok (.invokevirtual 214, 3) := by decide +kernel
theorem dX8_alone_25 : decode cX8_alone 25 = .ok (.iconst 0, 1) := by decide +kernel
theorem dX8_alone_26 : decode cX8_alone 26 = .ok (.istore_n 3, 1) := by decide +kernel
theorem dX8_alone_27 : decode cX8_alone 27 = .ok (.aload_n 0, 1) := by decide +kernel
theorem dX8_alone_28 : decode cX8_alone 28 = .ok (.getfield 59, 3) := by decide +kernel
theorem dX8_alone_31 : decode cX8_alone 31 = .ok (.bipush 8, 2) := by decide +kernel
theorem dX8_alone_33 : decode cX8_alone 33 = .ok (.aload_n 0, 1) := by decide +kernel
theorem dX8_alone_34 : decode cX8_alone 34 = .ok (.getfield 13, 3) := by decide +kernel
theorem dX8_alone_37 : decode cX8_alone 37 = .ok (.iload_n 2, 1) := by decide +kernel
theorem dX8_alone_38 : decode cX8_alone 38 = .ok (.iaload, 1) := by decide +kernel
theorem dX8_alone_39 : decode cX8_alone 39 = .ok (.iadd, 1) := by decide +kernel
theorem dX8_alone_40 : decode cX8_alone 40 = .ok (.baload, 1) := by decide +kernel
theorem dX8_alone_41 : decode cX8_alone 41 = .ok (.ifCond .ne 36, 3) := by decide +kernel
theorem dX8_alone_44 : decode cX8_alone 44 = .ok (.iinc 3 1, 3) := by decide +kernel
theorem dX8_alone_47 : decode cX8_alone 47 = .ok (.aload_n 0, 1) := by decide +kernel
theorem dX8_alone_48 : decode cX8_alone 48 = .ok (.bipush 8, 2) := by decide +kernel
theorem dX8_alone_50 : decode cX8_alone 50 = .ok (.iload_n 2, 1) := by decide +kernel
theorem dX8_alone_51 : decode cX8_alone 51 = .ok (.iload_n 3, 1) := by decide +kernel
theorem dX8_alone_52 : decode cX8_alone 52 = .ok (.iconst 1, 1) := by decide +kernel
theorem dX8_alone_53 : decode cX8_alone 53 = .ok (.invokevirtual 224, 3) := by decide +kernel
theorem dX8_alone_56 : decode cX8_alone 56 = .ok (.istore 4, 2) := by decide +kernel
theorem dX8_alone_58 : decode cX8_alone 58 = .ok (.iload 4, 2) := by decide +kernel
theorem dX8_alone_60 : decode cX8_alone 60 = .ok (.ifCond .eq 12, 3) := by decide +kernel
theorem dX8_alone_63 : decode cX8_alone 63 = .ok (.iload_n 3, 1) := by decide +kernel
theorem dX8_alone_64 : decode cX8_alone 64 = .ok (.iload_n 1, 1) := by decide +kernel
theorem dX8_alone_65 : decode cX8_alone 65 = .ok (.if_icmp .le 7, 3) := by decide +kernel
theorem dX8_alone_68 : decode cX8_alone 68 = .ok (.iload_n 3, 1) := by decide +kernel
theorem dX8_alone_69 : decode cX8_alone 69 = .ok (.goto 4, 3) := by decide +kernel
theorem dX8_alone_72 : decode cX8_alone 72 = .ok (.iload_n 1, 1) := by decide +kernel
theorem dX8_alone_73 : decode cX8_alone 73 = .ok (.istore_n 1, 1) := by decide +kernel
theorem dX8_alone_74 : decode cX8_alone 74 = .ok (.goto (-47), 3) := by decide +kernel
theorem dX8_alone_77 : decode cX8_alone 77 = .ok (.iinc 2 1, 3) := by decide +kernel
theorem dX8_alone_80 : decode cX8_alone 80 = .ok (.goto (-76), 3) := by decide +kernel
theorem dX8_alone_83 : decode cX8_alone 83 = .ok (.iload_n 1, 1) := by decide +kernel
theorem dX8_alone_84 : decode cX8_alone 84 = .ok (.ireturn, 1) := by decide +kernel
set_option maxRecDepth 20000 in
theorem ggX8_ill_X8_isNo : GoodIn wsX8_ill wsX8_isNo := goodIn_r _ [10, 11, 12, 13, 9, 14, 20, 21, 22, 23, 24, 25, 26, 27, 28, 29, 30, 31, 32, 33, 34, 35, 36, 37, 38, 39, 40, 41, 42, 43, 44, 45, 46, 47, 48, 49, 50, 51, 52, 53, 54, 55] (by decide +kernel) (by decide +kernel)
set_option maxRecDepth 20000 in
theorem gX8_ill_X8_isNo : GoodIn wsX8_ill (wsV RX8 83 RX8 yX8_isNo wsX8_isNo) := goodIn_app (goodIn_of _ (by decide +kernel)) ggX8_ill_X8_isNo
set_option maxRecDepth 20000 in
theorem ggX8_ill_X8_fails : GoodIn wsX8_ill wsX8_fails := goodIn_r _ [18, 19, 20, 21, 22, 23, 24, 25, 26, 27, 28, 29, 30, 31, 32, 33, 34, 35, 36, 37, 38, 39, 40, 41, 42, 43, 44, 45, 46, 47, 48, 49, 50, 51, 52, 53, 54, 55] (by decide +kernel) (by decide +kernel)
set_option maxRecDepth 20000 in
theorem gX8_ill_X8_fails : GoodIn wsX8_ill (wsV RX8 87 RX8 yX8_fails wsX8_fails) := goodIn_app (goodIn_of _ (by decide +kernel)) ggX8_ill_X8_fails
theorem dX8_ill_0 : decode cX8_ill 0 = .ok (.aload_n 0, 1) := by decide +kernel
theorem dX8_ill_1 : decode cX8_ill 1 = .ok (.aload_n 0, 1) := by decide +kernel
theorem dX8_ill_2 : decode cX8_ill 2 = .ok (.iload_n 1, 1) := by decide +kernel
theorem dX8_ill_3 : decode cX8_ill 3 = .ok (.invokevirtual 83, 3) := by decide +kernel
theorem dX8_ill_6 : decode cX8_ill 6 = .ok (.aload_n 0, 1) := by decide +kernel
theorem dX8_ill_7 : decode cX8_ill 7 = .ok (.getfield 79, 3) := by decide +kernel
theorem dX8_ill_10 : decode cX8_ill 10 = .ok (.ifCond .ne 7, 3) := by decide +kernel
theorem dX8_ill_13 : decode cX8_ill 13 = .ok (.iconst 1, 1) := by decide +kernel
theorem dX8_ill_14 : decode cX8_ill 14 = .ok (.goto 4, 3) := by decide +kernel
theorem dX8_ill_17 : decode cX8_ill 17 = .ok (.iconst 0, 1) := by decide +kernel
theorem dX8_ill_18 : decode cX8_ill 18 = .ok (.invokevirtual 87, 3) := by decide +kernel
theorem dX8_ill_21 : decode cX8_ill 21 = .ok (.ifCond .ne 12, 3) := by decide +kernel
theorem dX8_ill_24 : decode cX8_ill 24 = .ok (.aload_n 0, 1) := by decide +kernel
theorem dX8_ill_25 : decode cX8_ill 25 = .ok (.getfield 59, 3) := by decide +kernel
theorem dX8_ill_28 : decode cX8_ill 28 = .ok (.iload_n 1, 1) := by decide +kernel
theorem dX8_ill_29 : decode cX8_ill 29 = .ok (.baload, 1) := by decide +kernel
theorem dX8_ill_30 : decode cX8_ill 30 = .ok (.ifCond .eq 5, 3) := by decide +kernel
theorem dX8_ill_33 : decode cX8_ill 33 = .ok (.iconst 0, 1) := by decide +kernel
theorem dX8_ill_34 : decode cX8_ill 34 = .ok (.ireturn, 1) := by decide +kernel
theorem dX8_ill_35 : decode cX8_ill 35 = .ok (.aload_n 0, 1) := by decide +kernel
theorem dX8_ill_36 : decode cX8_ill 36 = .ok (.getfield 59, 3) := by decide +kernel
theorem dX8_ill_39 : decode cX8_ill 39 = .ok (.iload_n 1, 1) := by decide +kernel
theorem dX8_ill_40 : decode cX8_ill 40 = .ok (.iconst 1, 1) := by decide +kernel
theorem dX8_ill_41 : decode cX8_ill 41 = .ok (.bastore, 1) := by decide +kernel
theorem dX8_ill_42 : decode cX8_ill 42 = .ok (.aload_n 0, 1) := by decide +kernel
theorem dX8_ill_43 : decode cX8_ill 43 = .ok (.getfield 66, 3) := by decide +kernel
theorem dX8_ill_46 : decode cX8_ill 46 = .ok (.iload_n 1, 1) := by decide +kernel
theorem dX8_ill_47 : decode cX8_ill 47 = .ok (.aload_n 0, 1) := by decide +kernel
theorem dX8_ill_48 : decode cX8_ill 48 = .ok (.getfield 208, 3) := by decide +kernel
theorem dX8_ill_51 : decode cX8_ill 51 = .ok (.iastore, 1) := by decide +kernel
theorem dX8_ill_52 : decode cX8_ill 52 = .ok (.aload_n 0, 1) := by decide +kernel
theorem dX8_ill_53 : decode cX8_ill 53 = .ok (.aload_n 0, 1) := by decide +kernel
theorem dX8_ill_54 : decode cX8_ill 54 = .ok (.getfield 208, 3) := by decide +kernel
theorem dX8_ill_57 : decode cX8_ill 57 = .ok (.putfield 211, 3) := by decide +kernel
theorem dX8_ill_60 : decode cX8_ill 60 = .ok (.iconst 1, 1) := by decide +kernel
theorem dX8_ill_61 : decode cX8_ill 61 = .ok (.ireturn, 1) := by decide +kernel
theorem dJ9_max_7cf53_0 : decode cJ9_max_7cf53 0 = .ok (.iload_n 0, 1) := by decide +kernel
theorem dJ9_max_7cf53_1 : decode cJ9_max_7cf53 1 = .ok (.iload_n 1, 1) := by decide +kernel
theorem dJ9_max_7cf53_2 : decode cJ9_max_7cf53 2 = .ok (.if_icmp .lt 7, 3) := by decide +kernel
theorem dJ9_max_7cf53_5 : decode cJ9_max_7cf53 5 = .ok (.iload_n 0, 1) := by decide +kernel
theorem dJ9_max_7cf53_6 : decode cJ9_max_7cf53 6 = .ok (.goto 4, 3) := by decide +kernel
theorem dJ9_max_7cf53_9 : decode cJ9_max_7cf53 9 = .ok (.iload_n 1, 1) := by decide +kernel
theorem dJ9_max_7cf53_10 : decode cJ9_max_7cf53 10 = .ok (.ireturn, 1) := by decide +kernel
theorem dJ9_min_7cf53_0 : decode cJ9_min_7cf53 0 = .ok (.iload_n 0, 1) := by decide +kernel
theorem dJ9_min_7cf53_1 : decode cJ9_min_7cf53 1 = .ok (.iload_n 1, 1) := by decide +kernel
theorem dJ9_min_7cf53_2 : decode cJ9_min_7cf53 2 = .ok (.if_icmp .gt 7, 3) := by decide +kernel
theorem dJ9_min_7cf53_5 : decode cJ9_min_7cf53 5 = .ok (.iload_n 0, 1) := by decide +kernel
theorem dJ9_min_7cf53_6 : decode cJ9_min_7cf53 6 = .ok (.goto 4, 3) := by decide +kernel
theorem dJ9_min_7cf53_9 : decode cJ9_min_7cf53 9 = .ok (.iload_n 1, 1) := by decide +kernel
theorem dJ9_min_7cf53_10 : decode cJ9_min_7cf53 10 = .ok (.ireturn, 1) := by decide +kernel
set_option maxRecDepth 20000 in
theorem ggJ0_length_8abf5_J0_coder_7d493 : GoodIn wsJ0_length_8abf5 wsJ0_coder_7d493 := goodIn_r _ [6, 7, 8] (by decide +kernel) (by decide +kernel)
set_option maxRecDepth 20000 in
theorem gJ0_length_8abf5_J0_coder_7d493 : GoodIn wsJ0_length_8abf5 (wsV RJ0 335 RJ0 yJ0_coder_7d493 wsJ0_coder_7d493) := goodIn_app (goodIn_of _ (by decide +kernel)) ggJ0_length_8abf5_J0_coder_7d493
theorem dJ0_length_8abf5_0 : decode cJ0_length_8abf5 0 = .ok (.aload_n 0, 1) := by decide +kernel
theorem dJ0_length_8abf5_1 : decode cJ0_length_8abf5 1 = .ok (.getfield 9, 3) := by decide +kernel
theorem dJ0_length_8abf5_4 : decode cJ0_length_8abf5 4 = .ok (.arraylength, 1) := by decide +kernel
theorem dJ0_length_8abf5_5 : decode cJ0_length_8abf5 5 = .ok (.aload_n 0, 1) := by decide +kernel
theorem dJ0_length_8abf5_6 : decode cJ0_length_8abf5 6 = .ok (.invokevirtual 335, 3) := by decide +kernel
theorem dJ0_length_8abf5_9 : decode cJ0_length_8abf5 9 = .ok (.ishr, 1) := by decide +kernel
theorem dJ0_length_8abf5_10 : decode cJ0_length_8abf5 10 = .ok (.ireturn, 1) := by decide +kernel
set_option maxRecDepth 20000 in
theorem ggJ0_charAt_5068e_J0_isLatin1_aae02 : GoodIn wsJ0_charAt_5068e wsJ0_isLatin1_aae02 := goodIn_r _ [6, 7, 8] (by decide +kernel) (by decide +kernel)
set_option maxRecDepth 20000 in
theorem gJ0_charAt_5068e_J0_isLatin1_aae02 : GoodIn wsJ0_charAt_5068e (wsV RJ0 492 RJ0 yJ0_isLatin1_aae02 wsJ0_isLatin1_aae02) := goodIn_app (goodIn_of _ (by decide +kernel)) ggJ0_charAt_5068e_J0_isLatin1_aae02
set_option maxRecDepth 20000 in
theorem ggJ0_charAt_5068e_J1_charAt_3b067 : GoodIn wsJ0_charAt_5068e wsJ1_charAt_3b067 := goodIn_r _ [12, 13, 14, 5, 15, 16, 17, 18, 19, 20] (by decide +kernel) (by decide +kernel)
set_option maxRecDepth 20000 in
theorem gJ0_charAt_5068e_J1_charAt_3b067 : GoodIn wsJ0_charAt_5068e (va_wsS RJ0 495 yJ1_charAt_3b067 wsJ1_charAt_3b067) := goodIn_app (goodIn_of _ (by decide +kernel)) ggJ0_charAt_5068e_J1_charAt_3b067
set_option maxRecDepth 20000 in
theorem ggJ0_charAt_5068e_J2_charAt_3b067 : GoodIn wsJ0_charAt_5068e wsJ2_charAt_3b067 := goodIn_r _ [24, 25, 26, 23, 27, 28, 29, 30, 31, 14, 5, 15, 16, 17, 18, 19, 20, 32, 33, 34, 35, 36, 37] (by decide +kernel) (by decide +kernel)
set_option maxRecDepth 20000 in
theorem gJ0_charAt_5068e_J2_charAt_3b067 : GoodIn wsJ0_charAt_5068e (va_wsS RJ0 498 yJ2_charAt_3b067 wsJ2_charAt_3b067) := goodIn_app (goodIn_of _ (by decide +kernel)) ggJ0_charAt_5068e_J2_charAt_3b067
theorem dJ0_charAt_5068e_0 : decode cJ0_charAt_5068e 0 = .ok (.aload_n 0, 1) := by decide +kernel
theorem dJ0_charAt_5068e_1 : decode cJ0_charAt_5068e 1 = .ok (.invokevirtual 492, 3) := by decide +kernel
theorem dJ0_charAt_5068e_4 : decode cJ0_charAt_5068e 4 = .ok (.ifCond .eq 12, 3) := by decide +kernel
theorem dJ0_charAt_5068e_7 : decode cJ0_charAt_5068e 7 = .ok (.aload_n 0, 1) := by decide +kernel
theorem dJ0_charAt_5068e_8 : decode cJ0_charAt_5068e 8 = .ok (.getfield 9, 3) := by decide +kernel
theorem dJ0_charAt_5068e_11 : decode cJ0_charAt_5068e 11 = .ok (.iload_n 1, 1) := by decide +kernel
theorem dJ0_charAt_5068e_12 : decode cJ0_charAt_5068e 12 = .ok (.invokestatic 495, 3) := by decide +kernel
theorem dJ0_charAt_5068e_15 : decode cJ0_charAt_5068e 15 = .ok (.ireturn, 1) := by decide +kernel
theorem dJ0_charAt_5068e_16 : decode cJ0_charAt_5068e 16 = .ok (.aload_n 0, 1) := by decide +kernel
theorem dJ0_charAt_5068e_17 : decode cJ0_charAt_5068e 17 = .ok (.getfield 9, 3) := by decide +kernel
theorem dJ0_charAt_5068e_20 : decode cJ0_charAt_5068e 20 = .ok (.iload_n 1, 1) := by decide +kernel
theorem dJ0_charAt_5068e_21 : decode cJ0_charAt_5068e 21 = .ok (.invokestatic 498, 3) := by decide +kernel
theorem dJ0_charAt_5068e_24 : decode cJ0_charAt_5068e 24 = .ok (.ireturn, 1) := by decide +kernel
theorem dJ0_coder_7d493_0 : decode cJ0_coder_7d493 0 = .ok (.getstatic 38, 3) := by decide +kernel
theorem dJ0_coder_7d493_3 : decode cJ0_coder_7d493 3 = .ok (.ifCond .eq 10, 3) := by decide +kernel
theorem dJ0_coder_7d493_6 : decode cJ0_coder_7d493 6 = .ok (.aload_n 0, 1) := by decide +kernel
theorem dJ0_coder_7d493_7 : decode cJ0_coder_7d493 7 = .ok (.getfield 15, 3) := by decide +kernel
theorem dJ0_coder_7d493_10 : decode cJ0_coder_7d493 10 = .ok (.goto 4, 3) := by decide +kernel
theorem dJ0_coder_7d493_13 : decode cJ0_coder_7d493 13 = .ok (.iconst 1, 1) := by decide +kernel
theorem dJ0_coder_7d493_14 : decode cJ0_coder_7d493 14 = .ok (.ireturn, 1) := by decide +kernel
theorem dJ0_isLatin1_aae02_0 : decode cJ0_isLatin1_aae02 0 = .ok (.getstatic 38, 3) := by decide +kernel
theorem dJ0_isLatin1_aae02_3 : decode cJ0_isLatin1_aae02 3 = .ok (.ifCond .eq 14, 3) := by decide +kernel
theorem dJ0_isLatin1_aae02_6 : decode cJ0_isLatin1_aae02 6 = .ok (.aload_n 0, 1) := by decide +kernel
theorem dJ0_isLatin1_aae02_7 : decode cJ0_isLatin1_aae02 7 = .ok (.getfield 15, 3) := by decide +kernel
theorem dJ0_isLatin1_aae02_10 : decode cJ0_isLatin1_aae02 10 = .ok (.ifCond .ne 7, 3) := by decide +kernel
theorem dJ0_isLatin1_aae02_13 : decode cJ0_isLatin1_aae02 13 = .ok (.iconst 1, 1) := by decide +kernel
theorem dJ0_isLatin1_aae02_14 : decode cJ0_isLatin1_aae02 14 = .ok (.goto 4, 3) := by decide +kernel
theorem dJ0_isLatin1_aae02_17 : decode cJ0_isLatin1_aae02 17 = .ok (.iconst 0, 1) := by decide +kernel
theorem dJ0_isLatin1_aae02_18 : decode cJ0_isLatin1_aae02 18 = .ok (.ireturn, 1) := by decide +kernel
set_option maxRecDepth 20000 in
theorem ggJ0_checkIndex_df160_J3_checkIndex_8e157 : GoodIn wsJ0_checkIndex_df160 wsJ3_checkIndex_8e157 := goodIn_r _ [5] (by decide +kernel) (by decide +kernel)
set_option maxRecDepth 20000 in
theorem gJ0_checkIndex_df160_J3_checkIndex_8e157 : GoodIn wsJ0_checkIndex_df160 (va_wsS RJ0 1059 yJ3_checkIndex_8e157 wsJ3_checkIndex_8e157) := goodIn_app (goodIn_of _ (by decide +kernel)) ggJ0_checkIndex_df160_J3_checkIndex_8e157
theorem dJ0_checkIndex_df160_0 : decode cJ0_checkIndex_df160 0 = .ok (.iload_n 0, 1) := by decide +kernel
theorem dJ0_checkIndex_df160_1 : decode cJ0_checkIndex_df160 1 = .ok (.iload_n 1, 1) := by decide +kernel
theorem dJ0_checkIndex_df160_2 : decode cJ0_checkIndex_df160 2 = .ok (.getstatic 1053, 3) := by decide +kernel
theorem dJ0_checkIndex_df160_5 : decode cJ0_checkIndex_df160 5 = .ok (.invokestatic 1059, 3) := by decide +kernel
theorem dJ0_checkIndex_df160_8 : decode cJ0_checkIndex_df160 8 = .ok (.pop, 1) := by decide +kernel
theorem dJ0_checkIndex_df160_9 : decode cJ0_checkIndex_df160 9 = .ok (.return_, 1) := by decide +kernel
set_option maxRecDepth 20000 in
theorem ggJ1_charAt_3b067_J0_checkIndex_df160 : GoodIn wsJ1_charAt_3b067 wsJ0_checkIndex_df160 := goodIn_r _ [4, 5, 6, 7, 8, 9] (by decide +kernel) (by decide +kernel)
set_option maxRecDepth 20000 in
theorem gJ1_charAt_3b067_J0_checkIndex_df160 : GoodIn wsJ1_charAt_3b067 (va_wsS RJ1 9 yJ0_checkIndex_df160 wsJ0_checkIndex_df160) := goodIn_app (goodIn_of _ (by decide +kernel)) ggJ1_charAt_3b067_J0_checkIndex_df160
theorem dJ1_charAt_3b067_0 : decode cJ1_charAt_3b067 0 = .ok (.iload_n 1, 1) := by decide +kernel
theorem dJ1_charAt_3b067_1 : decode cJ1_charAt_3b067 1 = .ok (.aload_n 0, 1) := by decide +kernel
theorem dJ1_charAt_3b067_2 : decode cJ1_charAt_3b067 2 = .ok (.arraylength, 1) := by decide +kernel
theorem dJ1_charAt_3b067_3 : decode cJ1_charAt_3b067 3 = .ok (.invokestatic 9, 3) := by decide +kernel
theorem dJ1_charAt_3b067_6 : decode cJ1_charAt_3b067 6 = .ok (.aload_n 0, 1) := by decide +kernel
theorem dJ1_charAt_3b067_7 : decode cJ1_charAt_3b067 7 = .ok (.iload_n 1, 1) := by decide +kernel
theorem dJ1_charAt_3b067_8 : decode cJ1_charAt_3b067 8 = .ok (.baload, 1) := by decide +kernel
theorem dJ1_charAt_3b067_9 : decode cJ1_charAt_3b067 9 = .ok (.sipush 255, 3) := by decide +kernel
theorem dJ1_charAt_3b067_12 : decode cJ1_charAt_3b067 12 = .ok (.iand, 1) := by decide +kernel
theorem dJ1_charAt_3b067_13 : decode cJ1_charAt_3b067 13 = .ok (.i2c, 1) := by decide +kernel
theorem dJ1_charAt_3b067_14 : decode cJ1_charAt_3b067 14 = .ok (.ireturn, 1) := by decide +kernel
set_option maxRecDepth 20000 in
theorem ggJ2_getChar_3b067_J2_length_9d52b : GoodIn wsJ2_getChar_3b067 wsJ2_length_9d52b := goodIn_r _ [7] (by decide +kernel) (by decide +kernel)
set_option maxRecDepth 20000 in
theorem gJ2_getChar_3b067_J2_length_9d52b : GoodIn wsJ2_getChar_3b067 (va_wsS RJ2 48 yJ2_length_9d52b wsJ2_length_9d52b) := goodIn_app (goodIn_of _ (by decide +kernel)) ggJ2_getChar_3b067_J2_length_9d52b
theorem dJ2_getChar_3b067_0 : decode cJ2_getChar_3b067 0 = .ok (.getstatic 44, 3) := by decide +kernel
theorem dJ2_getChar_3b067_3 : decode cJ2_getChar_3b067 3 = .ok (.ifCond .ne 25, 3) := by decide +kernel
theorem dJ2_getChar_3b067_6 : decode cJ2_getChar_3b067 6 = .ok (.iload_n 1, 1) := by decide +kernel
theorem dJ2_getChar_3b067_7 : decode cJ2_getChar_3b067 7 = .ok (.ifCond .lt 11, 3) := by decide +kernel
theorem dJ2_getChar_3b067_10 : decode cJ2_getChar_3b067 10 = .ok (.iload_n 1, 1) := by decide +kernel
theorem dJ2_getChar_3b067_11 : decode cJ2_getChar_3b067 11 = .ok (.aload_n 0, 1) := by decide +kernel
theorem dJ2_getChar_3b067_12 : decode cJ2_getChar_3b067 12 = .ok (.invokestatic 48, 3) := by decide +kernel
theorem dJ2_getChar_3b067_15 : decode cJ2_getChar_3b067 15 = .ok (.if_icmp .lt 13, 3) := by decide +kernel
theorem dJ2_getChar_3b067_18 : decode cJ2_getChar_3b067 18 = .ok (.new 52, 3) := by decide +kernel
theorem dJ2_getChar_3b067_21 : decode cJ2_getChar_3b067 21 = .ok (.dup, 1) := by decide +kernel
theorem dJ2_getChar_3b067_22 : decode cJ2_getChar_3b067 22 = .ok (.ldc 54, 2) := by decide +kernel
theorem dJ2_getChar_3b067_24 : decode cJ2_getChar_3b067 24 = .ok (.invokespecial 56, 3) := by decide +kernel
theorem dJ2_getChar_3b067_27 : decode cJ2_getChar_3b067 27 = .ok (.athrow, 1) := by decide +kernel
theorem dJ2_getChar_3b067_28 : decode cJ2_getChar_3b067 28 = .ok (.iload_n 1, 1) := by decide +kernel
theorem dJ2_getChar_3b067_29 : decode cJ2_getChar_3b067 29 = .ok (.iconst 1, 1) := by decide +kernel
theorem dJ2_getChar_3b067_30 : decode cJ2_getChar_3b067 30 = .ok (.ishl, 1) := by decide +kernel
theorem dJ2_getChar_3b067_31 : decode cJ2_getChar_3b067 31 = .ok (.istore_n 1, 1) := by decide +kernel
theorem dJ2_getChar_3b067_32 : decode cJ2_getChar_3b067 32 = .ok (.aload_n 0, 1) := by decide +kernel
theorem dJ2_getChar_3b067_33 : decode cJ2_getChar_3b067 33 = .ok (.iload_n 1, 1) := by decide +kernel
theorem dJ2_getChar_3b067_34 : decode cJ2_getChar_3b067 34 = .ok (.iinc 1 1, 3) := by decide +kernel
theorem dJ2_getChar_3b067_37 : decode cJ2_getChar_3b067 37 = .ok (.baload, 1) := by decide +kernel
theorem dJ2_getChar_3b067_38 : decode cJ2_getChar_3b067 38 = .ok (.sipush 255, 3) := by decide +kernel
theorem dJ2_getChar_3b067_41 : decode cJ2_getChar_3b067 41 = .ok (.iand, 1) := by decide +kernel
theorem dJ2_getChar_3b067_42 : decode cJ2_getChar_3b067 42 = .ok (.getstatic 59, 3) := by decide +kernel
theorem dJ2_getChar_3b067_45 : decode cJ2_getChar_3b067 45 = .ok (.ishl, 1) := by decide +kernel
theorem dJ2_getChar_3b067_46 : decode cJ2_getChar_3b067 46 = .ok (.aload_n 0, 1) := by decide +kernel
theorem dJ2_getChar_3b067_47 : decode cJ2_getChar_3b067 47 = .ok (.iload_n 1, 1) := by decide +kernel
theorem dJ2_getChar_3b067_48 : decode cJ2_getChar_3b067 48 = .ok (.baload, 1) := by decide +kernel
theorem dJ2_getChar_3b067_49 : decode cJ2_getChar_3b067 49 = .ok (.sipush 255, 3) := by decide +kernel
theorem dJ2_getChar_3b067_52 : decode cJ2_getChar_3b067 52 = .ok (.iand, 1) := by decide +kernel
theorem dJ2_getChar_3b067_53 : decode cJ2_getChar_3b067 53 = .ok (.getstatic 63, 3) := by decide +kernel
theorem dJ2_getChar_3b067_56 : decode cJ2_getChar_3b067 56 = .ok (.ishl, 1) := by decide +kernel
theorem dJ2_getChar_3b067_57 : decode cJ2_getChar_3b067 57 = .ok (.ior, 1) := by decide +kernel
theorem dJ2_getChar_3b067_58 : decode cJ2_getChar_3b067 58 = .ok (.i2c, 1) := by decide +kernel
theorem dJ2_getChar_3b067_59 : decode cJ2_getChar_3b067 59 = .ok (.ireturn, 1) := by decide +kernel
theorem dJ2_length_9d52b_0 : decode cJ2_length_9d52b 0 = .ok (.aload_n 0, 1) := by decide +kernel
theorem dJ2_length_9d52b_1 : decode cJ2_length_9d52b 1 = .ok (.arraylength, 1) := by decide +kernel
theorem dJ2_length_9d52b_2 : decode cJ2_length_9d52b 2 = .ok (.iconst 1, 1) := by decide +kernel
theorem dJ2_length_9d52b_3 : decode cJ2_length_9d52b 3 = .ok (.ishr, 1) := by decide +kernel
theorem dJ2_length_9d52b_4 : decode cJ2_length_9d52b 4 = .ok (.ireturn, 1) := by decide +kernel
set_option maxRecDepth 20000 in
theorem ggJ2_charAt_3b067_J2_checkIndex_2214a : GoodIn wsJ2_charAt_3b067 wsJ2_checkIndex_2214a := goodIn_r _ [4, 5, 6, 3, 7, 8, 9, 10, 11, 12, 13, 14, 15, 16] (by decide +kernel) (by decide +kernel)
set_option maxRecDepth 20000 in
theorem gJ2_charAt_3b067_J2_checkIndex_2214a : GoodIn wsJ2_charAt_3b067 (va_wsS RJ2 67 yJ2_checkIndex_2214a wsJ2_checkIndex_2214a) := goodIn_app (goodIn_of _ (by decide +kernel)) ggJ2_charAt_3b067_J2_checkIndex_2214a
set_option maxRecDepth 20000 in
theorem ggJ2_charAt_3b067_J2_getChar_3b067 : GoodIn wsJ2_charAt_3b067 wsJ2_getChar_3b067 := goodIn_r _ [19, 20, 21, 22, 5, 6, 3, 7] (by decide +kernel) (by decide +kernel)
set_option maxRecDepth 20000 in
theorem gJ2_charAt_3b067_J2_getChar_3b067 : GoodIn wsJ2_charAt_3b067 (va_wsS RJ2 71 yJ2_getChar_3b067 wsJ2_getChar_3b067) := goodIn_app (goodIn_of _ (by decide +kernel)) ggJ2_charAt_3b067_J2_getChar_3b067
theorem dJ2_charAt_3b067_0 : decode cJ2_charAt_3b067 0 = .ok (.iload_n 1, 1) := by decide +kernel
theorem dJ2_charAt_3b067_1 : decode cJ2_charAt_3b067 1 = .ok (.aload_n 0, 1) := by decide +kernel
theorem dJ2_charAt_3b067_2 : decode cJ2_charAt_3b067 2 = .ok (.invokestatic 67, 3) := by decide +kernel
theorem dJ2_charAt_3b067_5 : decode cJ2_charAt_3b067 5 = .ok (.aload_n 0, 1) := by decide +kernel
theorem dJ2_charAt_3b067_6 : decode cJ2_charAt_3b067 6 = .ok (.iload_n 1, 1) := by decide +kernel
theorem dJ2_charAt_3b067_7 : decode cJ2_charAt_3b067 7 = .ok (.invokestatic 71, 3) := by decide +kernel
theorem dJ2_charAt_3b067_10 : decode cJ2_charAt_3b067 10 = .ok (.ireturn, 1) := by decide +kernel
set_option maxRecDepth 20000 in
theorem ggJ2_checkIndex_2214a_J2_length_9d52b : GoodIn wsJ2_checkIndex_2214a wsJ2_length_9d52b := goodIn_r _ [4] (by decide +kernel) (by decide +kernel)
set_option maxRecDepth 20000 in
theorem gJ2_checkIndex_2214a_J2_length_9d52b : GoodIn wsJ2_checkIndex_2214a (va_wsS RJ2 48 yJ2_length_9d52b wsJ2_length_9d52b) := goodIn_app (goodIn_of _ (by decide +kernel)) ggJ2_checkIndex_2214a_J2_length_9d52b
set_option maxRecDepth 20000 in
theorem ggJ2_checkIndex_2214a_J0_checkIndex_df160 : GoodIn wsJ2_checkIndex_2214a wsJ0_checkIndex_df160 := goodIn_r _ [8, 9, 10, 11, 12, 13] (by decide +kernel) (by decide +kernel)
set_option maxRecDepth 20000 in
theorem gJ2_checkIndex_2214a_J0_checkIndex_df160 : GoodIn wsJ2_checkIndex_2214a (va_wsS RJ2 414 yJ0_checkIndex_df160 wsJ0_checkIndex_df160) := goodIn_app (goodIn_of _ (by decide +kernel)) ggJ2_checkIndex_2214a_J0_checkIndex_df160
theorem dJ2_checkIndex_2214a_0 : decode cJ2_checkIndex_2214a 0 = .ok (.iload_n 0, 1) := by decide +kernel
theorem dJ2_checkIndex_2214a_1 : decode cJ2_checkIndex_2214a 1 = .ok (.aload_n 1, 1) := by decide +kernel
theorem dJ2_checkIndex_2214a_2 : decode cJ2_checkIndex_2214a 2 = .ok (.invokestatic 48, 3) := by decide +kernel
theorem dJ2_checkIndex_2214a_5 : decode cJ2_checkIndex_2214a 5 = .ok (.invokestatic 414, 3) := by decide +kernel
theorem dJ2_checkIndex_2214a_8 : decode cJ2_checkIndex_2214a 8 = .ok (.return_, 1) := by decide +kernel
theorem dJ3_checkIndex_8e157_0 : decode cJ3_checkIndex_8e157 0 = .ok (.iload_n 0, 1) := by decide +kernel
theorem dJ3_checkIndex_8e157_1 : decode cJ3_checkIndex_8e157 1 = .ok (.ifCond .lt 8, 3) := by decide +kernel
theorem dJ3_checkIndex_8e157_4 : decode cJ3_checkIndex_8e157 4 = .ok (.iload_n 0, 1) := by decide +kernel
theorem dJ3_checkIndex_8e157_5 : decode cJ3_checkIndex_8e157 5 = .ok (.iload_n 1, 1) := by decide +kernel
theorem dJ3_checkIndex_8e157_6 : decode cJ3_checkIndex_8e157 6 = .ok (.if_icmp .lt 10, 3) := by decide +kernel
theorem dJ3_checkIndex_8e157_9 : decode cJ3_checkIndex_8e157 9 = .ok (.aload_n 2, 1) := by decide +kernel
theorem dJ3_checkIndex_8e157_10 : decode cJ3_checkIndex_8e157 10 = .ok (.iload_n 0, 1) := by decide +kernel
theorem dJ3_checkIndex_8e157_11 : decode cJ3_checkIndex_8e157 11 = .ok (.iload_n 1, 1) := by decide +kernel
theorem dJ3_checkIndex_8e157_12 : decode cJ3_checkIndex_8e157 12 = .ok (.invokestatic 95, 3) := by decide +kernel
theorem dJ3_checkIndex_8e157_15 : decode cJ3_checkIndex_8e157 15 = .ok (.athrow, 1) := by decide +kernel
theorem dJ3_checkIndex_8e157_16 : decode cJ3_checkIndex_8e157 16 = .ok (.iload_n 0, 1) := by decide +kernel
theorem dJ3_checkIndex_8e157_17 : decode cJ3_checkIndex_8e157 17 = .ok (.ireturn, 1) := by decide +kernel
abbrev vwCl : List vw_C := [(RX0, TX0, 6), (RX1, TX1, 3), (RX2, TX2, 6), (RX3, TX3, 9), (RX4, TX4, 9), (RX5, TX5, 8), (RX6, TX6, 4), (RX7, TX7, 12), (RX8, TX8, 36)]
