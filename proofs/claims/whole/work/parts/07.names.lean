set_option maxRecDepth 20000 in
theorem gX8_wire_X8_isIn : GoodIn wsX8_wire (va_wsS RX8 75 yX8_isIn wsX8_isIn) := goodIn_app (goodIn_of _ (by decide +kernel)) ggX8_wire_X8_isIn
theorem dX8_wire_0 : decode cX8_wire 0 = .ok (.aload_n 0, 1) := by decide +kernel
theorem dX8_wire_1 : decode cX8_wire 1 = .ok (.iconst 0, 1) := by decide +kernel
theorem dX8_wire_2 : decode cX8_wire 2 = .ok (.putfield 69, 3) := by decide +kernel
theorem dX8_wire_5 : decode cX8_wire 5 = .ok (.aload_n 0, 1) := by decide +kernel
theorem dX8_wire_6 : decode cX8_wire 6 = .ok (.iload_n 1, 1) := by decide +kernel
theorem dX8_wire_7 : decode cX8_wire 7 = .ok (.invokevirtual 202, 3) := by decide +kernel
theorem dX8_wire_10 : decode cX8_wire 10 = .ok (.ifCond .eq 13, 3) := by decide +kernel
theorem dX8_wire_13 : decode cX8_wire 13 = .ok (.iload_n 2, 1) := by decide +kernel
theorem dX8_wire_14 : decode cX8_wire 14 = .ok (.iconst 0, 1) := by decide +kernel
theorem dX8_wire_15 : decode cX8_wire 15 = .ok (.bipush 9, 2) := by decide +kernel
theorem dX8_wire_17 : decode cX8_wire 17 = .ok (.invokestatic 75, 3) := by decide +kernel
theorem dX8_wire_20 : decode cX8_wire 20 = .ok (.ifCond .ne 5, 3) := by decide +kernel
theorem dX8_wire_23 : decode cX8_wire 23 = .ok (.iconst 0, 1) := by decide +kernel
theorem dX8_wire_24 : decode cX8_wire 24 = .ok (.ireturn, 1) := by decide +kernel
theorem dX8_wire_25 : decode cX8_wire 25 = .ok (.aload_n 0, 1) := by decide +kernel
theorem dX8_wire_26 : decode cX8_wire 26 = .ok (.getfield 41, 3) := by decide +kernel
theorem dX8_wire_29 : decode cX8_wire 29 = .ok (.iload_n 1, 1) := by decide +kernel
theorem dX8_wire_30 : decode cX8_wire 30 = .ok (.iload_n 2, 1) := by decide +kernel
theorem dX8_wire_31 : decode cX8_wire 31 = .ok (.iastore, 1) := by decide +kernel
theorem dX8_wire_32 : decode cX8_wire 32 = .ok (.aload_n 0, 1) := by decide +kernel
theorem dX8_wire_33 : decode cX8_wire 33 = .ok (.iconst 0, 1) := by decide +kernel
theorem dX8_wire_34 : decode cX8_wire 34 = .ok (.putfield 79, 3) := by decide +kernel
theorem dX8_wire_37 : decode cX8_wire 37 = .ok (.iconst 1, 1) := by decide +kernel
theorem dX8_wire_38 : decode cX8_wire 38 = .ok (.ireturn, 1) := by decide +kernel
set_option maxRecDepth 20000 in
theorem ggX8_stand_X8_isCell : GoodIn wsX8_stand wsX8_isCell := goodIn_r _ [8, 9, 10, 11, 7, 12, 13, 14, 15, 16, 17, 18, 19, 20, 21, 22, 23, 24, 25, 26, 27, 28, 29, 30, 31, 32, 33, 34, 35, 36, 37, 38, 39, 40, 41, 42, 43, 44, 45, 46, 47, 48] (by decide +kernel) (by decide +kernel)
set_option maxRecDepth 20000 in
theorem gX8_stand_X8_isCell : GoodIn wsX8_stand (wsV RX8 202 RX8 yX8_isCell wsX8_isCell) := goodIn_app (goodIn_of _ (by decide +kernel)) ggX8_stand_X8_isCell
set_option maxRecDepth 20000 in
theorem ggX8_stand_X8_isIn : GoodIn wsX8_stand wsX8_isIn := goodIn_r _ [12] (by decide +kernel) (by decide +kernel)
set_option maxRecDepth 20000 in
theorem gX8_stand_X8_isIn : GoodIn wsX8_stand (va_wsS RX8 75 yX8_isIn wsX8_isIn) := goodIn_app (goodIn_of _ (by decide +kernel)) ggX8_stand_X8_isIn
theorem dX8_stand_0 : decode cX8_stand 0 = .ok (.aload_n 0, 1) := by decide +kernel
theorem dX8_stand_1 : decode cX8_stand 1 = .ok (.iconst 0, 1) := by decide +kernel
theorem dX8_stand_2 : decode cX8_stand 2 = .ok (.putfield 69, 3) := by decide +kernel
theorem dX8_stand_5 : decode cX8_stand 5 = .ok (.aload_n 0, 1) := by decide +kernel
theorem dX8_stand_6 : decode cX8_stand 6 = .ok (.iload_n 1, 1) := by decide +kernel
theorem dX8_stand_7 : decode cX8_stand 7 = .ok (.invokevirtual 202, 3) := by decide +kernel
theorem dX8_stand_10 : decode cX8_stand 10 = .ok (.ifCond .eq 13, 3) := by decide +kernel
theorem dX8_stand_13 : decode cX8_stand 13 = .ok (.iload_n 2, 1) := by decide +kernel
theorem dX8_stand_14 : decode cX8_stand 14 = .ok (.iconst 0, 1) := by decide +kernel
theorem dX8_stand_15 : decode cX8_stand 15 = .ok (.bipush 9, 2) := by decide +kernel
theorem dX8_stand_17 : decode cX8_stand 17 = .ok (.invokestatic 75, 3) := by decide +kernel
theorem dX8_stand_20 : decode cX8_stand 20 = .ok (.ifCond .ne 5, 3) := by decide +kernel
theorem dX8_stand_23 : decode cX8_stand 23 = .ok (.iconst 0, 1) := by decide +kernel
theorem dX8_stand_24 : decode cX8_stand 24 = .ok (.ireturn, 1) := by decide +kernel
theorem dX8_stand_25 : decode cX8_stand 25 = .ok (.aload_n 0, 1) := by decide +kernel
theorem dX8_stand_26 : decode cX8_stand 26 = .ok (.getfield 44, 3) := by decide +kernel
theorem dX8_stand_29 : decode cX8_stand 29 = .ok (.iload_n 1, 1) := by decide +kernel
theorem dX8_stand_30 : decode cX8_stand 30 = .ok (.iload_n 2, 1) := by decide +kernel
theorem dX8_stand_31 : decode cX8_stand 31 = .ok (.iastore, 1) := by decide +kernel
theorem dX8_stand_32 : decode cX8_stand 32 = .ok (.aload_n 0, 1) := by decide +kernel
theorem dX8_stand_33 : decode cX8_stand 33 = .ok (.iconst 0, 1) := by decide +kernel
theorem dX8_stand_34 : decode cX8_stand 34 = .ok (.putfield 79, 3) := by decide +kernel
theorem dX8_stand_37 : decode cX8_stand 37 = .ok (.iconst 1, 1) := by decide +kernel
theorem dX8_stand_38 : decode cX8_stand 38 = .ok (.ireturn, 1) := by decide +kernel
set_option maxRecDepth 20000 in
theorem ggX8_stops_X8_get : GoodIn wsX8_stops wsX8_get := goodIn_r _ [7, 8, 9, 10, 11, 12, 13, 14, 15, 16, 17, 18, 19, 20, 21, 22, 23, 24, 25, 26, 27, 28, 29, 30, 31, 32, 33, 34, 35, 36, 37, 38, 39, 40, 41, 42, 43, 44] (by decide +kernel) (by decide +kernel)
set_option maxRecDepth 20000 in
theorem gX8_stops_X8_get : GoodIn wsX8_stops (wsV RX8 91 RX8 yX8_get wsX8_get) := goodIn_app (goodIn_of _ (by decide +kernel)) ggX8_stops_X8_get
theorem dX8_stops_0 : decode cX8_stops 0 = .ok (.iconst 0, 1) := by decide +kernel
theorem dX8_stops_1 : decode cX8_stops 1 = .ok (.istore_n 2, 1) := by decide +kernel
theorem dX8_stops_2 : decode cX8_stops 2 = .ok (.iload_n 2, 1) := by decide +kernel
theorem dX8_stops_3 : decode cX8_stops 3 = .ok (.aload_n 0, 1) := by decide +kernel
theorem dX8_stops_4 : decode cX8_stops 4 = .ok (.getfield 35, 3) := by decide +kernel
theorem dX8_stops_7 : decode cX8_stops 7 = .ok (.if_icmp .ge 35, 3) := by decide +kernel
theorem dX8_stops_10 : decode cX8_stops 10 = .ok (.aload_n 0, 1) := by decide +kernel
theorem dX8_stops_11 : decode cX8_stops 11 = .ok (.getfield 41, 3) := by decide +kernel
theorem dX8_stops_14 : decode cX8_stops 14 = .ok (.iload_n 2, 1) := by decide +kernel
theorem dX8_stops_15 : decode cX8_stops 15 = .ok (.iaload, 1) := by decide +kernel
theorem dX8_stops_16 : decode cX8_stops 16 = .ok (.ifCond .le 20, 3) := by decide +kernel
theorem dX8_stops_19 : decode cX8_stops 19 = .ok (.aload_n 0, 1) := by decide +kernel
theorem dX8_stops_20 : decode cX8_stops 20 = .ok (.iload_n 1, 1) := by decide +kernel
theorem dX8_stops_21 : decode cX8_stops 21 = .ok (.iconst 3, 1) := by decide +kernel
theorem dX8_stops_22 : decode cX8_stops 22 = .ok (.invokevirtual 91, 3) := by decide +kernel
theorem dX8_stops_25 : decode cX8_stops 25 = .ok (.aload_n 0, 1) := by decide +kernel
theorem dX8_stops_26 : decode cX8_stops 26 = .ok (.getfield 41, 3) := by decide +kernel
theorem dX8_stops_29 : decode cX8_stops 29 = .ok (.iload_n 2, 1) := by decide +kernel
theorem dX8_stops_30 : decode cX8_stops 30 = .ok (.iaload, 1) := by decide +kernel
theorem dX8_stops_31 : decode cX8_stops 31 = .ok (.if_icmp .le 5, 3) := by decide +kernel
theorem dX8_stops_34 : decode cX8_stops 34 = .ok (.iload_n 2, 1) := by decide +kernel
theorem dX8_stops_35 : decode cX8_stops 35 = .ok (.ireturn, 1) := by decide +kernel
theorem dX8_stops_36 : decode cX8_stops 36 = .ok (.iinc 2 1, 3) := by decide +kernel
theorem dX8_stops_39 : decode cX8_stops 39 = .ok (.goto (-37), 3) := by decide +kernel
theorem dX8_stops_42 : decode cX8_stops 42 = .ok (.iconst (-1), 1) := by decide +kernel
theorem dX8_stops_43 : decode cX8_stops 43 = .ok (.ireturn, 1) := by decide +kernel
set_option maxRecDepth 20000 in
theorem ggX8_passes_X8_isNo : GoodIn wsX8_passes wsX8_isNo := goodIn_r _ [5, 6, 7, 8, 4, 9, 26, 27, 28, 29, 30, 31, 32, 33, 34, 35, 36, 37, 38, 39, 40, 41, 42, 43, 44, 45, 46, 47, 48, 49, 50, 51, 52, 53, 54, 55, 56, 57, 58, 59, 60, 61] (by decide +kernel) (by decide +kernel)
set_option maxRecDepth 20000 in
theorem gX8_passes_X8_isNo : GoodIn wsX8_passes (wsV RX8 83 RX8 yX8_isNo wsX8_isNo) := goodIn_app (goodIn_of _ (by decide +kernel)) ggX8_passes_X8_isNo
set_option maxRecDepth 20000 in
theorem ggX8_passes_X8_fails : GoodIn wsX8_passes wsX8_fails := goodIn_r _ [13, 14, 26, 27, 28, 29, 30, 31, 32, 33, 34, 35, 36, 37, 38, 39, 40, 41, 42, 43, 44, 45, 46, 47, 48, 49, 50, 51, 52, 53, 54, 55, 56, 57, 58, 59, 60, 61] (by decide +kernel) (by decide +kernel)
set_option maxRecDepth 20000 in
theorem gX8_passes_X8_fails : GoodIn wsX8_passes (wsV RX8 87 RX8 yX8_fails wsX8_fails) := goodIn_app (goodIn_of _ (by decide +kernel)) ggX8_passes_X8_fails
set_option maxRecDepth 20000 in
theorem ggX8_passes_X8_stops : GoodIn wsX8_passes wsX8_stops := goodIn_r _ [18, 19, 20, 21, 22, 23, 4, 24, 25, 26, 27, 28, 29, 30, 31, 32, 33, 34, 35, 36, 37, 38, 39, 40, 41, 42, 43, 44, 45, 46, 47, 48, 49, 50, 51, 52, 53, 54, 55, 56, 57, 58, 59, 60, 61] (by decide +kernel) (by decide +kernel)
set_option maxRecDepth 20000 in
theorem gX8_passes_X8_stops : GoodIn wsX8_passes (wsV RX8 205 RX8 yX8_stops wsX8_stops) := goodIn_app (goodIn_of _ (by decide +kernel)) ggX8_passes_X8_stops
theorem dX8_passes_0 : decode cX8_passes 0 = .ok (.aload_n 0, 1) := by decide +kernel
theorem dX8_passes_1 : decode cX8_passes 1 = .ok (.aload_n 0, 1) := by decide +kernel
theorem dX8_passes_2 : decode cX8_passes 2 = .ok (.iload_n 1, 1) := by decide +kernel
theorem dX8_passes_3 : decode cX8_passes 3 = .ok (.invokevirtual 83, 3) := by decide +kernel
theorem dX8_passes_6 : decode cX8_passes 6 = .ok (.iconst 0, 1) := by decide +kernel
theorem dX8_passes_7 : decode cX8_passes 7 = .ok (.invokevirtual 87, 3) := by decide +kernel
theorem dX8_passes_10 : decode cX8_passes 10 = .ok (.ifCond .eq 5, 3) := by decide +kernel
theorem dX8_passes_13 : decode cX8_passes 13 = .ok (.iconst 0, 1) := by decide +kernel
theorem dX8_passes_14 : decode cX8_passes 14 = .ok (.ireturn, 1) := by decide +kernel
theorem dX8_passes_15 : decode cX8_passes 15 = .ok (.aload_n 0, 1) := by decide +kernel
theorem dX8_passes_16 : decode cX8_passes 16 = .ok (.iload_n 1, 1) := by decide +kernel
theorem dX8_passes_17 : decode cX8_passes 17 = .ok (.invokevirtual 205, 3) := by decide +kernel
theorem dX8_passes_20 : decode cX8_passes 20 = .ok (.ireturn, 1) := by decide +kernel
set_option maxRecDepth 20000 in
theorem ggX8_begin_X8_stops : GoodIn wsX8_begin wsX8_stops := goodIn_r _ [12, 13, 14, 15, 16, 17, 11, 18, 19, 29, 30, 31, 32, 33, 34, 35, 36, 37, 38, 39, 40, 41, 42, 43, 44, 45, 46, 47, 48, 49, 50, 51, 52, 53, 54, 55, 56, 57, 58, 59, 60, 61, 62, 63, 64] (by decide +kernel) (by decide +kernel)
set_option maxRecDepth 20000 in
theorem gX8_begin_X8_stops : GoodIn wsX8_begin (wsV RX8 205 RX8 yX8_stops wsX8_stops) := goodIn_app (goodIn_of _ (by decide +kernel)) ggX8_begin_X8_stops
set_option maxRecDepth 20000 in
theorem ggX8_begin_X8_clear : GoodIn wsX8_begin wsX8_clear := goodIn_r _ [23, 24, 25, 26, 27, 28, 29, 30, 31, 32, 33, 34, 35, 36, 37, 38, 39, 40, 41, 42, 43, 44, 45, 46, 47, 48, 49, 50, 51, 52, 53, 54, 55, 56, 57, 58, 59, 60, 61, 62, 63, 64] (by decide +kernel) (by decide +kernel)
set_option maxRecDepth 20000 in
theorem gX8_begin_X8_clear : GoodIn wsX8_begin (wsV RX8 214 RX8 yX8_clear wsX8_clear) := goodIn_app (goodIn_of _ (by decide +kernel)) ggX8_begin_X8_clear
theorem dX8_begin_0 : decode cX8_begin 0 = .ok (.aload_n 0, 1) := by decide +kernel
theorem dX8_begin_1 : decode cX8_begin 1 = .ok (.iconst 0, 1) := by decide +kernel
theorem dX8_begin_2 : decode cX8_begin 2 = .ok (.putfield 69, 3) := by decide +kernel
theorem dX8_begin_5 : decode cX8_begin 5 = .ok (.aload_n 0, 1) := by decide +kernel
theorem dX8_begin_6 : decode cX8_begin 6 = .ok (.getfield 72, 3) := by decide +kernel
theorem dX8_begin_9 : decode cX8_begin 9 = .ok (.ifCond .ne 5, 3) := by decide +kernel
theorem dX8_begin_12 : decode cX8_begin 12 = .ok (.iconst 0, 1) := by decide +kernel
theorem dX8_begin_13 : decode cX8_begin 13 = .ok (.ireturn, 1) := by decide +kernel
theorem dX8_begin_14 : decode cX8_begin 14 = .ok (.iconst 0, 1) := by decide +kernel
theorem dX8_begin_15 : decode cX8_begin 15 = .ok (.istore_n 1, 1) := by decide +kernel
theorem dX8_begin_16 : decode cX8_begin 16 = .ok (.iload_n 1, 1) := by decide +kernel
theorem dX8_begin_17 : decode cX8_begin 17 = .ok (.aload_n 0, 1) := by decide +kernel
theorem dX8_begin_18 : decode cX8_begin 18 = .ok (.getfield 72, 3) := by decide +kernel
theorem dX8_begin_21 : decode cX8_begin 21 = .ok (.if_icmp .ge 20, 3) := by decide +kernel
theorem dX8_begin_24 : decode cX8_begin 24 = .ok (.aload_n 0, 1) := by decide +kernel
theorem dX8_begin_25 : decode cX8_begin 25 = .ok (.iload_n 1, 1) := by decide +kernel
theorem dX8_begin_26 : decode cX8_begin 26 = .ok (.invokevirtual 205, 3) := by decide +kernel
theorem dX8_begin_29 : decode cX8_begin 29 = .ok (.iconst (-1), 1) := by decide +kernel
theorem dX8_begin_30 : decode cX8_begin 30 = .ok (.if_icmp .eq 5, 3) := by decide +kernel
theorem dX8_begin_33 : decode cX8_begin 33 = .ok (.iconst 0, 1) := by decide +kernel
theorem dX8_begin_34 : decode cX8_begin 34 = .ok (.ireturn, 1) := by decide +kernel
theorem dX8_begin_35 : decode cX8_begin 35 = .ok (.iinc 1 1, 3) := by decide +kernel
theorem dX8_begin_38 : decode cX8_begin 38 = .ok (.goto (-22), 3) := by decide +kernel
theorem dX8_begin_41 : decode cX8_begin 41 = .ok (.aload_n 0, 1) := by decide +kernel
theorem dX8_begin_42 : decode cX8_begin 42 = .ok (.iconst 1, 1) := by decide +kernel
theorem dX8_begin_43 : decode cX8_begin 43 = .ok (.putfield 79, 3) := by decide +kernel
theorem dX8_begin_46 : decode cX8_begin 46 = .ok (.aload_n 0, 1) := by decide +kernel
theorem dX8_begin_47 : decode cX8_begin 47 = .ok (.iconst 0, 1) := by decide +kernel
theorem dX8_begin_48 : decode cX8_begin 48 = .ok (.putfield 208, 3) := by decide +kernel
theorem dX8_begin_51 : decode cX8_begin 51 = .ok (.aload_n 0, 1) := by decide +kernel
theorem dX8_begin_52 : decode cX8_begin 52 = .ok (.iconst 0, 1) := by decide +kernel
theorem dX8_begin_53 : decode cX8_begin 53 = .ok (.putfield 211, 3) := by decide +kernel
theorem dX8_begin_56 : decode cX8_begin 56 = .ok (.iconst 0, 1) := by decide +kernel
theorem dX8_begin_57 : decode cX8_begin 57 = .ok (.istore_n 1, 1) := by decide +kernel
theorem dX8_begin_58 : decode cX8_begin 58 = .ok (.iload_n 1, 1) := by decide +kernel
theorem dX8_begin_59 : decode cX8_begin 59 = .ok (.aload_n 0, 1) := by decide +kernel
theorem dX8_begin_60 : decode cX8_begin 60 = .ok (.getfield 72, 3) := by decide +kernel
theorem dX8_begin_63 : decode cX8_begin 63 = .ok (.if_icmp .ge 28, 3) := by decide +kernel
theorem dX8_begin_66 : decode cX8_begin 66 = .ok (.aload_n 0, 1) := by decide +kernel
theorem dX8_begin_67 : decode cX8_begin 67 = .ok (.iload_n 1, 1) := by decide +kernel
theorem dX8_begin_68 : decode cX8_begin 68 = .ok (.invokevirtual 214, 3) := by decide +kernel
theorem dX8_begin_71 : decode cX8_begin 71 = .ok (.aload_n 0, 1) := by decide +kernel
theorem dX8_begin_72 : decode cX8_begin 72 = .ok (.getfield 63, 3) := by decide +kernel
theorem dX8_begin_75 : decode cX8_begin 75 = .ok (.iload_n 1, 1) := by decide +kernel
theorem dX8_begin_76 : decode cX8_begin 76 = .ok (.iconst (-1), 1) := by decide +kernel
theorem dX8_begin_77 : decode cX8_begin 77 = .ok (.iastore, 1) := by decide +kernel
theorem dX8_begin_78 : decode cX8_begin 78 = .ok (.aload_n 0, 1) := by decide +kernel
theorem dX8_begin_79 : decode cX8_begin 79 = .ok (.getfield 66, 3) := by decide +kernel
theorem dX8_begin_82 : decode cX8_begin 82 = .ok (.iload_n 1, 1) := by decide +kernel
theorem dX8_begin_83 : decode cX8_begin 83 = .ok (.iconst (-1), 1) := by decide +kernel
theorem dX8_begin_84 : decode cX8_begin 84 = .ok (.iastore, 1) := by decide +kernel
theorem dX8_begin_85 : decode cX8_begin 85 = .ok (.iinc 1 1, 3) := by decide +kernel
theorem dX8_begin_88 : decode cX8_begin 88 = .ok (.goto (-30), 3) := by decide +kernel
theorem dX8_begin_91 : decode cX8_begin 91 = .ok (.iconst 1, 1) := by decide +kernel
theorem dX8_begin_92 : decode cX8_begin 92 = .ok (.ireturn, 1) := by decide +kernel
theorem dX8_clear_0 : decode cX8_clear 0 = .ok (.aload_n 0, 1) := by decide +kernel
theorem dX8_clear_1 : decode cX8_clear 1 = .ok (.getfield 47, 3) := by decide +kernel
theorem dX8_clear_4 : decode cX8_clear 4 = .ok (.iload_n 1, 1) := by decide +kernel
theorem dX8_clear_5 : decode cX8_clear 5 = .ok (.iconst (-1), 1) := by decide +kernel
theorem dX8_clear_6 : decode cX8_clear 6 = .ok (.iastore, 1) := by decide +kernel
theorem dX8_clear_7 : decode cX8_clear 7 = .ok (.aload_n 0, 1) := by decide +kernel
theorem dX8_clear_8 : decode cX8_clear 8 = .ok (.getfield 50, 3) := by decide +kernel
theorem dX8_clear_11 : decode cX8_clear 11 = .ok (.iload_n 1, 1) := by decide +kernel
theorem dX8_clear_12 : decode cX8_clear 12 = .ok (.iconst 0, 1) := by decide +kernel
theorem dX8_clear_13 : decode cX8_clear 13 = .ok (.iastore, 1) := by decide +kernel
theorem dX8_clear_14 : decode cX8_clear 14 = .ok (.aload_n 0, 1) := by decide +kernel
theorem dX8_clear_15 : decode cX8_clear 15 = .ok (.getfield 53, 3) := by decide +kernel
theorem dX8_clear_18 : decode cX8_clear 18 = .ok (.iload_n 1, 1) := by decide +kernel
theorem dX8_clear_19 : decode cX8_clear 19 = .ok (.iconst 0, 1) := by decide +kernel
theorem dX8_clear_20 : decode cX8_clear 20 = .ok (.iastore, 1) := by decide +kernel
theorem dX8_clear_21 : decode cX8_clear 21 = .ok (.aload_n 0, 1) := by decide +kernel
theorem dX8_clear_22 : decode cX8_clear 22 = .ok (.getfield 56, 3) := by decide +kernel
theorem dX8_clear_25 : decode cX8_clear 25 = .ok (.iload_n 1, 1) := by decide +kernel
theorem dX8_clear_26 : decode cX8_clear 26 = .ok (.iconst 0, 1) := by decide +kernel
theorem dX8_clear_27 : decode cX8_clear 27 = .ok (.iastore, 1) := by decide +kernel
theorem dX8_clear_28 : decode cX8_clear 28 = .ok (.aload_n 0, 1) := by decide +kernel
theorem dX8_clear_29 : decode cX8_clear 29 = .ok (.getfield 59, 3) := by decide +kernel
theorem dX8_clear_32 : decode cX8_clear 32 = .ok (.iload_n 1, 1) := by decide +kernel
theorem dX8_clear_33 : decode cX8_clear 33 = .ok (.iconst 0, 1) := by decide +kernel
theorem dX8_clear_34 : decode cX8_clear 34 = .ok (.bastore, 1) := by decide +kernel
theorem dX8_clear_35 : decode cX8_clear 35 = .ok (.return_, 1) := by decide +kernel
set_option maxRecDepth 20000 in
theorem ggX8_tail_X8_get : GoodIn wsX8_tail wsX8_get := goodIn_r _ [6, 7, 8, 9, 10, 11, 12, 13, 14, 15, 16, 17, 18, 19, 20, 21, 22, 23, 24, 25, 26, 27, 28, 29, 30, 31, 32, 33, 34, 35, 36, 37, 38, 39, 40, 41, 42, 43] (by decide +kernel) (by decide +kernel)
set_option maxRecDepth 20000 in
theorem gX8_tail_X8_get : GoodIn wsX8_tail (wsV RX8 91 RX8 yX8_get wsX8_get) := goodIn_app (goodIn_of _ (by decide +kernel)) ggX8_tail_X8_get
theorem dX8_tail_0 : decode cX8_tail 0 = .ok (.aload_n 0, 1) := by decide +kernel
theorem dX8_tail_1 : decode cX8_tail 1 = .ok (.getfield 47, 3) := by decide +kernel
theorem dX8_tail_4 : decode cX8_tail 4 = .ok (.iload_n 1, 1) := by decide +kernel
theorem dX8_tail_5 : decode cX8_tail 5 = .ok (.iload_n 2, 1) := by decide +kernel
theorem dX8_tail_6 : decode cX8_tail 6 = .ok (.iadd, 1) := by decide +kernel
theorem dX8_tail_7 : decode cX8_tail 7 = .ok (.iaload, 1) := by decide +kernel
theorem dX8_tail_8 : decode cX8_tail 8 = .ok (.aload_n 0, 1) := by decide +kernel
theorem dX8_tail_9 : decode cX8_tail 9 = .ok (.iload_n 2, 1) := by decide +kernel
theorem dX8_tail_10 : decode cX8_tail 10 = .ok (.iconst 1, 1) := by decide +kernel
theorem dX8_tail_11 : decode cX8_tail 11 = .ok (.invokevirtual 91, 3) := by decide +kernel
theorem dX8_tail_14 : decode cX8_tail 14 = .ok (.isub, 1) := by decide +kernel
theorem dX8_tail_15 : decode cX8_tail 15 = .ok (.iconst 1, 1) := by decide +kernel
theorem dX8_tail_16 : decode cX8_tail 16 = .ok (.iadd, 1) := by decide +kernel
theorem dX8_tail_17 : decode cX8_tail 17 = .ok (.ireturn, 1) := by decide +kernel
set_option maxRecDepth 20000 in
theorem ggX8_goes_X8_get : GoodIn wsX8_goes wsX8_get := goodIn_r _ [14, 15, 27, 28, 29, 30, 31, 32, 33, 34, 35, 36, 37, 38, 39, 40, 41, 42, 43, 44, 45, 46, 47, 48, 49, 50, 51, 52, 53, 54, 55, 56, 57, 58, 59, 60, 61, 62] (by decide +kernel) (by decide +kernel)
set_option maxRecDepth 20000 in
theorem gX8_goes_X8_get : GoodIn wsX8_goes (wsV RX8 91 RX8 yX8_get wsX8_get) := goodIn_app (goodIn_of _ (by decide +kernel)) ggX8_goes_X8_get
set_option maxRecDepth 20000 in
theorem ggX8_goes_X8_tail : GoodIn wsX8_goes wsX8_tail := goodIn_r _ [19, 5, 10, 11, 12, 13, 14, 15, 27, 28, 29, 30, 31, 32, 33, 34, 35, 36, 37, 38, 39, 40, 41, 42, 43, 44, 45, 46, 47, 48, 49, 50, 51, 52, 53, 54, 55, 56, 57, 58, 59, 60, 61, 62] (by decide +kernel) (by decide +kernel)
set_option maxRecDepth 20000 in
theorem gX8_goes_X8_tail : GoodIn wsX8_goes (wsV RX8 218 RX8 yX8_tail wsX8_tail) := goodIn_app (goodIn_of _ (by decide +kernel)) ggX8_goes_X8_tail
set_option maxRecDepth 20000 in
theorem ggX8_goes_X8_isCell : GoodIn wsX8_goes wsX8_isCell := goodIn_r _ [23, 9, 24, 25, 13, 26, 27, 28, 29, 30, 31, 32, 33, 34, 35, 36, 37, 38, 39, 40, 41, 42, 43, 44, 45, 46, 47, 48, 49, 50, 51, 52, 53, 54, 55, 56, 57, 58, 59, 60, 61, 62] (by decide +kernel) (by decide +kernel)
set_option maxRecDepth 20000 in
theorem gX8_goes_X8_isCell : GoodIn wsX8_goes (wsV RX8 202 RX8 yX8_isCell wsX8_isCell) := goodIn_app (goodIn_of _ (by decide +kernel)) ggX8_goes_X8_isCell
theorem dX8_goes_0 : decode cX8_goes 0 = .ok (.aload_n 0, 1) := by decide +kernel
theorem dX8_goes_1 : decode cX8_goes 1 = .ok (.getfield 13, 3) := by decide +kernel
theorem dX8_goes_4 : decode cX8_goes 4 = .ok (.iload_n 2, 1) := by decide +kernel
theorem dX8_goes_5 : decode cX8_goes 5 = .ok (.iaload, 1) := by decide +kernel
theorem dX8_goes_6 : decode cX8_goes 6 = .ok (.istore 5, 2) := by decide +kernel
theorem dX8_goes_8 : decode cX8_goes 8 = .ok (.iload_n 1, 1) := by decide +kernel
theorem dX8_goes_9 : decode cX8_goes 9 = .ok (.iload 5, 2) := by decide +kernel
theorem dX8_goes_11 : decode cX8_goes 11 = .ok (.iadd, 1) := by decide +kernel
theorem dX8_goes_12 : decode cX8_goes 12 = .ok (.istore 6, 2) := by decide +kernel
theorem dX8_goes_14 : decode cX8_goes 14 = .ok (.aload_n 0, 1) := by decide +kernel
theorem dX8_goes_15 : decode cX8_goes 15 = .ok (.getfield 59, 3) := by decide +kernel
theorem dX8_goes_18 : decode cX8_goes 18 = .ok (.iload 6, 2) := by decide +kernel
theorem dX8_goes_20 : decode cX8_goes 20 = .ok (.baload, 1) := by decide +kernel
theorem dX8_goes_21 : decode cX8_goes 21 = .ok (.ifCond .eq 5, 3) := by decide +kernel
theorem dX8_goes_24 : decode cX8_goes 24 = .ok (.iconst 0, 1) := by decide +kernel
theorem dX8_goes_25 : decode cX8_goes 25 = .ok (.ireturn, 1) := by decide +kernel
theorem dX8_goes_26 : decode cX8_goes 26 = .ok (.aload_n 0, 1) := by decide +kernel
theorem dX8_goes_27 : decode cX8_goes 27 = .ok (.getfield 50, 3) := by decide +kernel
theorem dX8_goes_30 : decode cX8_goes 30 = .ok (.iload 6, 2) := by decide +kernel
theorem dX8_goes_32 : decode cX8_goes 32 = .ok (.iaload, 1) := by decide +kernel
theorem dX8_goes_33 : decode cX8_goes 33 = .ok (.ifCond .gt 13, 3) := by decide +kernel
theorem dX8_goes_36 : decode cX8_goes 36 = .ok (.aload_n 0, 1) := by decide +kernel
theorem dX8_goes_37 : decode cX8_goes 37 = .ok (.getfield 53, 3) := by decide +kernel
theorem dX8_goes_40 : decode cX8_goes 40 = .ok (.iload 6, 2) := by decide +kernel
theorem dX8_goes_42 : decode cX8_goes 42 = .ok (.iaload, 1) := by decide +kernel
theorem dX8_goes_43 : decode cX8_goes 43 = .ok (.ifCond .le 40, 3) := by decide +kernel
theorem dX8_goes_46 : decode cX8_goes 46 = .ok (.aload_n 0, 1) := by decide +kernel
theorem dX8_goes_47 : decode cX8_goes 47 = .ok (.getfield 50, 3) := by decide +kernel
theorem dX8_goes_50 : decode cX8_goes 50 = .ok (.iload 6, 2) := by decide +kernel
theorem dX8_goes_52 : decode cX8_goes 52 = .ok (.iaload, 1) := by decide +kernel
theorem dX8_goes_53 : decode cX8_goes 53 = .ok (.ifCond .le 17, 3) := by decide +kernel
theorem dX8_goes_56 : decode cX8_goes 56 = .ok (.aload_n 0, 1) := by decide +kernel
theorem dX8_goes_57 : decode cX8_goes 57 = .ok (.getfield 50, 3) := by decide +kernel
theorem dX8_goes_60 : decode cX8_goes 60 = .ok (.iload 6, 2) := by decide +kernel
theorem dX8_goes_62 : decode cX8_goes 62 = .ok (.dup2, 1) := by decide +kernel
theorem dX8_goes_63 : decode cX8_goes 63 = .ok (.iaload, 1) := by decide +kernel
theorem dX8_goes_64 : decode cX8_goes 64 = .ok (.iconst 1, 1) := by decide +kernel
theorem dX8_goes_65 : decode cX8_goes 65 = .ok (.isub, 1) := by decide +kernel
theorem dX8_goes_66 : decode cX8_goes 66 = .ok (.iastore, 1) := by decide +kernel
theorem dX8_goes_67 : decode cX8_goes 67 = .ok (.goto 14, 3) := by decide +kernel
theorem dX8_goes_70 : decode cX8_goes 70 = .ok (.aload_n 0, 1) := by decide +kernel
theorem dX8_goes_71 : decode cX8_goes 71 = .ok (.getfield 53, 3) := by decide +kernel
theorem dX8_goes_74 : decode cX8_goes 74 = .ok (.iload 6, 2) := by decide +kernel
theorem dX8_goes_76 : decode cX8_goes 76 = .ok (.dup2, 1) := by decide +kernel
theorem dX8_goes_77 : decode cX8_goes 77 = .ok (.iaload, 1) := by decide +kernel
theorem dX8_goes_78 : decode cX8_goes 78 = .ok (.iconst 1, 1) := by decide +kernel
theorem dX8_goes_79 : decode cX8_goes 79 = .ok (.isub, 1) := by decide +kernel
theorem dX8_goes_80 : decode cX8_goes 80 = .ok (.iastore, 1) := by decide +kernel
theorem dX8_goes_81 : decode cX8_goes 81 = .ok (.iconst 0, 1) := by decide +kernel
theorem dX8_goes_82 : decode cX8_goes 82 = .ok (.ireturn, 1) := by decide +kernel
theorem dX8_goes_83 : decode cX8_goes 83 = .ok (.aload_n 0, 1) := by decide +kernel
theorem dX8_goes_84 : decode cX8_goes 84 = .ok (.iload 5, 2) := by decide +kernel
theorem dX8_goes_86 : decode cX8_goes 86 = .ok (.iconst 0, 1) := by decide +kernel
theorem dX8_goes_87 : decode cX8_goes 87 = .ok (.invokevirtual 91, 3) := by decide +kernel
theorem dX8_goes_90 : decode cX8_goes 90 = .ok (.iconst 3, 1) := by decide +kernel
theorem dX8_goes_91 : decode cX8_goes 91 = .ok (.if_icmp .eq 14, 3) := by decide +kernel
theorem dX8_goes_94 : decode cX8_goes 94 = .ok (.aload_n 0, 1) := by decide +kernel
theorem dX8_goes_95 : decode cX8_goes 95 = .ok (.iload 5, 2) := by decide +kernel
theorem dX8_goes_97 : decode cX8_goes 97 = .ok (.iconst 0, 1) := by decide +kernel
theorem dX8_goes_98 : decode cX8_goes 98 = .ok (.invokevirtual 91, 3) := by decide +kernel
theorem dX8_goes_101 : decode cX8_goes 101 = .ok (.iconst 4, 1) := by decide +kernel
theorem dX8_goes_102 : decode cX8_goes 102 = .ok (.if_icmp .ne 12, 3) := by decide +kernel
theorem dX8_goes_105 : decode cX8_goes 105 = .ok (.iload_n 3, 1) := by decide +kernel
theorem dX8_goes_106 : decode cX8_goes 106 = .ok (.iconst 2, 1) := by decide +kernel
theorem dX8_goes_107 : decode cX8_goes 107 = .ok (.irem, 1) := by decide +kernel
theorem dX8_goes_108 : decode cX8_goes 108 = .ok (.iconst 1, 1) := by decide +kernel
theorem dX8_goes_109 : decode cX8_goes 109 = .ok (.if_icmp .ne 5, 3) := by decide +kernel
theorem dX8_goes_112 : decode cX8_goes 112 = .ok (.iconst 0, 1) := by decide +kernel
theorem dX8_goes_113 : decode cX8_goes 113 = .ok (.ireturn, 1) := by decide +kernel
theorem dX8_goes_114 : decode cX8_goes 114 = .ok (.iload_n 2, 1) := by decide +kernel
theorem dX8_goes_115 : decode cX8_goes 115 = .ok (.iconst 1, 1) := by decide +kernel
theorem dX8_goes_116 : decode cX8_goes 116 = .ok (.isub, 1) := by decide +kernel
theorem dX8_goes_117 : decode cX8_goes 117 = .ok (.istore 7, 2) := by decide +kernel
theorem dX8_goes_119 : decode cX8_goes 119 = .ok (.iload 7, 2) := by decide +kernel
theorem dX8_goes_121 : decode cX8_goes 121 = .ok (.ifCond .lt 26, 3) := by decide +kernel
theorem dX8_goes_124 : decode cX8_goes 124 = .ok (.aload_n 0, 1) := by decide +kernel
theorem dX8_goes_125 : decode cX8_goes 125 = .ok (.getfield 59, 3) := by decide +kernel
theorem dX8_goes_128 : decode cX8_goes 128 = .ok (.iload_n 1, 1) := by decide +kernel
theorem dX8_goes_129 : decode cX8_goes 129 = .ok (.aload_n 0, 1) := by decide +kernel
theorem dX8_goes_130 : decode cX8_goes 130 = .ok (.getfield 13, 3) := by decide +kernel
theorem dX8_goes_133 : decode cX8_goes 133 = .ok (.iload 7, 2) := by decide +kernel
theorem dX8_goes_135 : decode cX8_goes 135 = .ok (.iaload, 1) := by decide +kernel
theorem dX8_goes_136 : decode cX8_goes 136 = .ok (.iadd, 1) := by decide +kernel
theorem dX8_goes_137 : decode cX8_goes 137 = .ok (.baload, 1) := by decide +kernel
theorem dX8_goes_138 : decode cX8_goes 138 = .ok (.ifCond .eq 9, 3) := by decide +kernel
theorem dX8_goes_141 : decode cX8_goes 141 = .ok (.iinc 7 (-1), 3) := by decide +kernel
theorem dX8_goes_144 : decode cX8_goes 144 = .ok (.goto (-25), 3) := by decide +kernel
theorem dX8_goes_147 : decode cX8_goes 147 = .ok (.iload 4, 2) := by decide +kernel
theorem dX8_goes_149 : decode cX8_goes 149 = .ok (.ifCond .ne 39, 3) := by decide +kernel
theorem dX8_goes_152 : decode cX8_goes 152 = .ok (.iload 7, 2) := by decide +kernel
theorem dX8_goes_154 : decode cX8_goes 154 = .ok (.ifCond .lt 34, 3) := by decide +kernel
theorem dX8_goes_157 : decode cX8_goes 157 = .ok (.aload_n 0, 1) := by decide +kernel
theorem dX8_goes_158 : decode cX8_goes 158 = .ok (.iload_n 1, 1) := by decide +kernel
theorem dX8_goes_159 : decode cX8_goes 159 = .ok (.aload_n 0, 1) := by decide +kernel
theorem dX8_goes_160 : decode cX8_goes 160 = .ok (.getfield 13, 3) := by decide +kernel
theorem dX8_goes_163 : decode cX8_goes 163 = .ok (.iload 7, 2) := by decide +kernel
theorem dX8_goes_165 : decode cX8_goes 165 = .ok (.iaload, 1) := by decide +kernel
theorem dX8_goes_166 : decode cX8_goes 166 = .ok (.invokevirtual 218, 3) := by decide +kernel
theorem dX8_goes_169 : decode cX8_goes 169 = .ok (.aload_n 0, 1) := by decide +kernel
theorem dX8_goes_170 : decode cX8_goes 170 = .ok (.getfield 47, 3) := by decide +kernel
theorem dX8_goes_173 : decode cX8_goes 173 = .ok (.iload 6, 2) := by decide +kernel
theorem dX8_goes_175 : decode cX8_goes 175 = .ok (.iaload, 1) := by decide +kernel
theorem dX8_goes_176 : decode cX8_goes 176 = .ok (.iconst 1, 1) := by decide +kernel
theorem dX8_goes_177 : decode cX8_goes 177 = .ok (.iadd, 1) := by decide +kernel
theorem dX8_goes_178 : decode cX8_goes 178 = .ok (.aload_n 0, 1) := by decide +kernel
theorem dX8_goes_179 : decode cX8_goes 179 = .ok (.getfield 38, 3) := by decide +kernel
theorem dX8_goes_182 : decode cX8_goes 182 = .ok (.iadd, 1) := by decide +kernel
theorem dX8_goes_183 : decode cX8_goes 183 = .ok (.if_icmp .gt 5, 3) := by decide +kernel
theorem dX8_goes_186 : decode cX8_goes 186 = .ok (.iconst 0, 1) := by decide +kernel
theorem dX8_goes_187 : decode cX8_goes 187 = .ok (.ireturn, 1) := by decide +kernel
theorem dX8_goes_188 : decode cX8_goes 188 = .ok (.aload_n 0, 1) := by decide +kernel
theorem dX8_goes_189 : decode cX8_goes 189 = .ok (.getfield 47, 3) := by decide +kernel
theorem dX8_goes_192 : decode cX8_goes 192 = .ok (.iload 6, 2) := by decide +kernel
theorem dX8_goes_194 : decode cX8_goes 194 = .ok (.dup2, 1) := by decide +kernel
theorem dX8_goes_195 : decode cX8_goes 195 = .ok (.iaload, 1) := by decide +kernel
theorem dX8_goes_196 : decode cX8_goes 196 = .ok (.iconst 1, 1) := by decide +kernel
theorem dX8_goes_197 : decode cX8_goes 197 = .ok (.iadd, 1) := by decide +kernel
theorem dX8_goes_198 : decode cX8_goes 198 = .ok (.iastore, 1) := by decide +kernel
theorem dX8_goes_199 : decode cX8_goes 199 = .ok (.aload_n 0, 1) := by decide +kernel
theorem dX8_goes_200 : decode cX8_goes 200 = .ok (.getfield 56, 3) := by decide +kernel
theorem dX8_goes_203 : decode cX8_goes 203 = .ok (.iload 6, 2) := by decide +kernel
theorem dX8_goes_205 : decode cX8_goes 205 = .ok (.dup2, 1) := by decide +kernel
theorem dX8_goes_206 : decode cX8_goes 206 = .ok (.iaload, 1) := by decide +kernel
theorem dX8_goes_207 : decode cX8_goes 207 = .ok (.iconst 1, 1) := by decide +kernel
theorem dX8_goes_208 : decode cX8_goes 208 = .ok (.iadd, 1) := by decide +kernel
theorem dX8_goes_209 : decode cX8_goes 209 = .ok (.iastore, 1) := by decide +kernel
theorem dX8_goes_210 : decode cX8_goes 210 = .ok (.aload_n 0, 1) := by decide +kernel
theorem dX8_goes_211 : decode cX8_goes 211 = .ok (.aload_n 0, 1) := by decide +kernel
theorem dX8_goes_212 : decode cX8_goes 212 = .ok (.getfield 47, 3) := by decide +kernel
theorem dX8_goes_215 : decode cX8_goes 215 = .ok (.iload 6, 2) := by decide +kernel
theorem dX8_goes_217 : decode cX8_goes 217 = .ok (.iaload, 1) := by decide +kernel
theorem dX8_goes_218 : decode cX8_goes 218 = .ok (.invokevirtual 202, 3) := by decide +kernel
theorem dX8_goes_221 : decode cX8_goes 221 = .ok (.ifCond .eq 65, 3) := by decide +kernel
theorem dX8_goes_224 : decode cX8_goes 224 = .ok (.aload_n 0, 1) := by decide +kernel
theorem dX8_goes_225 : decode cX8_goes 225 = .ok (.getfield 44, 3) := by decide +kernel
theorem dX8_goes_228 : decode cX8_goes 228 = .ok (.aload_n 0, 1) := by decide +kernel
theorem dX8_goes_229 : decode cX8_goes 229 = .ok (.getfield 47, 3) := by decide +kernel
theorem dX8_goes_232 : decode cX8_goes 232 = .ok (.iload 6, 2) := by decide +kernel
theorem dX8_goes_234 : decode cX8_goes 234 = .ok (.iaload, 1) := by decide +kernel
theorem dX8_goes_235 : decode cX8_goes 235 = .ok (.iaload, 1) := by decide +kernel
theorem dX8_goes_236 : decode cX8_goes 236 = .ok (.ifCond .le 50, 3) := by decide +kernel
theorem dX8_goes_239 : decode cX8_goes 239 = .ok (.aload_n 0, 1) := by decide +kernel
theorem dX8_goes_240 : decode cX8_goes 240 = .ok (.getfield 50, 3) := by decide +kernel
theorem dX8_goes_243 : decode cX8_goes 243 = .ok (.iload 6, 2) := by decide +kernel
theorem dX8_goes_245 : decode cX8_goes 245 = .ok (.aload_n 0, 1) := by decide +kernel
theorem dX8_goes_246 : decode cX8_goes 246 = .ok (.iload 5, 2) := by decide +kernel
theorem dX8_goes_248 : decode cX8_goes 248 = .ok (.iconst 0, 1) := by decide +kernel
theorem dX8_goes_249 : decode cX8_goes 249 = .ok (.invokevirtual 91, 3) := by decide +kernel
theorem dX8_goes_252 : decode cX8_goes 252 = .ok (.iconst 1, 1) := by decide +kernel
theorem dX8_goes_253 : decode cX8_goes 253 = .ok (.if_icmp .ne 20, 3) := by decide +kernel
theorem dX8_goes_256 : decode cX8_goes 256 = .ok (.iconst 2, 1) := by decide +kernel
theorem dX8_goes_257 : decode cX8_goes 257 = .ok (.aload_n 0, 1) := by decide +kernel
theorem dX8_goes_258 : decode cX8_goes 258 = .ok (.getfield 44, 3) := by decide +kernel
theorem dX8_goes_261 : decode cX8_goes 261 = .ok (.aload_n 0, 1) := by decide +kernel
theorem dX8_goes_262 : decode cX8_goes 262 = .ok (.getfield 47, 3) := by decide +kernel
theorem dX8_goes_265 : decode cX8_goes 265 = .ok (.iload 6, 2) := by decide +kernel
theorem dX8_goes_267 : decode cX8_goes 267 = .ok (.iaload, 1) := by decide +kernel
theorem dX8_goes_268 : decode cX8_goes 268 = .ok (.iaload, 1) := by decide +kernel
theorem dX8_goes_269 : decode cX8_goes 269 = .ok (.imul, 1) := by decide +kernel
theorem dX8_goes_270 : decode cX8_goes 270 = .ok (.goto 15, 3) := by decide +kernel
theorem dX8_goes_273 : decode cX8_goes 273 = .ok (.aload_n 0, 1) := by decide +kernel
theorem dX8_goes_274 : decode cX8_goes 274 = .ok (.getfield 44, 3) := by decide +kernel
theorem dX8_goes_277 : decode cX8_goes 277 = .ok (.aload_n 0, 1) := by decide +kernel
theorem dX8_goes_278 : decode cX8_goes 278 = .ok (.getfield 47, 3) := by decide +kernel
theorem dX8_goes_281 : decode cX8_goes 281 = .ok (.iload 6, 2) := by decide +kernel
theorem dX8_goes_283 : decode cX8_goes 283 = .ok (.iaload, 1) := by decide +kernel
theorem dX8_goes_284 : decode cX8_goes 284 = .ok (.iaload, 1) := by decide +kernel
theorem dX8_goes_285 : decode cX8_goes 285 = .ok (.iastore, 1) := by decide +kernel
theorem dX8_goes_286 : decode cX8_goes 286 = .ok (.aload_n 0, 1) := by decide +kernel
theorem dX8_goes_287 : decode cX8_goes 287 = .ok (.iload 5, 2) := by decide +kernel
theorem dX8_goes_289 : decode cX8_goes 289 = .ok (.iconst 0, 1) := by decide +kernel
theorem dX8_goes_290 : decode cX8_goes 290 = .ok (.invokevirtual 91, 3) := by decide +kernel
theorem dX8_goes_293 : decode cX8_goes 293 = .ok (.iconst 4, 1) := by decide +kernel
theorem dX8_goes_294 : decode cX8_goes 294 = .ok (.if_icmp .ne 24, 3) := by decide +kernel
theorem dX8_goes_297 : decode cX8_goes 297 = .ok (.aload_n 0, 1) := by decide +kernel
theorem dX8_goes_298 : decode cX8_goes 298 = .ok (.getfield 56, 3) := by decide +kernel
theorem dX8_goes_301 : decode cX8_goes 301 = .ok (.iload 6, 2) := by decide +kernel
theorem dX8_goes_303 : decode cX8_goes 303 = .ok (.iaload, 1) := by decide +kernel
theorem dX8_goes_304 : decode cX8_goes 304 = .ok (.bipush 10, 2) := by decide +kernel
theorem dX8_goes_306 : decode cX8_goes 306 = .ok (.irem, 1) := by decide +kernel
theorem dX8_goes_307 : decode cX8_goes 307 = .ok (.ifCond .ne 11, 3) := by decide +kernel
theorem dX8_goes_310 : decode cX8_goes 310 = .ok (.aload_n 0, 1) := by decide +kernel
theorem dX8_goes_311 : decode cX8_goes 311 = .ok (.getfield 53, 3) := by decide +kernel
theorem dX8_goes_314 : decode cX8_goes 314 = .ok (.iload 6, 2) := by decide +kernel
theorem dX8_goes_316 : decode cX8_goes 316 = .ok (.iconst 3, 1) := by decide +kernel
theorem dX8_goes_317 : decode cX8_goes 317 = .ok (.iastore, 1) := by decide +kernel
theorem dX8_goes_318 : decode cX8_goes 318 = .ok (.aload_n 0, 1) := by decide +kernel
theorem dX8_goes_319 : decode cX8_goes 319 = .ok (.iload_n 1, 1) := by decide +kernel
theorem dX8_goes_320 : decode cX8_goes 320 = .ok (.iload 5, 2) := by decide +kernel
theorem dX8_goes_322 : decode cX8_goes 322 = .ok (.invokevirtual 218, 3) := by decide +kernel
theorem dX8_goes_325 : decode cX8_goes 325 = .ok (.aload_n 0, 1) := by decide +kernel
theorem dX8_goes_326 : decode cX8_goes 326 = .ok (.getfield 35, 3) := by decide +kernel
theorem dX8_goes_329 : decode cX8_goes 329 = .ok (.if_icmp .lt 11, 3) := by decide +kernel
theorem dX8_goes_332 : decode cX8_goes 332 = .ok (.aload_n 0, 1) := by decide +kernel
theorem dX8_goes_333 : decode cX8_goes 333 = .ok (.getfield 59, 3) := by decide +kernel
theorem dX8_goes_336 : decode cX8_goes 336 = .ok (.iload 6, 2) := by decide +kernel
theorem dX8_goes_338 : decode cX8_goes 338 = .ok (.iconst 1, 1) := by decide +kernel
theorem dX8_goes_339 : decode cX8_goes 339 = .ok (.bastore, 1) := by decide +kernel
theorem dX8_goes_340 : decode cX8_goes 340 = .ok (.iconst 1, 1) := by decide +kernel
theorem dX8_goes_341 : decode cX8_goes 341 = .ok (.ireturn, 1) := by decide +kernel
theorem dX8_isOver_0 : decode cX8_isOver 0 = .ok (.iconst 1, 1) := by decide +kernel
theorem dX8_isOver_1 : decode cX8_isOver 1 = .ok (.istore_n 2, 1) := by decide +kernel
theorem dX8_isOver_2 : decode cX8_isOver 2 = .ok (.iconst 0, 1) := by decide +kernel
theorem dX8_isOver_3 : decode cX8_isOver 3 = .ok (.istore_n 3, 1) := by decide +kernel
theorem dX8_isOver_4 : decode cX8_isOver 4 = .ok (.iload_n 3, 1) := by decide +kernel
theorem dX8_isOver_5 : decode cX8_isOver 5 = .ok (.aload_n 0, 1) := by decide +kernel
theorem dX8_isOver_6 : decode cX8_isOver 6 = .ok (.getfield 72, 3) := by decide +kernel
theorem dX8_isOver_9 : decode cX8_isOver 9 = .ok (.if_icmp .ge 30, 3) := by decide +kernel
theorem dX8_isOver_12 : decode cX8_isOver 12 = .ok (.iload_n 2, 1) := by decide +kernel
theorem dX8_isOver_13 : decode cX8_isOver 13 = .ok (.ifCond .eq 18, 3) := by decide +kernel
theorem dX8_isOver_16 : decode cX8_isOver 16 = .ok (.aload_n 0, 1) := by decide +kernel
theorem dX8_isOver_17 : decode cX8_isOver 17 = .ok (.getfield 59, 3) := by decide +kernel
theorem dX8_isOver_20 : decode cX8_isOver 20 = .ok (.iload_n 1, 1) := by decide +kernel
theorem dX8_isOver_21 : decode cX8_isOver 21 = .ok (.iload_n 3, 1) := by decide +kernel
theorem dX8_isOver_22 : decode cX8_isOver 22 = .ok (.iadd, 1) := by decide +kernel
theorem dX8_isOver_23 : decode cX8_isOver 23 = .ok (.baload, 1) := by decide +kernel
theorem dX8_isOver_24 : decode cX8_isOver 24 = .ok (.ifCond .eq 7, 3) := by decide +kernel
theorem dX8_isOver_27 : decode cX8_isOver 27 = .ok (.iconst 1, 1) := by decide +kernel
theorem dX8_isOver_28 : decode cX8_isOver 28 = .ok (.goto 4, 3) := by decide +kernel
theorem dX8_isOver_31 : decode cX8_isOver 31 = .ok (.iconst 0, 1) := by decide +kernel
theorem dX8_isOver_32 : decode cX8_isOver 32 = .ok (.istore_n 2, 1) := by decide +kernel
theorem dX8_isOver_33 : decode cX8_isOver 33 = .ok (.iinc 3 1, 3) := by decide +kernel
theorem dX8_isOver_36 : decode cX8_isOver 36 = .ok (.goto (-32), 3) := by decide +kernel
theorem dX8_isOver_39 : decode cX8_isOver 39 = .ok (.iload_n 2, 1) := by decide +kernel
theorem dX8_isOver_40 : decode cX8_isOver 40 = .ok (.ireturn, 1) := by decide +kernel
set_option maxRecDepth 20000 in
theorem ggX8_run_X8_fails : GoodIn wsX8_run wsX8_fails := goodIn_r _ [14, 15, 46, 47, 48, 49, 50, 51, 52, 53, 54, 55, 56, 57, 58, 59, 60, 61, 62, 63, 64, 65, 66, 67, 68, 69, 70, 71, 72, 73, 74, 75, 76, 77, 78, 79, 80, 81] (by decide +kernel) (by decide +kernel)
set_option maxRecDepth 20000 in
theorem gX8_run_X8_fails : GoodIn wsX8_run (wsV RX8 87 RX8 yX8_fails wsX8_fails) := goodIn_app (goodIn_of _ (by decide +kernel)) ggX8_run_X8_fails
set_option maxRecDepth 20000 in
theorem ggX8_run_X8_isIn : GoodIn wsX8_run wsX8_isIn := goodIn_r _ [18] (by decide +kernel) (by decide +kernel)
set_option maxRecDepth 20000 in
theorem gX8_run_X8_isIn : GoodIn wsX8_run (va_wsS RX8 75 yX8_isIn wsX8_isIn) := goodIn_app (goodIn_of _ (by decide +kernel)) ggX8_run_X8_isIn
set_option maxRecDepth 20000 in
theorem ggX8_run_X8_isOver : GoodIn wsX8_run wsX8_isOver := goodIn_r _ [22, 3, 7, 46, 47, 48, 49, 50, 51, 52, 53, 54, 55, 56, 57, 58, 59, 60, 61, 62, 63, 64, 65, 66, 67, 68, 69, 70, 71, 72, 73, 74, 75, 76, 77, 78, 79, 80, 81] (by decide +kernel) (by decide +kernel)
set_option maxRecDepth 20000 in
theorem gX8_run_X8_isOver : GoodIn wsX8_run (wsV RX8 221 RX8 yX8_isOver wsX8_isOver) := goodIn_app (goodIn_of _ (by decide +kernel)) ggX8_run_X8_isOver
set_option maxRecDepth 20000 in
theorem ggX8_run_X8_goes : GoodIn wsX8_run wsX8_goes := goodIn_r _ [26, 4, 7, 27, 28, 5, 29, 30, 31, 32, 33, 34, 35, 13, 36, 37, 38, 39, 40, 41, 42, 43, 44, 45, 16, 17, 18, 46, 47, 48, 49, 50, 51, 52, 53, 54, 55, 56, 57, 58, 59, 60, 61, 62, 63, 64, 65, 66, 67, 68, 69, 70, 71, 72, 73, 74, 75, 76, 77, 78, 79, 80, 81] (by decide +kernel) (by decide +kernel)
set_option maxRecDepth 20000 in
theorem gX8_run_X8_goes : GoodIn wsX8_run (wsV RX8 224 RX8 yX8_goes wsX8_goes) := goodIn_app (goodIn_of _ (by decide +kernel)) ggX8_run_X8_goes
theorem dX8_run_0 : decode cX8_run 0 = .ok (.aload_n 0, 1) := by decide +kernel
theorem dX8_run_1 : decode cX8_run 1 = .ok (.aload_n 0, 1) := by decide +kernel
theorem dX8_run_2 : decode cX8_run 2 = .ok (.getfield 79, 3) := by decide +kernel
theorem dX8_run_5 : decode cX8_run 5 = .ok (.ifCond .ne 7, 3) := by decide +kernel
theorem dX8_run_8 : decode cX8_run 8 = .ok (.iconst 1, 1) := by decide +kernel
theorem dX8_run_9 : decode cX8_run 9 = .ok (.goto 4, 3) := by decide +kernel
theorem dX8_run_12 : decode cX8_run 12 = .ok (.iconst 0, 1) := by decide +kernel
theorem dX8_run_13 : decode cX8_run 13 = .ok (.iconst 0, 1) := by decide +kernel
theorem dX8_run_14 : decode cX8_run 14 = .ok (.invokevirtual 87, 3) := by decide +kernel
theorem dX8_run_17 : decode cX8_run 17 = .ok (.ifCond .eq 5, 3) := by decide +kernel
theorem dX8_run_20 : decode cX8_run 20 = .ok (.iconst 0, 1) := by decide +kernel
theorem dX8_run_21 : decode cX8_run 21 = .ok (.ireturn, 1) := by decide +kernel
theorem dX8_run_22 : decode cX8_run 22 = .ok (.iload_n 1, 1) := by decide +kernel
theorem dX8_run_23 : decode cX8_run 23 = .ok (.iconst 0, 1) := by decide +kernel
theorem dX8_run_24 : decode cX8_run 24 = .ok (.sipush 500, 3) := by decide +kernel
theorem dX8_run_27 : decode cX8_run 27 = .ok (.invokestatic 75, 3) := by decide +kernel
theorem dX8_run_30 : decode cX8_run 30 = .ok (.ifCond .ne 5, 3) := by decide +kernel
theorem dX8_run_33 : decode cX8_run 33 = .ok (.iconst (-1), 1) := by decide +kernel
theorem dX8_run_34 : decode cX8_run 34 = .ok (.ireturn, 1) := by decide +kernel
theorem dX8_run_35 : decode cX8_run 35 = .ok (.iconst 0, 1) := by decide +kernel
theorem dX8_run_36 : decode cX8_run 36 = .ok (.istore_n 2, 1) := by decide +kernel
theorem dX8_run_37 : decode cX8_run 37 = .ok (.iload_n 2, 1) := by decide +kernel
theorem dX8_run_38 : decode cX8_run 38 = .ok (.iload_n 1, 1) := by decide +kernel
theorem dX8_run_39 : decode cX8_run 39 = .ok (.if_icmp .ge 121, 3) := by decide +kernel
theorem dX8_run_42 : decode cX8_run 42 = .ok (.aload_n 0, 1) := by decide +kernel
theorem dX8_run_43 : decode cX8_run 43 = .ok (.iconst 0, 1) := by decide +kernel
theorem dX8_run_44 : decode cX8_run 44 = .ok (.invokevirtual 221, 3) := by decide +kernel
theorem dX8_run_47 : decode cX8_run 47 = .ok (.ifCond .ne 113, 3) := by decide +kernel
theorem dX8_run_50 : decode cX8_run 50 = .ok (.iinc 2 1, 3) := by decide +kernel
theorem dX8_run_53 : decode cX8_run 53 = .ok (.aload_n 0, 1) := by decide +kernel
theorem dX8_run_54 : decode cX8_run 54 = .ok (.dup, 1) := by decide +kernel
theorem dX8_run_55 : decode cX8_run 55 = .ok (.getfield 208, 3) := by decide +kernel
theorem dX8_run_58 : decode cX8_run 58 = .ok (.iconst 1, 1) := by decide +kernel
theorem dX8_run_59 : decode cX8_run 59 = .ok (.iadd, 1) := by decide +kernel
theorem dX8_run_60 : decode cX8_run 60 = .ok (.putfield 208, 3) := by decide +kernel
theorem dX8_run_63 : decode cX8_run 63 = .ok (.iconst 0, 1) := by decide +kernel
theorem dX8_run_64 : decode cX8_run 64 = .ok (.istore_n 3, 1) := by decide +kernel
theorem dX8_run_65 : decode cX8_run 65 = .ok (.iload_n 3, 1) := by decide +kernel
theorem dX8_run_66 : decode cX8_run 66 = .ok (.aload_n 0, 1) := by decide +kernel
theorem dX8_run_67 : decode cX8_run 67 = .ok (.getfield 72, 3) := by decide +kernel
theorem dX8_run_70 : decode cX8_run 70 = .ok (.if_icmp .ge 87, 3) := by decide +kernel
theorem dX8_run_73 : decode cX8_run 73 = .ok (.aload_n 0, 1) := by decide +kernel
theorem dX8_run_74 : decode cX8_run 74 = .ok (.getfield 13, 3) := by decide +kernel
theorem dX8_run_77 : decode cX8_run 77 = .ok (.iload_n 3, 1) := by decide +kernel
theorem dX8_run_78 : decode cX8_run 78 = .ok (.iaload, 1) := by decide +kernel
theorem dX8_run_79 : decode cX8_run 79 = .ok (.istore 4, 2) := by decide +kernel
theorem dX8_run_81 : decode cX8_run 81 = .ok (.aload_n 0, 1) := by decide +kernel
theorem dX8_run_82 : decode cX8_run 82 = .ok (.iconst 0, 1) := by decide +kernel
theorem dX8_run_83 : decode cX8_run 83 = .ok (.iload_n 3, 1) := by decide +kernel
theorem dX8_run_84 : decode cX8_run 84 = .ok (.aload_n 0, 1) := by decide +kernel
theorem dX8_run_85 : decode cX8_run 85 = .ok (.getfield 208, 3) := by decide +kernel
theorem dX8_run_88 : decode cX8_run 88 = .ok (.iconst 0, 1) := by decide +kernel
theorem dX8_run_89 : decode cX8_run 89 = .ok (.invokevirtual 224, 3) := by decide +kernel
theorem dX8_run_92 : decode cX8_run 92 = .ok (.ifCond .ne 6, 3) := by decide +kernel
theorem dX8_run_95 : decode cX8_run 95 = .ok (.goto 56, 3) := by decide +kernel
theorem dX8_run_98 : decode cX8_run 98 = .ok (.aload_n 0, 1) := by decide +kernel
theorem dX8_run_99 : decode cX8_run 99 = .ok (.getfield 47, 3) := by decide +kernel
theorem dX8_run_102 : decode cX8_run 102 = .ok (.iload 4, 2) := by decide +kernel
theorem dX8_run_104 : decode cX8_run 104 = .ok (.iaload, 1) := by decide +kernel
theorem dX8_run_105 : decode cX8_run 105 = .ok (.ifCond .ne 14, 3) := by decide +kernel
theorem dX8_run_108 : decode cX8_run 108 = .ok (.aload_n 0, 1) := by decide +kernel
theorem dX8_run_109 : decode cX8_run 109 = .ok (.getfield 63, 3) := by decide +kernel
theorem dX8_run_112 : decode cX8_run 112 = .ok (.iload 4, 2) := by decide +kernel
theorem dX8_run_114 : decode cX8_run 114 = .ok (.aload_n 0, 1) := by decide +kernel
theorem dX8_run_115 : decode cX8_run 115 = .ok (.getfield 208, 3) := by decide +kernel
theorem dX8_run_118 : decode cX8_run 118 = .ok (.iastore, 1) := by decide +kernel
theorem dX8_run_119 : decode cX8_run 119 = .ok (.aload_n 0, 1) := by decide +kernel
theorem dX8_run_120 : decode cX8_run 120 = .ok (.getfield 59, 3) := by decide +kernel
theorem dX8_run_123 : decode cX8_run 123 = .ok (.iload 4, 2) := by decide +kernel
theorem dX8_run_125 : decode cX8_run 125 = .ok (.baload, 1) := by decide +kernel
theorem dX8_run_126 : decode cX8_run 126 = .ok (.ifCond .ne 6, 3) := by decide +kernel
theorem dX8_run_129 : decode cX8_run 129 = .ok (.goto 22, 3) := by decide +kernel
theorem dX8_run_132 : decode cX8_run 132 = .ok (.aload_n 0, 1) := by decide +kernel
theorem dX8_run_133 : decode cX8_run 133 = .ok (.getfield 66, 3) := by decide +kernel
theorem dX8_run_136 : decode cX8_run 136 = .ok (.iload 4, 2) := by decide +kernel
theorem dX8_run_138 : decode cX8_run 138 = .ok (.aload_n 0, 1) := by decide +kernel
theorem dX8_run_139 : decode cX8_run 139 = .ok (.getfield 208, 3) := by decide +kernel
theorem dX8_run_142 : decode cX8_run 142 = .ok (.iastore, 1) := by decide +kernel
theorem dX8_run_143 : decode cX8_run 143 = .ok (.aload_n 0, 1) := by decide +kernel
theorem dX8_run_144 : decode cX8_run 144 = .ok (.aload_n 0, 1) := by decide +kernel
theorem dX8_run_145 : decode cX8_run 145 = .ok (.getfield 208, 3) := by decide +kernel
theorem dX8_run_148 : decode cX8_run 148 = .ok (.putfield 211, 3) := by decide +kernel
theorem dX8_run_151 : decode cX8_run 151 = .ok (.iinc 3 1, 3) := by decide +kernel
theorem dX8_run_154 : decode cX8_run 154 = .ok (.goto (-89), 3) := by decide +kernel
theorem dX8_run_157 : decode cX8_run 157 = .ok (.goto (-120), 3) := by decide +kernel
theorem dX8_run_160 : decode cX8_run 160 = .ok (.iload_n 2, 1) := by decide +kernel
theorem dX8_run_161 : decode cX8_run 161 = .ok (.ireturn, 1) := by decide +kernel
set_option maxRecDepth 20000 in
theorem ggX8_minute_X8_fails : GoodIn wsX8_minute wsX8_fails := goodIn_r _ [7, 8, 9, 10, 11, 12, 13, 14, 15, 16, 17, 18, 19, 20, 21, 22, 23, 24, 25, 26, 27, 28, 29, 30, 31, 32, 33, 34, 35, 36, 37, 38, 39, 40, 41, 42, 43, 44] (by decide +kernel) (by decide +kernel)
set_option maxRecDepth 20000 in
theorem gX8_minute_X8_fails : GoodIn wsX8_minute (wsV RX8 87 RX8 yX8_fails wsX8_fails) := goodIn_app (goodIn_of _ (by decide +kernel)) ggX8_minute_X8_fails
theorem dX8_minute_0 : decode cX8_minute 0 = .ok (.aload_n 0, 1) := by decide +kernel
theorem dX8_minute_1 : decode cX8_minute 1 = .ok (.aload_n 0, 1) := by decide +kernel
theorem dX8_minute_2 : decode cX8_minute 2 = .ok (.getfield 79, 3) := by decide +kernel
theorem dX8_minute_5 : decode cX8_minute 5 = .ok (.ifCond .ne 7, 3) := by decide +kernel
theorem dX8_minute_8 : decode cX8_minute 8 = .ok (.iconst 1, 1) := by decide +kernel
theorem dX8_minute_9 : decode cX8_minute 9 = .ok (.goto 4, 3) := by decide +kernel
theorem dX8_minute_12 : decode cX8_minute 12 = .ok (.iconst 0, 1) := by decide +kernel
theorem dX8_minute_13 : decode cX8_minute 13 = .ok (.iconst 0, 1) := by decide +kernel
theorem dX8_minute_14 : decode cX8_minute 14 = .ok (.invokevirtual 87, 3) := by decide +kernel
theorem dX8_minute_17 : decode cX8_minute 17 = .ok (.ifCond .eq 5, 3) := by decide +kernel
theorem dX8_minute_20 : decode cX8_minute 20 = .ok (.iconst 0, 1) := by decide +kernel
theorem dX8_minute_21 : decode cX8_minute 21 = .ok (.ireturn, 1) := by decide +kernel
theorem dX8_minute_22 : decode cX8_minute 22 = .ok (.aload_n 0, 1) := by decide +kernel
theorem dX8_minute_23 : decode cX8_minute 23 = .ok (.getfield 208, 3) := by decide +kernel
theorem dX8_minute_26 : decode cX8_minute 26 = .ok (.ireturn, 1) := by decide +kernel
theorem dX8_isOn_0 : decode cX8_isOn 0 = .ok (.aload_n 0, 1) := by decide +kernel
theorem dX8_isOn_1 : decode cX8_isOn 1 = .ok (.getfield 59, 3) := by decide +kernel
theorem dX8_isOn_4 : decode cX8_isOn 4 = .ok (.iload_n 1, 1) := by decide +kernel
theorem dX8_isOn_5 : decode cX8_isOn 5 = .ok (.baload, 1) := by decide +kernel
theorem dX8_isOn_6 : decode cX8_isOn 6 = .ok (.ifCond .ne 16, 3) := by decide +kernel
theorem dX8_isOn_9 : decode cX8_isOn 9 = .ok (.aload_n 0, 1) := by decide +kernel
theorem dX8_isOn_10 : decode cX8_isOn 10 = .ok (.getfield 47, 3) := by decide +kernel
theorem dX8_isOn_13 : decode cX8_isOn 13 = .ok (.iload_n 1, 1) := by decide +kernel
theorem dX8_isOn_14 : decode cX8_isOn 14 = .ok (.iaload, 1) := by decide +kernel
theorem dX8_isOn_15 : decode cX8_isOn 15 = .ok (.ifCond .lt 7, 3) := by decide +kernel
theorem dX8_isOn_18 : decode cX8_isOn 18 = .ok (.iconst 1, 1) := by decide +kernel
theorem dX8_isOn_19 : decode cX8_isOn 19 = .ok (.goto 4, 3) := by decide +kernel
theorem dX8_isOn_22 : decode cX8_isOn 22 = .ok (.iconst 0, 1) := by decide +kernel
theorem dX8_isOn_23 : decode cX8_isOn 23 = .ok (.ireturn, 1) := by decide +kernel
set_option maxRecDepth 20000 in
theorem ggX8_at_X8_isNo : GoodIn wsX8_at wsX8_isNo := goodIn_r _ [12, 13, 14, 15, 11, 16, 31, 32, 33, 34, 35, 36, 37, 38, 39, 40, 41, 42, 43, 44, 45, 46, 47, 48, 49, 50, 51, 52, 53, 54, 55, 56, 57, 58, 59, 60, 61, 62, 63, 64, 65, 66] (by decide +kernel) (by decide +kernel)
set_option maxRecDepth 20000 in
theorem gX8_at_X8_isNo : GoodIn wsX8_at (wsV RX8 83 RX8 yX8_isNo wsX8_isNo) := goodIn_app (goodIn_of _ (by decide +kernel)) ggX8_at_X8_isNo
set_option maxRecDepth 20000 in
theorem ggX8_at_X8_fails : GoodIn wsX8_at wsX8_fails := goodIn_r _ [20, 21, 31, 32, 33, 34, 35, 36, 37, 38, 39, 40, 41, 42, 43, 44, 45, 46, 47, 48, 49, 50, 51, 52, 53, 54, 55, 56, 57, 58, 59, 60, 61, 62, 63, 64, 65, 66] (by decide +kernel) (by decide +kernel)
set_option maxRecDepth 20000 in
theorem gX8_at_X8_fails : GoodIn wsX8_at (wsV RX8 87 RX8 yX8_fails wsX8_fails) := goodIn_app (goodIn_of _ (by decide +kernel)) ggX8_at_X8_fails
set_option maxRecDepth 20000 in
theorem ggX8_at_X8_tail : GoodIn wsX8_at wsX8_tail := goodIn_r _ [25, 2, 26, 27, 28, 11, 29, 30, 31, 32, 33, 34, 35, 36, 37, 38, 39, 40, 41, 42, 43, 44, 45, 46, 47, 48, 49, 50, 51, 52, 53, 54, 55, 56, 57, 58, 59, 60, 61, 62, 63, 64, 65, 66] (by decide +kernel) (by decide +kernel)
set_option maxRecDepth 20000 in
theorem gX8_at_X8_tail : GoodIn wsX8_at (wsV RX8 218 RX8 yX8_tail wsX8_tail) := goodIn_app (goodIn_of _ (by decide +kernel)) ggX8_at_X8_tail
theorem dX8_at_0 : decode cX8_at 0 = .ok (.aload_n 0, 1) := by decide +kernel
theorem dX8_at_1 : decode cX8_at 1 = .ok (.aload_n 0, 1) := by decide +kernel
theorem dX8_at_2 : decode cX8_at 2 = .ok (.iload_n 1, 1) := by decide +kernel
theorem dX8_at_3 : decode cX8_at 3 = .ok (.invokevirtual 83, 3) := by decide +kernel
theorem dX8_at_6 : decode cX8_at 6 = .ok (.aload_n 0, 1) := by decide +kernel
theorem dX8_at_7 : decode cX8_at 7 = .ok (.getfield 79, 3) := by decide +kernel
theorem dX8_at_10 : decode cX8_at 10 = .ok (.ifCond .ne 7, 3) := by decide +kernel
theorem dX8_at_13 : decode cX8_at 13 = .ok (.iconst 1, 1) := by decide +kernel
theorem dX8_at_14 : decode cX8_at 14 = .ok (.goto 4, 3) := by decide +kernel
theorem dX8_at_17 : decode cX8_at 17 = .ok (.iconst 0, 1) := by decide +kernel
theorem dX8_at_18 : decode cX8_at 18 = .ok (.invokevirtual 87, 3) := by decide +kernel
theorem dX8_at_21 : decode cX8_at 21 = .ok (.ifCond .eq 5, 3) := by decide +kernel
theorem dX8_at_24 : decode cX8_at 24 = .ok (.iconst 0, 1) := by decide +kernel
theorem dX8_at_25 : decode cX8_at 25 = .ok (.ireturn, 1) := by decide +kernel
theorem dX8_at_26 : decode cX8_at 26 = .ok (.iload_n 2, 1) := by decide +kernel
theorem dX8_at_27 : decode cX8_at 27 = .ok (.tableswitch 111 0 4 #[33, 40, 47, 97, 104], 33) := by decide +kernel
theorem dX8_at_60 : decode cX8_at 60 = .ok (.aload_n 0, 1) := by decide +kernel
theorem dX8_at_61 : decode cX8_at 61 = .ok (.getfield 47, 3) := by decide +kernel
theorem dX8_at_64 : decode cX8_at 64 = .ok (.iload_n 1, 1) := by decide +kernel
theorem dX8_at_65 : decode cX8_at 65 = .ok (.iaload, 1) := by decide +kernel
theorem dX8_at_66 : decode cX8_at 66 = .ok (.ireturn, 1) := by decide +kernel
theorem dX8_at_67 : decode cX8_at 67 = .ok (.aload_n 0, 1) := by decide +kernel
theorem dX8_at_68 : decode cX8_at 68 = .ok (.iconst 0, 1) := by decide +kernel
theorem dX8_at_69 : decode cX8_at 69 = .ok (.iload_n 1, 1) := by decide +kernel
theorem dX8_at_70 : decode cX8_at 70 = .ok (.invokevirtual 218, 3) := by decide +kernel
theorem dX8_at_73 : decode cX8_at 73 = .ok (.ireturn, 1) := by decide +kernel
theorem dX8_at_74 : decode cX8_at 74 = .ok (.aload_n 0, 1) := by decide +kernel
theorem dX8_at_75 : decode cX8_at 75 = .ok (.getfield 59, 3) := by decide +kernel
theorem dX8_at_78 : decode cX8_at 78 = .ok (.iload_n 1, 1) := by decide +kernel
theorem dX8_at_79 : decode cX8_at 79 = .ok (.baload, 1) := by decide +kernel
theorem dX8_at_80 : decode cX8_at 80 = .ok (.ifCond .eq 7, 3) := by decide +kernel
theorem dX8_at_83 : decode cX8_at 83 = .ok (.iconst 3, 1) := by decide +kernel
theorem dX8_at_84 : decode cX8_at 84 = .ok (.goto 39, 3) := by decide +kernel
theorem dX8_at_87 : decode cX8_at 87 = .ok (.aload_n 0, 1) := by decide +kernel
theorem dX8_at_88 : decode cX8_at 88 = .ok (.getfield 47, 3) := by decide +kernel
theorem dX8_at_91 : decode cX8_at 91 = .ok (.iload_n 1, 1) := by decide +kernel
theorem dX8_at_92 : decode cX8_at 92 = .ok (.iaload, 1) := by decide +kernel
theorem dX8_at_93 : decode cX8_at 93 = .ok (.ifCond .ge 7, 3) := by decide +kernel
theorem dX8_at_96 : decode cX8_at 96 = .ok (.iconst 0, 1) := by decide +kernel
theorem dX8_at_97 : decode cX8_at 97 = .ok (.goto 26, 3) := by decide +kernel
theorem dX8_at_100 : decode cX8_at 100 = .ok (.aload_n 0, 1) := by decide +kernel
theorem dX8_at_101 : decode cX8_at 101 = .ok (.getfield 50, 3) := by decide +kernel
theorem dX8_at_104 : decode cX8_at 104 = .ok (.iload_n 1, 1) := by decide +kernel
theorem dX8_at_105 : decode cX8_at 105 = .ok (.iaload, 1) := by decide +kernel
theorem dX8_at_106 : decode cX8_at 106 = .ok (.ifCond .gt 12, 3) := by decide +kernel
theorem dX8_at_109 : decode cX8_at 109 = .ok (.aload_n 0, 1) := by decide +kernel
theorem dX8_at_110 : decode cX8_at 110 = .ok (.getfield 53, 3) := by decide +kernel
theorem dX8_at_113 : decode cX8_at 113 = .ok (.iload_n 1, 1) := by decide +kernel
theorem dX8_at_114 : decode cX8_at 114 = .ok (.iaload, 1) := by decide +kernel
theorem dX8_at_115 : decode cX8_at 115 = .ok (.ifCond .le 7, 3) := by decide +kernel
theorem dX8_at_118 : decode cX8_at 118 = .ok (.iconst 2, 1) := by decide +kernel
theorem dX8_at_119 : decode cX8_at 119 = .ok (.goto 4, 3) := by decide +kernel
theorem dX8_at_122 : decode cX8_at 122 = .ok (.iconst 1, 1) := by decide +kernel
theorem dX8_at_123 : decode cX8_at 123 = .ok (.ireturn, 1) := by decide +kernel
theorem dX8_at_124 : decode cX8_at 124 = .ok (.aload_n 0, 1) := by decide +kernel
theorem dX8_at_125 : decode cX8_at 125 = .ok (.getfield 63, 3) := by decide +kernel
theorem dX8_at_128 : decode cX8_at 128 = .ok (.iload_n 1, 1) := by decide +kernel
theorem dX8_at_129 : decode cX8_at 129 = .ok (.iaload, 1) := by decide +kernel
theorem dX8_at_130 : decode cX8_at 130 = .ok (.ireturn, 1) := by decide +kernel
theorem dX8_at_131 : decode cX8_at 131 = .ok (.aload_n 0, 1) := by decide +kernel
theorem dX8_at_132 : decode cX8_at 132 = .ok (.getfield 66, 3) := by decide +kernel
theorem dX8_at_135 : decode cX8_at 135 = .ok (.iload_n 1, 1) := by decide +kernel
theorem dX8_at_136 : decode cX8_at 136 = .ok (.iaload, 1) := by decide +kernel
theorem dX8_at_137 : decode cX8_at 137 = .ok (.ireturn, 1) := by decide +kernel
theorem dX8_at_138 : decode cX8_at 138 = .ok (.bipush (-100), 2) := by decide +kernel
theorem dX8_at_140 : decode cX8_at 140 = .ok (.ireturn, 1) := by decide +kernel
set_option maxRecDepth 20000 in
theorem ggX8_who_X8_fails : GoodIn wsX8_who wsX8_fails := goodIn_r _ [8, 9, 32, 33, 34, 35, 36, 37, 38, 39, 40, 41, 42, 43, 44, 45, 46, 47, 48, 49, 50, 51, 52, 53, 54, 55, 56, 57, 58, 59, 60, 61, 62, 63, 64, 65, 66, 67] (by decide +kernel) (by decide +kernel)
set_option maxRecDepth 20000 in
theorem gX8_who_X8_fails : GoodIn wsX8_who (wsV RX8 87 RX8 yX8_fails wsX8_fails) := goodIn_app (goodIn_of _ (by decide +kernel)) ggX8_who_X8_fails
set_option maxRecDepth 20000 in
theorem ggX8_who_X8_isCell : GoodIn wsX8_who wsX8_isCell := goodIn_r _ [13, 14, 15, 16, 7, 17, 32, 33, 34, 35, 36, 37, 38, 39, 40, 41, 42, 43, 44, 45, 46, 47, 48, 49, 50, 51, 52, 53, 54, 55, 56, 57, 58, 59, 60, 61, 62, 63, 64, 65, 66, 67] (by decide +kernel) (by decide +kernel)
set_option maxRecDepth 20000 in
theorem gX8_who_X8_isCell : GoodIn wsX8_who (wsV RX8 202 RX8 yX8_isCell wsX8_isCell) := goodIn_app (goodIn_of _ (by decide +kernel)) ggX8_who_X8_isCell
set_option maxRecDepth 20000 in
theorem ggX8_who_X8_isOn : GoodIn wsX8_who wsX8_isOn := goodIn_r _ [21, 22, 3, 32, 33, 34, 35, 36, 37, 38, 39, 40, 41, 42, 43, 44, 45, 46, 47, 48, 49, 50, 51, 52, 53, 54, 55, 56, 57, 58, 59, 60, 61, 62, 63, 64, 65, 66, 67] (by decide +kernel) (by decide +kernel)
set_option maxRecDepth 20000 in
theorem gX8_who_X8_isOn : GoodIn wsX8_who (wsV RX8 228 RX8 yX8_isOn wsX8_isOn) := goodIn_app (goodIn_of _ (by decide +kernel)) ggX8_who_X8_isOn
set_option maxRecDepth 20000 in
theorem ggX8_who_X8_tail : GoodIn wsX8_who wsX8_tail := goodIn_r _ [26, 3, 27, 28, 29, 7, 30, 31, 32, 33, 34, 35, 36, 37, 38, 39, 40, 41, 42, 43, 44, 45, 46, 47, 48, 49, 50, 51, 52, 53, 54, 55, 56, 57, 58, 59, 60, 61, 62, 63, 64, 65, 66, 67] (by decide +kernel) (by decide +kernel)
set_option maxRecDepth 20000 in
theorem gX8_who_X8_tail : GoodIn wsX8_who (wsV RX8 218 RX8 yX8_tail wsX8_tail) := goodIn_app (goodIn_of _ (by decide +kernel)) ggX8_who_X8_tail
theorem dX8_who_0 : decode cX8_who 0 = .ok (.aload_n 0, 1) := by decide +kernel
theorem dX8_who_1 : decode cX8_who 1 = .ok (.aload_n 0, 1) := by decide +kernel
theorem dX8_who_2 : decode cX8_who 2 = .ok (.getfield 79, 3) := by decide +kernel
theorem dX8_who_5 : decode cX8_who 5 = .ok (.ifCond .ne 7, 3) := by decide +kernel
theorem dX8_who_8 : decode cX8_who 8 = .ok (.iconst 1, 1) := by decide +kernel
theorem dX8_who_9 : decode cX8_who 9 = .ok (.goto 4, 3) := by decide +kernel
theorem dX8_who_12 : decode cX8_who 12 = .ok (.iconst 0, 1) := by decide +kernel
theorem dX8_who_13 : decode cX8_who 13 = .ok (.iconst 0, 1) := by decide +kernel
theorem dX8_who_14 : decode cX8_who 14 = .ok (.invokevirtual 87, 3) := by decide +kernel
theorem dX8_who_17 : decode cX8_who 17 = .ok (.ifCond .eq 5, 3) := by decide +kernel
theorem dX8_who_20 : decode cX8_who 20 = .ok (.iconst 0, 1) := by decide +kernel
theorem dX8_who_21 : decode cX8_who 21 = .ok (.ireturn, 1) := by decide +kernel
theorem dX8_who_22 : decode cX8_who 22 = .ok (.iconst 0, 1) := by decide +kernel
theorem dX8_who_23 : decode cX8_who 23 = .ok (.istore_n 2, 1) := by decide +kernel
theorem dX8_who_24 : decode cX8_who 24 = .ok (.iload_n 2, 1) := by decide +kernel
theorem dX8_who_25 : decode cX8_who 25 = .ok (.aload_n 0, 1) := by decide +kernel
theorem dX8_who_26 : decode cX8_who 26 = .ok (.getfield 72, 3) := by decide +kernel
theorem dX8_who_29 : decode cX8_who 29 = .ok (.if_icmp .ge 47, 3) := by decide +kernel
theorem dX8_who_32 : decode cX8_who 32 = .ok (.aload_n 0, 1) := by decide +kernel
theorem dX8_who_33 : decode cX8_who 33 = .ok (.iload_n 1, 1) := by decide +kernel
theorem dX8_who_34 : decode cX8_who 34 = .ok (.invokevirtual 202, 3) := by decide +kernel
theorem dX8_who_37 : decode cX8_who 37 = .ok (.ifCond .eq 39, 3) := by decide +kernel
theorem dX8_who_40 : decode cX8_who 40 = .ok (.aload_n 0, 1) := by decide +kernel
theorem dX8_who_41 : decode cX8_who 41 = .ok (.iload_n 2, 1) := by decide +kernel
theorem dX8_who_42 : decode cX8_who 42 = .ok (.invokevirtual 228, 3) := by decide +kernel
theorem dX8_who_45 : decode cX8_who 45 = .ok (.ifCond .eq 25, 3) := by decide +kernel
theorem dX8_who_48 : decode cX8_who 48 = .ok (.aload_n 0, 1) := by decide +kernel
theorem dX8_who_49 : decode cX8_who 49 = .ok (.iconst 0, 1) := by decide +kernel
theorem dX8_who_50 : decode cX8_who 50 = .ok (.iload_n 2, 1) := by decide +kernel
theorem dX8_who_51 : decode cX8_who 51 = .ok (.invokevirtual 218, 3) := by decide +kernel
theorem dX8_who_54 : decode cX8_who 54 = .ok (.iload_n 1, 1) := by decide +kernel
theorem dX8_who_55 : decode cX8_who 55 = .ok (.if_icmp .gt 15, 3) := by decide +kernel
theorem dX8_who_58 : decode cX8_who 58 = .ok (.aload_n 0, 1) := by decide +kernel
theorem dX8_who_59 : decode cX8_who 59 = .ok (.getfield 47, 3) := by decide +kernel
theorem dX8_who_62 : decode cX8_who 62 = .ok (.iload_n 2, 1) := by decide +kernel
theorem dX8_who_63 : decode cX8_who 63 = .ok (.iaload, 1) := by decide +kernel
theorem dX8_who_64 : decode cX8_who 64 = .ok (.iload_n 1, 1) := by decide +kernel
theorem dX8_who_65 : decode cX8_who 65 = .ok (.if_icmp .lt 5, 3) := by decide +kernel
theorem dX8_who_68 : decode cX8_who 68 = .ok (.iload_n 2, 1) := by decide +kernel
theorem dX8_who_69 : decode cX8_who 69 = .ok (.ireturn, 1) := by decide +kernel
theorem dX8_who_70 : decode cX8_who 70 = .ok (.iinc 2 1, 3) := by decide +kernel
theorem dX8_who_73 : decode cX8_who 73 = .ok (.goto (-49), 3) := by decide +kernel
theorem dX8_who_76 : decode cX8_who 76 = .ok (.iconst (-1), 1) := by decide +kernel
theorem dX8_who_77 : decode cX8_who 77 = .ok (.ireturn, 1) := by decide +kernel
set_option maxRecDepth 20000 in
theorem ggX8_hole_X8_fails : GoodIn wsX8_hole wsX8_fails := goodIn_r _ [13, 14, 29, 30, 31, 32, 33, 34, 35, 36, 37, 38, 39, 40, 41, 42, 43, 44, 45, 46, 47, 48, 49, 50, 51, 52, 53, 54, 55, 56, 57, 58, 59, 60, 61, 62, 63, 64] (by decide +kernel) (by decide +kernel)
set_option maxRecDepth 20000 in
theorem gX8_hole_X8_fails : GoodIn wsX8_hole (wsV RX8 87 RX8 yX8_fails wsX8_fails) := goodIn_app (goodIn_of _ (by decide +kernel)) ggX8_hole_X8_fails
set_option maxRecDepth 20000 in
theorem ggX8_hole_X8_isOn : GoodIn wsX8_hole wsX8_isOn := goodIn_r _ [18, 19, 4, 29, 30, 31, 32, 33, 34, 35, 36, 37, 38, 39, 40, 41, 42, 43, 44, 45, 46, 47, 48, 49, 50, 51, 52, 53, 54, 55, 56, 57, 58, 59, 60, 61, 62, 63, 64] (by decide +kernel) (by decide +kernel)
set_option maxRecDepth 20000 in
theorem gX8_hole_X8_isOn : GoodIn wsX8_hole (wsV RX8 228 RX8 yX8_isOn wsX8_isOn) := goodIn_app (goodIn_of _ (by decide +kernel)) ggX8_hole_X8_isOn
set_option maxRecDepth 20000 in
theorem ggX8_hole_X8_tail : GoodIn wsX8_hole wsX8_tail := goodIn_r _ [23, 4, 24, 25, 26, 12, 27, 28, 29, 30, 31, 32, 33, 34, 35, 36, 37, 38, 39, 40, 41, 42, 43, 44, 45, 46, 47, 48, 49, 50, 51, 52, 53, 54, 55, 56, 57, 58, 59, 60, 61, 62, 63, 64] (by decide +kernel) (by decide +kernel)
set_option maxRecDepth 20000 in
theorem gX8_hole_X8_tail : GoodIn wsX8_hole (wsV RX8 218 RX8 yX8_tail wsX8_tail) := goodIn_app (goodIn_of _ (by decide +kernel)) ggX8_hole_X8_tail
theorem dX8_hole_0 : decode cX8_hole 0 = .ok (.aload_n 0, 1) := by decide +kernel
theorem dX8_hole_1 : decode cX8_hole 1 = .ok (.aload_n 0, 1) := by decide +kernel
theorem dX8_hole_2 : decode cX8_hole 2 = .ok (.getfield 79, 3) := by decide +kernel
theorem dX8_hole_5 : decode cX8_hole 5 = .ok (.ifCond .ne 7, 3) := by decide +kernel
theorem dX8_hole_8 : decode cX8_hole 8 = .ok (.iconst 1, 1) := by decide +kernel
theorem dX8_hole_9 : decode cX8_hole 9 = .ok (.goto 4, 3) := by decide +kernel
theorem dX8_hole_12 : decode cX8_hole 12 = .ok (.iconst 0, 1) := by decide +kernel
theorem dX8_hole_13 : decode cX8_hole 13 = .ok (.iconst 0, 1) := by decide +kernel
theorem dX8_hole_14 : decode cX8_hole 14 = .ok (.invokevirtual 87, 3) := by decide +kernel
theorem dX8_hole_17 : decode cX8_hole 17 = .ok (.ifCond .eq 5, 3) := by decide +kernel
theorem dX8_hole_20 : decode cX8_hole 20 = .ok (.iconst 0, 1) := by decide +kernel
theorem dX8_hole_21 : decode cX8_hole 21 = .ok (.ireturn, 1) := by decide +kernel
theorem dX8_hole_22 : decode cX8_hole 22 = .ok (.iconst 0, 1) := by decide +kernel
theorem dX8_hole_23 : decode cX8_hole 23 = .ok (.istore_n 1, 1) := by decide +kernel
theorem dX8_hole_24 : decode cX8_hole 24 = .ok (.iconst (-1), 1) := by decide +kernel
theorem dX8_hole_25 : decode cX8_hole 25 = .ok (.istore_n 2, 1) := by decide +kernel
theorem dX8_hole_26 : decode cX8_hole 26 = .ok (.iconst 0, 1) := by decide +kernel
theorem dX8_hole_27 : decode cX8_hole 27 = .ok (.istore_n 3, 1) := by decide +kernel
theorem dX8_hole_28 : decode cX8_hole 28 = .ok (.iload_n 3, 1) := by decide +kernel
theorem dX8_hole_29 : decode cX8_hole 29 = .ok (.aload_n 0, 1) := by decide +kernel
theorem dX8_hole_30 : decode cX8_hole 30 = .ok (.getfield 72, 3) := by decide +kernel
theorem dX8_hole_33 : decode cX8_hole 33 = .ok (.if_icmp .ge 58, 3) := by decide +kernel
theorem dX8_hole_36 : decode cX8_hole 36 = .ok (.aload_n 0, 1) := by decide +kernel
theorem dX8_hole_37 : decode cX8_hole 37 = .ok (.getfield 13, 3) := by decide +kernel
theorem dX8_hole_40 : decode cX8_hole 40 = .ok (.iload_n 3, 1) := by decide +kernel
theorem dX8_hole_41 : decode cX8_hole 41 = .ok (.iaload, 1) := by decide +kernel
theorem dX8_hole_42 : decode cX8_hole 42 = .ok (.istore 4, 2) := by decide +kernel
theorem dX8_hole_44 : decode cX8_hole 44 = .ok (.aload_n 0, 1) := by decide +kernel
theorem dX8_hole_45 : decode cX8_hole 45 = .ok (.iload 4, 2) := by decide +kernel
theorem dX8_hole_47 : decode cX8_hole 47 = .ok (.invokevirtual 228, 3) := by decide +kernel
theorem dX8_hole_50 : decode cX8_hole 50 = .ok (.ifCond .ne 6, 3) := by decide +kernel
theorem dX8_hole_53 : decode cX8_hole 53 = .ok (.goto 32, 3) := by decide +kernel
theorem dX8_hole_56 : decode cX8_hole 56 = .ok (.iload_n 2, 1) := by decide +kernel
theorem dX8_hole_57 : decode cX8_hole 57 = .ok (.iconst (-1), 1) := by decide +kernel
theorem dX8_hole_58 : decode cX8_hole 58 = .ok (.if_icmp .eq 24, 3) := by decide +kernel
theorem dX8_hole_61 : decode cX8_hole 61 = .ok (.iload_n 1, 1) := by decide +kernel
theorem dX8_hole_62 : decode cX8_hole 62 = .ok (.aload_n 0, 1) := by decide +kernel
theorem dX8_hole_63 : decode cX8_hole 63 = .ok (.iconst 0, 1) := by decide +kernel
theorem dX8_hole_64 : decode cX8_hole 64 = .ok (.iload_n 2, 1) := by decide +kernel
theorem dX8_hole_65 : decode cX8_hole 65 = .ok (.invokevirtual 218, 3) := by decide +kernel
theorem dX8_hole_68 : decode cX8_hole 68 = .ok (.aload_n 0, 1) := by decide +kernel
theorem dX8_hole_69 : decode cX8_hole 69 = .ok (.getfield 47, 3) := by decide +kernel
theorem dX8_hole_72 : decode cX8_hole 72 = .ok (.iload 4, 2) := by decide +kernel
theorem dX8_hole_74 : decode cX8_hole 74 = .ok (.iaload, 1) := by decide +kernel
theorem dX8_hole_75 : decode cX8_hole 75 = .ok (.isub, 1) := by decide +kernel
theorem dX8_hole_76 : decode cX8_hole 76 = .ok (.iconst 1, 1) := by decide +kernel
theorem dX8_hole_77 : decode cX8_hole 77 = .ok (.isub, 1) := by decide +kernel
theorem dX8_hole_78 : decode cX8_hole 78 = .ok (.invokestatic 231, 3) := by decide +kernel
theorem dX8_hole_81 : decode cX8_hole 81 = .ok (.istore_n 1, 1) := by decide +kernel
theorem dX8_hole_82 : decode cX8_hole 82 = .ok (.iload 4, 2) := by decide +kernel
theorem dX8_hole_84 : decode cX8_hole 84 = .ok (.istore_n 2, 1) := by decide +kernel
theorem dX8_hole_85 : decode cX8_hole 85 = .ok (.iinc 3 1, 3) := by decide +kernel
theorem dX8_hole_88 : decode cX8_hole 88 = .ok (.goto (-60), 3) := by decide +kernel
theorem dX8_hole_91 : decode cX8_hole 91 = .ok (.iload_n 1, 1) := by decide +kernel
theorem dX8_hole_92 : decode cX8_hole 92 = .ok (.ireturn, 1) := by decide +kernel
set_option maxRecDepth 20000 in
theorem ggX8_rowLong_X8_fails : GoodIn wsX8_rowLong wsX8_fails := goodIn_r _ [10, 11, 26, 27, 28, 29, 30, 31, 32, 33, 34, 35, 36, 37, 38, 39, 40, 41, 42, 43, 44, 45, 46, 47, 48, 49, 50, 51, 52, 53, 54, 55, 56, 57, 58, 59, 60, 61] (by decide +kernel) (by decide +kernel)
set_option maxRecDepth 20000 in
theorem gX8_rowLong_X8_fails : GoodIn wsX8_rowLong (wsV RX8 87 RX8 yX8_fails wsX8_fails) := goodIn_app (goodIn_of _ (by decide +kernel)) ggX8_rowLong_X8_fails
set_option maxRecDepth 20000 in
theorem ggX8_rowLong_X8_isOn : GoodIn wsX8_rowLong wsX8_isOn := goodIn_r _ [15, 16, 4, 26, 27, 28, 29, 30, 31, 32, 33, 34, 35, 36, 37, 38, 39, 40, 41, 42, 43, 44, 45, 46, 47, 48, 49, 50, 51, 52, 53, 54, 55, 56, 57, 58, 59, 60, 61] (by decide +kernel) (by decide +kernel)
set_option maxRecDepth 20000 in
theorem gX8_rowLong_X8_isOn : GoodIn wsX8_rowLong (wsV RX8 228 RX8 yX8_isOn wsX8_isOn) := goodIn_app (goodIn_of _ (by decide +kernel)) ggX8_rowLong_X8_isOn
set_option maxRecDepth 20000 in
theorem ggX8_rowLong_X8_tail : GoodIn wsX8_rowLong wsX8_tail := goodIn_r _ [20, 4, 21, 22, 23, 9, 24, 25, 26, 27, 28, 29, 30, 31, 32, 33, 34, 35, 36, 37, 38, 39, 40, 41, 42, 43, 44, 45, 46, 47, 48, 49, 50, 51, 52, 53, 54, 55, 56, 57, 58, 59, 60, 61] (by decide +kernel) (by decide +kernel)
set_option maxRecDepth 20000 in
theorem gX8_rowLong_X8_tail : GoodIn wsX8_rowLong (wsV RX8 218 RX8 yX8_tail wsX8_tail) := goodIn_app (goodIn_of _ (by decide +kernel)) ggX8_rowLong_X8_tail
theorem dX8_rowLong_0 : decode cX8_rowLong 0 = .ok (.aload_n 0, 1) := by decide +kernel
theorem dX8_rowLong_1 : decode cX8_rowLong 1 = .ok (.aload_n 0, 1) := by decide +kernel
theorem dX8_rowLong_2 : decode cX8_rowLong 2 = .ok (.getfield 79, 3) := by decide +kernel
theorem dX8_rowLong_5 : decode cX8_rowLong 5 = .ok (.ifCond .ne 7, 3) := by decide +kernel
theorem dX8_rowLong_8 : decode cX8_rowLong 8 = .ok (.iconst 1, 1) := by decide +kernel
theorem dX8_rowLong_9 : decode cX8_rowLong 9 = .ok (.goto 4, 3) := by decide +kernel
theorem dX8_rowLong_12 : decode cX8_rowLong 12 = .ok (.iconst 0, 1) := by decide +kernel
theorem dX8_rowLong_13 : decode cX8_rowLong 13 = .ok (.iconst 0, 1) := by decide +kernel
theorem dX8_rowLong_14 : decode cX8_rowLong 14 = .ok (.invokevirtual 87, 3) := by decide +kernel
theorem dX8_rowLong_17 : decode cX8_rowLong 17 = .ok (.ifCond .eq 5, 3) := by decide +kernel
theorem dX8_rowLong_20 : decode cX8_rowLong 20 = .ok (.iconst 0, 1) := by decide +kernel
theorem dX8_rowLong_21 : decode cX8_rowLong 21 = .ok (.ireturn, 1) := by decide +kernel
theorem dX8_rowLong_22 : decode cX8_rowLong 22 = .ok (.iconst (-1), 1) := by decide +kernel
theorem dX8_rowLong_23 : decode cX8_rowLong 23 = .ok (.istore_n 1, 1) := by decide +kernel
theorem dX8_rowLong_24 : decode cX8_rowLong 24 = .ok (.iconst (-1), 1) := by decide +kernel
theorem dX8_rowLong_25 : decode cX8_rowLong 25 = .ok (.istore_n 2, 1) := by decide +kernel
theorem dX8_rowLong_26 : decode cX8_rowLong 26 = .ok (.iconst 0, 1) := by decide +kernel
theorem dX8_rowLong_27 : decode cX8_rowLong 27 = .ok (.istore_n 3, 1) := by decide +kernel
theorem dX8_rowLong_28 : decode cX8_rowLong 28 = .ok (.iload_n 3, 1) := by decide +kernel
theorem dX8_rowLong_29 : decode cX8_rowLong 29 = .ok (.aload_n 0, 1) := by decide +kernel
theorem dX8_rowLong_30 : decode cX8_rowLong 30 = .ok (.getfield 72, 3) := by decide +kernel
theorem dX8_rowLong_33 : decode cX8_rowLong 33 = .ok (.if_icmp .ge 48, 3) := by decide +kernel
theorem dX8_rowLong_36 : decode cX8_rowLong 36 = .ok (.aload_n 0, 1) := by decide +kernel
theorem dX8_rowLong_37 : decode cX8_rowLong 37 = .ok (.aload_n 0, 1) := by decide +kernel
theorem dX8_rowLong_38 : decode cX8_rowLong 38 = .ok (.getfield 13, 3) := by decide +kernel
theorem dX8_rowLong_41 : decode cX8_rowLong 41 = .ok (.iload_n 3, 1) := by decide +kernel
theorem dX8_rowLong_42 : decode cX8_rowLong 42 = .ok (.iaload, 1) := by decide +kernel
theorem dX8_rowLong_43 : decode cX8_rowLong 43 = .ok (.invokevirtual 228, 3) := by decide +kernel
theorem dX8_rowLong_46 : decode cX8_rowLong 46 = .ok (.ifCond .ne 6, 3) := by decide +kernel
theorem dX8_rowLong_49 : decode cX8_rowLong 49 = .ok (.goto 26, 3) := by decide +kernel
theorem dX8_rowLong_52 : decode cX8_rowLong 52 = .ok (.iload_n 1, 1) := by decide +kernel
theorem dX8_rowLong_53 : decode cX8_rowLong 53 = .ok (.iconst (-1), 1) := by decide +kernel
theorem dX8_rowLong_54 : decode cX8_rowLong 54 = .ok (.if_icmp .ne 12, 3) := by decide +kernel
theorem dX8_rowLong_57 : decode cX8_rowLong 57 = .ok (.aload_n 0, 1) := by decide +kernel
theorem dX8_rowLong_58 : decode cX8_rowLong 58 = .ok (.getfield 13, 3) := by decide +kernel
theorem dX8_rowLong_61 : decode cX8_rowLong 61 = .ok (.iload_n 3, 1) := by decide +kernel
theorem dX8_rowLong_62 : decode cX8_rowLong 62 = .ok (.iaload, 1) := by decide +kernel
theorem dX8_rowLong_63 : decode cX8_rowLong 63 = .ok (.goto 4, 3) := by decide +kernel
theorem dX8_rowLong_66 : decode cX8_rowLong 66 = .ok (.iload_n 1, 1) := by decide +kernel
theorem dX8_rowLong_67 : decode cX8_rowLong 67 = .ok (.istore_n 1, 1) := by decide +kernel
theorem dX8_rowLong_68 : decode cX8_rowLong 68 = .ok (.aload_n 0, 1) := by decide +kernel
theorem dX8_rowLong_69 : decode cX8_rowLong 69 = .ok (.getfield 13, 3) := by decide +kernel
theorem dX8_rowLong_72 : decode cX8_rowLong 72 = .ok (.iload_n 3, 1) := by decide +kernel
theorem dX8_rowLong_73 : decode cX8_rowLong 73 = .ok (.iaload, 1) := by decide +kernel
theorem dX8_rowLong_74 : decode cX8_rowLong 74 = .ok (.istore_n 2, 1) := by decide +kernel
theorem dX8_rowLong_75 : decode cX8_rowLong 75 = .ok (.iinc 3 1, 3) := by decide +kernel
theorem dX8_rowLong_78 : decode cX8_rowLong 78 = .ok (.goto (-50), 3) := by decide +kernel
theorem dX8_rowLong_81 : decode cX8_rowLong 81 = .ok (.iload_n 1, 1) := by decide +kernel
theorem dX8_rowLong_82 : decode cX8_rowLong 82 = .ok (.iconst (-1), 1) := by decide +kernel
theorem dX8_rowLong_83 : decode cX8_rowLong 83 = .ok (.if_icmp .ne 5, 3) := by decide +kernel
theorem dX8_rowLong_86 : decode cX8_rowLong 86 = .ok (.iconst 0, 1) := by decide +kernel
theorem dX8_rowLong_87 : decode cX8_rowLong 87 = .ok (.ireturn, 1) := by decide +kernel
theorem dX8_rowLong_88 : decode cX8_rowLong 88 = .ok (.aload_n 0, 1) := by decide +kernel
theorem dX8_rowLong_89 : decode cX8_rowLong 89 = .ok (.getfield 47, 3) := by decide +kernel
theorem dX8_rowLong_92 : decode cX8_rowLong 92 = .ok (.iload_n 1, 1) := by decide +kernel
theorem dX8_rowLong_93 : decode cX8_rowLong 93 = .ok (.iaload, 1) := by decide +kernel
theorem dX8_rowLong_94 : decode cX8_rowLong 94 = .ok (.aload_n 0, 1) := by decide +kernel
theorem dX8_rowLong_95 : decode cX8_rowLong 95 = .ok (.getfield 35, 3) := by decide +kernel
theorem dX8_rowLong_98 : decode cX8_rowLong 98 = .ok (.if_icmp .ge 12, 3) := by decide +kernel
theorem dX8_rowLong_101 : decode cX8_rowLong 101 = .ok (.aload_n 0, 1) := by decide +kernel
theorem dX8_rowLong_102 : decode cX8_rowLong 102 = .ok (.getfield 47, 3) := by decide +kernel
theorem dX8_rowLong_105 : decode cX8_rowLong 105 = .ok (.iload_n 1, 1) := by decide +kernel
theorem dX8_rowLong_106 : decode cX8_rowLong 106 = .ok (.iaload, 1) := by decide +kernel
theorem dX8_rowLong_107 : decode cX8_rowLong 107 = .ok (.goto 9, 3) := by decide +kernel
theorem dX8_rowLong_110 : decode cX8_rowLong 110 = .ok (.aload_n 0, 1) := by decide +kernel
theorem dX8_rowLong_111 : decode cX8_rowLong 111 = .ok (.getfield 35, 3) := by decide +kernel
theorem dX8_rowLong_114 : decode cX8_rowLong 114 = .ok (.iconst 1, 1) := by decide +kernel
theorem dX8_rowLong_115 : decode cX8_rowLong 115 = .ok (.isub, 1) := by decide +kernel
theorem dX8_rowLong_116 : decode cX8_rowLong 116 = .ok (.istore_n 3, 1) := by decide +kernel
theorem dX8_rowLong_117 : decode cX8_rowLong 117 = .ok (.aload_n 0, 1) := by decide +kernel
theorem dX8_rowLong_118 : decode cX8_rowLong 118 = .ok (.iconst 0, 1) := by decide +kernel
theorem dX8_rowLong_119 : decode cX8_rowLong 119 = .ok (.iload_n 2, 1) := by decide +kernel
theorem dX8_rowLong_120 : decode cX8_rowLong 120 = .ok (.invokevirtual 218, 3) := by decide +kernel
theorem dX8_rowLong_123 : decode cX8_rowLong 123 = .ok (.ifCond .le 12, 3) := by decide +kernel
theorem dX8_rowLong_126 : decode cX8_rowLong 126 = .ok (.aload_n 0, 1) := by decide +kernel
theorem dX8_rowLong_127 : decode cX8_rowLong 127 = .ok (.iconst 0, 1) := by decide +kernel
theorem dX8_rowLong_128 : decode cX8_rowLong 128 = .ok (.iload_n 2, 1) := by decide +kernel
theorem dX8_rowLong_129 : decode cX8_rowLong 129 = .ok (.invokevirtual 218, 3) := by decide +kernel
theorem dX8_rowLong_132 : decode cX8_rowLong 132 = .ok (.goto 4, 3) := by decide +kernel
theorem dX8_rowLong_135 : decode cX8_rowLong 135 = .ok (.iconst 0, 1) := by decide +kernel
theorem dX8_rowLong_136 : decode cX8_rowLong 136 = .ok (.istore 4, 2) := by decide +kernel
theorem dX8_rowLong_138 : decode cX8_rowLong 138 = .ok (.iload_n 3, 1) := by decide +kernel
theorem dX8_rowLong_139 : decode cX8_rowLong 139 = .ok (.iload 4, 2) := by decide +kernel
theorem dX8_rowLong_141 : decode cX8_rowLong 141 = .ok (.isub, 1) := by decide +kernel
theorem dX8_rowLong_142 : decode cX8_rowLong 142 = .ok (.iconst 1, 1) := by decide +kernel
theorem dX8_rowLong_143 : decode cX8_rowLong 143 = .ok (.iadd, 1) := by decide +kernel
theorem dX8_rowLong_144 : decode cX8_rowLong 144 = .ok (.ireturn, 1) := by decide +kernel
set_option maxRecDepth 20000 in
theorem ggX8_ends_X8_fails : GoodIn wsX8_ends wsX8_fails := goodIn_r _ [14, 15, 52, 53, 54, 55, 56, 57, 58, 59, 60, 61, 62, 63, 64, 65, 66, 67, 68, 69, 70, 71, 72, 73, 74, 75, 76, 77, 78, 79, 80, 81, 82, 83, 84, 85, 86, 87] (by decide +kernel) (by decide +kernel)
set_option maxRecDepth 20000 in
theorem gX8_ends_X8_fails : GoodIn wsX8_ends (wsV RX8 87 RX8 yX8_fails wsX8_fails) := goodIn_app (goodIn_of _ (by decide +kernel)) ggX8_ends_X8_fails
set_option maxRecDepth 20000 in
theorem ggX8_ends_X8_isIn : GoodIn wsX8_ends wsX8_isIn := goodIn_r _ [18] (by decide +kernel) (by decide +kernel)
set_option maxRecDepth 20000 in
theorem gX8_ends_X8_isIn : GoodIn wsX8_ends (va_wsS RX8 75 yX8_isIn wsX8_isIn) := goodIn_app (goodIn_of _ (by decide +kernel)) ggX8_ends_X8_isIn
set_option maxRecDepth 20000 in
theorem ggX8_ends_X8_alone : GoodIn wsX8_ends wsX8_alone := goodIn_r _ [22, 2, 23, 7, 24, 25, 26, 13, 27, 3, 4, 5, 6, 28, 29, 30, 31, 32, 33, 34, 35, 36, 37, 38, 39, 40, 41, 42, 43, 44, 45, 46, 47, 16, 17, 18, 52, 53, 54, 55, 56, 57, 58, 59, 60, 61, 62, 63, 64, 65, 66, 67, 68, 69, 70, 71, 72, 73, 74, 75, 76, 77, 78, 79, 80, 81, 82, 83, 84, 85, 86, 87] (by decide +kernel) (by decide +kernel)
set_option maxRecDepth 20000 in
theorem gX8_ends_X8_alone : GoodIn wsX8_ends (wsV RX8 236 RX8 yX8_alone wsX8_alone) := goodIn_app (goodIn_of _ (by decide +kernel)) ggX8_ends_X8_alone
set_option maxRecDepth 20000 in
theorem ggX8_ends_X8_isOver : GoodIn wsX8_ends wsX8_isOver := goodIn_r _ [51, 2, 7, 52, 53, 54, 55, 56, 57, 58, 59, 60, 61, 62, 63, 64, 65, 66, 67, 68, 69, 70, 71, 72, 73, 74, 75, 76, 77, 78, 79, 80, 81, 82, 83, 84, 85, 86, 87] (by decide +kernel) (by decide +kernel)
set_option maxRecDepth 20000 in
theorem gX8_ends_X8_isOver : GoodIn wsX8_ends (wsV RX8 221 RX8 yX8_isOver wsX8_isOver) := goodIn_app (goodIn_of _ (by decide +kernel)) ggX8_ends_X8_isOver
set_option maxRecDepth 20000 in
theorem ggX8_ends_X8_goes : GoodIn wsX8_ends wsX8_goes := goodIn_r _ [31, 23, 7, 4, 5, 3, 32, 6, 33, 34, 35, 36, 37, 13, 38, 39, 40, 41, 42, 43, 44, 45, 46, 47, 16, 17, 18, 52, 53, 54, 55, 56, 57, 58, 59, 60, 61, 62, 63, 64, 65, 66, 67, 68, 69, 70, 71, 72, 73, 74, 75, 76, 77, 78, 79, 80, 81, 82, 83, 84, 85, 86, 87] (by decide +kernel) (by decide +kernel)
set_option maxRecDepth 20000 in
theorem gX8_ends_X8_goes : GoodIn wsX8_ends (wsV RX8 224 RX8 yX8_goes wsX8_goes) := goodIn_app (goodIn_of _ (by decide +kernel)) ggX8_ends_X8_goes
theorem dX8_ends_0 : decode cX8_ends 0 = .ok (.aload_n 0, 1) := by decide +kernel
theorem dX8_ends_1 : decode cX8_ends 1 = .ok (.aload_n 0, 1) := by decide +kernel
theorem dX8_ends_2 : decode cX8_ends 2 = .ok (.getfield 79, 3) := by decide +kernel
theorem dX8_ends_5 : decode cX8_ends 5 = .ok (.ifCond .ne 7, 3) := by decide +kernel
theorem dX8_ends_8 : decode cX8_ends 8 = .ok (.iconst 1, 1) := by decide +kernel
theorem dX8_ends_9 : decode cX8_ends 9 = .ok (.goto 4, 3) := by decide +kernel
theorem dX8_ends_12 : decode cX8_ends 12 = .ok (.iconst 0, 1) := by decide +kernel
theorem dX8_ends_13 : decode cX8_ends 13 = .ok (.iconst 0, 1) := by decide +kernel
theorem dX8_ends_14 : decode cX8_ends 14 = .ok (.invokevirtual 87, 3) := by decide +kernel
theorem dX8_ends_17 : decode cX8_ends 17 = .ok (.ifCond .eq 5, 3) := by decide +kernel
theorem dX8_ends_20 : decode cX8_ends 20 = .ok (.iconst 0, 1) := by decide +kernel
theorem dX8_ends_21 : decode cX8_ends 21 = .ok (.ireturn, 1) := by decide +kernel
theorem dX8_ends_22 : decode cX8_ends 22 = .ok (.iload_n 1, 1) := by decide +kernel
theorem dX8_ends_23 : decode cX8_ends 23 = .ok (.iconst 0, 1) := by decide +kernel
theorem dX8_ends_24 : decode cX8_ends 24 = .ok (.iconst 1, 1) := by decide +kernel
theorem dX8_ends_25 : decode cX8_ends 25 = .ok (.invokestatic 75, 3) := by decide +kernel
theorem dX8_ends_28 : decode cX8_ends 28 = .ok (.ifCond .ne 5, 3) := by decide +kernel
theorem dX8_ends_31 : decode cX8_ends 31 = .ok (.iconst (-1), 1) := by decide +kernel
theorem dX8_ends_32 : decode cX8_ends 32 = .ok (.ireturn, 1) := by decide +kernel
theorem dX8_ends_33 : decode cX8_ends 33 = .ok (.iload_n 1, 1) := by decide +kernel
theorem dX8_ends_34 : decode cX8_ends 34 = .ok (.iconst 1, 1) := by decide +kernel
theorem dX8_ends_35 : decode cX8_ends 35 = .ok (.if_icmp .ne 8, 3) := by decide +kernel
theorem dX8_ends_38 : decode cX8_ends 38 = .ok (.aload_n 0, 1) := by decide +kernel
theorem dX8_ends_39 : decode cX8_ends 39 = .ok (.invokevirtual 236, 3) := by decide +kernel
theorem dX8_ends_42 : decode cX8_ends 42 = .ok (.ireturn, 1) := by decide +kernel
theorem dX8_ends_43 : decode cX8_ends 43 = .ok (.iconst 0, 1) := by decide +kernel
theorem dX8_ends_44 : decode cX8_ends 44 = .ok (.istore_n 2, 1) := by decide +kernel
theorem dX8_ends_45 : decode cX8_ends 45 = .ok (.iload_n 2, 1) := by decide +kernel
theorem dX8_ends_46 : decode cX8_ends 46 = .ok (.aload_n 0, 1) := by decide +kernel
theorem dX8_ends_47 : decode cX8_ends 47 = .ok (.getfield 72, 3) := by decide +kernel
theorem dX8_ends_50 : decode cX8_ends 50 = .ok (.if_icmp .ge 84, 3) := by decide +kernel
theorem dX8_ends_53 : decode cX8_ends 53 = .ok (.aload_n 0, 1) := by decide +kernel
theorem dX8_ends_54 : decode cX8_ends 54 = .ok (.getfield 47, 3) := by decide +kernel
theorem dX8_ends_57 : decode cX8_ends 57 = .ok (.bipush 8, 2) := by decide +kernel
theorem dX8_ends_59 : decode cX8_ends 59 = .ok (.iload_n 2, 1) := by decide +kernel
theorem dX8_ends_60 : decode cX8_ends 60 = .ok (.iadd, 1) := by decide +kernel
theorem dX8_ends_61 : decode cX8_ends 61 = .ok (.aload_n 0, 1) := by decide +kernel
theorem dX8_ends_62 : decode cX8_ends 62 = .ok (.getfield 47, 3) := by decide +kernel
theorem dX8_ends_65 : decode cX8_ends 65 = .ok (.iload_n 2, 1) := by decide +kernel
theorem dX8_ends_66 : decode cX8_ends 66 = .ok (.iaload, 1) := by decide +kernel
theorem dX8_ends_67 : decode cX8_ends 67 = .ok (.iastore, 1) := by decide +kernel
theorem dX8_ends_68 : decode cX8_ends 68 = .ok (.aload_n 0, 1) := by decide +kernel
theorem dX8_ends_69 : decode cX8_ends 69 = .ok (.getfield 50, 3) := by decide +kernel
theorem dX8_ends_72 : decode cX8_ends 72 = .ok (.bipush 8, 2) := by decide +kernel
theorem dX8_ends_74 : decode cX8_ends 74 = .ok (.iload_n 2, 1) := by decide +kernel
theorem dX8_ends_75 : decode cX8_ends 75 = .ok (.iadd, 1) := by decide +kernel
theorem dX8_ends_76 : decode cX8_ends 76 = .ok (.aload_n 0, 1) := by decide +kernel
theorem dX8_ends_77 : decode cX8_ends 77 = .ok (.getfield 50, 3) := by decide +kernel
theorem dX8_ends_80 : decode cX8_ends 80 = .ok (.iload_n 2, 1) := by decide +kernel
theorem dX8_ends_81 : decode cX8_ends 81 = .ok (.iaload, 1) := by decide +kernel
theorem dX8_ends_82 : decode cX8_ends 82 = .ok (.iastore, 1) := by decide +kernel
theorem dX8_ends_83 : decode cX8_ends 83 = .ok (.aload_n 0, 1) := by decide +kernel
theorem dX8_ends_84 : decode cX8_ends 84 = .ok (.getfield 53, 3) := by decide +kernel
theorem dX8_ends_87 : decode cX8_ends 87 = .ok (.bipush 8, 2) := by decide +kernel
theorem dX8_ends_89 : decode cX8_ends 89 = .ok (.iload_n 2, 1) := by decide +kernel
theorem dX8_ends_90 : decode cX8_ends 90 = .ok (.iadd, 1) := by decide +kernel
theorem dX8_ends_91 : decode cX8_ends 91 = .ok (.aload_n 0, 1) := by decide +kernel
theorem dX8_ends_92 : decode cX8_ends 92 = .ok (.getfield 53, 3) := by decide +kernel
theorem dX8_ends_95 : decode cX8_ends 95 = .ok (.iload_n 2, 1) := by decide +kernel
theorem dX8_ends_96 : decode cX8_ends 96 = .ok (.iaload, 1) := by decide +kernel
theorem dX8_ends_97 : decode cX8_ends 97 = .ok (.iastore, 1) := by decide +kernel
theorem dX8_ends_98 : decode cX8_ends 98 = .ok (.aload_n 0, 1) := by decide +kernel
theorem dX8_ends_99 : decode cX8_ends 99 = .ok (.getfield 56, 3) := by decide +kernel
theorem dX8_ends_102 : decode cX8_ends 102 = .ok (.bipush 8, 2) := by decide +kernel
theorem dX8_ends_104 : decode cX8_ends 104 = .ok (.iload_n 2, 1) := by decide +kernel
theorem dX8_ends_105 : decode cX8_ends 105 = .ok (.iadd, 1) := by decide +kernel
theorem dX8_ends_106 : decode cX8_ends 106 = .ok (.aload_n 0, 1) := by decide +kernel
theorem dX8_ends_107 : decode cX8_ends 107 = .ok (.getfield 56, 3) := by decide +kernel
theorem dX8_ends_110 : decode cX8_ends 110 = .ok (.iload_n 2, 1) := by decide +kernel
theorem dX8_ends_111 : decode cX8_ends 111 = .ok (.iaload, 1) := by decide +kernel
theorem dX8_ends_112 : decode cX8_ends 112 = .ok (.iastore, 1) := by decide +kernel
theorem dX8_ends_113 : decode cX8_ends 113 = .ok (.aload_n 0, 1) := by decide +kernel
theorem dX8_ends_114 : decode cX8_ends 114 = .ok (.getfield 59, 3) := by decide +kernel
theorem dX8_ends_117 : decode cX8_ends 117 = .ok (.bipush 8, 2) := by decide +kernel
theorem dX8_ends_119 : decode cX8_ends 119 = .ok (.iload_n 2, 1) := by decide +kernel
theorem dX8_ends_120 : decode cX8_ends 120 = .ok (.iadd, 1) := by decide +kernel
theorem dX8_ends_121 : decode cX8_ends 121 = .ok (.aload_n 0, 1) := by decide +kernel
theorem dX8_ends_122 : decode cX8_ends 122 = .ok (.getfield 59, 3) := by decide +kernel
theorem dX8_ends_125 : decode cX8_ends 125 = .ok (.iload_n 2, 1) := by decide +kernel
theorem dX8_ends_126 : decode cX8_ends 126 = .ok (.baload, 1) := by decide +kernel
theorem dX8_ends_127 : decode cX8_ends 127 = .ok (.bastore, 1) := by decide +kernel
theorem dX8_ends_128 : decode cX8_ends 128 = .ok (.iinc 2 1, 3) := by decide +kernel
theorem dX8_ends_131 : decode cX8_ends 131 = .ok (.goto (-86), 3) := by decide +kernel
theorem dX8_ends_134 : decode cX8_ends 134 = .ok (.aload_n 0, 1) := by decide +kernel
theorem dX8_ends_135 : decode cX8_ends 135 = .ok (.bipush 8, 2) := by decide +kernel
theorem dX8_ends_137 : decode cX8_ends 137 = .ok (.invokevirtual 221, 3) := by decide +kernel
theorem dX8_ends_140 : decode cX8_ends 140 = .ok (.ifCond .eq 8, 3) := by decide +kernel
theorem dX8_ends_143 : decode cX8_ends 143 = .ok (.aload_n 0, 1) := by decide +kernel
theorem dX8_ends_144 : decode cX8_ends 144 = .ok (.getfield 211, 3) := by decide +kernel
theorem dX8_ends_147 : decode cX8_ends 147 = .ok (.ireturn, 1) := by decide +kernel
theorem dX8_ends_148 : decode cX8_ends 148 = .ok (.aload_n 0, 1) := by decide +kernel
theorem dX8_ends_149 : decode cX8_ends 149 = .ok (.getfield 208, 3) := by decide +kernel
theorem dX8_ends_152 : decode cX8_ends 152 = .ok (.istore_n 2, 1) := by decide +kernel
theorem dX8_ends_153 : decode cX8_ends 153 = .ok (.iconst 0, 1) := by decide +kernel
theorem dX8_ends_154 : decode cX8_ends 154 = .ok (.istore_n 3, 1) := by decide +kernel
theorem dX8_ends_155 : decode cX8_ends 155 = .ok (.aload_n 0, 1) := by decide +kernel
theorem dX8_ends_156 : decode cX8_ends 156 = .ok (.bipush 8, 2) := by decide +kernel
theorem dX8_ends_158 : decode cX8_ends 158 = .ok (.invokevirtual 221, 3) := by decide +kernel
theorem dX8_ends_161 : decode cX8_ends 161 = .ok (.ifCond .ne 50, 3) := by decide +kernel
theorem dX8_ends_164 : decode cX8_ends 164 = .ok (.iinc 2 1, 3) := by decide +kernel
theorem dX8_ends_167 : decode cX8_ends 167 = .ok (.iconst 0, 1) := by decide +kernel
theorem dX8_ends_168 : decode cX8_ends 168 = .ok (.istore 4, 2) := by decide +kernel
theorem dX8_ends_170 : decode cX8_ends 170 = .ok (.iload 4, 2) := by decide +kernel
theorem dX8_ends_172 : decode cX8_ends 172 = .ok (.aload_n 0, 1) := by decide +kernel
theorem dX8_ends_173 : decode cX8_ends 173 = .ok (.getfield 72, 3) := by decide +kernel
theorem dX8_ends_176 : decode cX8_ends 176 = .ok (.if_icmp .ge 32, 3) := by decide +kernel
theorem dX8_ends_179 : decode cX8_ends 179 = .ok (.aload_n 0, 1) := by decide +kernel
theorem dX8_ends_180 : decode cX8_ends 180 = .ok (.bipush 8, 2) := by decide +kernel
theorem dX8_ends_182 : decode cX8_ends 182 = .ok (.iload 4, 2) := by decide +kernel
theorem dX8_ends_184 : decode cX8_ends 184 = .ok (.iload_n 2, 1) := by decide +kernel
theorem dX8_ends_185 : decode cX8_ends 185 = .ok (.iconst 0, 1) := by decide +kernel
theorem dX8_ends_186 : decode cX8_ends 186 = .ok (.invokevirtual 224, 3) := by decide +kernel
theorem dX8_ends_189 : decode cX8_ends 189 = .ok (.ifCond .ne 7, 3) := by decide +kernel
theorem dX8_ends_192 : decode cX8_ends 192 = .ok (.iload_n 3, 1) := by decide +kernel
theorem dX8_ends_193 : decode cX8_ends 193 = .ok (.ifCond .eq 7, 3) := by decide +kernel
theorem dX8_ends_196 : decode cX8_ends 196 = .ok (.iconst 1, 1) := by decide +kernel
theorem dX8_ends_197 : decode cX8_ends 197 = .ok (.goto 4, 3) := by decide +kernel
theorem dX8_ends_200 : decode cX8_ends 200 = .ok (.iconst 0, 1) := by decide +kernel
theorem dX8_ends_201 : decode cX8_ends 201 = .ok (.istore_n 3, 1) := by decide +kernel
theorem dX8_ends_202 : decode cX8_ends 202 = .ok (.iinc 4 1, 3) := by decide +kernel
theorem dX8_ends_205 : decode cX8_ends 205 = .ok (.goto (-35), 3) := by decide +kernel
theorem dX8_ends_208 : decode cX8_ends 208 = .ok (.goto (-53), 3) := by decide +kernel
theorem dX8_ends_211 : decode cX8_ends 211 = .ok (.iload_n 2, 1) := by decide +kernel
theorem dX8_ends_212 : decode cX8_ends 212 = .ok (.ireturn, 1) := by decide +kernel
set_option maxRecDepth 20000 in
theorem ggX8_alone_X8_clear : GoodIn wsX8_alone wsX8_clear := goodIn_r _ [8, 9, 10, 11, 12, 3, 36, 37, 38, 39, 40, 41, 42, 43, 44, 45, 46, 47, 48, 49, 50, 51, 52, 53, 54, 55, 56, 57, 58, 59, 60, 61, 62, 63, 64, 65, 66, 67, 68, 69, 70, 71] (by decide +kernel) (by decide +kernel)
set_option maxRecDepth 20000 in
theorem gX8_alone_X8_clear : GoodIn wsX8_alone (wsV RX8 214 RX8 yX8_clear wsX8_clear) := goodIn_app (goodIn_of _ (by decide +kernel)) ggX8_alone_X8_clear
set_option maxRecDepth 20000 in
theorem ggX8_alone_X8_goes : GoodIn wsX8_alone wsX8_goes := goodIn_r _ [16, 2, 3, 10, 11, 9, 17, 12, 18, 19, 20, 21, 22, 7, 23, 24, 25, 26, 27, 28, 29, 30, 31, 32, 33, 34, 35, 36, 37, 38, 39, 40, 41, 42, 43, 44, 45, 46, 47, 48, 49, 50, 51, 52, 53, 54, 55, 56, 57, 58, 59, 60, 61, 62, 63, 64, 65, 66, 67, 68, 69, 70, 71] (by decide +kernel) (by decide +kernel)
set_option maxRecDepth 20000 in
theorem gX8_alone_X8_goes : GoodIn wsX8_alone (wsV RX8 224 RX8 yX8_goes wsX8_goes) := goodIn_app (goodIn_of _ (by decide +kernel)) ggX8_alone_X8_goes
theorem dX8_alone_0 : decode cX8_alone 0 = .ok (.iconst 0, 1) := by decide +kernel
theorem dX8_alone_1 : decode cX8_alone 1 = .ok (.istore_n 1, 1) := by decide +kernel
theorem dX8_alone_2 : decode cX8_alone 2 = .ok (.iconst 0, 1) := by decide +kernel
theorem dX8_alone_3 : decode cX8_alone 3 = .ok (.istore_n 2, 1) := by decide +kernel
theorem dX8_alone_4 : decode cX8_alone 4 = .ok (.iload_n 2, 1) := by decide +kernel
theorem dX8_alone_5 : decode cX8_alone 5 = .ok (.aload_n 0, 1) := by decide +kernel
theorem dX8_alone_6 : decode cX8_alone 6 = .ok (.getfield 72, 3) := by decide +kernel
theorem dX8_alone_9 : decode cX8_alone 9 = .ok (.if_icmp .ge 74, 3) := by decide +kernel
theorem dX8_alone_12 : decode cX8_alone 12 = .ok (.aload_n 0, 1) := by decide +kernel
theorem dX8_alone_13 : decode cX8_alone 13 = .ok (.bipush 8, 2) := by decide +kernel
theorem dX8_alone_15 : decode cX8_alone 15 = .ok (.aload_n 0, 1) := by decide +kernel
theorem dX8_alone_16 : decode cX8_alone 16 = .ok (.getfield 13, 3) := by decide +kernel
theorem dX8_alone_19 : decode cX8_alone 19 = .ok (.iload_n 2, 1) := by decide +kernel
theorem dX8_alone_20 : decode cX8_alone 20 = .ok (.iaload, 1) := by decide +kernel
theorem dX8_alone_21 : decode cX8_alone 21 = .ok (.iadd, 1) := by decide +kernel
theorem dX8_alone_22 : decode cX8_alone 22 = .ok (.invokevirtual 214, 3) := by decide +kernel
theorem dX8_alone_25 : decode cX8_alone 25 = .ok (.iconst 0, 1) := by decide +kernel
theorem dX8_alone_26 : decode cX8_alone 26 = .ok (.istore_n 3, 1) := by decide +kernel
theorem dX8_alone_27 : decode cX8_alone 27 = .ok (.aload_n 0, 1) := by decide +kernel
theorem dX8_alone_28 : decode cX8_alone 28 = .ok (.getfield 59, 3) := by decide +kernel
theorem dX8_alone_31 : decode cX8_alone 31 = .ok (.bipush 8, 2) := by decide +kernel
theorem dX8_alone_33 : decode cX8_alone 33 = .ok (.aload_n 0, 1) := by decide +kernel
theorem dX8_alone_34 : decode cX8_alone 34 = .ok (.getfield 13, 3) := by decide +kernel
theorem dX8_alone_37 : decode cX8_alone 37 = .ok (.iload_n 2, 1) := by decide +kernel
theorem dX8_alone_38 : decode cX8_alone 38 = .ok (.iaload, 1) := by decide +kernel
theorem dX8_alone_39 : decode cX8_alone 39 = .ok (.iadd, 1) := by decide +kernel
theorem dX8_alone_40 : decode cX8_alone 40 = .ok (.baload, 1) := by decide +kernel
theorem dX8_alone_41 : decode cX8_alone 41 = .ok (.ifCond .ne 36, 3) := by decide +kernel
theorem dX8_alone_44 : decode cX8_alone 44 = .ok (.iinc 3 1, 3) := by decide +kernel
theorem dX8_alone_47 : decode cX8_alone 47 = .ok (.aload_n 0, 1) := by decide +kernel
theorem dX8_alone_48 : decode cX8_alone 48 = .ok (.bipush 8, 2) := by decide +kernel
theorem dX8_alone_50 : decode cX8_alone 50 = .ok (.iload_n 2, 1) := by decide +kernel
theorem dX8_alone_51 : decode cX8_alone 51 = .ok (.iload_n 3, 1) := by decide +kernel
theorem dX8_alone_52 : decode cX8_alone 52 = .ok (.iconst 1, 1) := by decide +kernel
theorem dX8_alone_53 : decode cX8_alone 53 = .ok (.invokevirtual 224, 3) := by decide +kernel
theorem dX8_alone_56 : decode cX8_alone 56 = .ok (.istore 4, 2) := by decide +kernel
theorem dX8_alone_58 : decode cX8_alone 58 = .ok (.iload 4, 2) := by decide +kernel
theorem dX8_alone_60 : decode cX8_alone 60 = .ok (.ifCond .eq 12, 3) := by decide +kernel
theorem dX8_alone_63 : decode cX8_alone 63 = .ok (.iload_n 3, 1) := by decide +kernel
theorem dX8_alone_64 : decode cX8_alone 64 = .ok (.iload_n 1, 1) := by decide +kernel
theorem dX8_alone_65 : decode cX8_alone 65 = .ok (.if_icmp .le 7, 3) := by decide +kernel
theorem dX8_alone_68 : decode cX8_alone 68 = .ok (.iload_n 3, 1) := by decide +kernel
theorem dX8_alone_69 : decode cX8_alone 69 = .ok (.goto 4, 3) := by decide +kernel
theorem dX8_alone_72 : decode cX8_alone 72 = .ok (.iload_n 1, 1) := by decide +kernel
theorem dX8_alone_73 : decode cX8_alone 73 = .ok (.istore_n 1, 1) := by decide +kernel
theorem dX8_alone_74 : decode cX8_alone 74 = .ok (.goto (-47), 3) := by decide +kernel
theorem dX8_alone_77 : decode cX8_alone 77 = .ok (.iinc 2 1, 3) := by decide +kernel
theorem dX8_alone_80 : decode cX8_alone 80 = .ok (.goto (-76), 3) := by decide +kernel
theorem dX8_alone_83 : decode cX8_alone 83 = .ok (.iload_n 1, 1) := by decide +kernel
theorem dX8_alone_84 : decode cX8_alone 84 = .ok (.ireturn, 1) := by decide +kernel
set_option maxRecDepth 20000 in
theorem ggX8_ill_X8_isNo : GoodIn wsX8_ill wsX8_isNo := goodIn_r _ [10, 11, 12, 13, 9, 14, 20, 21, 22, 23, 24, 25, 26, 27, 28, 29, 30, 31, 32, 33, 34, 35, 36, 37, 38, 39, 40, 41, 42, 43, 44, 45, 46, 47, 48, 49, 50, 51, 52, 53, 54, 55] (by decide +kernel) (by decide +kernel)
set_option maxRecDepth 20000 in
theorem gX8_ill_X8_isNo : GoodIn wsX8_ill (wsV RX8 83 RX8 yX8_isNo wsX8_isNo) := goodIn_app (goodIn_of _ (by decide +kernel)) ggX8_ill_X8_isNo
set_option maxRecDepth 20000 in
theorem ggX8_ill_X8_fails : GoodIn wsX8_ill wsX8_fails := goodIn_r _ [18, 19, 20, 21, 22, 23, 24, 25, 26, 27, 28, 29, 30, 31, 32, 33, 34, 35, 36, 37, 38, 39, 40, 41, 42, 43, 44, 45, 46, 47, 48, 49, 50, 51, 52, 53, 54, 55] (by decide +kernel) (by decide +kernel)
set_option maxRecDepth 20000 in
theorem gX8_ill_X8_fails : GoodIn wsX8_ill (wsV RX8 87 RX8 yX8_fails wsX8_fails) := goodIn_app (goodIn_of _ (by decide +kernel)) ggX8_ill_X8_fails
theorem dX8_ill_0 : decode cX8_ill 0 = .ok (.aload_n 0, 1) := by decide +kernel
theorem dX8_ill_1 : decode cX8_ill 1 = .ok (.aload_n 0, 1) := by decide +kernel
theorem dX8_ill_2 : decode cX8_ill 2 = .ok (.iload_n 1, 1) := by decide +kernel
theorem dX8_ill_3 : decode cX8_ill 3 = .ok (.invokevirtual 83, 3) := by decide +kernel
theorem dX8_ill_6 : decode cX8_ill 6 = .ok (.aload_n 0, 1) := by decide +kernel
theorem dX8_ill_7 : decode cX8_ill 7 = .ok (.getfield 79, 3) := by decide +kernel
theorem dX8_ill_10 : decode cX8_ill 10 = .ok (.ifCond .ne 7, 3) := by decide +kernel
theorem dX8_ill_13 : decode cX8_ill 13 = .ok (.iconst 1, 1) := by decide +kernel
theorem dX8_ill_14 : decode cX8_ill 14 = .ok (.goto 4, 3) := by decide +kernel
theorem dX8_ill_17 : decode cX8_ill 17 = .ok (.iconst 0, 1) := by decide +kernel
theorem dX8_ill_18 : decode cX8_ill 18 = .ok (.invokevirtual 87, 3) := by decide +kernel
theorem dX8_ill_21 : decode cX8_ill 21 = .ok (.ifCond .ne 12, 3) := by decide +kernel
theorem dX8_ill_24 : decode cX8_ill 24 = .ok (.aload_n 0, 1) := by decide +kernel
theorem dX8_ill_25 : decode cX8_ill 25 = .ok (.getfield 59, 3) := by decide +kernel
theorem dX8_ill_28 : decode cX8_ill 28 = .ok (.iload_n 1, 1) := by decide +kernel
theorem dX8_ill_29 : decode cX8_ill 29 = .ok (.baload, 1) := by decide +kernel
theorem dX8_ill_30 : decode cX8_ill 30 = .ok (.ifCond .eq 5, 3) := by decide +kernel
theorem dX8_ill_33 : decode cX8_ill 33 = .ok (.iconst 0, 1) := by decide +kernel
theorem dX8_ill_34 : decode cX8_ill 34 = .ok (.ireturn, 1) := by decide +kernel
theorem dX8_ill_35 : decode cX8_ill 35 = .ok (.aload_n 0, 1) := by decide +kernel
theorem dX8_ill_36 : decode cX8_ill 36 = .ok (.getfield 59, 3) := by decide +kernel
theorem dX8_ill_39 : decode cX8_ill 39 = .ok (.iload_n 1, 1) := by decide +kernel
theorem dX8_ill_40 : decode cX8_ill 40 = .ok (.iconst 1, 1) := by decide +kernel
theorem dX8_ill_41 : decode cX8_ill 41 = .ok (.bastore, 1) := by decide +kernel
theorem dX8_ill_42 : decode cX8_ill 42 = .ok (.aload_n 0, 1) := by decide +kernel
theorem dX8_ill_43 : decode cX8_ill 43 = .ok (.getfield 66, 3) := by decide +kernel
theorem dX8_ill_46 : decode cX8_ill 46 = .ok (.iload_n 1, 1) := by decide +kernel
theorem dX8_ill_47 : decode cX8_ill 47 = .ok (.aload_n 0, 1) := by decide +kernel
theorem dX8_ill_48 : decode cX8_ill 48 = .ok (.getfield 208, 3) := by decide +kernel
theorem dX8_ill_51 : decode cX8_ill 51 = .ok (.iastore, 1) := by decide +kernel
theorem dX8_ill_52 : decode cX8_ill 52 = .ok (.aload_n 0, 1) := by decide +kernel
theorem dX8_ill_53 : decode cX8_ill 53 = .ok (.aload_n 0, 1) := by decide +kernel
theorem dX8_ill_54 : decode cX8_ill 54 = .ok (.getfield 208, 3) := by decide +kernel
theorem dX8_ill_57 : decode cX8_ill 57 = .ok (.putfield 211, 3) := by decide +kernel
theorem dX8_ill_60 : decode cX8_ill 60 = .ok (.iconst 1, 1) := by decide +kernel
theorem dX8_ill_61 : decode cX8_ill 61 = .ok (.ireturn, 1) := by decide +kernel
theorem dJ9_max_7cf53_0 : decode cJ9_max_7cf53 0 = .ok (.iload_n 0, 1) := by decide +kernel
theorem dJ9_max_7cf53_1 : decode cJ9_max_7cf53 1 = .ok (.iload_n 1, 1) := by decide +kernel
theorem dJ9_max_7cf53_2 : decode cJ9_max_7cf53 2 = .ok (.if_icmp .lt 7, 3) := by decide +kernel
theorem dJ9_max_7cf53_5 : decode cJ9_max_7cf53 5 = .ok (.iload_n 0, 1) := by decide +kernel
theorem dJ9_max_7cf53_6 : decode cJ9_max_7cf53 6 = .ok (.goto 4, 3) := by decide +kernel
theorem dJ9_max_7cf53_9 : decode cJ9_max_7cf53 9 = .ok (.iload_n 1, 1) := by decide +kernel
theorem dJ9_max_7cf53_10 : decode cJ9_max_7cf53 10 = .ok (.ireturn, 1) := by decide +kernel
theorem dJ9_min_7cf53_0 : decode cJ9_min_7cf53 0 = .ok (.iload_n 0, 1) := by decide +kernel
theorem dJ9_min_7cf53_1 : decode cJ9_min_7cf53 1 = .ok (.iload_n 1, 1) := by decide +kernel
theorem dJ9_min_7cf53_2 : decode cJ9_min_7cf53 2 = .ok (.if_icmp .gt 7, 3) := by decide +kernel
theorem dJ9_min_7cf53_5 : decode cJ9_min_7cf53 5 = .ok (.iload_n 0, 1) := by decide +kernel
theorem dJ9_min_7cf53_6 : decode cJ9_min_7cf53 6 = .ok (.goto 4, 3) := by decide +kernel
theorem dJ9_min_7cf53_9 : decode cJ9_min_7cf53 9 = .ok (.iload_n 1, 1) := by decide +kernel
theorem dJ9_min_7cf53_10 : decode cJ9_min_7cf53 10 = .ok (.ireturn, 1) := by decide +kernel
set_option maxRecDepth 20000 in
theorem ggJ0_length_8abf5_J0_coder_7d493 : GoodIn wsJ0_length_8abf5 wsJ0_coder_7d493 := goodIn_r _ [6, 7, 8] (by decide +kernel) (by decide +kernel)
set_option maxRecDepth 20000 in
theorem gJ0_length_8abf5_J0_coder_7d493 : GoodIn wsJ0_length_8abf5 (wsV RJ0 335 RJ0 yJ0_coder_7d493 wsJ0_coder_7d493) := goodIn_app (goodIn_of _ (by decide +kernel)) ggJ0_length_8abf5_J0_coder_7d493
theorem dJ0_length_8abf5_0 : decode cJ0_length_8abf5 0 = .ok (.aload_n 0, 1) := by decide +kernel
theorem dJ0_length_8abf5_1 : decode cJ0_length_8abf5 1 = .ok (.getfield 9, 3) := by decide +kernel
theorem dJ0_length_8abf5_4 : decode cJ0_length_8abf5 4 = .ok (.arraylength, 1) := by decide +kernel
theorem dJ0_length_8abf5_5 : decode cJ0_length_8abf5 5 = .ok (.aload_n 0, 1) := by decide +kernel
theorem dJ0_length_8abf5_6 : decode cJ0_length_8abf5 6 = .ok (.invokevirtual 335, 3) := by decide +kernel
theorem dJ0_length_8abf5_9 : decode cJ0_length_8abf5 9 = .ok (.ishr, 1) := by decide +kernel
theorem dJ0_length_8abf5_10 : decode cJ0_length_8abf5 10 = .ok (.ireturn, 1) := by decide +kernel
set_option maxRecDepth 20000 in
theorem ggJ0_charAt_5068e_J0_isLatin1_aae02 : GoodIn wsJ0_charAt_5068e wsJ0_isLatin1_aae02 := goodIn_r _ [6, 7, 8] (by decide +kernel) (by decide +kernel)
set_option maxRecDepth 20000 in
theorem gJ0_charAt_5068e_J0_isLatin1_aae02 : GoodIn wsJ0_charAt_5068e (wsV RJ0 492 RJ0 yJ0_isLatin1_aae02 wsJ0_isLatin1_aae02) := goodIn_app (goodIn_of _ (by decide +kernel)) ggJ0_charAt_5068e_J0_isLatin1_aae02
set_option maxRecDepth 20000 in
theorem ggJ0_charAt_5068e_J1_charAt_3b067 : GoodIn wsJ0_charAt_5068e wsJ1_charAt_3b067 := goodIn_r _ [12, 13, 14, 5, 15, 16, 17, 18, 19, 20] (by decide +kernel) (by decide +kernel)
set_option maxRecDepth 20000 in
theorem gJ0_charAt_5068e_J1_charAt_3b067 : GoodIn wsJ0_charAt_5068e (va_wsS RJ0 495 yJ1_charAt_3b067 wsJ1_charAt_3b067) := goodIn_app (goodIn_of _ (by decide +kernel)) ggJ0_charAt_5068e_J1_charAt_3b067
set_option maxRecDepth 20000 in
theorem ggJ0_charAt_5068e_J2_charAt_3b067 : GoodIn wsJ0_charAt_5068e wsJ2_charAt_3b067 := goodIn_r _ [24, 25, 26, 23, 27, 28, 29, 30, 31, 14, 5, 15, 16, 17, 18, 19, 20, 32, 33, 34, 35, 36, 37] (by decide +kernel) (by decide +kernel)
set_option maxRecDepth 20000 in
theorem gJ0_charAt_5068e_J2_charAt_3b067 : GoodIn wsJ0_charAt_5068e (va_wsS RJ0 498 yJ2_charAt_3b067 wsJ2_charAt_3b067) := goodIn_app (goodIn_of _ (by decide +kernel)) ggJ0_charAt_5068e_J2_charAt_3b067
theorem dJ0_charAt_5068e_0 : decode cJ0_charAt_5068e 0 = .ok (.aload_n 0, 1) := by decide +kernel
theorem dJ0_charAt_5068e_1 : decode cJ0_charAt_5068e 1 = .ok (.invokevirtual 492, 3) := by decide +kernel
theorem dJ0_charAt_5068e_4 : decode cJ0_charAt_5068e 4 = .ok (.ifCond .eq 12, 3) := by decide +kernel
theorem dJ0_charAt_5068e_7 : decode cJ0_charAt_5068e 7 = .ok (.aload_n 0, 1) := by decide +kernel
theorem dJ0_charAt_5068e_8 : decode cJ0_charAt_5068e 8 = .ok (.getfield 9, 3) := by decide +kernel
theorem dJ0_charAt_5068e_11 : decode cJ0_charAt_5068e 11 = .ok (.iload_n 1, 1) := by decide +kernel
theorem dJ0_charAt_5068e_12 : decode cJ0_charAt_5068e 12 = .ok (.invokestatic 495, 3) := by decide +kernel
theorem dJ0_charAt_5068e_15 : decode cJ0_charAt_5068e 15 = .ok (.ireturn, 1) := by decide +kernel
theorem dJ0_charAt_5068e_16 : decode cJ0_charAt_5068e 16 = .ok (.aload_n 0, 1) := by decide +kernel
theorem dJ0_charAt_5068e_17 : decode cJ0_charAt_5068e 17 = .ok (.getfield 9, 3) := by decide +kernel
theorem dJ0_charAt_5068e_20 : decode cJ0_charAt_5068e 20 = .ok (.iload_n 1, 1) := by decide +kernel
theorem dJ0_charAt_5068e_21 : decode cJ0_charAt_5068e 21 = .ok (.invokestatic 498, 3) := by decide +kernel
theorem dJ0_charAt_5068e_24 : decode cJ0_charAt_5068e 24 = .ok (.ireturn, 1) := by decide +kernel
theorem dJ0_coder_7d493_0 : decode cJ0_coder_7d493 0 = .ok (.getstatic 38, 3) := by decide +kernel
theorem dJ0_coder_7d493_3 : decode cJ0_coder_7d493 3 = .ok (.ifCond .eq 10, 3) := by decide +kernel
theorem dJ0_coder_7d493_6 : decode cJ0_coder_7d493 6 = .ok (.aload_n 0, 1) := by decide +kernel
theorem dJ0_coder_7d493_7 : decode cJ0_coder_7d493 7 = .ok (.getfield 15, 3) := by decide +kernel
theorem dJ0_coder_7d493_10 : decode cJ0_coder_7d493 10 = .ok (.goto 4, 3) := by decide +kernel
theorem dJ0_coder_7d493_13 : decode cJ0_coder_7d493 13 = .ok (.iconst 1, 1) := by decide +kernel
theorem dJ0_coder_7d493_14 : decode cJ0_coder_7d493 14 = .ok (.ireturn, 1) := by decide +kernel
theorem dJ0_isLatin1_aae02_0 : decode cJ0_isLatin1_aae02 0 = .ok (.getstatic 38, 3) := by decide +kernel
theorem dJ0_isLatin1_aae02_3 : decode cJ0_isLatin1_aae02 3 = .ok (.ifCond .eq 14, 3) := by decide +kernel
theorem dJ0_isLatin1_aae02_6 : decode cJ0_isLatin1_aae02 6 = .ok (.aload_n 0, 1) := by decide +kernel
theorem dJ0_isLatin1_aae02_7 : decode cJ0_isLatin1_aae02 7 = .ok (.getfield 15, 3) := by decide +kernel
theorem dJ0_isLatin1_aae02_10 : decode cJ0_isLatin1_aae02 10 = .ok (.ifCond .ne 7, 3) := by decide +kernel
theorem dJ0_isLatin1_aae02_13 : decode cJ0_isLatin1_aae02 13 = .ok (.iconst 1, 1) := by decide +kernel
theorem dJ0_isLatin1_aae02_14 : decode cJ0_isLatin1_aae02 14 = .ok (.goto 4, 3) := by decide +kernel
theorem dJ0_isLatin1_aae02_17 : decode cJ0_isLatin1_aae02 17 = .ok (.iconst 0, 1) := by decide +kernel
theorem dJ0_isLatin1_aae02_18 : decode cJ0_isLatin1_aae02 18 = .ok (.ireturn, 1) := by decide +kernel
set_option maxRecDepth 20000 in
theorem ggJ0_checkIndex_df160_J3_checkIndex_8e157 : GoodIn wsJ0_checkIndex_df160 wsJ3_checkIndex_8e157 := goodIn_r _ [5] (by decide +kernel) (by decide +kernel)
set_option maxRecDepth 20000 in
theorem gJ0_checkIndex_df160_J3_checkIndex_8e157 : GoodIn wsJ0_checkIndex_df160 (va_wsS RJ0 1059 yJ3_checkIndex_8e157 wsJ3_checkIndex_8e157) := goodIn_app (goodIn_of _ (by decide +kernel)) ggJ0_checkIndex_df160_J3_checkIndex_8e157
theorem dJ0_checkIndex_df160_0 : decode cJ0_checkIndex_df160 0 = .ok (.iload_n 0, 1) := by decide +kernel
theorem dJ0_checkIndex_df160_1 : decode cJ0_checkIndex_df160 1 = .ok (.iload_n 1, 1) := by decide +kernel
theorem dJ0_checkIndex_df160_2 : decode cJ0_checkIndex_df160 2 = .ok (.getstatic 1053, 3) := by decide +kernel
theorem dJ0_checkIndex_df160_5 : decode cJ0_checkIndex_df160 5 = .ok (.invokestatic 1059, 3) := by decide +kernel
theorem dJ0_checkIndex_df160_8 : decode cJ0_checkIndex_df160 8 = .ok (.pop, 1) := by decide +kernel
theorem dJ0_checkIndex_df160_9 : decode cJ0_checkIndex_df160 9 = .ok (.return_, 1) := by decide +kernel
set_option maxRecDepth 20000 in
theorem ggJ1_charAt_3b067_J0_checkIndex_df160 : GoodIn wsJ1_charAt_3b067 wsJ0_checkIndex_df160 := goodIn_r _ [4, 5, 6, 7, 8, 9] (by decide +kernel) (by decide +kernel)
set_option maxRecDepth 20000 in
theorem gJ1_charAt_3b067_J0_checkIndex_df160 : GoodIn wsJ1_charAt_3b067 (va_wsS RJ1 9 yJ0_checkIndex_df160 wsJ0_checkIndex_df160) := goodIn_app (goodIn_of _ (by decide +kernel)) ggJ1_charAt_3b067_J0_checkIndex_df160
theorem dJ1_charAt_3b067_0 : decode cJ1_charAt_3b067 0 = .ok (.iload_n 1, 1) := by decide +kernel
theorem dJ1_charAt_3b067_1 : decode cJ1_charAt_3b067 1 = .ok (.aload_n 0, 1) := by decide +kernel
theorem dJ1_charAt_3b067_2 : decode cJ1_charAt_3b067 2 = .ok (.arraylength, 1) := by decide +kernel
theorem dJ1_charAt_3b067_3 : decode cJ1_charAt_3b067 3 = .ok (.invokestatic 9, 3) := by decide +kernel
theorem dJ1_charAt_3b067_6 : decode cJ1_charAt_3b067 6 = .ok (.aload_n 0, 1) := by decide +kernel
theorem dJ1_charAt_3b067_7 : decode cJ1_charAt_3b067 7 = .ok (.iload_n 1, 1) := by decide +kernel
theorem dJ1_charAt_3b067_8 : decode cJ1_charAt_3b067 8 = .ok (.baload, 1) := by decide +kernel
theorem dJ1_charAt_3b067_9 : decode cJ1_charAt_3b067 9 = .ok (.sipush 255, 3) := by decide +kernel
theorem dJ1_charAt_3b067_12 : decode cJ1_charAt_3b067 12 = .ok (.iand, 1) := by decide +kernel
theorem dJ1_charAt_3b067_13 : decode cJ1_charAt_3b067 13 = .ok (.i2c, 1) := by decide +kernel
theorem dJ1_charAt_3b067_14 : decode cJ1_charAt_3b067 14 = .ok (.ireturn, 1) := by decide +kernel
set_option maxRecDepth 20000 in
theorem ggJ2_getChar_3b067_J2_length_9d52b : GoodIn wsJ2_getChar_3b067 wsJ2_length_9d52b := goodIn_r _ [7] (by decide +kernel) (by decide +kernel)
set_option maxRecDepth 20000 in
theorem gJ2_getChar_3b067_J2_length_9d52b : GoodIn wsJ2_getChar_3b067 (va_wsS RJ2 48 yJ2_length_9d52b wsJ2_length_9d52b) := goodIn_app (goodIn_of _ (by decide +kernel)) ggJ2_getChar_3b067_J2_length_9d52b
theorem dJ2_getChar_3b067_0 : decode cJ2_getChar_3b067 0 = .ok (.getstatic 44, 3) := by decide +kernel
theorem dJ2_getChar_3b067_3 : decode cJ2_getChar_3b067 3 = .ok (.ifCond .ne 25, 3) := by decide +kernel
theorem dJ2_getChar_3b067_6 : decode cJ2_getChar_3b067 6 = .ok (.iload_n 1, 1) := by decide +kernel
theorem dJ2_getChar_3b067_7 : decode cJ2_getChar_3b067 7 = .ok (.ifCond .lt 11, 3) := by decide +kernel
theorem dJ2_getChar_3b067_10 : decode cJ2_getChar_3b067 10 = .ok (.iload_n 1, 1) := by decide +kernel
theorem dJ2_getChar_3b067_11 : decode cJ2_getChar_3b067 11 = .ok (.aload_n 0, 1) := by decide +kernel
theorem dJ2_getChar_3b067_12 : decode cJ2_getChar_3b067 12 = .ok (.invokestatic 48, 3) := by decide +kernel
theorem dJ2_getChar_3b067_15 : decode cJ2_getChar_3b067 15 = .ok (.if_icmp .lt 13, 3) := by decide +kernel
theorem dJ2_getChar_3b067_18 : decode cJ2_getChar_3b067 18 = .ok (.new 52, 3) := by decide +kernel
theorem dJ2_getChar_3b067_21 : decode cJ2_getChar_3b067 21 = .ok (.dup, 1) := by decide +kernel
theorem dJ2_getChar_3b067_22 : decode cJ2_getChar_3b067 22 = .ok (.ldc 54, 2) := by decide +kernel
theorem dJ2_getChar_3b067_24 : decode cJ2_getChar_3b067 24 = .ok (.invokespecial 56, 3) := by decide +kernel
theorem dJ2_getChar_3b067_27 : decode cJ2_getChar_3b067 27 = .ok (.athrow, 1) := by decide +kernel
theorem dJ2_getChar_3b067_28 : decode cJ2_getChar_3b067 28 = .ok (.iload_n 1, 1) := by decide +kernel
theorem dJ2_getChar_3b067_29 : decode cJ2_getChar_3b067 29 = .ok (.iconst 1, 1) := by decide +kernel
theorem dJ2_getChar_3b067_30 : decode cJ2_getChar_3b067 30 = .ok (.ishl, 1) := by decide +kernel
theorem dJ2_getChar_3b067_31 : decode cJ2_getChar_3b067 31 = .ok (.istore_n 1, 1) := by decide +kernel
theorem dJ2_getChar_3b067_32 : decode cJ2_getChar_3b067 32 = .ok (.aload_n 0, 1) := by decide +kernel
theorem dJ2_getChar_3b067_33 : decode cJ2_getChar_3b067 33 = .ok (.iload_n 1, 1) := by decide +kernel
theorem dJ2_getChar_3b067_34 : decode cJ2_getChar_3b067 34 = .ok (.iinc 1 1, 3) := by decide +kernel
theorem dJ2_getChar_3b067_37 : decode cJ2_getChar_3b067 37 = .ok (.baload, 1) := by decide +kernel
theorem dJ2_getChar_3b067_38 : decode cJ2_getChar_3b067 38 = .ok (.sipush 255, 3) := by decide +kernel
theorem dJ2_getChar_3b067_41 : decode cJ2_getChar_3b067 41 = .ok (.iand, 1) := by decide +kernel
theorem dJ2_getChar_3b067_42 : decode cJ2_getChar_3b067 42 = .ok (.getstatic 59, 3) := by decide +kernel
theorem dJ2_getChar_3b067_45 : decode cJ2_getChar_3b067 45 = .ok (.ishl, 1) := by decide +kernel
theorem dJ2_getChar_3b067_46 : decode cJ2_getChar_3b067 46 = .ok (.aload_n 0, 1) := by decide +kernel
theorem dJ2_getChar_3b067_47 : decode cJ2_getChar_3b067 47 = .ok (.iload_n 1, 1) := by decide +kernel
theorem dJ2_getChar_3b067_48 : decode cJ2_getChar_3b067 48 = .ok (.baload, 1) := by decide +kernel
theorem dJ2_getChar_3b067_49 : decode cJ2_getChar_3b067 49 = .ok (.sipush 255, 3) := by decide +kernel
theorem dJ2_getChar_3b067_52 : decode cJ2_getChar_3b067 52 = .ok (.iand, 1) := by decide +kernel
theorem dJ2_getChar_3b067_53 : decode cJ2_getChar_3b067 53 = .ok (.getstatic 63, 3) := by decide +kernel
theorem dJ2_getChar_3b067_56 : decode cJ2_getChar_3b067 56 = .ok (.ishl, 1) := by decide +kernel
theorem dJ2_getChar_3b067_57 : decode cJ2_getChar_3b067 57 = .ok (.ior, 1) := by decide +kernel
theorem dJ2_getChar_3b067_58 : decode cJ2_getChar_3b067 58 = .ok (.i2c, 1) := by decide +kernel
theorem dJ2_getChar_3b067_59 : decode cJ2_getChar_3b067 59 = .ok (.ireturn, 1) := by decide +kernel
theorem dJ2_length_9d52b_0 : decode cJ2_length_9d52b 0 = .ok (.aload_n 0, 1) := by decide +kernel
theorem dJ2_length_9d52b_1 : decode cJ2_length_9d52b 1 = .ok (.arraylength, 1) := by decide +kernel
theorem dJ2_length_9d52b_2 : decode cJ2_length_9d52b 2 = .ok (.iconst 1, 1) := by decide +kernel
theorem dJ2_length_9d52b_3 : decode cJ2_length_9d52b 3 = .ok (.ishr, 1) := by decide +kernel
theorem dJ2_length_9d52b_4 : decode cJ2_length_9d52b 4 = .ok (.ireturn, 1) := by decide +kernel
set_option maxRecDepth 20000 in
theorem ggJ2_charAt_3b067_J2_checkIndex_2214a : GoodIn wsJ2_charAt_3b067 wsJ2_checkIndex_2214a := goodIn_r _ [4, 5, 6, 3, 7, 8, 9, 10, 11, 12, 13, 14, 15, 16] (by decide +kernel) (by decide +kernel)
set_option maxRecDepth 20000 in
theorem gJ2_charAt_3b067_J2_checkIndex_2214a : GoodIn wsJ2_charAt_3b067 (va_wsS RJ2 67 yJ2_checkIndex_2214a wsJ2_checkIndex_2214a) := goodIn_app (goodIn_of _ (by decide +kernel)) ggJ2_charAt_3b067_J2_checkIndex_2214a
set_option maxRecDepth 20000 in
theorem ggJ2_charAt_3b067_J2_getChar_3b067 : GoodIn wsJ2_charAt_3b067 wsJ2_getChar_3b067 := goodIn_r _ [19, 20, 21, 22, 5, 6, 3, 7] (by decide +kernel) (by decide +kernel)
set_option maxRecDepth 20000 in
theorem gJ2_charAt_3b067_J2_getChar_3b067 : GoodIn wsJ2_charAt_3b067 (va_wsS RJ2 71 yJ2_getChar_3b067 wsJ2_getChar_3b067) := goodIn_app (goodIn_of _ (by decide +kernel)) ggJ2_charAt_3b067_J2_getChar_3b067
theorem dJ2_charAt_3b067_0 : decode cJ2_charAt_3b067 0 = .ok (.iload_n 1, 1) := by decide +kernel
theorem dJ2_charAt_3b067_1 : decode cJ2_charAt_3b067 1 = .ok (.aload_n 0, 1) := by decide +kernel
theorem dJ2_charAt_3b067_2 : decode cJ2_charAt_3b067 2 = .ok (.invokestatic 67, 3) := by decide +kernel
theorem dJ2_charAt_3b067_5 : decode cJ2_charAt_3b067 5 = .ok (.aload_n 0, 1) := by decide +kernel
theorem dJ2_charAt_3b067_6 : decode cJ2_charAt_3b067 6 = .ok (.iload_n 1, 1) := by decide +kernel
theorem dJ2_charAt_3b067_7 : decode cJ2_charAt_3b067 7 = .ok (.invokestatic 71, 3) := by decide +kernel
theorem dJ2_charAt_3b067_10 : decode cJ2_charAt_3b067 10 = .ok (.ireturn, 1) := by decide +kernel
set_option maxRecDepth 20000 in
theorem ggJ2_checkIndex_2214a_J2_length_9d52b : GoodIn wsJ2_checkIndex_2214a wsJ2_length_9d52b := goodIn_r _ [4] (by decide +kernel) (by decide +kernel)
set_option maxRecDepth 20000 in
theorem gJ2_checkIndex_2214a_J2_length_9d52b : GoodIn wsJ2_checkIndex_2214a (va_wsS RJ2 48 yJ2_length_9d52b wsJ2_length_9d52b) := goodIn_app (goodIn_of _ (by decide +kernel)) ggJ2_checkIndex_2214a_J2_length_9d52b
set_option maxRecDepth 20000 in
theorem ggJ2_checkIndex_2214a_J0_checkIndex_df160 : GoodIn wsJ2_checkIndex_2214a wsJ0_checkIndex_df160 := goodIn_r _ [8, 9, 10, 11, 12, 13] (by decide +kernel) (by decide +kernel)
set_option maxRecDepth 20000 in
theorem gJ2_checkIndex_2214a_J0_checkIndex_df160 : GoodIn wsJ2_checkIndex_2214a (va_wsS RJ2 414 yJ0_checkIndex_df160 wsJ0_checkIndex_df160) := goodIn_app (goodIn_of _ (by decide +kernel)) ggJ2_checkIndex_2214a_J0_checkIndex_df160
theorem dJ2_checkIndex_2214a_0 : decode cJ2_checkIndex_2214a 0 = .ok (.iload_n 0, 1) := by decide +kernel
theorem dJ2_checkIndex_2214a_1 : decode cJ2_checkIndex_2214a 1 = .ok (.aload_n 1, 1) := by decide +kernel
theorem dJ2_checkIndex_2214a_2 : decode cJ2_checkIndex_2214a 2 = .ok (.invokestatic 48, 3) := by decide +kernel
theorem dJ2_checkIndex_2214a_5 : decode cJ2_checkIndex_2214a 5 = .ok (.invokestatic 414, 3) := by decide +kernel
theorem dJ2_checkIndex_2214a_8 : decode cJ2_checkIndex_2214a 8 = .ok (.return_, 1) := by decide +kernel
theorem dJ3_checkIndex_8e157_0 : decode cJ3_checkIndex_8e157 0 = .ok (.iload_n 0, 1) := by decide +kernel
theorem dJ3_checkIndex_8e157_1 : decode cJ3_checkIndex_8e157 1 = .ok (.ifCond .lt 8, 3) := by decide +kernel
theorem dJ3_checkIndex_8e157_4 : decode cJ3_checkIndex_8e157 4 = .ok (.iload_n 0, 1) := by decide +kernel
theorem dJ3_checkIndex_8e157_5 : decode cJ3_checkIndex_8e157 5 = .ok (.iload_n 1, 1) := by decide +kernel
theorem dJ3_checkIndex_8e157_6 : decode cJ3_checkIndex_8e157 6 = .ok (.if_icmp .lt 10, 3) := by decide +kernel
theorem dJ3_checkIndex_8e157_9 : decode cJ3_checkIndex_8e157 9 = .ok (.aload_n 2, 1) := by decide +kernel
theorem dJ3_checkIndex_8e157_10 : decode cJ3_checkIndex_8e157 10 = .ok (.iload_n 0, 1) := by decide +kernel
theorem dJ3_checkIndex_8e157_11 : decode cJ3_checkIndex_8e157 11 = .ok (.iload_n 1, 1) := by decide +kernel
theorem dJ3_checkIndex_8e157_12 : decode cJ3_checkIndex_8e157 12 = .ok (.invokestatic 95, 3) := by decide +kernel
theorem dJ3_checkIndex_8e157_15 : decode cJ3_checkIndex_8e157 15 = .ok (.athrow, 1) := by decide +kernel
theorem dJ3_checkIndex_8e157_16 : decode cJ3_checkIndex_8e157 16 = .ok (.iload_n 0, 1) := by decide +kernel
theorem dJ3_checkIndex_8e157_17 : decode cJ3_checkIndex_8e157 17 = .ok (.ireturn, 1) := by decide +kernel
set_option maxRecDepth 20000 in
theorem ggL_of_X7_of : GoodIn wsL_of wsX7_of := goodIn_ca (goodIn_r _ [6, 7, 8, 9, 10, 11, 12, 13, 14, 15, 5, 16, 17, 18, 19, 20, 21, 22, 23, 24, 25, 26, 27, 28, 29, 30, 31, 32, 33, 34, 35, 36, 37, 38, 39, 40, 41, 42] (by decide +kernel) (by decide +kernel)) (goodIn_sub (fun _ h => List.mem_cons_of_mem _ (List.mem_append_right _ h)) (by decide +kernel))
set_option maxRecDepth 20000 in
theorem gL_of_X7_of : GoodIn wsL_of (wsV RL 7 RX7 yX7_of wsX7_of) := goodIn_app (goodIn_of _ (by decide +kernel)) ggL_of_X7_of
theorem dL_of_0 : decode cL_of 0 = .ok (.aload_n 3, 1) := by decide +kernel
theorem dL_of_1 : decode cL_of 1 = .ok (.iconst 0, 1) := by decide +kernel
theorem dL_of_2 : decode cL_of 2 = .ok (.aload_n 0, 1) := by decide +kernel
theorem dL_of_3 : decode cL_of 3 = .ok (.iload_n 1, 1) := by decide +kernel
theorem dL_of_4 : decode cL_of 4 = .ok (.iload_n 2, 1) := by decide +kernel
theorem dL_of_5 : decode cL_of 5 = .ok (.invokevirtual 7, 3) := by decide +kernel
theorem dL_of_8 : decode cL_of 8 = .ok (.i2l, 1) := by decide +kernel
theorem dL_of_9 : decode cL_of 9 = .ok (.lastore, 1) := by decide +kernel
theorem dL_of_10 : decode cL_of 10 = .ok (.goto 7, 3) := by decide +kernel
theorem dL_of_13 : decode cL_of 13 = .ok (.astore 4, 2) := by decide +kernel
theorem dL_of_15 : decode cL_of 15 = .ok (.iconst 1, 1) := by decide +kernel
theorem dL_of_16 : decode cL_of 16 = .ok (.ireturn, 1) := by decide +kernel
theorem dL_of_17 : decode cL_of 17 = .ok (.iconst 0, 1) := by decide +kernel
theorem dL_of_18 : decode cL_of 18 = .ok (.ireturn, 1) := by decide +kernel
set_option maxRecDepth 20000 in
theorem ggL_passes_X7_passes : GoodIn wsL_passes wsX7_passes := goodIn_ca (goodIn_r _ [6, 7, 8, 9, 10, 11, 12, 5, 13, 14, 15, 16, 17, 18, 19, 20, 21, 22, 23, 24, 25, 26, 27, 28, 29, 30, 31, 32, 33, 34, 35, 36, 37, 38, 39, 40, 41, 42, 43, 44, 45, 46, 47, 48, 49, 50] (by decide +kernel) (by decide +kernel)) (goodIn_sub (fun _ h => List.mem_cons_of_mem _ (List.mem_append_right _ h)) (by decide +kernel))
set_option maxRecDepth 20000 in
theorem gL_passes_X7_passes : GoodIn wsL_passes (wsV RL 15 RX7 yX7_passes wsX7_passes) := goodIn_app (goodIn_of _ (by decide +kernel)) ggL_passes_X7_passes
theorem dL_passes_0 : decode cL_passes 0 = .ok (.aload_n 2, 1) := by decide +kernel
theorem dL_passes_1 : decode cL_passes 1 = .ok (.iconst 0, 1) := by decide +kernel
theorem dL_passes_2 : decode cL_passes 2 = .ok (.aload_n 0, 1) := by decide +kernel
theorem dL_passes_3 : decode cL_passes 3 = .ok (.iload_n 1, 1) := by decide +kernel
theorem dL_passes_4 : decode cL_passes 4 = .ok (.invokevirtual 15, 3) := by decide +kernel
theorem dL_passes_7 : decode cL_passes 7 = .ok (.i2l, 1) := by decide +kernel
theorem dL_passes_8 : decode cL_passes 8 = .ok (.lastore, 1) := by decide +kernel
theorem dL_passes_9 : decode cL_passes 9 = .ok (.goto 6, 3) := by decide +kernel
theorem dL_passes_12 : decode cL_passes 12 = .ok (.astore_n 3, 1) := by decide +kernel
theorem dL_passes_13 : decode cL_passes 13 = .ok (.iconst 1, 1) := by decide +kernel
theorem dL_passes_14 : decode cL_passes 14 = .ok (.ireturn, 1) := by decide +kernel
theorem dL_passes_15 : decode cL_passes 15 = .ok (.iconst 0, 1) := by decide +kernel
theorem dL_passes_16 : decode cL_passes 16 = .ok (.ireturn, 1) := by decide +kernel
set_option maxRecDepth 20000 in
theorem ggL_run_X7_run : GoodIn wsL_run wsX7_run := goodIn_ca (goodIn_r _ [6, 7, 8, 9, 10, 5, 11, 12, 13, 14, 15, 16, 17, 18, 19, 20, 21, 22, 23, 24, 25, 26, 27, 28, 29, 30, 31, 32, 33, 34, 35, 36, 37, 38, 39, 40, 41, 42, 43, 44, 45, 46, 47, 48, 49, 50, 51, 52, 53, 54, 55, 56, 57, 58, 59, 60, 61, 62, 63, 64, 65, 66, 67, 68, 69, 70, 71, 72, 73, 74, 75, 76, 77, 78, 79, 80, 81, 82, 83, 84, 85, 86, 87, 88, 89, 90, 91, 92, 93, 94, 95, 96, 97, 98, 99, 100, 101, 102] (by decide +kernel) (by decide +kernel)) (goodIn_sub (fun _ h => List.mem_cons_of_mem _ (List.mem_append_right _ h)) (by decide +kernel))
set_option maxRecDepth 20000 in
theorem gL_run_X7_run : GoodIn wsL_run (wsV RL 19 RX7 yX7_run wsX7_run) := goodIn_app (goodIn_of _ (by decide +kernel)) ggL_run_X7_run
theorem dL_run_0 : decode cL_run 0 = .ok (.aload_n 2, 1) := by decide +kernel
theorem dL_run_1 : decode cL_run 1 = .ok (.iconst 0, 1) := by decide +kernel
theorem dL_run_2 : decode cL_run 2 = .ok (.aload_n 0, 1) := by decide +kernel
theorem dL_run_3 : decode cL_run 3 = .ok (.iload_n 1, 1) := by decide +kernel
theorem dL_run_4 : decode cL_run 4 = .ok (.invokevirtual 19, 3) := by decide +kernel
theorem dL_run_7 : decode cL_run 7 = .ok (.i2l, 1) := by decide +kernel
theorem dL_run_8 : decode cL_run 8 = .ok (.lastore, 1) := by decide +kernel
theorem dL_run_9 : decode cL_run 9 = .ok (.goto 6, 3) := by decide +kernel
theorem dL_run_12 : decode cL_run 12 = .ok (.astore_n 3, 1) := by decide +kernel
theorem dL_run_13 : decode cL_run 13 = .ok (.iconst 1, 1) := by decide +kernel
theorem dL_run_14 : decode cL_run 14 = .ok (.ireturn, 1) := by decide +kernel
theorem dL_run_15 : decode cL_run 15 = .ok (.iconst 0, 1) := by decide +kernel
theorem dL_run_16 : decode cL_run 16 = .ok (.ireturn, 1) := by decide +kernel
set_option maxRecDepth 20000 in
theorem ggL_minute_X7_minute : GoodIn wsL_minute wsX7_minute := goodIn_ca (goodIn_r _ [6, 7, 8, 9, 10, 11, 5, 12, 13, 14, 15, 16, 17, 18, 19, 20, 21, 22, 23, 24, 25, 26, 27, 28, 29, 30, 31, 32, 33, 34, 35, 36] (by decide +kernel) (by decide +kernel)) (goodIn_sub (fun _ h => List.mem_cons_of_mem _ (List.mem_append_right _ h)) (by decide +kernel))
set_option maxRecDepth 20000 in
theorem gL_minute_X7_minute : GoodIn wsL_minute (wsV RL 24 RX7 yX7_minute wsX7_minute) := goodIn_app (goodIn_of _ (by decide +kernel)) ggL_minute_X7_minute
theorem dL_minute_0 : decode cL_minute 0 = .ok (.aload_n 1, 1) := by decide +kernel
theorem dL_minute_1 : decode cL_minute 1 = .ok (.iconst 0, 1) := by decide +kernel
theorem dL_minute_2 : decode cL_minute 2 = .ok (.aload_n 0, 1) := by decide +kernel
theorem dL_minute_3 : decode cL_minute 3 = .ok (.invokevirtual 24, 3) := by decide +kernel
theorem dL_minute_6 : decode cL_minute 6 = .ok (.i2l, 1) := by decide +kernel
theorem dL_minute_7 : decode cL_minute 7 = .ok (.lastore, 1) := by decide +kernel
theorem dL_minute_8 : decode cL_minute 8 = .ok (.goto 6, 3) := by decide +kernel
theorem dL_minute_11 : decode cL_minute 11 = .ok (.astore_n 2, 1) := by decide +kernel
theorem dL_minute_12 : decode cL_minute 12 = .ok (.iconst 1, 1) := by decide +kernel
theorem dL_minute_13 : decode cL_minute 13 = .ok (.ireturn, 1) := by decide +kernel
theorem dL_minute_14 : decode cL_minute 14 = .ok (.iconst 0, 1) := by decide +kernel
theorem dL_minute_15 : decode cL_minute 15 = .ok (.ireturn, 1) := by decide +kernel
set_option maxRecDepth 20000 in
theorem ggL_at_X7_at : GoodIn wsL_at wsX7_at := goodIn_ca (goodIn_ca (goodIn_r _ [7, 8, 9, 10, 11, 12, 13, 14, 6, 15, 16, 17, 18, 19, 20, 21, 22, 23, 24, 25, 26, 27, 28, 29, 30, 31, 32, 33, 34, 35, 36, 37, 38, 39, 40, 41, 42, 43, 44, 45, 46, 47, 48, 49, 50, 51, 52, 53, 54, 55, 56, 57, 58, 59, 60, 61, 62, 63, 64, 65, 66, 67, 68, 69, 70, 71, 72, 73, 74, 75, 76] (by decide +kernel) (by decide +kernel)) (goodIn_sub (fun _ h => List.mem_cons_of_mem _ (List.mem_append_left _ (List.mem_append_right _ h))) (by decide +kernel))) (goodIn_sub (fun _ h => List.mem_cons_of_mem _ (List.mem_append_right _ h)) (by decide +kernel))
set_option maxRecDepth 20000 in
theorem gL_at_X7_at : GoodIn wsL_at (wsV RL 28 RX7 yX7_at wsX7_at) := goodIn_app (goodIn_of _ (by decide +kernel)) ggL_at_X7_at
theorem dL_at_0 : decode cL_at 0 = .ok (.aload_n 3, 1) := by decide +kernel
theorem dL_at_1 : decode cL_at 1 = .ok (.iconst 0, 1) := by decide +kernel
theorem dL_at_2 : decode cL_at 2 = .ok (.aload_n 0, 1) := by decide +kernel
theorem dL_at_3 : decode cL_at 3 = .ok (.iload_n 1, 1) := by decide +kernel
theorem dL_at_4 : decode cL_at 4 = .ok (.iload_n 2, 1) := by decide +kernel
theorem dL_at_5 : decode cL_at 5 = .ok (.invokevirtual 28, 3) := by decide +kernel
theorem dL_at_8 : decode cL_at 8 = .ok (.i2l, 1) := by decide +kernel
theorem dL_at_9 : decode cL_at 9 = .ok (.lastore, 1) := by decide +kernel
theorem dL_at_10 : decode cL_at 10 = .ok (.goto 11, 3) := by decide +kernel
theorem dL_at_13 : decode cL_at 13 = .ok (.astore 4, 2) := by decide +kernel
theorem dL_at_15 : decode cL_at 15 = .ok (.iconst 1, 1) := by decide +kernel
theorem dL_at_16 : decode cL_at 16 = .ok (.ireturn, 1) := by decide +kernel
theorem dL_at_17 : decode cL_at 17 = .ok (.astore 4, 2) := by decide +kernel
theorem dL_at_19 : decode cL_at 19 = .ok (.iconst 2, 1) := by decide +kernel
theorem dL_at_20 : decode cL_at 20 = .ok (.ireturn, 1) := by decide +kernel
theorem dL_at_21 : decode cL_at 21 = .ok (.iconst 0, 1) := by decide +kernel
theorem dL_at_22 : decode cL_at 22 = .ok (.ireturn, 1) := by decide +kernel
set_option maxRecDepth 20000 in
theorem ggL_who_X7_who : GoodIn wsL_who wsX7_who := goodIn_ca (goodIn_r _ [6, 7, 8, 9, 10, 11, 5, 12, 13, 14, 15, 16, 17, 18, 19, 20, 21, 22, 23, 24, 25, 26, 27, 28, 29, 30, 31, 32, 33, 34, 35, 36, 37, 38, 39, 40, 41, 42, 43, 44, 45, 46, 47, 48, 49, 50, 51, 52, 53, 54, 55, 56, 57, 58, 59, 60, 61, 62, 63, 64, 65, 66, 67, 68, 69, 70, 71, 72, 73, 74, 75] (by decide +kernel) (by decide +kernel)) (goodIn_sub (fun _ h => List.mem_cons_of_mem _ (List.mem_append_right _ h)) (by decide +kernel))
set_option maxRecDepth 20000 in
theorem gL_who_X7_who : GoodIn wsL_who (wsV RL 31 RX7 yX7_who wsX7_who) := goodIn_app (goodIn_of _ (by decide +kernel)) ggL_who_X7_who
theorem dL_who_0 : decode cL_who 0 = .ok (.aload_n 2, 1) := by decide +kernel
theorem dL_who_1 : decode cL_who 1 = .ok (.iconst 0, 1) := by decide +kernel
theorem dL_who_2 : decode cL_who 2 = .ok (.aload_n 0, 1) := by decide +kernel
theorem dL_who_3 : decode cL_who 3 = .ok (.iload_n 1, 1) := by decide +kernel
theorem dL_who_4 : decode cL_who 4 = .ok (.invokevirtual 31, 3) := by decide +kernel
theorem dL_who_7 : decode cL_who 7 = .ok (.i2l, 1) := by decide +kernel
theorem dL_who_8 : decode cL_who 8 = .ok (.lastore, 1) := by decide +kernel
theorem dL_who_9 : decode cL_who 9 = .ok (.goto 6, 3) := by decide +kernel
theorem dL_who_12 : decode cL_who 12 = .ok (.astore_n 3, 1) := by decide +kernel
theorem dL_who_13 : decode cL_who 13 = .ok (.iconst 1, 1) := by decide +kernel
theorem dL_who_14 : decode cL_who 14 = .ok (.ireturn, 1) := by decide +kernel
theorem dL_who_15 : decode cL_who 15 = .ok (.iconst 0, 1) := by decide +kernel
theorem dL_who_16 : decode cL_who 16 = .ok (.ireturn, 1) := by decide +kernel
set_option maxRecDepth 20000 in
theorem ggL_hole_X7_hole : GoodIn wsL_hole wsX7_hole := goodIn_ca (goodIn_r _ [6, 7, 8, 9, 10, 5, 11, 12, 13, 14, 15, 16, 17, 18, 19, 20, 21, 22, 23, 24, 25, 26, 27, 28, 29, 30, 31, 32, 33, 34, 35, 36, 37, 38, 39, 40, 41, 42, 43, 44, 45, 46, 47, 48, 49, 50, 51, 52, 53, 54, 55, 56, 57, 58, 59, 60, 61, 62, 63, 64, 65, 66, 67, 68] (by decide +kernel) (by decide +kernel)) (goodIn_sub (fun _ h => List.mem_cons_of_mem _ (List.mem_append_right _ h)) (by decide +kernel))
set_option maxRecDepth 20000 in
theorem gL_hole_X7_hole : GoodIn wsL_hole (wsV RL 34 RX7 yX7_hole wsX7_hole) := goodIn_app (goodIn_of _ (by decide +kernel)) ggL_hole_X7_hole
theorem dL_hole_0 : decode cL_hole 0 = .ok (.aload_n 1, 1) := by decide +kernel
theorem dL_hole_1 : decode cL_hole 1 = .ok (.iconst 0, 1) := by decide +kernel
theorem dL_hole_2 : decode cL_hole 2 = .ok (.aload_n 0, 1) := by decide +kernel
theorem dL_hole_3 : decode cL_hole 3 = .ok (.invokevirtual 34, 3) := by decide +kernel
theorem dL_hole_6 : decode cL_hole 6 = .ok (.i2l, 1) := by decide +kernel
theorem dL_hole_7 : decode cL_hole 7 = .ok (.lastore, 1) := by decide +kernel
theorem dL_hole_8 : decode cL_hole 8 = .ok (.goto 6, 3) := by decide +kernel
theorem dL_hole_11 : decode cL_hole 11 = .ok (.astore_n 2, 1) := by decide +kernel
theorem dL_hole_12 : decode cL_hole 12 = .ok (.iconst 1, 1) := by decide +kernel
theorem dL_hole_13 : decode cL_hole 13 = .ok (.ireturn, 1) := by decide +kernel
theorem dL_hole_14 : decode cL_hole 14 = .ok (.iconst 0, 1) := by decide +kernel
theorem dL_hole_15 : decode cL_hole 15 = .ok (.ireturn, 1) := by decide +kernel
set_option maxRecDepth 20000 in
theorem ggL_rowLong_X7_rowLong : GoodIn wsL_rowLong wsX7_rowLong := goodIn_ca (goodIn_r _ [6, 7, 8, 9, 10, 5, 11, 12, 13, 14, 15, 16, 17, 18, 19, 20, 21, 22, 23, 24, 25, 26, 27, 28, 29, 30, 31, 32, 33, 34, 35, 36, 37, 38, 39, 40, 41, 42, 43, 44, 45, 46, 47, 48, 49, 50, 51, 52, 53, 54, 55, 56, 57, 58, 59, 60, 61, 62, 63, 64, 65, 66, 67, 68, 69, 70, 71, 72, 73, 74, 75, 76, 77] (by decide +kernel) (by decide +kernel)) (goodIn_sub (fun _ h => List.mem_cons_of_mem _ (List.mem_append_right _ h)) (by decide +kernel))
set_option maxRecDepth 20000 in
theorem gL_rowLong_X7_rowLong : GoodIn wsL_rowLong (wsV RL 37 RX7 yX7_rowLong wsX7_rowLong) := goodIn_app (goodIn_of _ (by decide +kernel)) ggL_rowLong_X7_rowLong
theorem dL_rowLong_0 : decode cL_rowLong 0 = .ok (.aload_n 1, 1) := by decide +kernel
theorem dL_rowLong_1 : decode cL_rowLong 1 = .ok (.iconst 0, 1) := by decide +kernel
theorem dL_rowLong_2 : decode cL_rowLong 2 = .ok (.aload_n 0, 1) := by decide +kernel
theorem dL_rowLong_3 : decode cL_rowLong 3 = .ok (.invokevirtual 37, 3) := by decide +kernel
theorem dL_rowLong_6 : decode cL_rowLong 6 = .ok (.i2l, 1) := by decide +kernel
theorem dL_rowLong_7 : decode cL_rowLong 7 = .ok (.lastore, 1) := by decide +kernel
theorem dL_rowLong_8 : decode cL_rowLong 8 = .ok (.goto 6, 3) := by decide +kernel
theorem dL_rowLong_11 : decode cL_rowLong 11 = .ok (.astore_n 2, 1) := by decide +kernel
theorem dL_rowLong_12 : decode cL_rowLong 12 = .ok (.iconst 1, 1) := by decide +kernel
theorem dL_rowLong_13 : decode cL_rowLong 13 = .ok (.ireturn, 1) := by decide +kernel
theorem dL_rowLong_14 : decode cL_rowLong 14 = .ok (.iconst 0, 1) := by decide +kernel
theorem dL_rowLong_15 : decode cL_rowLong 15 = .ok (.ireturn, 1) := by decide +kernel
set_option maxRecDepth 20000 in
theorem ggL_ends_X7_ends : GoodIn wsL_ends wsX7_ends := goodIn_ca (goodIn_r _ [6, 7, 8, 9, 10, 11, 12, 5, 13, 14, 15, 16, 17, 18, 19, 20, 21, 22, 23, 24, 25, 26, 27, 28, 29, 30, 31, 32, 33, 34, 35, 36, 37, 38, 39, 40, 41, 42, 43, 44, 45, 46, 47, 48, 49, 50, 51, 52, 53, 54, 55, 56, 57, 58, 59, 60, 61, 62, 63, 64, 65, 66, 67, 68, 69, 70, 71, 72, 73, 74, 75, 76, 77, 78, 79, 80, 81, 82, 83, 84, 85, 86, 87, 88, 89, 90, 91, 92, 93, 94, 95, 96, 97, 98, 99, 100, 101, 102, 103, 104, 105, 106, 107, 108, 109, 110, 111, 112, 113, 114, 115, 116, 117, 118, 119, 120, 121, 122, 123, 124, 125, 126, 127, 128, 129, 130, 131, 132, 133, 134, 135] (by decide +kernel) (by decide +kernel)) (goodIn_sub (fun _ h => List.mem_cons_of_mem _ (List.mem_append_right _ h)) (by decide +kernel))
set_option maxRecDepth 20000 in
theorem gL_ends_X7_ends : GoodIn wsL_ends (wsV RL 40 RX7 yX7_ends wsX7_ends) := goodIn_app (goodIn_of _ (by decide +kernel)) ggL_ends_X7_ends
theorem dL_ends_0 : decode cL_ends 0 = .ok (.aload_n 2, 1) := by decide +kernel
theorem dL_ends_1 : decode cL_ends 1 = .ok (.iconst 0, 1) := by decide +kernel
theorem dL_ends_2 : decode cL_ends 2 = .ok (.aload_n 0, 1) := by decide +kernel
theorem dL_ends_3 : decode cL_ends 3 = .ok (.iload_n 1, 1) := by decide +kernel
theorem dL_ends_4 : decode cL_ends 4 = .ok (.invokevirtual 40, 3) := by decide +kernel
theorem dL_ends_7 : decode cL_ends 7 = .ok (.i2l, 1) := by decide +kernel
theorem dL_ends_8 : decode cL_ends 8 = .ok (.lastore, 1) := by decide +kernel
theorem dL_ends_9 : decode cL_ends 9 = .ok (.goto 6, 3) := by decide +kernel
theorem dL_ends_12 : decode cL_ends 12 = .ok (.astore_n 3, 1) := by decide +kernel
theorem dL_ends_13 : decode cL_ends 13 = .ok (.iconst 1, 1) := by decide +kernel
theorem dL_ends_14 : decode cL_ends 14 = .ok (.ireturn, 1) := by decide +kernel
theorem dL_ends_15 : decode cL_ends 15 = .ok (.iconst 0, 1) := by decide +kernel
theorem dL_ends_16 : decode cL_ends 16 = .ok (.ireturn, 1) := by decide +kernel
set_option maxRecDepth 20000 in
theorem ggL_ill_X7_ill : GoodIn wsL_ill wsX7_ill := goodIn_ca (goodIn_ca (goodIn_r _ [7, 8, 9, 10, 11, 12, 13, 6, 14, 15, 16, 17, 18, 19, 20, 21, 22, 23, 24, 25, 26, 27, 28, 29, 30, 31, 32, 33, 34, 35, 36, 37, 38, 39, 40, 41, 42, 43, 44, 45, 46, 47, 48, 49, 50, 51, 52, 53, 54, 55, 56, 57, 58, 59, 60, 61, 62, 63] (by decide +kernel) (by decide +kernel)) (goodIn_sub (fun _ h => List.mem_cons_of_mem _ (List.mem_append_left _ (List.mem_append_right _ h))) (by decide +kernel))) (goodIn_sub (fun _ h => List.mem_cons_of_mem _ (List.mem_append_right _ h)) (by decide +kernel))
set_option maxRecDepth 20000 in
theorem gL_ill_X7_ill : GoodIn wsL_ill (wsV RL 43 RX7 yX7_ill wsX7_ill) := goodIn_app (goodIn_of _ (by decide +kernel)) ggL_ill_X7_ill
theorem dL_ill_0 : decode cL_ill 0 = .ok (.aload_n 2, 1) := by decide +kernel
theorem dL_ill_1 : decode cL_ill 1 = .ok (.iconst 0, 1) := by decide +kernel
theorem dL_ill_2 : decode cL_ill 2 = .ok (.aload_n 0, 1) := by decide +kernel
theorem dL_ill_3 : decode cL_ill 3 = .ok (.iload_n 1, 1) := by decide +kernel
theorem dL_ill_4 : decode cL_ill 4 = .ok (.invokevirtual 43, 3) := by decide +kernel
theorem dL_ill_7 : decode cL_ill 7 = .ok (.ifCond .eq 7, 3) := by decide +kernel
theorem dL_ill_10 : decode cL_ill 10 = .ok (.lconst 1, 1) := by decide +kernel
theorem dL_ill_11 : decode cL_ill 11 = .ok (.goto 4, 3) := by decide +kernel
theorem dL_ill_14 : decode cL_ill 14 = .ok (.lconst 0, 1) := by decide +kernel
theorem dL_ill_15 : decode cL_ill 15 = .ok (.lastore, 1) := by decide +kernel
theorem dL_ill_16 : decode cL_ill 16 = .ok (.goto 9, 3) := by decide +kernel
theorem dL_ill_19 : decode cL_ill 19 = .ok (.astore_n 3, 1) := by decide +kernel
theorem dL_ill_20 : decode cL_ill 20 = .ok (.iconst 1, 1) := by decide +kernel
theorem dL_ill_21 : decode cL_ill 21 = .ok (.ireturn, 1) := by decide +kernel
theorem dL_ill_22 : decode cL_ill 22 = .ok (.astore_n 3, 1) := by decide +kernel
theorem dL_ill_23 : decode cL_ill 23 = .ok (.iconst 2, 1) := by decide +kernel
theorem dL_ill_24 : decode cL_ill 24 = .ok (.ireturn, 1) := by decide +kernel
theorem dL_ill_25 : decode cL_ill 25 = .ok (.iconst 0, 1) := by decide +kernel
theorem dL_ill_26 : decode cL_ill 26 = .ok (.ireturn, 1) := by decide +kernel
set_option maxRecDepth 20000 in
theorem ggL_law_X7_init : GoodIn wsL_law wsX7_init := goodIn_r _ [9, 10, 11, 12, 13, 14, 15, 16, 17, 18, 19, 20, 21, 22, 23, 24, 25, 26, 27, 28, 29, 30, 31, 32, 33, 34, 35, 36, 37, 38, 39, 40, 41, 42, 43, 44, 45, 46, 47, 48, 49, 50, 51, 52, 53, 54, 55, 56, 57, 58, 59, 60, 61, 62, 63, 64, 65, 66, 67, 68, 69, 70, 71, 72, 73, 74, 75, 76, 77, 78, 79, 80, 81, 82, 83, 84, 85, 86, 87, 88, 89, 90, 91, 92, 93, 94, 95, 96, 97, 98, 99, 100, 101, 102, 103, 104, 105, 106, 107, 108, 109, 110, 111, 112, 113, 114, 115, 116, 117, 951, 952, 953, 954, 955, 956, 903, 904, 905, 906, 907, 908, 909, 910, 911, 912, 913, 914, 957, 958, 959, 960, 961, 962, 963, 964, 965, 966, 967, 968, 969, 970, 971, 972, 973, 974, 975, 976, 977, 978, 979, 980, 981, 982, 983, 984, 985, 986, 987, 988, 989, 990, 991, 992, 993, 994, 995] (by decide +kernel) (by decide +kernel)
set_option maxRecDepth 20000 in
theorem gL_law_X7_init : GoodIn wsL_law (wsX7_init) := ggL_law_X7_init
set_option maxRecDepth 20000 in
theorem ggL_law_X8_init : GoodIn wsL_law wsX8_init := goodIn_r _ [120, 121, 11, 12, 17, 122, 123, 124, 125, 126, 127, 128, 129, 130, 131, 132, 133, 134, 135, 136, 137, 138, 139, 140, 141, 915, 916, 917, 918, 919, 920, 921, 922, 923, 924, 925, 926, 927, 928, 929, 930, 931, 932, 933, 934, 935, 936, 937, 938, 939, 940, 941, 942, 943, 944, 945, 946, 947, 948, 949, 950] (by decide +kernel) (by decide +kernel)
set_option maxRecDepth 20000 in
theorem gL_law_X8_init : GoodIn wsL_law (wsX8_init) := ggL_law_X8_init
set_option maxRecDepth 20000 in
theorem ggL_law_X7_guest : GoodIn wsL_law wsX7_guest := goodIn_r _ [145, 16, 146, 18, 46, 147, 148, 15, 149, 150, 151, 152, 153, 50, 51, 52, 53, 54, 55, 903, 904, 905, 906, 907, 908, 909, 910, 911, 912, 913, 914, 951, 952, 953, 954, 955, 956] (by decide +kernel) (by decide +kernel)
set_option maxRecDepth 20000 in
theorem gL_law_X7_guest : GoodIn wsL_law (wsV RL 51 RX7 yX7_guest wsX7_guest) := goodIn_app (goodIn_of _ (by decide +kernel)) ggL_law_X7_guest
set_option maxRecDepth 20000 in
theorem ggL_law_X8_guest : GoodIn wsL_law wsX8_guest := goodIn_r _ [157, 158, 159, 122, 123, 160, 161, 162, 5, 163, 915, 916, 917, 918, 919, 920, 921, 922, 923, 924, 925, 926, 927, 928, 929, 930, 931, 932, 933, 934, 935, 936, 937, 938, 939, 940, 941, 942, 943, 944, 945, 946, 947, 948, 949, 950] (by decide +kernel) (by decide +kernel)
set_option maxRecDepth 20000 in
theorem gL_law_X8_guest : GoodIn wsL_law (wsV RL 55 RX8 yX8_guest wsX8_guest) := goodIn_app (goodIn_of _ (by decide +kernel)) ggL_law_X8_guest
set_option maxRecDepth 20000 in
theorem ggL_law_L_of : GoodIn wsL_law wsL_of := goodIn_ca (goodIn_r _ [167, 168, 169, 170, 171, 2, 172, 16, 173, 174, 175, 176, 177, 178, 179, 180, 181, 182, 183, 184, 185, 186, 15, 187, 50, 903, 904, 905, 906, 907, 908, 909, 910, 911, 912, 913, 914, 951, 952, 953, 954, 955, 956] (by decide +kernel) (by decide +kernel)) (goodIn_sub (fun _ h => List.mem_append_left _ (List.mem_append_right _ h)) (by decide +kernel))
set_option maxRecDepth 20000 in
theorem gL_law_L_of : GoodIn wsL_law (va_wsS RL 56 yL_of wsL_of) := goodIn_app (goodIn_of _ (by decide +kernel)) ggL_law_L_of
set_option maxRecDepth 20000 in
theorem ggL_law_X8_of : GoodIn wsL_law wsX8_of := goodIn_r _ [191, 192, 193, 194, 5, 195, 159, 161, 162, 163, 196, 197, 198, 199, 158, 200, 201, 202, 203, 122, 915, 916, 917, 918, 919, 920, 921, 922, 923, 924, 925, 926, 927, 928, 929, 930, 931, 932, 933, 934, 935, 936, 937, 938, 939, 940, 941, 942, 943, 944, 945, 946, 947, 948, 949, 950] (by decide +kernel) (by decide +kernel)
set_option maxRecDepth 20000 in
theorem gL_law_X8_of : GoodIn wsL_law (wsV RL 61 RX8 yX8_of wsX8_of) := goodIn_app (goodIn_of _ (by decide +kernel)) ggL_law_X8_of
set_option maxRecDepth 20000 in
theorem ggL_law_X8_thrown : GoodIn wsL_law wsX8_thrown := goodIn_r _ [207, 158, 915, 916, 917, 918, 919, 920, 921, 922, 923, 924, 925, 926, 927, 928, 929, 930, 931, 932, 933, 934, 935, 936, 937, 938, 939, 940, 941, 942, 943, 944, 945, 946, 947, 948, 949, 950] (by decide +kernel) (by decide +kernel)
set_option maxRecDepth 20000 in
theorem gL_law_X8_thrown : GoodIn wsL_law (wsV RL 62 RX8 yX8_thrown wsX8_thrown) := goodIn_app (goodIn_of _ (by decide +kernel)) ggL_law_X8_thrown
set_option maxRecDepth 20000 in
theorem ggL_law_X7_feed : GoodIn wsL_law wsX7_feed := goodIn_r _ [211, 23, 212, 213, 214, 215, 22, 216, 62, 61, 903, 904, 905, 906, 907, 908, 909, 910, 911, 912, 913, 914, 957, 958, 959, 960, 961, 962, 963, 964, 965] (by decide +kernel) (by decide +kernel)
set_option maxRecDepth 20000 in
theorem gL_law_X7_feed : GoodIn wsL_law (wsV RL 65 RX7 yX7_feed wsX7_feed) := goodIn_app (goodIn_of _ (by decide +kernel)) ggL_law_X7_feed
set_option maxRecDepth 20000 in
theorem ggL_law_X8_feed : GoodIn wsL_law wsX8_feed := goodIn_r _ [220, 158, 221, 126, 915, 916, 917, 918, 919, 920, 921, 922, 923, 924, 925, 926, 927, 928, 929, 930, 931, 932, 933, 934, 935, 936, 937, 938, 939, 940, 941, 942, 943, 944, 945, 946, 947, 948, 949, 950] (by decide +kernel) (by decide +kernel)
set_option maxRecDepth 20000 in
theorem gL_law_X8_feed : GoodIn wsL_law (wsV RL 68 RX8 yX8_feed wsX8_feed) := goodIn_app (goodIn_of _ (by decide +kernel)) ggL_law_X8_feed
set_option maxRecDepth 20000 in
theorem ggL_law_X7_end : GoodIn wsL_law wsX7_end := goodIn_r _ [225, 23, 212, 903, 904, 905, 906, 907, 908, 909, 910, 911, 912, 913, 914, 957, 958, 959, 960, 961, 962, 963, 964, 965] (by decide +kernel) (by decide +kernel)
set_option maxRecDepth 20000 in
theorem gL_law_X7_end : GoodIn wsL_law (wsV RL 69 RX7 yX7_end wsX7_end) := goodIn_app (goodIn_of _ (by decide +kernel)) ggL_law_X7_end
set_option maxRecDepth 20000 in
theorem ggL_law_X8_end : GoodIn wsL_law wsX8_end := goodIn_r _ [229, 158, 221, 161, 162, 5, 163, 915, 916, 917, 918, 919, 920, 921, 922, 923, 924, 925, 926, 927, 928, 929, 930, 931, 932, 933, 934, 935, 936, 937, 938, 939, 940, 941, 942, 943, 944, 945, 946, 947, 948, 949, 950] (by decide +kernel) (by decide +kernel)
set_option maxRecDepth 20000 in
theorem gL_law_X8_end : GoodIn wsL_law (wsV RL 72 RX8 yX8_end wsX8_end) := goodIn_app (goodIn_of _ (by decide +kernel)) ggL_law_X8_end
set_option maxRecDepth 20000 in
theorem ggL_law_X7_load : GoodIn wsL_law wsX7_load := goodIn_r _ [233, 23, 28, 212, 234, 27, 235, 236, 237, 238, 22, 239, 240, 63, 64, 67, 65, 241, 242, 243, 244, 62, 61, 66, 245, 246, 247, 248, 249, 250, 251, 252, 253, 254, 255, 256, 257, 258, 259, 260, 261, 262, 263, 264, 265, 266, 267, 268, 269, 270, 271, 272, 273, 274, 275, 276, 277, 278, 279, 280, 281, 282, 283, 284, 285, 286, 287, 288, 289, 290, 291, 292, 293, 294, 295, 296, 297, 298, 299, 300, 301, 302, 303, 304, 305, 306, 307, 308, 309, 310, 311, 312, 313, 314, 315, 316, 317, 68, 318, 319, 320, 321, 322, 323, 324, 325, 326, 327, 328, 329, 69, 330, 331, 332, 333, 334, 335, 336, 337, 338, 339, 340, 341, 26, 342, 74, 75, 76, 77, 78, 903, 904, 905, 906, 907, 908, 909, 910, 911, 912, 913, 914, 957, 958, 959, 960, 961, 962, 963, 964, 965, 966, 967, 968, 969, 970, 971, 951, 952, 953, 954, 955, 956] (by decide +kernel) (by decide +kernel)
set_option maxRecDepth 20000 in
theorem gL_law_X7_load : GoodIn wsL_law (wsV RL 73 RX7 yX7_load wsX7_load) := goodIn_app (goodIn_of _ (by decide +kernel)) ggL_law_X7_load
set_option maxRecDepth 20000 in
theorem ggL_law_X8_load : GoodIn wsL_law wsX8_load := goodIn_r _ [346, 158, 347, 348, 349, 350, 351, 127, 221, 352, 124, 125, 353, 354, 355, 5, 356, 357, 358, 359, 360, 361, 362, 126, 363, 364, 365, 161, 162, 163, 366, 367, 368, 369, 370, 371, 372, 373, 374, 375, 376, 377, 378, 379, 380, 381, 382, 383, 384, 385, 386, 387, 388, 389, 390, 391, 159, 915, 916, 917, 918, 919, 920, 921, 922, 923, 924, 925, 926, 927, 928, 929, 930, 931, 932, 933, 934, 935, 936, 937, 938, 939, 940, 941, 942, 943, 944, 945, 946, 947, 948, 949, 950] (by decide +kernel) (by decide +kernel)
set_option maxRecDepth 20000 in
theorem gL_law_X8_load : GoodIn wsL_law (wsV RL 76 RX8 yX8_load wsX8_load) := goodIn_app (goodIn_of _ (by decide +kernel)) ggL_law_X8_load
set_option maxRecDepth 20000 in
theorem ggL_law_X7_fault : GoodIn wsL_law wsX7_fault := goodIn_r _ [395, 23, 234, 396, 903, 904, 905, 906, 907, 908, 909, 910, 911, 912, 913, 914, 957, 958, 959, 960, 961, 962, 963, 964, 965] (by decide +kernel) (by decide +kernel)
set_option maxRecDepth 20000 in
theorem gL_law_X7_fault : GoodIn wsL_law (wsV RL 77 RX7 yX7_fault wsX7_fault) := goodIn_app (goodIn_of _ (by decide +kernel)) ggL_law_X7_fault
set_option maxRecDepth 20000 in
theorem ggL_law_X8_fault : GoodIn wsL_law wsX8_fault := goodIn_r _ [400, 158, 350, 127, 915, 916, 917, 918, 919, 920, 921, 922, 923, 924, 925, 926, 927, 928, 929, 930, 931, 932, 933, 934, 935, 936, 937, 938, 939, 940, 941, 942, 943, 944, 945, 946, 947, 948, 949, 950] (by decide +kernel) (by decide +kernel)
set_option maxRecDepth 20000 in
theorem gL_law_X8_fault : GoodIn wsL_law (wsV RL 80 RX8 yX8_fault wsX8_fault) := goodIn_app (goodIn_of _ (by decide +kernel)) ggL_law_X8_fault
set_option maxRecDepth 20000 in
theorem ggL_law_X7_look : GoodIn wsL_law wsX7_look := goodIn_r _ [404, 16, 146, 27, 235, 40, 405, 406, 46, 903, 904, 905, 906, 907, 908, 909, 910, 911, 912, 913, 914, 951, 952, 953, 954, 955, 956, 966, 967, 968, 969, 970, 971, 983, 984, 985, 986] (by decide +kernel) (by decide +kernel)
set_option maxRecDepth 20000 in
theorem gL_law_X7_look : GoodIn wsL_law (wsV RL 81 RX7 yX7_look wsX7_look) := goodIn_app (goodIn_of _ (by decide +kernel)) ggL_law_X7_look
set_option maxRecDepth 20000 in
theorem ggL_law_X8_look : GoodIn wsL_law wsX8_look := goodIn_r _ [410, 158, 159, 352, 130, 131, 160, 915, 916, 917, 918, 919, 920, 921, 922, 923, 924, 925, 926, 927, 928, 929, 930, 931, 932, 933, 934, 935, 936, 937, 938, 939, 940, 941, 942, 943, 944, 945, 946, 947, 948, 949, 950] (by decide +kernel) (by decide +kernel)
set_option maxRecDepth 20000 in
theorem gL_law_X8_look : GoodIn wsL_law (wsV RL 84 RX8 yX8_look wsX8_look) := goodIn_app (goodIn_of _ (by decide +kernel)) ggL_law_X8_look
set_option maxRecDepth 20000 in
theorem ggL_law_X7_lay : GoodIn wsL_law wsX7_lay := goodIn_r _ [414, 16, 146, 18, 46, 903, 904, 905, 906, 907, 908, 909, 910, 911, 912, 913, 914, 951, 952, 953, 954, 955, 956] (by decide +kernel) (by decide +kernel)
set_option maxRecDepth 20000 in
theorem gL_law_X7_lay : GoodIn wsL_law (wsV RL 85 RX7 yX7_lay wsX7_lay) := goodIn_app (goodIn_of _ (by decide +kernel)) ggL_law_X7_lay
set_option maxRecDepth 20000 in
theorem ggL_law_X8_lay : GoodIn wsL_law wsX8_lay := goodIn_r _ [418, 158, 159, 123, 160, 915, 916, 917, 918, 919, 920, 921, 922, 923, 924, 925, 926, 927, 928, 929, 930, 931, 932, 933, 934, 935, 936, 937, 938, 939, 940, 941, 942, 943, 944, 945, 946, 947, 948, 949, 950] (by decide +kernel) (by decide +kernel)
set_option maxRecDepth 20000 in
theorem gL_law_X8_lay : GoodIn wsL_law (wsV RL 88 RX8 yX8_lay wsX8_lay) := goodIn_app (goodIn_of _ (by decide +kernel)) ggL_law_X8_lay
set_option maxRecDepth 20000 in
theorem ggL_law_X7_place : GoodIn wsL_law wsX7_place := goodIn_r _ [422, 16, 18, 184, 185, 186, 15, 187, 50, 903, 904, 905, 906, 907, 908, 909, 910, 911, 912, 913, 914, 951, 952, 953, 954, 955, 956] (by decide +kernel) (by decide +kernel)
set_option maxRecDepth 20000 in
theorem gL_law_X7_place : GoodIn wsL_law (wsV RL 89 RX7 yX7_place wsX7_place) := goodIn_app (goodIn_of _ (by decide +kernel)) ggL_law_X7_place
set_option maxRecDepth 20000 in
theorem ggL_law_X8_place : GoodIn wsL_law wsX8_place := goodIn_r _ [426, 158, 159, 123, 161, 162, 5, 163, 915, 916, 917, 918, 919, 920, 921, 922, 923, 924, 925, 926, 927, 928, 929, 930, 931, 932, 933, 934, 935, 936, 937, 938, 939, 940, 941, 942, 943, 944, 945, 946, 947, 948, 949, 950] (by decide +kernel) (by decide +kernel)
set_option maxRecDepth 20000 in
theorem gL_law_X8_place : GoodIn wsL_law (wsV RL 92 RX8 yX8_place wsX8_place) := goodIn_app (goodIn_of _ (by decide +kernel)) ggL_law_X8_place
set_option maxRecDepth 20000 in
theorem ggL_law_X7_orders : GoodIn wsL_law wsX7_orders := goodIn_r _ [430, 32, 27, 431, 432, 433, 434, 31, 435, 87, 88, 91, 436, 86, 89, 85, 90, 437, 438, 439, 26, 440, 74, 75, 76, 441, 442, 443, 444, 79, 445, 446, 447, 448, 449, 450, 451, 452, 453, 454, 455, 456, 457, 458, 459, 460, 461, 78, 77, 462, 463, 464, 465, 15, 466, 51, 53, 55, 467, 468, 469, 470, 84, 471, 472, 473, 474, 475, 476, 477, 478, 479, 480, 481, 482, 903, 904, 905, 906, 907, 908, 909, 910, 911, 912, 913, 914, 972, 973, 974, 975, 976, 977, 978, 979, 951, 952, 953, 954, 955, 956, 966, 967, 968, 969, 970, 971] (by decide +kernel) (by decide +kernel)
set_option maxRecDepth 20000 in
theorem gL_law_X7_orders : GoodIn wsL_law (wsV RL 93 RX7 yX7_orders wsX7_orders) := goodIn_app (goodIn_of _ (by decide +kernel)) ggL_law_X7_orders
set_option maxRecDepth 20000 in
theorem ggL_law_X8_orders : GoodIn wsL_law wsX8_orders := goodIn_r _ [486, 158, 487, 488, 489, 5, 490, 159, 128, 491, 492, 493, 494, 352, 124, 495, 496, 497, 498, 499, 500, 200, 201, 202, 203, 122, 501, 502, 503, 504, 505, 506, 507, 508, 509, 510, 511, 512, 915, 916, 917, 918, 919, 920, 921, 922, 923, 924, 925, 926, 927, 928, 929, 930, 931, 932, 933, 934, 935, 936, 937, 938, 939, 940, 941, 942, 943, 944, 945, 946, 947, 948, 949, 950] (by decide +kernel) (by decide +kernel)
set_option maxRecDepth 20000 in
theorem gL_law_X8_orders : GoodIn wsL_law (wsV RL 96 RX8 yX8_orders wsX8_orders) := goodIn_app (goodIn_of _ (by decide +kernel)) ggL_law_X8_orders
set_option maxRecDepth 20000 in
theorem ggL_law_X7_pick : GoodIn wsL_law wsX7_pick := goodIn_r _ [516, 431, 32, 27, 517, 432, 433, 434, 31, 435, 87, 88, 91, 436, 86, 89, 85, 90, 437, 438, 439, 26, 440, 74, 75, 76, 441, 442, 443, 444, 79, 445, 446, 447, 448, 449, 450, 451, 452, 453, 454, 455, 456, 457, 458, 459, 460, 461, 78, 77, 462, 463, 464, 465, 15, 466, 51, 53, 55, 467, 468, 469, 470, 84, 471, 472, 473, 474, 475, 476, 477, 478, 479, 480, 481, 482, 518, 519, 520, 2, 521, 18, 522, 523, 524, 525, 46, 903, 904, 905, 906, 907, 908, 909, 910, 911, 912, 913, 914, 972, 973, 974, 975, 976, 977, 978, 979, 951, 952, 953, 954, 955, 956, 966, 967, 968, 969, 970, 971] (by decide +kernel) (by decide +kernel)
set_option maxRecDepth 20000 in
theorem gL_law_X7_pick : GoodIn wsL_law (wsV RL 97 RX7 yX7_pick wsX7_pick) := goodIn_app (goodIn_of _ (by decide +kernel)) ggL_law_X7_pick
set_option maxRecDepth 20000 in
theorem ggL_law_X8_pick : GoodIn wsL_law wsX8_pick := goodIn_r _ [529, 158, 487, 488, 489, 5, 490, 159, 128, 491, 492, 493, 494, 352, 124, 495, 496, 497, 498, 499, 500, 200, 201, 202, 203, 122, 501, 502, 503, 504, 505, 506, 507, 508, 530, 531, 532, 533, 123, 160, 509, 510, 511, 512, 915, 916, 917, 918, 919, 920, 921, 922, 923, 924, 925, 926, 927, 928, 929, 930, 931, 932, 933, 934, 935, 936, 937, 938, 939, 940, 941, 942, 943, 944, 945, 946, 947, 948, 949, 950] (by decide +kernel) (by decide +kernel)
set_option maxRecDepth 20000 in
theorem gL_law_X8_pick : GoodIn wsL_law (wsV RL 100 RX8 yX8_pick wsX8_pick) := goodIn_app (goodIn_of _ (by decide +kernel)) ggL_law_X8_pick
set_option maxRecDepth 20000 in
theorem ggL_law_X7_rank : GoodIn wsL_law wsX7_rank := goodIn_r _ [537, 32, 27, 431, 517, 432, 433, 434, 31, 435, 87, 88, 91, 436, 86, 89, 85, 90, 437, 438, 439, 26, 440, 74, 75, 76, 441, 442, 443, 444, 79, 445, 446, 447, 448, 449, 450, 451, 452, 453, 454, 455, 456, 457, 458, 459, 460, 461, 78, 77, 462, 463, 464, 465, 15, 466, 51, 53, 55, 467, 468, 469, 470, 84, 471, 472, 473, 474, 475, 476, 477, 478, 479, 480, 481, 482, 538, 539, 540, 2, 541, 16, 146, 18, 903, 904, 905, 906, 907, 908, 909, 910, 911, 912, 913, 914, 972, 973, 974, 975, 976, 977, 978, 979, 951, 952, 953, 954, 955, 956, 966, 967, 968, 969, 970, 971] (by decide +kernel) (by decide +kernel)
set_option maxRecDepth 20000 in
theorem gL_law_X7_rank : GoodIn wsL_law (wsV RL 101 RX7 yX7_rank wsX7_rank) := goodIn_app (goodIn_of _ (by decide +kernel)) ggL_law_X7_rank
set_option maxRecDepth 20000 in
theorem ggL_law_X8_rank : GoodIn wsL_law wsX8_rank := goodIn_r _ [545, 158, 487, 488, 489, 5, 490, 159, 128, 491, 492, 493, 494, 352, 124, 495, 496, 497, 498, 499, 500, 200, 201, 202, 203, 122, 501, 502, 503, 504, 505, 506, 507, 508, 546, 547, 548, 549, 123, 509, 510, 511, 512, 915, 916, 917, 918, 919, 920, 921, 922, 923, 924, 925, 926, 927, 928, 929, 930, 931, 932, 933, 934, 935, 936, 937, 938, 939, 940, 941, 942, 943, 944, 945, 946, 947, 948, 949, 950] (by decide +kernel) (by decide +kernel)
set_option maxRecDepth 20000 in
theorem gL_law_X8_rank : GoodIn wsL_law (wsV RL 104 RX8 yX8_rank wsX8_rank) := goodIn_app (goodIn_of _ (by decide +kernel)) ggL_law_X8_rank
set_option maxRecDepth 20000 in
theorem ggL_law_X7_best : GoodIn wsL_law wsX7_best := goodIn_r _ [553, 32, 27, 431, 16, 517, 19, 522, 523, 524, 525, 432, 433, 434, 31, 435, 87, 88, 91, 436, 86, 89, 85, 90, 437, 438, 439, 26, 440, 74, 75, 76, 441, 442, 443, 444, 79, 445, 446, 447, 448, 449, 450, 451, 452, 453, 454, 455, 456, 457, 458, 459, 460, 461, 78, 77, 462, 463, 464, 465, 15, 466, 51, 53, 55, 467, 468, 469, 470, 84, 471, 472, 473, 474, 475, 476, 477, 478, 479, 480, 481, 482, 554, 555, 556, 557, 50, 518, 519, 520, 2, 521, 18, 46, 903, 904, 905, 906, 907, 908, 909, 910, 911, 912, 913, 914, 972, 973, 974, 975, 976, 977, 978, 979, 951, 952, 953, 954, 955, 956, 966, 967, 968, 969, 970, 971] (by decide +kernel) (by decide +kernel)
set_option maxRecDepth 20000 in
theorem gL_law_X7_best : GoodIn wsL_law (wsV RL 105 RX7 yX7_best wsX7_best) := goodIn_app (goodIn_of _ (by decide +kernel)) ggL_law_X7_best
set_option maxRecDepth 20000 in
theorem ggL_law_X8_best : GoodIn wsL_law wsX8_best := goodIn_r _ [561, 158, 159, 129, 128, 487, 488, 489, 5, 490, 562, 563, 564, 565, 200, 201, 202, 203, 122, 491, 492, 493, 494, 352, 124, 495, 496, 497, 498, 499, 500, 501, 502, 503, 504, 505, 506, 507, 508, 509, 510, 511, 512, 530, 531, 532, 533, 123, 160, 915, 916, 917, 918, 919, 920, 921, 922, 923, 924, 925, 926, 927, 928, 929, 930, 931, 932, 933, 934, 935, 936, 937, 938, 939, 940, 941, 942, 943, 944, 945, 946, 947, 948, 949, 950] (by decide +kernel) (by decide +kernel)
set_option maxRecDepth 20000 in
theorem gL_law_X8_best : GoodIn wsL_law (wsV RL 108 RX8 yX8_best wsX8_best) := goodIn_app (goodIn_of _ (by decide +kernel)) ggL_law_X8_best
set_option maxRecDepth 20000 in
theorem ggL_law_X7_noise : GoodIn wsL_law wsX7_noise := goodIn_r _ [569, 16, 18, 554, 555, 556, 15, 557, 50, 53, 903, 904, 905, 906, 907, 908, 909, 910, 911, 912, 913, 914, 951, 952, 953, 954, 955, 956] (by decide +kernel) (by decide +kernel)
set_option maxRecDepth 20000 in
theorem gL_law_X7_noise : GoodIn wsL_law (wsV RL 109 RX7 yX7_noise wsX7_noise) := goodIn_app (goodIn_of _ (by decide +kernel)) ggL_law_X7_noise
set_option maxRecDepth 20000 in
theorem ggL_law_X8_noise : GoodIn wsL_law wsX8_noise := goodIn_r _ [573, 158, 574, 575, 576, 5, 577, 159, 128, 123, 562, 563, 564, 565, 200, 201, 202, 203, 122, 915, 916, 917, 918, 919, 920, 921, 922, 923, 924, 925, 926, 927, 928, 929, 930, 931, 932, 933, 934, 935, 936, 937, 938, 939, 940, 941, 942, 943, 944, 945, 946, 947, 948, 949, 950] (by decide +kernel) (by decide +kernel)
set_option maxRecDepth 20000 in
theorem gL_law_X8_noise : GoodIn wsL_law (wsV RL 112 RX8 yX8_noise wsX8_noise) := goodIn_app (goodIn_of _ (by decide +kernel)) ggL_law_X8_noise
set_option maxRecDepth 20000 in
theorem ggL_law_X7_why : GoodIn wsL_law wsX7_why := goodIn_r _ [581, 36, 27, 16, 18, 582, 583, 584, 585, 586, 587, 35, 588, 589, 95, 590, 591, 592, 593, 594, 595, 96, 97, 596, 455, 456, 26, 457, 74, 597, 598, 599, 600, 601, 602, 442, 443, 444, 79, 445, 603, 604, 605, 606, 607, 459, 460, 461, 75, 78, 76, 77, 462, 441, 463, 464, 465, 15, 466, 51, 53, 55, 903, 904, 905, 906, 907, 908, 909, 910, 911, 912, 913, 914, 980, 981, 982, 966, 967, 968, 969, 970, 971, 951, 952, 953, 954, 955, 956] (by decide +kernel) (by decide +kernel)
set_option maxRecDepth 20000 in
theorem gL_law_X7_why : GoodIn wsL_law (wsV RL 113 RX7 yX7_why wsX7_why) := goodIn_app (goodIn_of _ (by decide +kernel)) ggL_law_X7_why
set_option maxRecDepth 20000 in
theorem ggL_law_X8_why : GoodIn wsL_law wsX8_why := goodIn_r _ [611, 158, 495, 496, 574, 575, 576, 5, 577, 159, 128, 123, 491, 492, 493, 494, 352, 124, 497, 498, 499, 500, 200, 201, 202, 203, 122, 501, 502, 503, 504, 505, 506, 507, 508, 161, 162, 163, 915, 916, 917, 918, 919, 920, 921, 922, 923, 924, 925, 926, 927, 928, 929, 930, 931, 932, 933, 934, 935, 936, 937, 938, 939, 940, 941, 942, 943, 944, 945, 946, 947, 948, 949, 950] (by decide +kernel) (by decide +kernel)
set_option maxRecDepth 20000 in
theorem gL_law_X8_why : GoodIn wsL_law (wsV RL 116 RX8 yX8_why wsX8_why) := goodIn_app (goodIn_of _ (by decide +kernel)) ggL_law_X8_why
set_option maxRecDepth 20000 in
theorem ggL_law_X7_road : GoodIn wsL_law wsX7_road := goodIn_r _ [615, 40, 46, 616, 617, 618, 39, 619, 101, 102, 103, 104, 903, 904, 905, 906, 907, 908, 909, 910, 911, 912, 913, 914, 983, 984, 985, 986] (by decide +kernel) (by decide +kernel)
set_option maxRecDepth 20000 in
theorem gL_law_X7_road : GoodIn wsL_law (wsV RL 117 RX7 yX7_road wsX7_road) := goodIn_app (goodIn_of _ (by decide +kernel)) ggL_law_X7_road
set_option maxRecDepth 20000 in
theorem ggL_law_X8_road : GoodIn wsL_law wsX8_road := goodIn_r _ [623, 158, 130, 131, 132, 133, 160, 161, 162, 5, 163, 915, 916, 917, 918, 919, 920, 921, 922, 923, 924, 925, 926, 927, 928, 929, 930, 931, 932, 933, 934, 935, 936, 937, 938, 939, 940, 941, 942, 943, 944, 945, 946, 947, 948, 949, 950] (by decide +kernel) (by decide +kernel)
set_option maxRecDepth 20000 in
theorem gL_law_X8_road : GoodIn wsL_law (wsV RL 121 RX8 yX8_road wsX8_road) := goodIn_app (goodIn_of _ (by decide +kernel)) ggL_law_X8_road
set_option maxRecDepth 20000 in
theorem ggL_law_X7_wire : GoodIn wsL_law wsX7_wire := goodIn_r _ [627, 40, 628, 46, 629, 630, 631, 39, 632, 101, 903, 904, 905, 906, 907, 908, 909, 910, 911, 912, 913, 914, 983, 984, 985, 986] (by decide +kernel) (by decide +kernel)
set_option maxRecDepth 20000 in
theorem gL_law_X7_wire : GoodIn wsL_law (wsV RL 122 RX7 yX7_wire wsX7_wire) := goodIn_app (goodIn_of _ (by decide +kernel)) ggL_law_X7_wire
set_option maxRecDepth 20000 in
theorem ggL_law_X8_wire : GoodIn wsL_law wsX8_wire := goodIn_r _ [636, 158, 132, 160, 637, 638, 639, 5, 640, 130, 161, 162, 163, 915, 916, 917, 918, 919, 920, 921, 922, 923, 924, 925, 926, 927, 928, 929, 930, 931, 932, 933, 934, 935, 936, 937, 938, 939, 940, 941, 942, 943, 944, 945, 946, 947, 948, 949, 950] (by decide +kernel) (by decide +kernel)
set_option maxRecDepth 20000 in
theorem gL_law_X8_wire : GoodIn wsL_law (wsV RL 125 RX8 yX8_wire wsX8_wire) := goodIn_app (goodIn_of _ (by decide +kernel)) ggL_law_X8_wire
set_option maxRecDepth 20000 in
theorem ggL_law_X7_stand : GoodIn wsL_law wsX7_stand := goodIn_r _ [644, 40, 645, 46, 629, 630, 631, 39, 632, 101, 903, 904, 905, 906, 907, 908, 909, 910, 911, 912, 913, 914, 983, 984, 985, 986] (by decide +kernel) (by decide +kernel)
set_option maxRecDepth 20000 in
theorem gL_law_X7_stand : GoodIn wsL_law (wsV RL 126 RX7 yX7_stand wsX7_stand) := goodIn_app (goodIn_of _ (by decide +kernel)) ggL_law_X7_stand
set_option maxRecDepth 20000 in
theorem ggL_law_X8_stand : GoodIn wsL_law wsX8_stand := goodIn_r _ [649, 158, 133, 160, 637, 638, 639, 5, 640, 130, 161, 162, 163, 915, 916, 917, 918, 919, 920, 921, 922, 923, 924, 925, 926, 927, 928, 929, 930, 931, 932, 933, 934, 935, 936, 937, 938, 939, 940, 941, 942, 943, 944, 945, 946, 947, 948, 949, 950] (by decide +kernel) (by decide +kernel)
set_option maxRecDepth 20000 in
theorem gL_law_X8_stand : GoodIn wsL_law (wsV RL 129 RX8 yX8_stand wsX8_stand) := goodIn_app (goodIn_of _ (by decide +kernel)) ggL_law_X8_stand
set_option maxRecDepth 20000 in
theorem ggL_law_L_passes : GoodIn wsL_law wsL_passes := goodIn_ca (goodIn_r _ [652, 168, 653, 654, 655, 2, 656, 40, 16, 176, 178, 179, 180, 181, 182, 183, 184, 185, 186, 15, 187, 50, 657, 658, 659, 39, 660, 101, 103, 903, 904, 905, 906, 907, 908, 909, 910, 911, 912, 913, 914, 951, 952, 953, 954, 955, 956, 983, 984, 985, 986] (by decide +kernel) (by decide +kernel)) (goodIn_sub (fun _ h => List.mem_append_left _ (List.mem_append_right _ h)) (by decide +kernel))
set_option maxRecDepth 20000 in
theorem gL_law_L_passes : GoodIn wsL_law (va_wsS RL 130 yL_passes wsL_passes) := goodIn_app (goodIn_of _ (by decide +kernel)) ggL_law_L_passes
set_option maxRecDepth 20000 in
theorem ggL_law_X8_passes : GoodIn wsL_law wsX8_passes := goodIn_r _ [664, 192, 193, 194, 5, 195, 159, 161, 162, 163, 196, 197, 198, 199, 158, 665, 666, 667, 668, 130, 132, 200, 201, 202, 203, 122, 915, 916, 917, 918, 919, 920, 921, 922, 923, 924, 925, 926, 927, 928, 929, 930, 931, 932, 933, 934, 935, 936, 937, 938, 939, 940, 941, 942, 943, 944, 945, 946, 947, 948, 949, 950] (by decide +kernel) (by decide +kernel)
set_option maxRecDepth 20000 in
theorem gL_law_X8_passes : GoodIn wsL_law (wsV RL 133 RX8 yX8_passes wsX8_passes) := goodIn_app (goodIn_of _ (by decide +kernel)) ggL_law_X8_passes
set_option maxRecDepth 20000 in
theorem ggL_law_X7_begin : GoodIn wsL_law wsX7_begin := goodIn_r _ [672, 16, 146, 40, 176, 44, 18, 46, 657, 658, 659, 39, 660, 101, 103, 673, 674, 675, 43, 676, 109, 677, 523, 524, 525, 116, 678, 110, 679, 680, 681, 682, 111, 112, 113, 114, 115, 903, 904, 905, 906, 907, 908, 909, 910, 911, 912, 913, 914, 951, 952, 953, 954, 955, 956, 983, 984, 985, 986, 987, 988, 989, 990, 991, 992, 993, 994, 995] (by decide +kernel) (by decide +kernel)
set_option maxRecDepth 20000 in
theorem gL_law_X7_begin : GoodIn wsL_law (wsV RL 134 RX7 yX7_begin wsX7_begin) := goodIn_app (goodIn_of _ (by decide +kernel)) ggL_law_X7_begin
set_option maxRecDepth 20000 in
theorem ggL_law_X8_begin : GoodIn wsL_law wsX8_begin := goodIn_r _ [686, 158, 159, 160, 687, 688, 140, 141, 665, 666, 667, 5, 668, 130, 132, 200, 201, 202, 203, 122, 689, 690, 691, 692, 134, 135, 136, 137, 139, 915, 916, 917, 918, 919, 920, 921, 922, 923, 924, 925, 926, 927, 928, 929, 930, 931, 932, 933, 934, 935, 936, 937, 938, 939, 940, 941, 942, 943, 944, 945, 946, 947, 948, 949, 950] (by decide +kernel) (by decide +kernel)
set_option maxRecDepth 20000 in
theorem gL_law_X8_begin : GoodIn wsL_law (wsV RL 138 RX8 yX8_begin wsX8_begin) := goodIn_app (goodIn_of _ (by decide +kernel)) ggL_law_X8_begin
set_option maxRecDepth 20000 in
theorem ggL_law_L_run : GoodIn wsL_law wsL_run := goodIn_ca (goodIn_r _ [695, 696, 697, 698, 699, 2, 700, 44, 701, 702, 703, 704, 705, 706, 46, 707, 708, 709, 43, 710, 110, 109, 711, 712, 713, 714, 115, 715, 716, 717, 718, 111, 719, 720, 721, 722, 113, 116, 723, 112, 724, 725, 726, 727, 728, 729, 730, 731, 117, 732, 733, 734, 735, 736, 737, 738, 739, 740, 741, 114, 742, 743, 744, 745, 39, 746, 104, 747, 630, 631, 632, 101, 903, 904, 905, 906, 907, 908, 909, 910, 911, 912, 913, 914, 987, 988, 989, 990, 991, 992, 993, 994, 995, 951, 952, 953, 954, 955, 956, 983, 984, 985, 986] (by decide +kernel) (by decide +kernel)) (goodIn_sub (fun _ h => List.mem_append_right _ h) (by decide +kernel))
set_option maxRecDepth 20000 in
theorem gL_law_L_run : GoodIn wsL_law (va_wsS RL 139 yL_run wsL_run) := goodIn_app (goodIn_of _ (by decide +kernel)) ggL_law_L_run
set_option maxRecDepth 20000 in
theorem ggL_law_X8_run : GoodIn wsL_law wsX8_run := goodIn_r _ [751, 160, 687, 159, 123, 134, 140, 139, 141, 688, 196, 197, 198, 5, 199, 158, 161, 162, 163, 752, 753, 754, 755, 756, 757, 758, 759, 135, 136, 131, 137, 133, 130, 200, 201, 202, 203, 122, 760, 761, 762, 763, 637, 638, 639, 640, 915, 916, 917, 918, 919, 920, 921, 922, 923, 924, 925, 926, 927, 928, 929, 930, 931, 932, 933, 934, 935, 936, 937, 938, 939, 940, 941, 942, 943, 944, 945, 946, 947, 948, 949, 950] (by decide +kernel) (by decide +kernel)
set_option maxRecDepth 20000 in
theorem gL_law_X8_run : GoodIn wsL_law (wsV RL 141 RX8 yX8_run wsX8_run) := goodIn_app (goodIn_of _ (by decide +kernel)) ggL_law_X8_run
set_option maxRecDepth 20000 in
theorem ggL_law_L_minute : GoodIn wsL_law wsL_minute := goodIn_ca (goodIn_r _ [766, 696, 767, 768, 769, 2, 770, 44, 771, 701, 702, 703, 704, 705, 706, 46, 903, 904, 905, 906, 907, 908, 909, 910, 911, 912, 913, 914, 987, 988, 989, 990, 991, 992, 993, 994, 995] (by decide +kernel) (by decide +kernel)) (goodIn_sub (fun _ h => List.mem_append_right _ h) (by decide +kernel))
set_option maxRecDepth 20000 in
theorem gL_law_L_minute : GoodIn wsL_law (va_wsS RL 142 yL_minute wsL_minute) := goodIn_app (goodIn_of _ (by decide +kernel)) ggL_law_L_minute
set_option maxRecDepth 20000 in
theorem ggL_law_X8_minute : GoodIn wsL_law wsX8_minute := goodIn_r _ [775, 160, 687, 196, 197, 198, 5, 199, 158, 915, 916, 917, 918, 919, 920, 921, 922, 923, 924, 925, 926, 927, 928, 929, 930, 931, 932, 933, 934, 935, 936, 937, 938, 939, 940, 941, 942, 943, 944, 945, 946, 947, 948, 949, 950] (by decide +kernel) (by decide +kernel)
set_option maxRecDepth 20000 in
theorem gL_law_X8_minute : GoodIn wsL_law (wsV RL 145 RX8 yX8_minute wsX8_minute) := goodIn_app (goodIn_of _ (by decide +kernel)) ggL_law_X8_minute
set_option maxRecDepth 20000 in
theorem ggL_law_L_at : GoodIn wsL_law wsL_at := goodIn_ca (goodIn_ca (goodIn_r _ [778, 168, 696, 779, 780, 781, 2, 782, 44, 783, 784, 785, 178, 179, 180, 181, 182, 183, 16, 184, 185, 186, 15, 187, 50, 701, 702, 703, 704, 705, 706, 46, 786, 734, 735, 43, 736, 112, 116, 737, 787, 788, 789, 790, 113, 711, 712, 713, 714, 115, 903, 904, 905, 906, 907, 908, 909, 910, 911, 912, 913, 914, 987, 988, 989, 990, 991, 992, 993, 994, 995, 951, 952, 953, 954, 955, 956] (by decide +kernel) (by decide +kernel)) (goodIn_sub (fun _ h => List.mem_append_left _ (List.mem_append_right _ h)) (by decide +kernel))) (goodIn_sub (fun _ h => List.mem_append_right _ h) (by decide +kernel))
set_option maxRecDepth 20000 in
theorem gL_law_L_at : GoodIn wsL_law (va_wsS RL 146 yL_at wsL_at) := goodIn_app (goodIn_of _ (by decide +kernel)) ggL_law_L_at
set_option maxRecDepth 20000 in
theorem ggL_law_X8_at : GoodIn wsL_law wsX8_at := goodIn_r _ [794, 160, 134, 139, 135, 136, 140, 141, 192, 193, 194, 5, 195, 159, 161, 162, 163, 196, 197, 198, 199, 158, 760, 761, 762, 763, 200, 201, 202, 203, 122, 915, 916, 917, 918, 919, 920, 921, 922, 923, 924, 925, 926, 927, 928, 929, 930, 931, 932, 933, 934, 935, 936, 937, 938, 939, 940, 941, 942, 943, 944, 945, 946, 947, 948, 949, 950] (by decide +kernel) (by decide +kernel)
set_option maxRecDepth 20000 in
theorem gL_law_X8_at : GoodIn wsL_law (wsV RL 148 RX8 yX8_at wsX8_at) := goodIn_app (goodIn_of _ (by decide +kernel)) ggL_law_X8_at
set_option maxRecDepth 20000 in
theorem ggL_law_L_who : GoodIn wsL_law wsL_who := goodIn_ca (goodIn_r _ [797, 696, 798, 799, 800, 2, 801, 40, 44, 701, 702, 703, 704, 705, 706, 46, 629, 630, 631, 39, 632, 101, 802, 803, 804, 43, 805, 110, 109, 112, 806, 807, 808, 809, 711, 712, 713, 714, 115, 733, 734, 735, 736, 116, 737, 903, 904, 905, 906, 907, 908, 909, 910, 911, 912, 913, 914, 983, 984, 985, 986, 987, 988, 989, 990, 991, 992, 993, 994, 995, 951, 952, 953, 954, 955, 956] (by decide +kernel) (by decide +kernel)) (goodIn_sub (fun _ h => List.mem_append_right _ h) (by decide +kernel))
set_option maxRecDepth 20000 in
theorem gL_law_L_who : GoodIn wsL_law (va_wsS RL 149 yL_who wsL_who) := goodIn_app (goodIn_of _ (by decide +kernel)) ggL_law_L_who
set_option maxRecDepth 20000 in
theorem ggL_law_X8_who : GoodIn wsL_law wsX8_who := goodIn_r _ [813, 160, 159, 134, 196, 197, 198, 5, 199, 158, 637, 638, 639, 640, 130, 161, 162, 163, 814, 815, 816, 817, 139, 760, 761, 762, 763, 200, 201, 202, 203, 122, 915, 916, 917, 918, 919, 920, 921, 922, 923, 924, 925, 926, 927, 928, 929, 930, 931, 932, 933, 934, 935, 936, 937, 938, 939, 940, 941, 942, 943, 944, 945, 946, 947, 948, 949, 950] (by decide +kernel) (by decide +kernel)
set_option maxRecDepth 20000 in
theorem gL_law_X8_who : GoodIn wsL_law (wsV RL 151 RX8 yX8_who wsX8_who) := goodIn_app (goodIn_of _ (by decide +kernel)) ggL_law_X8_who
set_option maxRecDepth 20000 in
theorem ggL_law_L_hole : GoodIn wsL_law wsL_hole := goodIn_ca (goodIn_r _ [820, 696, 821, 822, 823, 2, 824, 44, 701, 702, 703, 704, 705, 706, 46, 825, 826, 827, 43, 828, 110, 109, 112, 829, 830, 831, 832, 806, 807, 808, 809, 711, 712, 713, 714, 115, 733, 734, 735, 736, 116, 737, 903, 904, 905, 906, 907, 908, 909, 910, 911, 912, 913, 914, 987, 988, 989, 990, 991, 992, 993, 994, 995, 951, 952, 953, 954, 955, 956] (by decide +kernel) (by decide +kernel)) (goodIn_sub (fun _ h => List.mem_append_right _ h) (by decide +kernel))
set_option maxRecDepth 20000 in
theorem gL_law_L_hole : GoodIn wsL_law (va_wsS RL 152 yL_hole wsL_hole) := goodIn_app (goodIn_of _ (by decide +kernel)) ggL_law_L_hole
set_option maxRecDepth 20000 in
theorem ggL_law_X8_hole : GoodIn wsL_law wsX8_hole := goodIn_r _ [836, 160, 159, 123, 134, 837, 830, 831, 832, 196, 197, 198, 5, 199, 158, 814, 815, 816, 817, 139, 760, 761, 762, 763, 200, 201, 202, 203, 122, 915, 916, 917, 918, 919, 920, 921, 922, 923, 924, 925, 926, 927, 928, 929, 930, 931, 932, 933, 934, 935, 936, 937, 938, 939, 940, 941, 942, 943, 944, 945, 946, 947, 948, 949, 950] (by decide +kernel) (by decide +kernel)
set_option maxRecDepth 20000 in
theorem gL_law_X8_hole : GoodIn wsL_law (wsV RL 154 RX8 yX8_hole wsX8_hole) := goodIn_app (goodIn_of _ (by decide +kernel)) ggL_law_X8_hole
set_option maxRecDepth 20000 in
theorem ggL_law_L_rowLong : GoodIn wsL_law wsL_rowLong := goodIn_ca (goodIn_r _ [840, 696, 841, 842, 843, 2, 844, 44, 701, 702, 703, 704, 705, 706, 46, 845, 846, 847, 43, 848, 110, 109, 112, 117, 742, 849, 850, 831, 851, 829, 830, 832, 806, 807, 808, 809, 711, 712, 713, 714, 115, 733, 734, 735, 736, 116, 737, 903, 904, 905, 906, 907, 908, 909, 910, 911, 912, 913, 914, 987, 988, 989, 990, 991, 992, 993, 994, 995, 983, 984, 985, 986, 951, 952, 953, 954, 955, 956] (by decide +kernel) (by decide +kernel)) (goodIn_sub (fun _ h => List.mem_append_right _ h) (by decide +kernel))
set_option maxRecDepth 20000 in
theorem gL_law_L_rowLong : GoodIn wsL_law (va_wsS RL 155 yL_rowLong wsL_rowLong) := goodIn_app (goodIn_of _ (by decide +kernel)) ggL_law_L_rowLong
set_option maxRecDepth 20000 in
theorem ggL_law_X8_rowLong : GoodIn wsL_law wsX8_rowLong := goodIn_r _ [855, 160, 159, 123, 134, 130, 196, 197, 198, 5, 199, 158, 814, 815, 816, 817, 139, 760, 761, 762, 763, 200, 201, 202, 203, 122, 915, 916, 917, 918, 919, 920, 921, 922, 923, 924, 925, 926, 927, 928, 929, 930, 931, 932, 933, 934, 935, 936, 937, 938, 939, 940, 941, 942, 943, 944, 945, 946, 947, 948, 949, 950] (by decide +kernel) (by decide +kernel)
set_option maxRecDepth 20000 in
theorem gL_law_X8_rowLong : GoodIn wsL_law (wsV RL 157 RX8 yX8_rowLong wsX8_rowLong) := goodIn_app (goodIn_of _ (by decide +kernel)) ggL_law_X8_rowLong
set_option maxRecDepth 20000 in
theorem ggL_law_L_ends : GoodIn wsL_law wsL_ends := goodIn_ca (goodIn_r _ [858, 696, 859, 860, 861, 2, 862, 45, 44, 771, 701, 702, 703, 704, 705, 706, 46, 863, 864, 865, 43, 866, 109, 677, 523, 524, 525, 112, 113, 114, 115, 110, 111, 867, 868, 869, 870, 871, 872, 708, 709, 710, 711, 712, 713, 714, 873, 716, 717, 718, 719, 720, 721, 722, 116, 723, 724, 725, 726, 727, 728, 729, 730, 731, 117, 732, 733, 734, 735, 736, 737, 738, 739, 740, 741, 742, 743, 744, 745, 39, 746, 104, 747, 630, 631, 632, 101, 874, 875, 876, 877, 16, 146, 878, 830, 831, 832, 879, 880, 881, 882, 679, 680, 681, 682, 903, 904, 905, 906, 907, 908, 909, 910, 911, 912, 913, 914, 987, 988, 989, 990, 991, 992, 993, 994, 995, 951, 952, 953, 954, 955, 956, 983, 984, 985, 986] (by decide +kernel) (by decide +kernel)) (goodIn_sub (fun _ h => List.mem_append_right _ h) (by decide +kernel))
set_option maxRecDepth 20000 in
theorem gL_law_L_ends : GoodIn wsL_law (va_wsS RL 158 yL_ends wsL_ends) := goodIn_app (goodIn_of _ (by decide +kernel)) ggL_law_L_ends
set_option maxRecDepth 20000 in
theorem ggL_law_X8_ends : GoodIn wsL_law wsX8_ends := goodIn_r _ [886, 160, 159, 134, 135, 136, 137, 139, 688, 687, 196, 197, 198, 5, 199, 158, 161, 162, 163, 887, 888, 889, 890, 123, 689, 690, 691, 692, 756, 757, 758, 759, 131, 133, 130, 200, 201, 202, 203, 122, 760, 761, 762, 763, 637, 638, 639, 640, 752, 753, 754, 755, 915, 916, 917, 918, 919, 920, 921, 922, 923, 924, 925, 926, 927, 928, 929, 930, 931, 932, 933, 934, 935, 936, 937, 938, 939, 940, 941, 942, 943, 944, 945, 946, 947, 948, 949, 950] (by decide +kernel) (by decide +kernel)
set_option maxRecDepth 20000 in
theorem gL_law_X8_ends : GoodIn wsL_law (wsV RL 160 RX8 yX8_ends wsX8_ends) := goodIn_app (goodIn_of _ (by decide +kernel)) ggL_law_X8_ends
set_option maxRecDepth 20000 in
theorem ggL_law_L_ill : GoodIn wsL_law wsL_ill := goodIn_ca (goodIn_ca (goodIn_r _ [893, 168, 696, 894, 895, 896, 2, 897, 44, 785, 771, 178, 179, 180, 181, 182, 183, 16, 184, 185, 186, 15, 187, 50, 701, 702, 703, 704, 705, 706, 46, 898, 712, 713, 43, 714, 115, 903, 904, 905, 906, 907, 908, 909, 910, 911, 912, 913, 914, 987, 988, 989, 990, 991, 992, 993, 994, 995, 951, 952, 953, 954, 955, 956] (by decide +kernel) (by decide +kernel)) (goodIn_sub (fun _ h => List.mem_append_left _ (List.mem_append_right _ h)) (by decide +kernel))) (goodIn_sub (fun _ h => List.mem_append_right _ h) (by decide +kernel))
set_option maxRecDepth 20000 in
theorem gL_law_L_ill : GoodIn wsL_law (va_wsS RL 161 yL_ill wsL_ill) := goodIn_app (goodIn_of _ (by decide +kernel)) ggL_law_L_ill
set_option maxRecDepth 20000 in
theorem ggL_law_X8_ill : GoodIn wsL_law wsX8_ill := goodIn_r _ [902, 160, 139, 141, 687, 688, 192, 193, 194, 5, 195, 159, 161, 162, 163, 196, 197, 198, 199, 158, 915, 916, 917, 918, 919, 920, 921, 922, 923, 924, 925, 926, 927, 928, 929, 930, 931, 932, 933, 934, 935, 936, 937, 938, 939, 940, 941, 942, 943, 944, 945, 946, 947, 948, 949, 950] (by decide +kernel) (by decide +kernel)
set_option maxRecDepth 20000 in
theorem gL_law_X8_ill : GoodIn wsL_law (wsV RL 163 RX8 yX8_ill wsX8_ill) := goodIn_app (goodIn_of _ (by decide +kernel)) ggL_law_X8_ill
theorem dL_law_0 : decode cL_law 0 = .ok (.new 8, 3) := by decide +kernel
theorem dL_law_3 : decode cL_law 3 = .ok (.dup, 1) := by decide +kernel
theorem dL_law_4 : decode cL_law 4 = .ok (.invokespecial 47, 3) := by decide +kernel
theorem dL_law_7 : decode cL_law 7 = .ok (.astore_n 1, 1) := by decide +kernel
theorem dL_law_8 : decode cL_law 8 = .ok (.new 48, 3) := by decide +kernel
theorem dL_law_11 : decode cL_law 11 = .ok (.dup, 1) := by decide +kernel
theorem dL_law_12 : decode cL_law 12 = .ok (.invokespecial 50, 3) := by decide +kernel
theorem dL_law_15 : decode cL_law 15 = .ok (.astore_n 2, 1) := by decide +kernel
theorem dL_law_16 : decode cL_law 16 = .ok (.iconst 1, 1) := by decide +kernel
theorem dL_law_17 : decode cL_law 17 = .ok (.newarray .long, 2) := by decide +kernel
theorem dL_law_19 : decode cL_law 19 = .ok (.astore_n 3, 1) := by decide +kernel
theorem dL_law_20 : decode cL_law 20 = .ok (.iconst 0, 1) := by decide +kernel
theorem dL_law_21 : decode cL_law 21 = .ok (.istore 4, 2) := by decide +kernel
theorem dL_law_23 : decode cL_law 23 = .ok (.iload 4, 2) := by decide +kernel
theorem dL_law_25 : decode cL_law 25 = .ok (.aload_n 0, 1) := by decide +kernel
theorem dL_law_26 : decode cL_law 26 = .ok (.arraylength, 1) := by decide +kernel
theorem dL_law_27 : decode cL_law 27 = .ok (.bipush 6, 2) := by decide +kernel
theorem dL_law_29 : decode cL_law 29 = .ok (.isub, 1) := by decide +kernel
theorem dL_law_30 : decode cL_law 30 = .ok (.if_icmp .gt 1209, 3) := by decide +kernel
theorem dL_law_33 : decode cL_law 33 = .ok (.aload_n 0, 1) := by decide +kernel
theorem dL_law_34 : decode cL_law 34 = .ok (.iload 4, 2) := by decide +kernel
theorem dL_law_36 : decode cL_law 36 = .ok (.iaload, 1) := by decide +kernel
theorem dL_law_37 : decode cL_law 37 = .ok (.bipush 31, 2) := by decide +kernel
theorem dL_law_39 : decode cL_law 39 = .ok (.iand, 1) := by decide +kernel
theorem dL_law_40 : decode cL_law 40 = .ok (.tableswitch 1193 0 27 #[128, 201, 269, 342, 367, 380, 405, 430, 455, 480, 493, 518, 531, 544, 557, 582, 619, 656, 693, 749, 762, 818, 862, 930, 986, 1030, 1074, 1130], 128) := by decide +kernel
theorem dL_law_168 : decode cL_law 168 = .ok (.aload_n 1, 1) := by decide +kernel
theorem dL_law_169 : decode cL_law 169 = .ok (.aload_n 0, 1) := by decide +kernel
theorem dL_law_170 : decode cL_law 170 = .ok (.iload 4, 2) := by decide +kernel
theorem dL_law_172 : decode cL_law 172 = .ok (.iconst 1, 1) := by decide +kernel
theorem dL_law_173 : decode cL_law 173 = .ok (.iadd, 1) := by decide +kernel
theorem dL_law_174 : decode cL_law 174 = .ok (.iaload, 1) := by decide +kernel
theorem dL_law_175 : decode cL_law 175 = .ok (.aload_n 0, 1) := by decide +kernel
theorem dL_law_176 : decode cL_law 176 = .ok (.iload 4, 2) := by decide +kernel
theorem dL_law_178 : decode cL_law 178 = .ok (.iconst 2, 1) := by decide +kernel
theorem dL_law_179 : decode cL_law 179 = .ok (.iadd, 1) := by decide +kernel
theorem dL_law_180 : decode cL_law 180 = .ok (.iaload, 1) := by decide +kernel
theorem dL_law_181 : decode cL_law 181 = .ok (.aload_n 0, 1) := by decide +kernel
theorem dL_law_182 : decode cL_law 182 = .ok (.iload 4, 2) := by decide +kernel
theorem dL_law_184 : decode cL_law 184 = .ok (.iconst 3, 1) := by decide +kernel
theorem dL_law_185 : decode cL_law 185 = .ok (.iadd, 1) := by decide +kernel
theorem dL_law_186 : decode cL_law 186 = .ok (.iaload, 1) := by decide +kernel
theorem dL_law_187 : decode cL_law 187 = .ok (.aload_n 0, 1) := by decide +kernel
theorem dL_law_188 : decode cL_law 188 = .ok (.iload 4, 2) := by decide +kernel
theorem dL_law_190 : decode cL_law 190 = .ok (.iconst 4, 1) := by decide +kernel
theorem dL_law_191 : decode cL_law 191 = .ok (.iadd, 1) := by decide +kernel
theorem dL_law_192 : decode cL_law 192 = .ok (.iaload, 1) := by decide +kernel
theorem dL_law_193 : decode cL_law 193 = .ok (.aload_n 0, 1) := by decide +kernel
theorem dL_law_194 : decode cL_law 194 = .ok (.iload 4, 2) := by decide +kernel
theorem dL_law_196 : decode cL_law 196 = .ok (.iconst 5, 1) := by decide +kernel
theorem dL_law_197 : decode cL_law 197 = .ok (.iadd, 1) := by decide +kernel
theorem dL_law_198 : decode cL_law 198 = .ok (.iaload, 1) := by decide +kernel
theorem dL_law_199 : decode cL_law 199 = .ok (.invokevirtual 51, 3) := by decide +kernel
theorem dL_law_202 : decode cL_law 202 = .ok (.aload_n 2, 1) := by decide +kernel
theorem dL_law_203 : decode cL_law 203 = .ok (.aload_n 0, 1) := by decide +kernel
theorem dL_law_204 : decode cL_law 204 = .ok (.iload 4, 2) := by decide +kernel
theorem dL_law_206 : decode cL_law 206 = .ok (.iconst 1, 1) := by decide +kernel
theorem dL_law_207 : decode cL_law 207 = .ok (.iadd, 1) := by decide +kernel
theorem dL_law_208 : decode cL_law 208 = .ok (.iaload, 1) := by decide +kernel
theorem dL_law_209 : decode cL_law 209 = .ok (.aload_n 0, 1) := by decide +kernel
theorem dL_law_210 : decode cL_law 210 = .ok (.iload 4, 2) := by decide +kernel
theorem dL_law_212 : decode cL_law 212 = .ok (.iconst 2, 1) := by decide +kernel
theorem dL_law_213 : decode cL_law 213 = .ok (.iadd, 1) := by decide +kernel
theorem dL_law_214 : decode cL_law 214 = .ok (.iaload, 1) := by decide +kernel
theorem dL_law_215 : decode cL_law 215 = .ok (.aload_n 0, 1) := by decide +kernel
theorem dL_law_216 : decode cL_law 216 = .ok (.iload 4, 2) := by decide +kernel
theorem dL_law_218 : decode cL_law 218 = .ok (.iconst 3, 1) := by decide +kernel
theorem dL_law_219 : decode cL_law 219 = .ok (.iadd, 1) := by decide +kernel
theorem dL_law_220 : decode cL_law 220 = .ok (.iaload, 1) := by decide +kernel
theorem dL_law_221 : decode cL_law 221 = .ok (.aload_n 0, 1) := by decide +kernel
theorem dL_law_222 : decode cL_law 222 = .ok (.iload 4, 2) := by decide +kernel
theorem dL_law_224 : decode cL_law 224 = .ok (.iconst 4, 1) := by decide +kernel
theorem dL_law_225 : decode cL_law 225 = .ok (.iadd, 1) := by decide +kernel
theorem dL_law_226 : decode cL_law 226 = .ok (.iaload, 1) := by decide +kernel
theorem dL_law_227 : decode cL_law 227 = .ok (.aload_n 0, 1) := by decide +kernel
theorem dL_law_228 : decode cL_law 228 = .ok (.iload 4, 2) := by decide +kernel
theorem dL_law_230 : decode cL_law 230 = .ok (.iconst 5, 1) := by decide +kernel
theorem dL_law_231 : decode cL_law 231 = .ok (.iadd, 1) := by decide +kernel
theorem dL_law_232 : decode cL_law 232 = .ok (.iaload, 1) := by decide +kernel
theorem dL_law_233 : decode cL_law 233 = .ok (.invokevirtual 55, 3) := by decide +kernel
theorem dL_law_236 : decode cL_law 236 = .ok (.if_icmp .eq 997, 3) := by decide +kernel
theorem dL_law_239 : decode cL_law 239 = .ok (.iconst 0, 1) := by decide +kernel
theorem dL_law_240 : decode cL_law 240 = .ok (.ireturn, 1) := by decide +kernel
theorem dL_law_241 : decode cL_law 241 = .ok (.aload_n 1, 1) := by decide +kernel
theorem dL_law_242 : decode cL_law 242 = .ok (.aload_n 0, 1) := by decide +kernel
theorem dL_law_243 : decode cL_law 243 = .ok (.iload 4, 2) := by decide +kernel
theorem dL_law_245 : decode cL_law 245 = .ok (.iconst 1, 1) := by decide +kernel
theorem dL_law_246 : decode cL_law 246 = .ok (.iadd, 1) := by decide +kernel
theorem dL_law_247 : decode cL_law 247 = .ok (.iaload, 1) := by decide +kernel
theorem dL_law_248 : decode cL_law 248 = .ok (.aload_n 0, 1) := by decide +kernel
theorem dL_law_249 : decode cL_law 249 = .ok (.iload 4, 2) := by decide +kernel
theorem dL_law_251 : decode cL_law 251 = .ok (.iconst 2, 1) := by decide +kernel
theorem dL_law_252 : decode cL_law 252 = .ok (.iadd, 1) := by decide +kernel
theorem dL_law_253 : decode cL_law 253 = .ok (.iaload, 1) := by decide +kernel
theorem dL_law_254 : decode cL_law 254 = .ok (.aload_n 3, 1) := by decide +kernel
theorem dL_law_255 : decode cL_law 255 = .ok (.invokestatic 56, 3) := by decide +kernel
theorem dL_law_258 : decode cL_law 258 = .ok (.istore 5, 2) := by decide +kernel
theorem dL_law_260 : decode cL_law 260 = .ok (.aload_n 2, 1) := by decide +kernel
theorem dL_law_261 : decode cL_law 261 = .ok (.aload_n 0, 1) := by decide +kernel
theorem dL_law_262 : decode cL_law 262 = .ok (.iload 4, 2) := by decide +kernel
theorem dL_law_264 : decode cL_law 264 = .ok (.iconst 1, 1) := by decide +kernel
theorem dL_law_265 : decode cL_law 265 = .ok (.iadd, 1) := by decide +kernel
theorem dL_law_266 : decode cL_law 266 = .ok (.iaload, 1) := by decide +kernel
theorem dL_law_267 : decode cL_law 267 = .ok (.aload_n 0, 1) := by decide +kernel
theorem dL_law_268 : decode cL_law 268 = .ok (.iload 4, 2) := by decide +kernel
theorem dL_law_270 : decode cL_law 270 = .ok (.iconst 2, 1) := by decide +kernel
theorem dL_law_271 : decode cL_law 271 = .ok (.iadd, 1) := by decide +kernel
theorem dL_law_272 : decode cL_law 272 = .ok (.iaload, 1) := by decide +kernel
theorem dL_law_273 : decode cL_law 273 = .ok (.invokevirtual 61, 3) := by decide +kernel
theorem dL_law_276 : decode cL_law 276 = .ok (.istore 6, 2) := by decide +kernel
theorem dL_law_278 : decode cL_law 278 = .ok (.aload_n 2, 1) := by decide +kernel
theorem dL_law_279 : decode cL_law 279 = .ok (.invokevirtual 62, 3) := by decide +kernel
theorem dL_law_282 : decode cL_law 282 = .ok (.iload 5, 2) := by decide +kernel
theorem dL_law_284 : decode cL_law 284 = .ok (.if_icmp .eq 5, 3) := by decide +kernel
theorem dL_law_287 : decode cL_law 287 = .ok (.iconst 0, 1) := by decide +kernel
theorem dL_law_288 : decode cL_law 288 = .ok (.ireturn, 1) := by decide +kernel
theorem dL_law_289 : decode cL_law 289 = .ok (.iload 5, 2) := by decide +kernel
theorem dL_law_291 : decode cL_law 291 = .ok (.ifCond .ne 15, 3) := by decide +kernel
theorem dL_law_294 : decode cL_law 294 = .ok (.aload_n 3, 1) := by decide +kernel
theorem dL_law_295 : decode cL_law 295 = .ok (.iconst 0, 1) := by decide +kernel
theorem dL_law_296 : decode cL_law 296 = .ok (.laload, 1) := by decide +kernel
theorem dL_law_297 : decode cL_law 297 = .ok (.iload 6, 2) := by decide +kernel
theorem dL_law_299 : decode cL_law 299 = .ok (.i2l, 1) := by decide +kernel
theorem dL_law_300 : decode cL_law 300 = .ok (.lcmp, 1) := by decide +kernel
theorem dL_law_301 : decode cL_law 301 = .ok (.ifCond .eq 5, 3) := by decide +kernel
theorem dL_law_304 : decode cL_law 304 = .ok (.iconst 0, 1) := by decide +kernel
theorem dL_law_305 : decode cL_law 305 = .ok (.ireturn, 1) := by decide +kernel
theorem dL_law_306 : decode cL_law 306 = .ok (.goto 927, 3) := by decide +kernel
theorem dL_law_309 : decode cL_law 309 = .ok (.aload_n 1, 1) := by decide +kernel
theorem dL_law_310 : decode cL_law 310 = .ok (.aload_n 0, 1) := by decide +kernel
theorem dL_law_311 : decode cL_law 311 = .ok (.iload 4, 2) := by decide +kernel
theorem dL_law_313 : decode cL_law 313 = .ok (.iconst 1, 1) := by decide +kernel
theorem dL_law_314 : decode cL_law 314 = .ok (.iadd, 1) := by decide +kernel
theorem dL_law_315 : decode cL_law 315 = .ok (.iaload, 1) := by decide +kernel
theorem dL_law_316 : decode cL_law 316 = .ok (.aload_n 0, 1) := by decide +kernel
theorem dL_law_317 : decode cL_law 317 = .ok (.iload 4, 2) := by decide +kernel
theorem dL_law_319 : decode cL_law 319 = .ok (.iconst 2, 1) := by decide +kernel
theorem dL_law_320 : decode cL_law 320 = .ok (.iadd, 1) := by decide +kernel
theorem dL_law_321 : decode cL_law 321 = .ok (.iaload, 1) := by decide +kernel
theorem dL_law_322 : decode cL_law 322 = .ok (.aload_n 0, 1) := by decide +kernel
theorem dL_law_323 : decode cL_law 323 = .ok (.iload 4, 2) := by decide +kernel
theorem dL_law_325 : decode cL_law 325 = .ok (.iconst 3, 1) := by decide +kernel
theorem dL_law_326 : decode cL_law 326 = .ok (.iadd, 1) := by decide +kernel
theorem dL_law_327 : decode cL_law 327 = .ok (.iaload, 1) := by decide +kernel
theorem dL_law_328 : decode cL_law 328 = .ok (.aload_n 0, 1) := by decide +kernel
theorem dL_law_329 : decode cL_law 329 = .ok (.iload 4, 2) := by decide +kernel
theorem dL_law_331 : decode cL_law 331 = .ok (.iconst 4, 1) := by decide +kernel
theorem dL_law_332 : decode cL_law 332 = .ok (.iadd, 1) := by decide +kernel
theorem dL_law_333 : decode cL_law 333 = .ok (.iaload, 1) := by decide +kernel
theorem dL_law_334 : decode cL_law 334 = .ok (.aload_n 0, 1) := by decide +kernel
theorem dL_law_335 : decode cL_law 335 = .ok (.iload 4, 2) := by decide +kernel
theorem dL_law_337 : decode cL_law 337 = .ok (.iconst 5, 1) := by decide +kernel
theorem dL_law_338 : decode cL_law 338 = .ok (.iadd, 1) := by decide +kernel
theorem dL_law_339 : decode cL_law 339 = .ok (.iaload, 1) := by decide +kernel
theorem dL_law_340 : decode cL_law 340 = .ok (.invokevirtual 65, 3) := by decide +kernel
theorem dL_law_343 : decode cL_law 343 = .ok (.aload_n 2, 1) := by decide +kernel
theorem dL_law_344 : decode cL_law 344 = .ok (.aload_n 0, 1) := by decide +kernel
theorem dL_law_345 : decode cL_law 345 = .ok (.iload 4, 2) := by decide +kernel
theorem dL_law_347 : decode cL_law 347 = .ok (.iconst 1, 1) := by decide +kernel
theorem dL_law_348 : decode cL_law 348 = .ok (.iadd, 1) := by decide +kernel
theorem dL_law_349 : decode cL_law 349 = .ok (.iaload, 1) := by decide +kernel
theorem dL_law_350 : decode cL_law 350 = .ok (.aload_n 0, 1) := by decide +kernel
theorem dL_law_351 : decode cL_law 351 = .ok (.iload 4, 2) := by decide +kernel
theorem dL_law_353 : decode cL_law 353 = .ok (.iconst 2, 1) := by decide +kernel
theorem dL_law_354 : decode cL_law 354 = .ok (.iadd, 1) := by decide +kernel
theorem dL_law_355 : decode cL_law 355 = .ok (.iaload, 1) := by decide +kernel
theorem dL_law_356 : decode cL_law 356 = .ok (.aload_n 0, 1) := by decide +kernel
theorem dL_law_357 : decode cL_law 357 = .ok (.iload 4, 2) := by decide +kernel
theorem dL_law_359 : decode cL_law 359 = .ok (.iconst 3, 1) := by decide +kernel
theorem dL_law_360 : decode cL_law 360 = .ok (.iadd, 1) := by decide +kernel
theorem dL_law_361 : decode cL_law 361 = .ok (.iaload, 1) := by decide +kernel
theorem dL_law_362 : decode cL_law 362 = .ok (.aload_n 0, 1) := by decide +kernel
theorem dL_law_363 : decode cL_law 363 = .ok (.iload 4, 2) := by decide +kernel
theorem dL_law_365 : decode cL_law 365 = .ok (.iconst 4, 1) := by decide +kernel
theorem dL_law_366 : decode cL_law 366 = .ok (.iadd, 1) := by decide +kernel
theorem dL_law_367 : decode cL_law 367 = .ok (.iaload, 1) := by decide +kernel
theorem dL_law_368 : decode cL_law 368 = .ok (.aload_n 0, 1) := by decide +kernel
theorem dL_law_369 : decode cL_law 369 = .ok (.iload 4, 2) := by decide +kernel
theorem dL_law_371 : decode cL_law 371 = .ok (.iconst 5, 1) := by decide +kernel
theorem dL_law_372 : decode cL_law 372 = .ok (.iadd, 1) := by decide +kernel
theorem dL_law_373 : decode cL_law 373 = .ok (.iaload, 1) := by decide +kernel
theorem dL_law_374 : decode cL_law 374 = .ok (.invokevirtual 68, 3) := by decide +kernel
theorem dL_law_377 : decode cL_law 377 = .ok (.if_icmp .eq 856, 3) := by decide +kernel
theorem dL_law_380 : decode cL_law 380 = .ok (.iconst 0, 1) := by decide +kernel
theorem dL_law_381 : decode cL_law 381 = .ok (.ireturn, 1) := by decide +kernel
theorem dL_law_382 : decode cL_law 382 = .ok (.aload_n 1, 1) := by decide +kernel
theorem dL_law_383 : decode cL_law 383 = .ok (.aload_n 0, 1) := by decide +kernel
theorem dL_law_384 : decode cL_law 384 = .ok (.iload 4, 2) := by decide +kernel
theorem dL_law_386 : decode cL_law 386 = .ok (.iconst 1, 1) := by decide +kernel
theorem dL_law_387 : decode cL_law 387 = .ok (.iadd, 1) := by decide +kernel
theorem dL_law_388 : decode cL_law 388 = .ok (.iaload, 1) := by decide +kernel
theorem dL_law_389 : decode cL_law 389 = .ok (.invokevirtual 69, 3) := by decide +kernel
theorem dL_law_392 : decode cL_law 392 = .ok (.aload_n 2, 1) := by decide +kernel
theorem dL_law_393 : decode cL_law 393 = .ok (.aload_n 0, 1) := by decide +kernel
theorem dL_law_394 : decode cL_law 394 = .ok (.iload 4, 2) := by decide +kernel
theorem dL_law_396 : decode cL_law 396 = .ok (.iconst 1, 1) := by decide +kernel
theorem dL_law_397 : decode cL_law 397 = .ok (.iadd, 1) := by decide +kernel
theorem dL_law_398 : decode cL_law 398 = .ok (.iaload, 1) := by decide +kernel
theorem dL_law_399 : decode cL_law 399 = .ok (.invokevirtual 72, 3) := by decide +kernel
theorem dL_law_402 : decode cL_law 402 = .ok (.if_icmp .eq 831, 3) := by decide +kernel
theorem dL_law_405 : decode cL_law 405 = .ok (.iconst 0, 1) := by decide +kernel
theorem dL_law_406 : decode cL_law 406 = .ok (.ireturn, 1) := by decide +kernel
theorem dL_law_407 : decode cL_law 407 = .ok (.aload_n 1, 1) := by decide +kernel
theorem dL_law_408 : decode cL_law 408 = .ok (.invokevirtual 73, 3) := by decide +kernel
theorem dL_law_411 : decode cL_law 411 = .ok (.aload_n 2, 1) := by decide +kernel
theorem dL_law_412 : decode cL_law 412 = .ok (.invokevirtual 76, 3) := by decide +kernel
theorem dL_law_415 : decode cL_law 415 = .ok (.if_icmp .eq 818, 3) := by decide +kernel
theorem dL_law_418 : decode cL_law 418 = .ok (.iconst 0, 1) := by decide +kernel
theorem dL_law_419 : decode cL_law 419 = .ok (.ireturn, 1) := by decide +kernel
theorem dL_law_420 : decode cL_law 420 = .ok (.aload_n 1, 1) := by decide +kernel
theorem dL_law_421 : decode cL_law 421 = .ok (.aload_n 0, 1) := by decide +kernel
theorem dL_law_422 : decode cL_law 422 = .ok (.iload 4, 2) := by decide +kernel
theorem dL_law_424 : decode cL_law 424 = .ok (.iconst 1, 1) := by decide +kernel
theorem dL_law_425 : decode cL_law 425 = .ok (.iadd, 1) := by decide +kernel
theorem dL_law_426 : decode cL_law 426 = .ok (.iaload, 1) := by decide +kernel
theorem dL_law_427 : decode cL_law 427 = .ok (.invokevirtual 77, 3) := by decide +kernel
theorem dL_law_430 : decode cL_law 430 = .ok (.aload_n 2, 1) := by decide +kernel
theorem dL_law_431 : decode cL_law 431 = .ok (.aload_n 0, 1) := by decide +kernel
theorem dL_law_432 : decode cL_law 432 = .ok (.iload 4, 2) := by decide +kernel
theorem dL_law_434 : decode cL_law 434 = .ok (.iconst 1, 1) := by decide +kernel
theorem dL_law_435 : decode cL_law 435 = .ok (.iadd, 1) := by decide +kernel
theorem dL_law_436 : decode cL_law 436 = .ok (.iaload, 1) := by decide +kernel
theorem dL_law_437 : decode cL_law 437 = .ok (.invokevirtual 80, 3) := by decide +kernel
theorem dL_law_440 : decode cL_law 440 = .ok (.if_icmp .eq 793, 3) := by decide +kernel
theorem dL_law_443 : decode cL_law 443 = .ok (.iconst 0, 1) := by decide +kernel
theorem dL_law_444 : decode cL_law 444 = .ok (.ireturn, 1) := by decide +kernel
theorem dL_law_445 : decode cL_law 445 = .ok (.aload_n 1, 1) := by decide +kernel
theorem dL_law_446 : decode cL_law 446 = .ok (.aload_n 0, 1) := by decide +kernel
theorem dL_law_447 : decode cL_law 447 = .ok (.iload 4, 2) := by decide +kernel
theorem dL_law_449 : decode cL_law 449 = .ok (.iconst 1, 1) := by decide +kernel
theorem dL_law_450 : decode cL_law 450 = .ok (.iadd, 1) := by decide +kernel
theorem dL_law_451 : decode cL_law 451 = .ok (.iaload, 1) := by decide +kernel
theorem dL_law_452 : decode cL_law 452 = .ok (.invokevirtual 81, 3) := by decide +kernel
theorem dL_law_455 : decode cL_law 455 = .ok (.aload_n 2, 1) := by decide +kernel
theorem dL_law_456 : decode cL_law 456 = .ok (.aload_n 0, 1) := by decide +kernel
theorem dL_law_457 : decode cL_law 457 = .ok (.iload 4, 2) := by decide +kernel
theorem dL_law_459 : decode cL_law 459 = .ok (.iconst 1, 1) := by decide +kernel
theorem dL_law_460 : decode cL_law 460 = .ok (.iadd, 1) := by decide +kernel
theorem dL_law_461 : decode cL_law 461 = .ok (.iaload, 1) := by decide +kernel
theorem dL_law_462 : decode cL_law 462 = .ok (.invokevirtual 84, 3) := by decide +kernel
theorem dL_law_465 : decode cL_law 465 = .ok (.if_icmp .eq 768, 3) := by decide +kernel
theorem dL_law_468 : decode cL_law 468 = .ok (.iconst 0, 1) := by decide +kernel
theorem dL_law_469 : decode cL_law 469 = .ok (.ireturn, 1) := by decide +kernel
theorem dL_law_470 : decode cL_law 470 = .ok (.aload_n 1, 1) := by decide +kernel
theorem dL_law_471 : decode cL_law 471 = .ok (.aload_n 0, 1) := by decide +kernel
theorem dL_law_472 : decode cL_law 472 = .ok (.iload 4, 2) := by decide +kernel
theorem dL_law_474 : decode cL_law 474 = .ok (.iconst 1, 1) := by decide +kernel
theorem dL_law_475 : decode cL_law 475 = .ok (.iadd, 1) := by decide +kernel
theorem dL_law_476 : decode cL_law 476 = .ok (.iaload, 1) := by decide +kernel
theorem dL_law_477 : decode cL_law 477 = .ok (.invokevirtual 85, 3) := by decide +kernel
theorem dL_law_480 : decode cL_law 480 = .ok (.aload_n 2, 1) := by decide +kernel
theorem dL_law_481 : decode cL_law 481 = .ok (.aload_n 0, 1) := by decide +kernel
theorem dL_law_482 : decode cL_law 482 = .ok (.iload 4, 2) := by decide +kernel
theorem dL_law_484 : decode cL_law 484 = .ok (.iconst 1, 1) := by decide +kernel
theorem dL_law_485 : decode cL_law 485 = .ok (.iadd, 1) := by decide +kernel
theorem dL_law_486 : decode cL_law 486 = .ok (.iaload, 1) := by decide +kernel
theorem dL_law_487 : decode cL_law 487 = .ok (.invokevirtual 88, 3) := by decide +kernel
theorem dL_law_490 : decode cL_law 490 = .ok (.if_icmp .eq 743, 3) := by decide +kernel
theorem dL_law_493 : decode cL_law 493 = .ok (.iconst 0, 1) := by decide +kernel
theorem dL_law_494 : decode cL_law 494 = .ok (.ireturn, 1) := by decide +kernel
theorem dL_law_495 : decode cL_law 495 = .ok (.aload_n 1, 1) := by decide +kernel
theorem dL_law_496 : decode cL_law 496 = .ok (.aload_n 0, 1) := by decide +kernel
theorem dL_law_497 : decode cL_law 497 = .ok (.iload 4, 2) := by decide +kernel
theorem dL_law_499 : decode cL_law 499 = .ok (.iconst 1, 1) := by decide +kernel
theorem dL_law_500 : decode cL_law 500 = .ok (.iadd, 1) := by decide +kernel
theorem dL_law_501 : decode cL_law 501 = .ok (.iaload, 1) := by decide +kernel
theorem dL_law_502 : decode cL_law 502 = .ok (.invokevirtual 89, 3) := by decide +kernel
theorem dL_law_505 : decode cL_law 505 = .ok (.aload_n 2, 1) := by decide +kernel
theorem dL_law_506 : decode cL_law 506 = .ok (.aload_n 0, 1) := by decide +kernel
theorem dL_law_507 : decode cL_law 507 = .ok (.iload 4, 2) := by decide +kernel
theorem dL_law_509 : decode cL_law 509 = .ok (.iconst 1, 1) := by decide +kernel
theorem dL_law_510 : decode cL_law 510 = .ok (.iadd, 1) := by decide +kernel
theorem dL_law_511 : decode cL_law 511 = .ok (.iaload, 1) := by decide +kernel
theorem dL_law_512 : decode cL_law 512 = .ok (.invokevirtual 92, 3) := by decide +kernel
theorem dL_law_515 : decode cL_law 515 = .ok (.if_icmp .eq 718, 3) := by decide +kernel
theorem dL_law_518 : decode cL_law 518 = .ok (.iconst 0, 1) := by decide +kernel
theorem dL_law_519 : decode cL_law 519 = .ok (.ireturn, 1) := by decide +kernel
theorem dL_law_520 : decode cL_law 520 = .ok (.aload_n 1, 1) := by decide +kernel
theorem dL_law_521 : decode cL_law 521 = .ok (.invokevirtual 93, 3) := by decide +kernel
theorem dL_law_524 : decode cL_law 524 = .ok (.aload_n 2, 1) := by decide +kernel
theorem dL_law_525 : decode cL_law 525 = .ok (.invokevirtual 96, 3) := by decide +kernel
theorem dL_law_528 : decode cL_law 528 = .ok (.if_icmp .eq 705, 3) := by decide +kernel
theorem dL_law_531 : decode cL_law 531 = .ok (.iconst 0, 1) := by decide +kernel
theorem dL_law_532 : decode cL_law 532 = .ok (.ireturn, 1) := by decide +kernel
theorem dL_law_533 : decode cL_law 533 = .ok (.aload_n 1, 1) := by decide +kernel
theorem dL_law_534 : decode cL_law 534 = .ok (.aload_n 0, 1) := by decide +kernel
theorem dL_law_535 : decode cL_law 535 = .ok (.iload 4, 2) := by decide +kernel
theorem dL_law_537 : decode cL_law 537 = .ok (.iconst 1, 1) := by decide +kernel
theorem dL_law_538 : decode cL_law 538 = .ok (.iadd, 1) := by decide +kernel
theorem dL_law_539 : decode cL_law 539 = .ok (.iaload, 1) := by decide +kernel
theorem dL_law_540 : decode cL_law 540 = .ok (.invokevirtual 97, 3) := by decide +kernel
theorem dL_law_543 : decode cL_law 543 = .ok (.aload_n 2, 1) := by decide +kernel
theorem dL_law_544 : decode cL_law 544 = .ok (.aload_n 0, 1) := by decide +kernel
theorem dL_law_545 : decode cL_law 545 = .ok (.iload 4, 2) := by decide +kernel
theorem dL_law_547 : decode cL_law 547 = .ok (.iconst 1, 1) := by decide +kernel
theorem dL_law_548 : decode cL_law 548 = .ok (.iadd, 1) := by decide +kernel
theorem dL_law_549 : decode cL_law 549 = .ok (.iaload, 1) := by decide +kernel
theorem dL_law_550 : decode cL_law 550 = .ok (.invokevirtual 100, 3) := by decide +kernel
theorem dL_law_553 : decode cL_law 553 = .ok (.if_icmp .eq 680, 3) := by decide +kernel
theorem dL_law_556 : decode cL_law 556 = .ok (.iconst 0, 1) := by decide +kernel
theorem dL_law_557 : decode cL_law 557 = .ok (.ireturn, 1) := by decide +kernel
theorem dL_law_558 : decode cL_law 558 = .ok (.aload_n 1, 1) := by decide +kernel
theorem dL_law_559 : decode cL_law 559 = .ok (.invokevirtual 101, 3) := by decide +kernel
theorem dL_law_562 : decode cL_law 562 = .ok (.aload_n 2, 1) := by decide +kernel
theorem dL_law_563 : decode cL_law 563 = .ok (.invokevirtual 104, 3) := by decide +kernel
theorem dL_law_566 : decode cL_law 566 = .ok (.if_icmp .eq 667, 3) := by decide +kernel
theorem dL_law_569 : decode cL_law 569 = .ok (.iconst 0, 1) := by decide +kernel
theorem dL_law_570 : decode cL_law 570 = .ok (.ireturn, 1) := by decide +kernel
theorem dL_law_571 : decode cL_law 571 = .ok (.aload_n 1, 1) := by decide +kernel
theorem dL_law_572 : decode cL_law 572 = .ok (.invokevirtual 105, 3) := by decide +kernel
theorem dL_law_575 : decode cL_law 575 = .ok (.aload_n 2, 1) := by decide +kernel
theorem dL_law_576 : decode cL_law 576 = .ok (.invokevirtual 108, 3) := by decide +kernel
theorem dL_law_579 : decode cL_law 579 = .ok (.if_icmp .eq 654, 3) := by decide +kernel
theorem dL_law_582 : decode cL_law 582 = .ok (.iconst 0, 1) := by decide +kernel
theorem dL_law_583 : decode cL_law 583 = .ok (.ireturn, 1) := by decide +kernel
theorem dL_law_584 : decode cL_law 584 = .ok (.aload_n 1, 1) := by decide +kernel
theorem dL_law_585 : decode cL_law 585 = .ok (.invokevirtual 109, 3) := by decide +kernel
theorem dL_law_588 : decode cL_law 588 = .ok (.aload_n 2, 1) := by decide +kernel
theorem dL_law_589 : decode cL_law 589 = .ok (.invokevirtual 112, 3) := by decide +kernel
theorem dL_law_592 : decode cL_law 592 = .ok (.if_icmp .eq 641, 3) := by decide +kernel
theorem dL_law_595 : decode cL_law 595 = .ok (.iconst 0, 1) := by decide +kernel
theorem dL_law_596 : decode cL_law 596 = .ok (.ireturn, 1) := by decide +kernel
theorem dL_law_597 : decode cL_law 597 = .ok (.aload_n 1, 1) := by decide +kernel
theorem dL_law_598 : decode cL_law 598 = .ok (.aload_n 0, 1) := by decide +kernel
theorem dL_law_599 : decode cL_law 599 = .ok (.iload 4, 2) := by decide +kernel
theorem dL_law_601 : decode cL_law 601 = .ok (.iconst 1, 1) := by decide +kernel
theorem dL_law_602 : decode cL_law 602 = .ok (.iadd, 1) := by decide +kernel
theorem dL_law_603 : decode cL_law 603 = .ok (.iaload, 1) := by decide +kernel
theorem dL_law_604 : decode cL_law 604 = .ok (.invokevirtual 113, 3) := by decide +kernel
theorem dL_law_607 : decode cL_law 607 = .ok (.aload_n 2, 1) := by decide +kernel
theorem dL_law_608 : decode cL_law 608 = .ok (.aload_n 0, 1) := by decide +kernel
theorem dL_law_609 : decode cL_law 609 = .ok (.iload 4, 2) := by decide +kernel
theorem dL_law_611 : decode cL_law 611 = .ok (.iconst 1, 1) := by decide +kernel
theorem dL_law_612 : decode cL_law 612 = .ok (.iadd, 1) := by decide +kernel
theorem dL_law_613 : decode cL_law 613 = .ok (.iaload, 1) := by decide +kernel
theorem dL_law_614 : decode cL_law 614 = .ok (.invokevirtual 116, 3) := by decide +kernel
theorem dL_law_617 : decode cL_law 617 = .ok (.if_icmp .eq 616, 3) := by decide +kernel
theorem dL_law_620 : decode cL_law 620 = .ok (.iconst 0, 1) := by decide +kernel
theorem dL_law_621 : decode cL_law 621 = .ok (.ireturn, 1) := by decide +kernel
theorem dL_law_622 : decode cL_law 622 = .ok (.aload_n 1, 1) := by decide +kernel
theorem dL_law_623 : decode cL_law 623 = .ok (.aload_n 0, 1) := by decide +kernel
theorem dL_law_624 : decode cL_law 624 = .ok (.iload 4, 2) := by decide +kernel
theorem dL_law_626 : decode cL_law 626 = .ok (.iconst 1, 1) := by decide +kernel
theorem dL_law_627 : decode cL_law 627 = .ok (.iadd, 1) := by decide +kernel
theorem dL_law_628 : decode cL_law 628 = .ok (.iaload, 1) := by decide +kernel
theorem dL_law_629 : decode cL_law 629 = .ok (.aload_n 0, 1) := by decide +kernel
theorem dL_law_630 : decode cL_law 630 = .ok (.iload 4, 2) := by decide +kernel
theorem dL_law_632 : decode cL_law 632 = .ok (.iconst 2, 1) := by decide +kernel
theorem dL_law_633 : decode cL_law 633 = .ok (.iadd, 1) := by decide +kernel
theorem dL_law_634 : decode cL_law 634 = .ok (.iaload, 1) := by decide +kernel
theorem dL_law_635 : decode cL_law 635 = .ok (.invokevirtual 117, 3) := by decide +kernel
theorem dL_law_638 : decode cL_law 638 = .ok (.aload_n 2, 1) := by decide +kernel
theorem dL_law_639 : decode cL_law 639 = .ok (.aload_n 0, 1) := by decide +kernel
theorem dL_law_640 : decode cL_law 640 = .ok (.iload 4, 2) := by decide +kernel
theorem dL_law_642 : decode cL_law 642 = .ok (.iconst 1, 1) := by decide +kernel
theorem dL_law_643 : decode cL_law 643 = .ok (.iadd, 1) := by decide +kernel
theorem dL_law_644 : decode cL_law 644 = .ok (.iaload, 1) := by decide +kernel
theorem dL_law_645 : decode cL_law 645 = .ok (.aload_n 0, 1) := by decide +kernel
theorem dL_law_646 : decode cL_law 646 = .ok (.iload 4, 2) := by decide +kernel
theorem dL_law_648 : decode cL_law 648 = .ok (.iconst 2, 1) := by decide +kernel
theorem dL_law_649 : decode cL_law 649 = .ok (.iadd, 1) := by decide +kernel
theorem dL_law_650 : decode cL_law 650 = .ok (.iaload, 1) := by decide +kernel
theorem dL_law_651 : decode cL_law 651 = .ok (.invokevirtual 121, 3) := by decide +kernel
theorem dL_law_654 : decode cL_law 654 = .ok (.if_icmp .eq 579, 3) := by decide +kernel
theorem dL_law_657 : decode cL_law 657 = .ok (.iconst 0, 1) := by decide +kernel
theorem dL_law_658 : decode cL_law 658 = .ok (.ireturn, 1) := by decide +kernel
theorem dL_law_659 : decode cL_law 659 = .ok (.aload_n 1, 1) := by decide +kernel
theorem dL_law_660 : decode cL_law 660 = .ok (.aload_n 0, 1) := by decide +kernel
theorem dL_law_661 : decode cL_law 661 = .ok (.iload 4, 2) := by decide +kernel
theorem dL_law_663 : decode cL_law 663 = .ok (.iconst 1, 1) := by decide +kernel
theorem dL_law_664 : decode cL_law 664 = .ok (.iadd, 1) := by decide +kernel
theorem dL_law_665 : decode cL_law 665 = .ok (.iaload, 1) := by decide +kernel
theorem dL_law_666 : decode cL_law 666 = .ok (.aload_n 0, 1) := by decide +kernel
theorem dL_law_667 : decode cL_law 667 = .ok (.iload 4, 2) := by decide +kernel
theorem dL_law_669 : decode cL_law 669 = .ok (.iconst 2, 1) := by decide +kernel
theorem dL_law_670 : decode cL_law 670 = .ok (.iadd, 1) := by decide +kernel
theorem dL_law_671 : decode cL_law 671 = .ok (.iaload, 1) := by decide +kernel
theorem dL_law_672 : decode cL_law 672 = .ok (.invokevirtual 122, 3) := by decide +kernel
theorem dL_law_675 : decode cL_law 675 = .ok (.aload_n 2, 1) := by decide +kernel
theorem dL_law_676 : decode cL_law 676 = .ok (.aload_n 0, 1) := by decide +kernel
theorem dL_law_677 : decode cL_law 677 = .ok (.iload 4, 2) := by decide +kernel
theorem dL_law_679 : decode cL_law 679 = .ok (.iconst 1, 1) := by decide +kernel
theorem dL_law_680 : decode cL_law 680 = .ok (.iadd, 1) := by decide +kernel
theorem dL_law_681 : decode cL_law 681 = .ok (.iaload, 1) := by decide +kernel
theorem dL_law_682 : decode cL_law 682 = .ok (.aload_n 0, 1) := by decide +kernel
theorem dL_law_683 : decode cL_law 683 = .ok (.iload 4, 2) := by decide +kernel
theorem dL_law_685 : decode cL_law 685 = .ok (.iconst 2, 1) := by decide +kernel
theorem dL_law_686 : decode cL_law 686 = .ok (.iadd, 1) := by decide +kernel
theorem dL_law_687 : decode cL_law 687 = .ok (.iaload, 1) := by decide +kernel
theorem dL_law_688 : decode cL_law 688 = .ok (.invokevirtual 125, 3) := by decide +kernel
theorem dL_law_691 : decode cL_law 691 = .ok (.if_icmp .eq 542, 3) := by decide +kernel
theorem dL_law_694 : decode cL_law 694 = .ok (.iconst 0, 1) := by decide +kernel
theorem dL_law_695 : decode cL_law 695 = .ok (.ireturn, 1) := by decide +kernel
theorem dL_law_696 : decode cL_law 696 = .ok (.aload_n 1, 1) := by decide +kernel
theorem dL_law_697 : decode cL_law 697 = .ok (.aload_n 0, 1) := by decide +kernel
theorem dL_law_698 : decode cL_law 698 = .ok (.iload 4, 2) := by decide +kernel
theorem dL_law_700 : decode cL_law 700 = .ok (.iconst 1, 1) := by decide +kernel
theorem dL_law_701 : decode cL_law 701 = .ok (.iadd, 1) := by decide +kernel
theorem dL_law_702 : decode cL_law 702 = .ok (.iaload, 1) := by decide +kernel
theorem dL_law_703 : decode cL_law 703 = .ok (.aload_n 0, 1) := by decide +kernel
theorem dL_law_704 : decode cL_law 704 = .ok (.iload 4, 2) := by decide +kernel
theorem dL_law_706 : decode cL_law 706 = .ok (.iconst 2, 1) := by decide +kernel
theorem dL_law_707 : decode cL_law 707 = .ok (.iadd, 1) := by decide +kernel
theorem dL_law_708 : decode cL_law 708 = .ok (.iaload, 1) := by decide +kernel
theorem dL_law_709 : decode cL_law 709 = .ok (.invokevirtual 126, 3) := by decide +kernel
theorem dL_law_712 : decode cL_law 712 = .ok (.aload_n 2, 1) := by decide +kernel
theorem dL_law_713 : decode cL_law 713 = .ok (.aload_n 0, 1) := by decide +kernel
theorem dL_law_714 : decode cL_law 714 = .ok (.iload 4, 2) := by decide +kernel
theorem dL_law_716 : decode cL_law 716 = .ok (.iconst 1, 1) := by decide +kernel
theorem dL_law_717 : decode cL_law 717 = .ok (.iadd, 1) := by decide +kernel
theorem dL_law_718 : decode cL_law 718 = .ok (.iaload, 1) := by decide +kernel
theorem dL_law_719 : decode cL_law 719 = .ok (.aload_n 0, 1) := by decide +kernel
theorem dL_law_720 : decode cL_law 720 = .ok (.iload 4, 2) := by decide +kernel
theorem dL_law_722 : decode cL_law 722 = .ok (.iconst 2, 1) := by decide +kernel
theorem dL_law_723 : decode cL_law 723 = .ok (.iadd, 1) := by decide +kernel
theorem dL_law_724 : decode cL_law 724 = .ok (.iaload, 1) := by decide +kernel
theorem dL_law_725 : decode cL_law 725 = .ok (.invokevirtual 129, 3) := by decide +kernel
theorem dL_law_728 : decode cL_law 728 = .ok (.if_icmp .eq 505, 3) := by decide +kernel
theorem dL_law_731 : decode cL_law 731 = .ok (.iconst 0, 1) := by decide +kernel
theorem dL_law_732 : decode cL_law 732 = .ok (.ireturn, 1) := by decide +kernel
theorem dL_law_733 : decode cL_law 733 = .ok (.aload_n 1, 1) := by decide +kernel
theorem dL_law_734 : decode cL_law 734 = .ok (.aload_n 0, 1) := by decide +kernel
theorem dL_law_735 : decode cL_law 735 = .ok (.iload 4, 2) := by decide +kernel
theorem dL_law_737 : decode cL_law 737 = .ok (.iconst 1, 1) := by decide +kernel
theorem dL_law_738 : decode cL_law 738 = .ok (.iadd, 1) := by decide +kernel
theorem dL_law_739 : decode cL_law 739 = .ok (.iaload, 1) := by decide +kernel
theorem dL_law_740 : decode cL_law 740 = .ok (.aload_n 3, 1) := by decide +kernel
theorem dL_law_741 : decode cL_law 741 = .ok (.invokestatic 130, 3) := by decide +kernel
theorem dL_law_744 : decode cL_law 744 = .ok (.istore 5, 2) := by decide +kernel
theorem dL_law_746 : decode cL_law 746 = .ok (.aload_n 2, 1) := by decide +kernel
theorem dL_law_747 : decode cL_law 747 = .ok (.aload_n 0, 1) := by decide +kernel
theorem dL_law_748 : decode cL_law 748 = .ok (.iload 4, 2) := by decide +kernel
theorem dL_law_750 : decode cL_law 750 = .ok (.iconst 1, 1) := by decide +kernel
theorem dL_law_751 : decode cL_law 751 = .ok (.iadd, 1) := by decide +kernel
theorem dL_law_752 : decode cL_law 752 = .ok (.iaload, 1) := by decide +kernel
theorem dL_law_753 : decode cL_law 753 = .ok (.invokevirtual 133, 3) := by decide +kernel
theorem dL_law_756 : decode cL_law 756 = .ok (.istore 6, 2) := by decide +kernel
theorem dL_law_758 : decode cL_law 758 = .ok (.aload_n 2, 1) := by decide +kernel
theorem dL_law_759 : decode cL_law 759 = .ok (.invokevirtual 62, 3) := by decide +kernel
theorem dL_law_762 : decode cL_law 762 = .ok (.iload 5, 2) := by decide +kernel
theorem dL_law_764 : decode cL_law 764 = .ok (.if_icmp .eq 5, 3) := by decide +kernel
theorem dL_law_767 : decode cL_law 767 = .ok (.iconst 0, 1) := by decide +kernel
theorem dL_law_768 : decode cL_law 768 = .ok (.ireturn, 1) := by decide +kernel
theorem dL_law_769 : decode cL_law 769 = .ok (.iload 5, 2) := by decide +kernel
theorem dL_law_771 : decode cL_law 771 = .ok (.ifCond .ne 15, 3) := by decide +kernel
theorem dL_law_774 : decode cL_law 774 = .ok (.aload_n 3, 1) := by decide +kernel
theorem dL_law_775 : decode cL_law 775 = .ok (.iconst 0, 1) := by decide +kernel
theorem dL_law_776 : decode cL_law 776 = .ok (.laload, 1) := by decide +kernel
theorem dL_law_777 : decode cL_law 777 = .ok (.iload 6, 2) := by decide +kernel
theorem dL_law_779 : decode cL_law 779 = .ok (.i2l, 1) := by decide +kernel
theorem dL_law_780 : decode cL_law 780 = .ok (.lcmp, 1) := by decide +kernel
theorem dL_law_781 : decode cL_law 781 = .ok (.ifCond .eq 5, 3) := by decide +kernel
theorem dL_law_784 : decode cL_law 784 = .ok (.iconst 0, 1) := by decide +kernel
theorem dL_law_785 : decode cL_law 785 = .ok (.ireturn, 1) := by decide +kernel
theorem dL_law_786 : decode cL_law 786 = .ok (.goto 447, 3) := by decide +kernel
theorem dL_law_789 : decode cL_law 789 = .ok (.aload_n 1, 1) := by decide +kernel
theorem dL_law_790 : decode cL_law 790 = .ok (.invokevirtual 134, 3) := by decide +kernel
theorem dL_law_793 : decode cL_law 793 = .ok (.aload_n 2, 1) := by decide +kernel
theorem dL_law_794 : decode cL_law 794 = .ok (.invokevirtual 138, 3) := by decide +kernel
theorem dL_law_797 : decode cL_law 797 = .ok (.if_icmp .eq 436, 3) := by decide +kernel
theorem dL_law_800 : decode cL_law 800 = .ok (.iconst 0, 1) := by decide +kernel
theorem dL_law_801 : decode cL_law 801 = .ok (.ireturn, 1) := by decide +kernel
theorem dL_law_802 : decode cL_law 802 = .ok (.aload_n 1, 1) := by decide +kernel
theorem dL_law_803 : decode cL_law 803 = .ok (.aload_n 0, 1) := by decide +kernel
theorem dL_law_804 : decode cL_law 804 = .ok (.iload 4, 2) := by decide +kernel
theorem dL_law_806 : decode cL_law 806 = .ok (.iconst 1, 1) := by decide +kernel
theorem dL_law_807 : decode cL_law 807 = .ok (.iadd, 1) := by decide +kernel
theorem dL_law_808 : decode cL_law 808 = .ok (.iaload, 1) := by decide +kernel
theorem dL_law_809 : decode cL_law 809 = .ok (.aload_n 3, 1) := by decide +kernel
theorem dL_law_810 : decode cL_law 810 = .ok (.invokestatic 139, 3) := by decide +kernel
theorem dL_law_813 : decode cL_law 813 = .ok (.istore 5, 2) := by decide +kernel
theorem dL_law_815 : decode cL_law 815 = .ok (.aload_n 2, 1) := by decide +kernel
theorem dL_law_816 : decode cL_law 816 = .ok (.aload_n 0, 1) := by decide +kernel
theorem dL_law_817 : decode cL_law 817 = .ok (.iload 4, 2) := by decide +kernel
theorem dL_law_819 : decode cL_law 819 = .ok (.iconst 1, 1) := by decide +kernel
theorem dL_law_820 : decode cL_law 820 = .ok (.iadd, 1) := by decide +kernel
theorem dL_law_821 : decode cL_law 821 = .ok (.iaload, 1) := by decide +kernel
theorem dL_law_822 : decode cL_law 822 = .ok (.invokevirtual 141, 3) := by decide +kernel
theorem dL_law_825 : decode cL_law 825 = .ok (.istore 6, 2) := by decide +kernel
theorem dL_law_827 : decode cL_law 827 = .ok (.aload_n 2, 1) := by decide +kernel
theorem dL_law_828 : decode cL_law 828 = .ok (.invokevirtual 62, 3) := by decide +kernel
theorem dL_law_831 : decode cL_law 831 = .ok (.iload 5, 2) := by decide +kernel
theorem dL_law_833 : decode cL_law 833 = .ok (.if_icmp .eq 5, 3) := by decide +kernel
theorem dL_law_836 : decode cL_law 836 = .ok (.iconst 0, 1) := by decide +kernel
theorem dL_law_837 : decode cL_law 837 = .ok (.ireturn, 1) := by decide +kernel
theorem dL_law_838 : decode cL_law 838 = .ok (.iload 5, 2) := by decide +kernel
theorem dL_law_840 : decode cL_law 840 = .ok (.ifCond .ne 15, 3) := by decide +kernel
theorem dL_law_843 : decode cL_law 843 = .ok (.aload_n 3, 1) := by decide +kernel
theorem dL_law_844 : decode cL_law 844 = .ok (.iconst 0, 1) := by decide +kernel
theorem dL_law_845 : decode cL_law 845 = .ok (.laload, 1) := by decide +kernel
theorem dL_law_846 : decode cL_law 846 = .ok (.iload 6, 2) := by decide +kernel
theorem dL_law_848 : decode cL_law 848 = .ok (.i2l, 1) := by decide +kernel
theorem dL_law_849 : decode cL_law 849 = .ok (.lcmp, 1) := by decide +kernel
theorem dL_law_850 : decode cL_law 850 = .ok (.ifCond .eq 5, 3) := by decide +kernel
theorem dL_law_853 : decode cL_law 853 = .ok (.iconst 0, 1) := by decide +kernel
theorem dL_law_854 : decode cL_law 854 = .ok (.ireturn, 1) := by decide +kernel
theorem dL_law_855 : decode cL_law 855 = .ok (.goto 378, 3) := by decide +kernel
theorem dL_law_858 : decode cL_law 858 = .ok (.aload_n 1, 1) := by decide +kernel
theorem dL_law_859 : decode cL_law 859 = .ok (.aload_n 3, 1) := by decide +kernel
theorem dL_law_860 : decode cL_law 860 = .ok (.invokestatic 142, 3) := by decide +kernel
theorem dL_law_863 : decode cL_law 863 = .ok (.istore 5, 2) := by decide +kernel
theorem dL_law_865 : decode cL_law 865 = .ok (.aload_n 2, 1) := by decide +kernel
theorem dL_law_866 : decode cL_law 866 = .ok (.invokevirtual 145, 3) := by decide +kernel
theorem dL_law_869 : decode cL_law 869 = .ok (.istore 6, 2) := by decide +kernel
theorem dL_law_871 : decode cL_law 871 = .ok (.aload_n 2, 1) := by decide +kernel
theorem dL_law_872 : decode cL_law 872 = .ok (.invokevirtual 62, 3) := by decide +kernel
theorem dL_law_875 : decode cL_law 875 = .ok (.iload 5, 2) := by decide +kernel
theorem dL_law_877 : decode cL_law 877 = .ok (.if_icmp .eq 5, 3) := by decide +kernel
theorem dL_law_880 : decode cL_law 880 = .ok (.iconst 0, 1) := by decide +kernel
theorem dL_law_881 : decode cL_law 881 = .ok (.ireturn, 1) := by decide +kernel
theorem dL_law_882 : decode cL_law 882 = .ok (.iload 5, 2) := by decide +kernel
theorem dL_law_884 : decode cL_law 884 = .ok (.ifCond .ne 15, 3) := by decide +kernel
theorem dL_law_887 : decode cL_law 887 = .ok (.aload_n 3, 1) := by decide +kernel
theorem dL_law_888 : decode cL_law 888 = .ok (.iconst 0, 1) := by decide +kernel
theorem dL_law_889 : decode cL_law 889 = .ok (.laload, 1) := by decide +kernel
theorem dL_law_890 : decode cL_law 890 = .ok (.iload 6, 2) := by decide +kernel
theorem dL_law_892 : decode cL_law 892 = .ok (.i2l, 1) := by decide +kernel
theorem dL_law_893 : decode cL_law 893 = .ok (.lcmp, 1) := by decide +kernel
theorem dL_law_894 : decode cL_law 894 = .ok (.ifCond .eq 5, 3) := by decide +kernel
theorem dL_law_897 : decode cL_law 897 = .ok (.iconst 0, 1) := by decide +kernel
theorem dL_law_898 : decode cL_law 898 = .ok (.ireturn, 1) := by decide +kernel
theorem dL_law_899 : decode cL_law 899 = .ok (.goto 334, 3) := by decide +kernel
theorem dL_law_902 : decode cL_law 902 = .ok (.aload_n 1, 1) := by decide +kernel
theorem dL_law_903 : decode cL_law 903 = .ok (.aload_n 0, 1) := by decide +kernel
theorem dL_law_904 : decode cL_law 904 = .ok (.iload 4, 2) := by decide +kernel
theorem dL_law_906 : decode cL_law 906 = .ok (.iconst 1, 1) := by decide +kernel
theorem dL_law_907 : decode cL_law 907 = .ok (.iadd, 1) := by decide +kernel
theorem dL_law_908 : decode cL_law 908 = .ok (.iaload, 1) := by decide +kernel
theorem dL_law_909 : decode cL_law 909 = .ok (.aload_n 0, 1) := by decide +kernel
theorem dL_law_910 : decode cL_law 910 = .ok (.iload 4, 2) := by decide +kernel
theorem dL_law_912 : decode cL_law 912 = .ok (.iconst 2, 1) := by decide +kernel
theorem dL_law_913 : decode cL_law 913 = .ok (.iadd, 1) := by decide +kernel
theorem dL_law_914 : decode cL_law 914 = .ok (.iaload, 1) := by decide +kernel
theorem dL_law_915 : decode cL_law 915 = .ok (.aload_n 3, 1) := by decide +kernel
theorem dL_law_916 : decode cL_law 916 = .ok (.invokestatic 146, 3) := by decide +kernel
theorem dL_law_919 : decode cL_law 919 = .ok (.istore 5, 2) := by decide +kernel
theorem dL_law_921 : decode cL_law 921 = .ok (.aload_n 2, 1) := by decide +kernel
theorem dL_law_922 : decode cL_law 922 = .ok (.aload_n 0, 1) := by decide +kernel
theorem dL_law_923 : decode cL_law 923 = .ok (.iload 4, 2) := by decide +kernel
theorem dL_law_925 : decode cL_law 925 = .ok (.iconst 1, 1) := by decide +kernel
theorem dL_law_926 : decode cL_law 926 = .ok (.iadd, 1) := by decide +kernel
theorem dL_law_927 : decode cL_law 927 = .ok (.iaload, 1) := by decide +kernel
theorem dL_law_928 : decode cL_law 928 = .ok (.aload_n 0, 1) := by decide +kernel
theorem dL_law_929 : decode cL_law 929 = .ok (.iload 4, 2) := by decide +kernel
theorem dL_law_931 : decode cL_law 931 = .ok (.iconst 2, 1) := by decide +kernel
theorem dL_law_932 : decode cL_law 932 = .ok (.iadd, 1) := by decide +kernel
theorem dL_law_933 : decode cL_law 933 = .ok (.iaload, 1) := by decide +kernel
theorem dL_law_934 : decode cL_law 934 = .ok (.invokevirtual 148, 3) := by decide +kernel
theorem dL_law_937 : decode cL_law 937 = .ok (.istore 6, 2) := by decide +kernel
theorem dL_law_939 : decode cL_law 939 = .ok (.aload_n 2, 1) := by decide +kernel
theorem dL_law_940 : decode cL_law 940 = .ok (.invokevirtual 62, 3) := by decide +kernel
theorem dL_law_943 : decode cL_law 943 = .ok (.iload 5, 2) := by decide +kernel
theorem dL_law_945 : decode cL_law 945 = .ok (.if_icmp .eq 5, 3) := by decide +kernel
theorem dL_law_948 : decode cL_law 948 = .ok (.iconst 0, 1) := by decide +kernel
theorem dL_law_949 : decode cL_law 949 = .ok (.ireturn, 1) := by decide +kernel
theorem dL_law_950 : decode cL_law 950 = .ok (.iload 5, 2) := by decide +kernel
theorem dL_law_952 : decode cL_law 952 = .ok (.ifCond .ne 15, 3) := by decide +kernel
theorem dL_law_955 : decode cL_law 955 = .ok (.aload_n 3, 1) := by decide +kernel
theorem dL_law_956 : decode cL_law 956 = .ok (.iconst 0, 1) := by decide +kernel
theorem dL_law_957 : decode cL_law 957 = .ok (.laload, 1) := by decide +kernel
theorem dL_law_958 : decode cL_law 958 = .ok (.iload 6, 2) := by decide +kernel
theorem dL_law_960 : decode cL_law 960 = .ok (.i2l, 1) := by decide +kernel
theorem dL_law_961 : decode cL_law 961 = .ok (.lcmp, 1) := by decide +kernel
theorem dL_law_962 : decode cL_law 962 = .ok (.ifCond .eq 5, 3) := by decide +kernel
theorem dL_law_965 : decode cL_law 965 = .ok (.iconst 0, 1) := by decide +kernel
theorem dL_law_966 : decode cL_law 966 = .ok (.ireturn, 1) := by decide +kernel
theorem dL_law_967 : decode cL_law 967 = .ok (.goto 266, 3) := by decide +kernel
theorem dL_law_970 : decode cL_law 970 = .ok (.aload_n 1, 1) := by decide +kernel
theorem dL_law_971 : decode cL_law 971 = .ok (.aload_n 0, 1) := by decide +kernel
theorem dL_law_972 : decode cL_law 972 = .ok (.iload 4, 2) := by decide +kernel
theorem dL_law_974 : decode cL_law 974 = .ok (.iconst 1, 1) := by decide +kernel
theorem dL_law_975 : decode cL_law 975 = .ok (.iadd, 1) := by decide +kernel
theorem dL_law_976 : decode cL_law 976 = .ok (.iaload, 1) := by decide +kernel
theorem dL_law_977 : decode cL_law 977 = .ok (.aload_n 3, 1) := by decide +kernel
theorem dL_law_978 : decode cL_law 978 = .ok (.invokestatic 149, 3) := by decide +kernel
theorem dL_law_981 : decode cL_law 981 = .ok (.istore 5, 2) := by decide +kernel
theorem dL_law_983 : decode cL_law 983 = .ok (.aload_n 2, 1) := by decide +kernel
theorem dL_law_984 : decode cL_law 984 = .ok (.aload_n 0, 1) := by decide +kernel
theorem dL_law_985 : decode cL_law 985 = .ok (.iload 4, 2) := by decide +kernel
theorem dL_law_987 : decode cL_law 987 = .ok (.iconst 1, 1) := by decide +kernel
theorem dL_law_988 : decode cL_law 988 = .ok (.iadd, 1) := by decide +kernel
theorem dL_law_989 : decode cL_law 989 = .ok (.iaload, 1) := by decide +kernel
theorem dL_law_990 : decode cL_law 990 = .ok (.invokevirtual 151, 3) := by decide +kernel
theorem dL_law_993 : decode cL_law 993 = .ok (.istore 6, 2) := by decide +kernel
theorem dL_law_995 : decode cL_law 995 = .ok (.aload_n 2, 1) := by decide +kernel
theorem dL_law_996 : decode cL_law 996 = .ok (.invokevirtual 62, 3) := by decide +kernel
theorem dL_law_999 : decode cL_law 999 = .ok (.iload 5, 2) := by decide +kernel
theorem dL_law_1001 : decode cL_law 1001 = .ok (.if_icmp .eq 5, 3) := by decide +kernel
theorem dL_law_1004 : decode cL_law 1004 = .ok (.iconst 0, 1) := by decide +kernel
theorem dL_law_1005 : decode cL_law 1005 = .ok (.ireturn, 1) := by decide +kernel
theorem dL_law_1006 : decode cL_law 1006 = .ok (.iload 5, 2) := by decide +kernel
theorem dL_law_1008 : decode cL_law 1008 = .ok (.ifCond .ne 15, 3) := by decide +kernel
theorem dL_law_1011 : decode cL_law 1011 = .ok (.aload_n 3, 1) := by decide +kernel
theorem dL_law_1012 : decode cL_law 1012 = .ok (.iconst 0, 1) := by decide +kernel
theorem dL_law_1013 : decode cL_law 1013 = .ok (.laload, 1) := by decide +kernel
theorem dL_law_1014 : decode cL_law 1014 = .ok (.iload 6, 2) := by decide +kernel
theorem dL_law_1016 : decode cL_law 1016 = .ok (.i2l, 1) := by decide +kernel
theorem dL_law_1017 : decode cL_law 1017 = .ok (.lcmp, 1) := by decide +kernel
theorem dL_law_1018 : decode cL_law 1018 = .ok (.ifCond .eq 5, 3) := by decide +kernel
theorem dL_law_1021 : decode cL_law 1021 = .ok (.iconst 0, 1) := by decide +kernel
theorem dL_law_1022 : decode cL_law 1022 = .ok (.ireturn, 1) := by decide +kernel
theorem dL_law_1023 : decode cL_law 1023 = .ok (.goto 210, 3) := by decide +kernel
theorem dL_law_1026 : decode cL_law 1026 = .ok (.aload_n 1, 1) := by decide +kernel
theorem dL_law_1027 : decode cL_law 1027 = .ok (.aload_n 3, 1) := by decide +kernel
theorem dL_law_1028 : decode cL_law 1028 = .ok (.invokestatic 152, 3) := by decide +kernel
theorem dL_law_1031 : decode cL_law 1031 = .ok (.istore 5, 2) := by decide +kernel
theorem dL_law_1033 : decode cL_law 1033 = .ok (.aload_n 2, 1) := by decide +kernel
theorem dL_law_1034 : decode cL_law 1034 = .ok (.invokevirtual 154, 3) := by decide +kernel
theorem dL_law_1037 : decode cL_law 1037 = .ok (.istore 6, 2) := by decide +kernel
theorem dL_law_1039 : decode cL_law 1039 = .ok (.aload_n 2, 1) := by decide +kernel
theorem dL_law_1040 : decode cL_law 1040 = .ok (.invokevirtual 62, 3) := by decide +kernel
theorem dL_law_1043 : decode cL_law 1043 = .ok (.iload 5, 2) := by decide +kernel
theorem dL_law_1045 : decode cL_law 1045 = .ok (.if_icmp .eq 5, 3) := by decide +kernel
theorem dL_law_1048 : decode cL_law 1048 = .ok (.iconst 0, 1) := by decide +kernel
theorem dL_law_1049 : decode cL_law 1049 = .ok (.ireturn, 1) := by decide +kernel
theorem dL_law_1050 : decode cL_law 1050 = .ok (.iload 5, 2) := by decide +kernel
theorem dL_law_1052 : decode cL_law 1052 = .ok (.ifCond .ne 15, 3) := by decide +kernel
theorem dL_law_1055 : decode cL_law 1055 = .ok (.aload_n 3, 1) := by decide +kernel
theorem dL_law_1056 : decode cL_law 1056 = .ok (.iconst 0, 1) := by decide +kernel
theorem dL_law_1057 : decode cL_law 1057 = .ok (.laload, 1) := by decide +kernel
theorem dL_law_1058 : decode cL_law 1058 = .ok (.iload 6, 2) := by decide +kernel
theorem dL_law_1060 : decode cL_law 1060 = .ok (.i2l, 1) := by decide +kernel
theorem dL_law_1061 : decode cL_law 1061 = .ok (.lcmp, 1) := by decide +kernel
theorem dL_law_1062 : decode cL_law 1062 = .ok (.ifCond .eq 5, 3) := by decide +kernel
theorem dL_law_1065 : decode cL_law 1065 = .ok (.iconst 0, 1) := by decide +kernel
theorem dL_law_1066 : decode cL_law 1066 = .ok (.ireturn, 1) := by decide +kernel
theorem dL_law_1067 : decode cL_law 1067 = .ok (.goto 166, 3) := by decide +kernel
theorem dL_law_1070 : decode cL_law 1070 = .ok (.aload_n 1, 1) := by decide +kernel
theorem dL_law_1071 : decode cL_law 1071 = .ok (.aload_n 3, 1) := by decide +kernel
theorem dL_law_1072 : decode cL_law 1072 = .ok (.invokestatic 155, 3) := by decide +kernel
theorem dL_law_1075 : decode cL_law 1075 = .ok (.istore 5, 2) := by decide +kernel
theorem dL_law_1077 : decode cL_law 1077 = .ok (.aload_n 2, 1) := by decide +kernel
theorem dL_law_1078 : decode cL_law 1078 = .ok (.invokevirtual 157, 3) := by decide +kernel
theorem dL_law_1081 : decode cL_law 1081 = .ok (.istore 6, 2) := by decide +kernel
theorem dL_law_1083 : decode cL_law 1083 = .ok (.aload_n 2, 1) := by decide +kernel
theorem dL_law_1084 : decode cL_law 1084 = .ok (.invokevirtual 62, 3) := by decide +kernel
theorem dL_law_1087 : decode cL_law 1087 = .ok (.iload 5, 2) := by decide +kernel
theorem dL_law_1089 : decode cL_law 1089 = .ok (.if_icmp .eq 5, 3) := by decide +kernel
theorem dL_law_1092 : decode cL_law 1092 = .ok (.iconst 0, 1) := by decide +kernel
theorem dL_law_1093 : decode cL_law 1093 = .ok (.ireturn, 1) := by decide +kernel
theorem dL_law_1094 : decode cL_law 1094 = .ok (.iload 5, 2) := by decide +kernel
theorem dL_law_1096 : decode cL_law 1096 = .ok (.ifCond .ne 15, 3) := by decide +kernel
theorem dL_law_1099 : decode cL_law 1099 = .ok (.aload_n 3, 1) := by decide +kernel
theorem dL_law_1100 : decode cL_law 1100 = .ok (.iconst 0, 1) := by decide +kernel
theorem dL_law_1101 : decode cL_law 1101 = .ok (.laload, 1) := by decide +kernel
theorem dL_law_1102 : decode cL_law 1102 = .ok (.iload 6, 2) := by decide +kernel
theorem dL_law_1104 : decode cL_law 1104 = .ok (.i2l, 1) := by decide +kernel
theorem dL_law_1105 : decode cL_law 1105 = .ok (.lcmp, 1) := by decide +kernel
theorem dL_law_1106 : decode cL_law 1106 = .ok (.ifCond .eq 5, 3) := by decide +kernel
theorem dL_law_1109 : decode cL_law 1109 = .ok (.iconst 0, 1) := by decide +kernel
theorem dL_law_1110 : decode cL_law 1110 = .ok (.ireturn, 1) := by decide +kernel
theorem dL_law_1111 : decode cL_law 1111 = .ok (.goto 122, 3) := by decide +kernel
theorem dL_law_1114 : decode cL_law 1114 = .ok (.aload_n 1, 1) := by decide +kernel
theorem dL_law_1115 : decode cL_law 1115 = .ok (.aload_n 0, 1) := by decide +kernel
theorem dL_law_1116 : decode cL_law 1116 = .ok (.iload 4, 2) := by decide +kernel
theorem dL_law_1118 : decode cL_law 1118 = .ok (.iconst 1, 1) := by decide +kernel
theorem dL_law_1119 : decode cL_law 1119 = .ok (.iadd, 1) := by decide +kernel
theorem dL_law_1120 : decode cL_law 1120 = .ok (.iaload, 1) := by decide +kernel
theorem dL_law_1121 : decode cL_law 1121 = .ok (.aload_n 3, 1) := by decide +kernel
theorem dL_law_1122 : decode cL_law 1122 = .ok (.invokestatic 158, 3) := by decide +kernel
theorem dL_law_1125 : decode cL_law 1125 = .ok (.istore 5, 2) := by decide +kernel
theorem dL_law_1127 : decode cL_law 1127 = .ok (.aload_n 2, 1) := by decide +kernel
theorem dL_law_1128 : decode cL_law 1128 = .ok (.aload_n 0, 1) := by decide +kernel
theorem dL_law_1129 : decode cL_law 1129 = .ok (.iload 4, 2) := by decide +kernel
theorem dL_law_1131 : decode cL_law 1131 = .ok (.iconst 1, 1) := by decide +kernel
theorem dL_law_1132 : decode cL_law 1132 = .ok (.iadd, 1) := by decide +kernel
theorem dL_law_1133 : decode cL_law 1133 = .ok (.iaload, 1) := by decide +kernel
theorem dL_law_1134 : decode cL_law 1134 = .ok (.invokevirtual 160, 3) := by decide +kernel
theorem dL_law_1137 : decode cL_law 1137 = .ok (.istore 6, 2) := by decide +kernel
theorem dL_law_1139 : decode cL_law 1139 = .ok (.aload_n 2, 1) := by decide +kernel
theorem dL_law_1140 : decode cL_law 1140 = .ok (.invokevirtual 62, 3) := by decide +kernel
theorem dL_law_1143 : decode cL_law 1143 = .ok (.iload 5, 2) := by decide +kernel
theorem dL_law_1145 : decode cL_law 1145 = .ok (.if_icmp .eq 5, 3) := by decide +kernel
theorem dL_law_1148 : decode cL_law 1148 = .ok (.iconst 0, 1) := by decide +kernel
theorem dL_law_1149 : decode cL_law 1149 = .ok (.ireturn, 1) := by decide +kernel
theorem dL_law_1150 : decode cL_law 1150 = .ok (.iload 5, 2) := by decide +kernel
theorem dL_law_1152 : decode cL_law 1152 = .ok (.ifCond .ne 15, 3) := by decide +kernel
theorem dL_law_1155 : decode cL_law 1155 = .ok (.aload_n 3, 1) := by decide +kernel
theorem dL_law_1156 : decode cL_law 1156 = .ok (.iconst 0, 1) := by decide +kernel
theorem dL_law_1157 : decode cL_law 1157 = .ok (.laload, 1) := by decide +kernel
theorem dL_law_1158 : decode cL_law 1158 = .ok (.iload 6, 2) := by decide +kernel
theorem dL_law_1160 : decode cL_law 1160 = .ok (.i2l, 1) := by decide +kernel
theorem dL_law_1161 : decode cL_law 1161 = .ok (.lcmp, 1) := by decide +kernel
theorem dL_law_1162 : decode cL_law 1162 = .ok (.ifCond .eq 5, 3) := by decide +kernel
theorem dL_law_1165 : decode cL_law 1165 = .ok (.iconst 0, 1) := by decide +kernel
theorem dL_law_1166 : decode cL_law 1166 = .ok (.ireturn, 1) := by decide +kernel
theorem dL_law_1167 : decode cL_law 1167 = .ok (.goto 66, 3) := by decide +kernel
theorem dL_law_1170 : decode cL_law 1170 = .ok (.aload_n 1, 1) := by decide +kernel
theorem dL_law_1171 : decode cL_law 1171 = .ok (.aload_n 0, 1) := by decide +kernel
theorem dL_law_1172 : decode cL_law 1172 = .ok (.iload 4, 2) := by decide +kernel
theorem dL_law_1174 : decode cL_law 1174 = .ok (.iconst 1, 1) := by decide +kernel
theorem dL_law_1175 : decode cL_law 1175 = .ok (.iadd, 1) := by decide +kernel
theorem dL_law_1176 : decode cL_law 1176 = .ok (.iaload, 1) := by decide +kernel
theorem dL_law_1177 : decode cL_law 1177 = .ok (.aload_n 3, 1) := by decide +kernel
theorem dL_law_1178 : decode cL_law 1178 = .ok (.invokestatic 161, 3) := by decide +kernel
theorem dL_law_1181 : decode cL_law 1181 = .ok (.istore 5, 2) := by decide +kernel
theorem dL_law_1183 : decode cL_law 1183 = .ok (.aload_n 2, 1) := by decide +kernel
theorem dL_law_1184 : decode cL_law 1184 = .ok (.aload_n 0, 1) := by decide +kernel
theorem dL_law_1185 : decode cL_law 1185 = .ok (.iload 4, 2) := by decide +kernel
theorem dL_law_1187 : decode cL_law 1187 = .ok (.iconst 1, 1) := by decide +kernel
theorem dL_law_1188 : decode cL_law 1188 = .ok (.iadd, 1) := by decide +kernel
theorem dL_law_1189 : decode cL_law 1189 = .ok (.iaload, 1) := by decide +kernel
theorem dL_law_1190 : decode cL_law 1190 = .ok (.invokevirtual 163, 3) := by decide +kernel
theorem dL_law_1193 : decode cL_law 1193 = .ok (.istore 6, 2) := by decide +kernel
theorem dL_law_1195 : decode cL_law 1195 = .ok (.aload_n 2, 1) := by decide +kernel
theorem dL_law_1196 : decode cL_law 1196 = .ok (.invokevirtual 62, 3) := by decide +kernel
theorem dL_law_1199 : decode cL_law 1199 = .ok (.iload 5, 2) := by decide +kernel
theorem dL_law_1201 : decode cL_law 1201 = .ok (.if_icmp .eq 5, 3) := by decide +kernel
theorem dL_law_1204 : decode cL_law 1204 = .ok (.iconst 0, 1) := by decide +kernel
theorem dL_law_1205 : decode cL_law 1205 = .ok (.ireturn, 1) := by decide +kernel
theorem dL_law_1206 : decode cL_law 1206 = .ok (.iload 5, 2) := by decide +kernel
theorem dL_law_1208 : decode cL_law 1208 = .ok (.ifCond .ne 22, 3) := by decide +kernel
theorem dL_law_1211 : decode cL_law 1211 = .ok (.aload_n 3, 1) := by decide +kernel
theorem dL_law_1212 : decode cL_law 1212 = .ok (.iconst 0, 1) := by decide +kernel
theorem dL_law_1213 : decode cL_law 1213 = .ok (.laload, 1) := by decide +kernel
theorem dL_law_1214 : decode cL_law 1214 = .ok (.iload 6, 2) := by decide +kernel
theorem dL_law_1216 : decode cL_law 1216 = .ok (.ifCond .eq 7, 3) := by decide +kernel
theorem dL_law_1219 : decode cL_law 1219 = .ok (.lconst 1, 1) := by decide +kernel
theorem dL_law_1220 : decode cL_law 1220 = .ok (.goto 4, 3) := by decide +kernel
theorem dL_law_1223 : decode cL_law 1223 = .ok (.lconst 0, 1) := by decide +kernel
theorem dL_law_1224 : decode cL_law 1224 = .ok (.lcmp, 1) := by decide +kernel
theorem dL_law_1225 : decode cL_law 1225 = .ok (.ifCond .eq 5, 3) := by decide +kernel
theorem dL_law_1228 : decode cL_law 1228 = .ok (.iconst 0, 1) := by decide +kernel
theorem dL_law_1229 : decode cL_law 1229 = .ok (.ireturn, 1) := by decide +kernel
theorem dL_law_1230 : decode cL_law 1230 = .ok (.goto 3, 3) := by decide +kernel
theorem dL_law_1233 : decode cL_law 1233 = .ok (.iinc 4 6, 3) := by decide +kernel
theorem dL_law_1236 : decode cL_law 1236 = .ok (.goto (-1213), 3) := by decide +kernel
theorem dL_law_1239 : decode cL_law 1239 = .ok (.iconst 1, 1) := by decide +kernel
theorem dL_law_1240 : decode cL_law 1240 = .ok (.ireturn, 1) := by decide +kernel
abbrev vwCl : List vw_C := [(RX0, TX0, 6), (RX1, TX1, 3), (RX2, TX2, 6), (RX3, TX3, 9), (RX4, TX4, 9), (RX5, TX5, 8), (RX6, TX6, 4), (RX7, TX7, 12), (RX8, TX8, 36)]
