set_option maxRecDepth 20000 in
theorem ggL_of_X7_of : GoodIn wsL_of wsX7_of := goodIn_ca (goodIn_r _ [6, 7, 8, 9, 10, 11, 12, 13, 14, 15, 5, 16, 17, 18, 19, 20, 21, 22, 23, 24, 25, 26, 27, 28, 29, 30, 31, 32, 33, 34, 35, 36, 37, 38, 39, 40, 41, 42] (by decide +kernel) (by decide +kernel)) (goodIn_sub (fun _ h => List.mem_cons_of_mem _ (List.mem_append_right _ h)) (by decide +kernel))
set_option maxRecDepth 20000 in
theorem gL_of_X7_of : GoodIn wsL_of (wsV RL 7 RX7 yX7_of wsX7_of) := goodIn_app (goodIn_of _ (by decide +kernel)) ggL_of_X7_of
set_option maxRecDepth 20000 in
theorem ggL_passes_X7_passes : GoodIn wsL_passes wsX7_passes := goodIn_ca (goodIn_r _ [6, 7, 8, 9, 10, 11, 12, 5, 13, 14, 15, 16, 17, 18, 19, 20, 21, 22, 23, 24, 25, 26, 27, 28, 29, 30, 31, 32, 33, 34, 35, 36, 37, 38, 39, 40, 41, 42, 43, 44, 45, 46, 47, 48, 49, 50] (by decide +kernel) (by decide +kernel)) (goodIn_sub (fun _ h => List.mem_cons_of_mem _ (List.mem_append_right _ h)) (by decide +kernel))
set_option maxRecDepth 20000 in
theorem gL_passes_X7_passes : GoodIn wsL_passes (wsV RL 15 RX7 yX7_passes wsX7_passes) := goodIn_app (goodIn_of _ (by decide +kernel)) ggL_passes_X7_passes
theorem dL_of_0 : decode cL_of 0 = .ok (.aload_n 3, 1) := by decide +kernel
theorem dL_of_1 : decode cL_of 1 = .ok (.iconst 0, 1) := by decide +kernel
theorem dL_of_2 : decode cL_of 2 = .ok (.aload_n 0, 1) := by decide +kernel
theorem dL_of_3 : decode cL_of 3 = .ok (.iload_n 1, 1) := by decide +kernel
theorem dL_of_4 : decode cL_of 4 = .ok (.iload_n 2, 1) := by decide +kernel
theorem dL_of_5 : decode cL_of 5 = .ok (.invokevirtual 7, 3) := by decide +kernel
theorem dL_of_8 : decode cL_of 8 = .ok (.i2l, 1) := by decide +kernel
theorem dL_of_9 : decode cL_of 9 = .ok (.lastore, 1) := by decide +kernel
theorem dL_of_10 : decode cL_of 10 = .ok (.goto 7, 3) := by decide +kernel
theorem dL_of_13 : decode cL_of 13 = .ok (.astore 4, 2) := by decide +kernel
theorem dL_of_15 : decode cL_of 15 = .ok (.iconst 1, 1) := by decide +kernel
theorem dL_of_16 : decode cL_of 16 = .ok (.ireturn, 1) := by decide +kernel
theorem dL_of_17 : decode cL_of 17 = .ok (.iconst 0, 1) := by decide +kernel
theorem dL_of_18 : decode cL_of 18 = .ok (.ireturn, 1) := by decide +kernel
theorem dL_passes_0 : decode cL_passes 0 = .ok (.aload_n 2, 1) := by decide +kernel
theorem dL_passes_1 : decode cL_passes 1 = .ok (.iconst 0, 1) := by decide +kernel
theorem dL_passes_2 : decode cL_passes 2 = .ok (.aload_n 0, 1) := by decide +kernel
theorem dL_passes_3 : decode cL_passes 3 = .ok (.iload_n 1, 1) := by decide +kernel
theorem dL_passes_4 : decode cL_passes 4 = .ok (.invokevirtual 15, 3) := by decide +kernel
theorem dL_passes_7 : decode cL_passes 7 = .ok (.i2l, 1) := by decide +kernel
theorem dL_passes_8 : decode cL_passes 8 = .ok (.lastore, 1) := by decide +kernel
theorem dL_passes_9 : decode cL_passes 9 = .ok (.goto 6, 3) := by decide +kernel
theorem dL_passes_12 : decode cL_passes 12 = .ok (.astore_n 3, 1) := by decide +kernel
theorem dL_passes_13 : decode cL_passes 13 = .ok (.iconst 1, 1) := by decide +kernel
theorem dL_passes_14 : decode cL_passes 14 = .ok (.ireturn, 1) := by decide +kernel
theorem dL_passes_15 : decode cL_passes 15 = .ok (.iconst 0, 1) := by decide +kernel
theorem dL_passes_16 : decode cL_passes 16 = .ok (.ireturn, 1) := by decide +kernel
theorem dL_run_0 : decode cL_run 0 = .ok (.aload_n 2, 1) := by decide +kernel
theorem dL_run_1 : decode cL_run 1 = .ok (.iconst 0, 1) := by decide +kernel
theorem dL_run_2 : decode cL_run 2 = .ok (.aload_n 0, 1) := by decide +kernel
theorem dL_run_3 : decode cL_run 3 = .ok (.iload_n 1, 1) := by decide +kernel
theorem dL_run_4 : decode cL_run 4 = .ok (.invokevirtual 19, 3) := by decide +kernel
theorem dL_run_7 : decode cL_run 7 = .ok (.i2l, 1) := by decide +kernel
theorem dL_run_8 : decode cL_run 8 = .ok (.lastore, 1) := by decide +kernel
theorem dL_run_9 : decode cL_run 9 = .ok (.goto 6, 3) := by decide +kernel
theorem dL_run_12 : decode cL_run 12 = .ok (.astore_n 3, 1) := by decide +kernel
theorem dL_run_13 : decode cL_run 13 = .ok (.iconst 1, 1) := by decide +kernel
theorem dL_run_14 : decode cL_run 14 = .ok (.ireturn, 1) := by decide +kernel
theorem dL_run_15 : decode cL_run 15 = .ok (.iconst 0, 1) := by decide +kernel
theorem dL_run_16 : decode cL_run 16 = .ok (.ireturn, 1) := by decide +kernel
theorem dL_minute_0 : decode cL_minute 0 = .ok (.aload_n 1, 1) := by decide +kernel
theorem dL_minute_1 : decode cL_minute 1 = .ok (.iconst 0, 1) := by decide +kernel
theorem dL_minute_2 : decode cL_minute 2 = .ok (.aload_n 0, 1) := by decide +kernel
theorem dL_minute_3 : decode cL_minute 3 = .ok (.invokevirtual 24, 3) := by decide +kernel
theorem dL_minute_6 : decode cL_minute 6 = .ok (.i2l, 1) := by decide +kernel
theorem dL_minute_7 : decode cL_minute 7 = .ok (.lastore, 1) := by decide +kernel
theorem dL_minute_8 : decode cL_minute 8 = .ok (.goto 6, 3) := by decide +kernel
theorem dL_minute_11 : decode cL_minute 11 = .ok (.astore_n 2, 1) := by decide +kernel
theorem dL_minute_12 : decode cL_minute 12 = .ok (.iconst 1, 1) := by decide +kernel
theorem dL_minute_13 : decode cL_minute 13 = .ok (.ireturn, 1) := by decide +kernel
theorem dL_minute_14 : decode cL_minute 14 = .ok (.iconst 0, 1) := by decide +kernel
theorem dL_minute_15 : decode cL_minute 15 = .ok (.ireturn, 1) := by decide +kernel
theorem dL_at_0 : decode cL_at 0 = .ok (.aload_n 3, 1) := by decide +kernel
theorem dL_at_1 : decode cL_at 1 = .ok (.iconst 0, 1) := by decide +kernel
theorem dL_at_2 : decode cL_at 2 = .ok (.aload_n 0, 1) := by decide +kernel
theorem dL_at_3 : decode cL_at 3 = .ok (.iload_n 1, 1) := by decide +kernel
theorem dL_at_4 : decode cL_at 4 = .ok (.iload_n 2, 1) := by decide +kernel
theorem dL_at_5 : decode cL_at 5 = .ok (.invokevirtual 28, 3) := by decide +kernel
theorem dL_at_8 : decode cL_at 8 = .ok (.i2l, 1) := by decide +kernel
theorem dL_at_9 : decode cL_at 9 = .ok (.lastore, 1) := by decide +kernel
theorem dL_at_10 : decode cL_at 10 = .ok (.goto 11, 3) := by decide +kernel
theorem dL_at_13 : decode cL_at 13 = .ok (.astore 4, 2) := by decide +kernel
theorem dL_at_15 : decode cL_at 15 = .ok (.iconst 1, 1) := by decide +kernel
theorem dL_at_16 : decode cL_at 16 = .ok (.ireturn, 1) := by decide +kernel
theorem dL_at_17 : decode cL_at 17 = .ok (.astore 4, 2) := by decide +kernel
theorem dL_at_19 : decode cL_at 19 = .ok (.iconst 2, 1) := by decide +kernel
theorem dL_at_20 : decode cL_at 20 = .ok (.ireturn, 1) := by decide +kernel
theorem dL_at_21 : decode cL_at 21 = .ok (.iconst 0, 1) := by decide +kernel
theorem dL_at_22 : decode cL_at 22 = .ok (.ireturn, 1) := by decide +kernel
theorem dL_who_0 : decode cL_who 0 = .ok (.aload_n 2, 1) := by decide +kernel
theorem dL_who_1 : decode cL_who 1 = .ok (.iconst 0, 1) := by decide +kernel
theorem dL_who_2 : decode cL_who 2 = .ok (.aload_n 0, 1) := by decide +kernel
theorem dL_who_3 : decode cL_who 3 = .ok (.iload_n 1, 1) := by decide +kernel
theorem dL_who_4 : decode cL_who 4 = .ok (.invokevirtual 31, 3) := by decide +kernel
theorem dL_who_7 : decode cL_who 7 = .ok (.i2l, 1) := by decide +kernel
theorem dL_who_8 : decode cL_who 8 = .ok (.lastore, 1) := by decide +kernel
theorem dL_who_9 : decode cL_who 9 = .ok (.goto 6, 3) := by decide +kernel
theorem dL_who_12 : decode cL_who 12 = .ok (.astore_n 3, 1) := by decide +kernel
theorem dL_who_13 : decode cL_who 13 = .ok (.iconst 1, 1) := by decide +kernel
theorem dL_who_14 : decode cL_who 14 = .ok (.ireturn, 1) := by decide +kernel
theorem dL_who_15 : decode cL_who 15 = .ok (.iconst 0, 1) := by decide +kernel
theorem dL_who_16 : decode cL_who 16 = .ok (.ireturn, 1) := by decide +kernel
theorem dL_hole_0 : decode cL_hole 0 = .ok (.aload_n 1, 1) := by decide +kernel
theorem dL_hole_1 : decode cL_hole 1 = .ok (.iconst 0, 1) := by decide +kernel
theorem dL_hole_2 : decode cL_hole 2 = .ok (.aload_n 0, 1) := by decide +kernel
theorem dL_hole_3 : decode cL_hole 3 = .ok (.invokevirtual 34, 3) := by decide +kernel
theorem dL_hole_6 : decode cL_hole 6 = .ok (.i2l, 1) := by decide +kernel
theorem dL_hole_7 : decode cL_hole 7 = .ok (.lastore, 1) := by decide +kernel
theorem dL_hole_8 : decode cL_hole 8 = .ok (.goto 6, 3) := by decide +kernel
theorem dL_hole_11 : decode cL_hole 11 = .ok (.astore_n 2, 1) := by decide +kernel
theorem dL_hole_12 : decode cL_hole 12 = .ok (.iconst 1, 1) := by decide +kernel
theorem dL_hole_13 : decode cL_hole 13 = .ok (.ireturn, 1) := by decide +kernel
theorem dL_hole_14 : decode cL_hole 14 = .ok (.iconst 0, 1) := by decide +kernel
theorem dL_hole_15 : decode cL_hole 15 = .ok (.ireturn, 1) := by decide +kernel
theorem dL_rowLong_0 : decode cL_rowLong 0 = .ok (.aload_n 1, 1) := by decide +kernel
theorem dL_rowLong_1 : decode cL_rowLong 1 = .ok (.iconst 0, 1) := by decide +kernel
theorem dL_rowLong_2 : decode cL_rowLong 2 = .ok (.aload_n 0, 1) := by decide +kernel
theorem dL_rowLong_3 : decode cL_rowLong 3 = .ok (.invokevirtual 37, 3) := by decide +kernel
theorem dL_rowLong_6 : decode cL_rowLong 6 = .ok (.i2l, 1) := by decide +kernel
theorem dL_rowLong_7 : decode cL_rowLong 7 = .ok (.lastore, 1) := by decide +kernel
theorem dL_rowLong_8 : decode cL_rowLong 8 = .ok (.goto 6, 3) := by decide +kernel
theorem dL_rowLong_11 : decode cL_rowLong 11 = .ok (.astore_n 2, 1) := by decide +kernel
theorem dL_rowLong_12 : decode cL_rowLong 12 = .ok (.iconst 1, 1) := by decide +kernel
theorem dL_rowLong_13 : decode cL_rowLong 13 = .ok (.ireturn, 1) := by decide +kernel
theorem dL_rowLong_14 : decode cL_rowLong 14 = .ok (.iconst 0, 1) := by decide +kernel
theorem dL_rowLong_15 : decode cL_rowLong 15 = .ok (.ireturn, 1) := by decide +kernel
theorem dL_ends_0 : decode cL_ends 0 = .ok (.aload_n 2, 1) := by decide +kernel
theorem dL_ends_1 : decode cL_ends 1 = .ok (.iconst 0, 1) := by decide +kernel
theorem dL_ends_2 : decode cL_ends 2 = .ok (.aload_n 0, 1) := by decide +kernel
theorem dL_ends_3 : decode cL_ends 3 = .ok (.iload_n 1, 1) := by decide +kernel
theorem dL_ends_4 : decode cL_ends 4 = .ok (.invokevirtual 40, 3) := by decide +kernel
theorem dL_ends_7 : decode cL_ends 7 = .ok (.i2l, 1) := by decide +kernel
theorem dL_ends_8 : decode cL_ends 8 = .ok (.lastore, 1) := by decide +kernel
theorem dL_ends_9 : decode cL_ends 9 = .ok (.goto 6, 3) := by decide +kernel
theorem dL_ends_12 : decode cL_ends 12 = .ok (.astore_n 3, 1) := by decide +kernel
theorem dL_ends_13 : decode cL_ends 13 = .ok (.iconst 1, 1) := by decide +kernel
theorem dL_ends_14 : decode cL_ends 14 = .ok (.ireturn, 1) := by decide +kernel
theorem dL_ends_15 : decode cL_ends 15 = .ok (.iconst 0, 1) := by decide +kernel
theorem dL_ends_16 : decode cL_ends 16 = .ok (.ireturn, 1) := by decide +kernel
theorem dL_ill_0 : decode cL_ill 0 = .ok (.aload_n 2, 1) := by decide +kernel
theorem dL_ill_1 : decode cL_ill 1 = .ok (.iconst 0, 1) := by decide +kernel
theorem dL_ill_2 : decode cL_ill 2 = .ok (.aload_n 0, 1) := by decide +kernel
theorem dL_ill_3 : decode cL_ill 3 = .ok (.iload_n 1, 1) := by decide +kernel
theorem dL_ill_4 : decode cL_ill 4 = .ok (.invokevirtual 43, 3) := by decide +kernel
theorem dL_ill_7 : decode cL_ill 7 = .ok (.ifCond .eq 7, 3) := by decide +kernel
theorem dL_ill_10 : decode cL_ill 10 = .ok (.lconst 1, 1) := by decide +kernel
theorem dL_ill_11 : decode cL_ill 11 = .ok (.goto 4, 3) := by decide +kernel
theorem dL_ill_14 : decode cL_ill 14 = .ok (.lconst 0, 1) := by decide +kernel
theorem dL_ill_15 : decode cL_ill 15 = .ok (.lastore, 1) := by decide +kernel
theorem dL_ill_16 : decode cL_ill 16 = .ok (.goto 9, 3) := by decide +kernel
theorem dL_ill_19 : decode cL_ill 19 = .ok (.astore_n 3, 1) := by decide +kernel
theorem dL_ill_20 : decode cL_ill 20 = .ok (.iconst 1, 1) := by decide +kernel
theorem dL_ill_21 : decode cL_ill 21 = .ok (.ireturn, 1) := by decide +kernel
theorem dL_ill_22 : decode cL_ill 22 = .ok (.astore_n 3, 1) := by decide +kernel
theorem dL_ill_23 : decode cL_ill 23 = .ok (.iconst 2, 1) := by decide +kernel
theorem dL_ill_24 : decode cL_ill 24 = .ok (.ireturn, 1) := by decide +kernel
theorem dL_ill_25 : decode cL_ill 25 = .ok (.iconst 0, 1) := by decide +kernel
theorem dL_ill_26 : decode cL_ill 26 = .ok (.ireturn, 1) := by decide +kernel
