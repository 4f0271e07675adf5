theorem dX8_fits_1 : decode cX8_fits 1 = .ok (.iload_n 1, 1) := by decide +kernel
theorem dX8_fits_2 : decode cX8_fits 2 = .ok (.invokevirtual 310, 3) := by decide +kernel
theorem dX8_fits_5 : decode cX8_fits 5 = .ok (.istore_n 2, 1) := by decide +kernel
theorem dX8_fits_6 : decode cX8_fits 6 = .ok (.iload_n 2, 1) := by decide +kernel
theorem dX8_fits_7 : decode cX8_fits 7 = .ok (.ifCond .eq 5, 3) := by decide +kernel
theorem dX8_fits_10 : decode cX8_fits 10 = .ok (.iload_n 2, 1) := by decide +kernel
theorem dX8_fits_11 : decode cX8_fits 11 = .ok (.ireturn, 1) := by decide +kernel
theorem dX8_forget_0 : decode cX8_forget 0 = .ok (.aload_n 0, 1) := by decide +kernel
theorem dX8_forget_1 : decode cX8_forget 1 = .ok (.iconst 0, 1) := by decide +kernel
theorem dX8_forget_2 : decode cX8_forget 2 = .ok (.putfield 74, 3) := by decide +kernel
theorem dX8_forget_5 : decode cX8_forget 5 = .ok (.aload_n 0, 1) := by decide +kernel
theorem dX8_forget_6 : decode cX8_forget 6 = .ok (.iconst 0, 1) := by decide +kernel
theorem dX8_forget_7 : decode cX8_forget 7 = .ok (.putfield 81, 3) := by decide +kernel
theorem dX8_forget_10 : decode cX8_forget 10 = .ok (.return_, 1) := by decide +kernel
theorem dX8_forgetAll_0 : decode cX8_forgetAll 0 = .ok (.aload_n 0, 1) := by decide +kernel
theorem dX8_forgetAll_1 : decode cX8_forgetAll 1 = .ok (.invokevirtual 377, 3) := by decide +kernel
theorem dX8_forgetAll_4 : decode cX8_forgetAll 4 = .ok (.aload_n 0, 1) := by decide +kernel
theorem dX8_forgetAll_5 : decode cX8_forgetAll 5 = .ok (.iconst 0, 1) := by decide +kernel
theorem dX8_forgetAll_6 : decode cX8_forgetAll 6 = .ok (.putfield 78, 3) := by decide +kernel
theorem dX8_forgetAll_9 : decode cX8_forgetAll 9 = .ok (.return_, 1) := by decide +kernel
theorem dX8_full_0 : decode cX8_full 0 = .ok (.aload_n 0, 1) := by decide +kernel
theorem dX8_full_1 : decode cX8_full 1 = .ok (.getfield 28, 3) := by decide +kernel
theorem dX8_full_4 : decode cX8_full 4 = .ok (.invokevirtual 146, 3) := by decide +kernel
theorem dX8_full_7 : decode cX8_full 7 = .ok (.ifCond .eq 10, 3) := by decide +kernel
theorem dX8_full_17 : decode cX8_full 17 = .ok (.bipush (-2), 2) := by decide +kernel
theorem dX8_full_19 : decode cX8_full 19 = .ok (.ireturn, 1) := by decide +kernel
theorem dX8_gap_0 : decode cX8_gap 0 = .ok (.aload_n 0, 1) := by decide +kernel
theorem dX8_gap_1 : decode cX8_gap 1 = .ok (.getfield 28, 3) := by decide +kernel
theorem dX8_gap_4 : decode cX8_gap 4 = .ok (.invokevirtual 146, 3) := by decide +kernel
theorem dX8_gap_7 : decode cX8_gap 7 = .ok (.ifCond .ne 6, 3) := by decide +kernel
theorem dX8_gap_10 : decode cX8_gap 10 = .ok (.bipush (-2), 2) := by decide +kernel
theorem dX8_gap_12 : decode cX8_gap 12 = .ok (.ireturn, 1) := by decide +kernel
theorem dX8_gets_0 : decode cX8_gets 0 = .ok (.aload_n 0, 1) := by decide +kernel
theorem dX8_gets_1 : decode cX8_gets 1 = .ok (.getfield 28, 3) := by decide +kernel
theorem dX8_gets_4 : decode cX8_gets 4 = .ok (.iload_n 1, 1) := by decide +kernel
theorem dX8_gets_5 : decode cX8_gets 5 = .ok (.invokevirtual 119, 3) := by decide +kernel
theorem dX8_gets_8 : decode cX8_gets 8 = .ok (.ifCond .eq 34, 3) := by decide +kernel
theorem dX8_gets_42 : decode cX8_gets 42 = .ok (.sipush (-1000), 3) := by decide +kernel
theorem dX8_gets_45 : decode cX8_gets 45 = .ok (.ireturn, 1) := by decide +kernel
theorem dX8_hand_0 : decode cX8_hand 0 = .ok (.aload_n 0, 1) := by decide +kernel
theorem dX8_hand_1 : decode cX8_hand 1 = .ok (.getfield 28, 3) := by decide +kernel
theorem dX8_hand_4 : decode cX8_hand 4 = .ok (.iload_n 1, 1) := by decide +kernel
theorem dX8_hand_5 : decode cX8_hand 5 = .ok (.invokevirtual 119, 3) := by decide +kernel
theorem dX8_hand_8 : decode cX8_hand 8 = .ok (.ifCond .eq 10, 3) := by decide +kernel
theorem dX8_hand_18 : decode cX8_hand 18 = .ok (.bipush (-2), 2) := by decide +kernel
theorem dX8_hand_20 : decode cX8_hand 20 = .ok (.ireturn, 1) := by decide +kernel
theorem dX8_heat_0 : decode cX8_heat 0 = .ok (.aload_n 0, 1) := by decide +kernel
theorem dX8_heat_1 : decode cX8_heat 1 = .ok (.getfield 28, 3) := by decide +kernel
theorem dX8_heat_4 : decode cX8_heat 4 = .ok (.invokevirtual 146, 3) := by decide +kernel
theorem dX8_heat_7 : decode cX8_heat 7 = .ok (.ifCond .ne 6, 3) := by decide +kernel
theorem dX8_heat_10 : decode cX8_heat 10 = .ok (.bipush (-2), 2) := by decide +kernel
theorem dX8_heat_12 : decode cX8_heat 12 = .ok (.ireturn, 1) := by decide +kernel
theorem dX8_held_0 : decode cX8_held 0 = .ok (.aload_n 0, 1) := by decide +kernel
theorem dX8_held_1 : decode cX8_held 1 = .ok (.getfield 28, 3) := by decide +kernel
theorem dX8_held_4 : decode cX8_held 4 = .ok (.iload_n 1, 1) := by decide +kernel
theorem dX8_held_5 : decode cX8_held 5 = .ok (.invokevirtual 119, 3) := by decide +kernel
theorem dX8_held_8 : decode cX8_held 8 = .ok (.ifCond .eq 14, 3) := by decide +kernel
theorem dX8_held_22 : decode cX8_held 22 = .ok (.bipush (-2), 2) := by decide +kernel
theorem dX8_held_24 : decode cX8_held 24 = .ok (.ireturn, 1) := by decide +kernel
theorem dX8_holds_0 : decode cX8_holds 0 = .ok (.aload_n 0, 1) := by decide +kernel
theorem dX8_holds_1 : decode cX8_holds 1 = .ok (.getfield 28, 3) := by decide +kernel
theorem dX8_holds_4 : decode cX8_holds 4 = .ok (.iload_n 1, 1) := by decide +kernel
theorem dX8_holds_5 : decode cX8_holds 5 = .ok (.invokevirtual 119, 3) := by decide +kernel
theorem dX8_holds_8 : decode cX8_holds 8 = .ok (.ifCond .eq 14, 3) := by decide +kernel
theorem dX8_holds_22 : decode cX8_holds 22 = .ok (.bipush (-2), 2) := by decide +kernel
theorem dX8_holds_24 : decode cX8_holds 24 = .ok (.ireturn, 1) := by decide +kernel
theorem dX8_idle_0 : decode cX8_idle 0 = .ok (.aload_n 0, 1) := by decide +kernel
theorem dX8_idle_1 : decode cX8_idle 1 = .ok (.getfield 28, 3) := by decide +kernel
theorem dX8_idle_4 : decode cX8_idle 4 = .ok (.iload_n 1, 1) := by decide +kernel
theorem dX8_idle_5 : decode cX8_idle 5 = .ok (.invokevirtual 119, 3) := by decide +kernel
theorem dX8_idle_8 : decode cX8_idle 8 = .ok (.ifCond .eq 11, 3) := by decide +kernel
theorem dX8_idle_19 : decode cX8_idle 19 = .ok (.bipush (-2), 2) := by decide +kernel
theorem dX8_idle_21 : decode cX8_idle 21 = .ok (.ireturn, 1) := by decide +kernel
theorem dX8_image_0 : decode cX8_image 0 = .ok (.iload_n 1, 1) := by decide +kernel
theorem dX8_image_1 : decode cX8_image 1 = .ok (.ifCond .lt 8, 3) := by decide +kernel
theorem dX8_image_4 : decode cX8_image 4 = .ok (.iload_n 1, 1) := by decide +kernel
theorem dX8_image_5 : decode cX8_image 5 = .ok (.iconst 3, 1) := by decide +kernel
theorem dX8_image_6 : decode cX8_image 6 = .ok (.if_icmp .lt 6, 3) := by decide +kernel
theorem dX8_image_9 : decode cX8_image 9 = .ok (.bipush (-2), 2) := by decide +kernel
theorem dX8_image_11 : decode cX8_image 11 = .ok (.ireturn, 1) := by decide +kernel
theorem dX8_image_12 : decode cX8_image 12 = .ok (.aload_n 0, 1) := by decide +kernel
theorem dX8_image_13 : decode cX8_image 13 = .ok (.getfield 31, 3) := by decide +kernel
theorem dX8_image_16 : decode cX8_image 16 = .ok (.iload_n 1, 1) := by decide +kernel
theorem dX8_image_17 : decode cX8_image 17 = .ok (.aaload, 1) := by decide +kernel
theorem dX8_image_18 : decode cX8_image 18 = .ok (.aload_n 0, 1) := by decide +kernel
theorem dX8_image_19 : decode cX8_image 19 = .ok (.getfield 28, 3) := by decide +kernel
theorem dX8_image_22 : decode cX8_image 22 = .ok (.invokevirtual 102, 3) := by decide +kernel
theorem dX8_image_25 : decode cX8_image 25 = .ok (.aload_n 0, 1) := by decide +kernel
theorem dX8_image_26 : decode cX8_image 26 = .ok (.getfield 35, 3) := by decide +kernel
theorem dX8_image_29 : decode cX8_image 29 = .ok (.iload_n 1, 1) := by decide +kernel
theorem dX8_image_30 : decode cX8_image 30 = .ok (.iconst 1, 1) := by decide +kernel
theorem dX8_image_31 : decode cX8_image 31 = .ok (.bastore, 1) := by decide +kernel
theorem dX8_image_32 : decode cX8_image 32 = .ok (.iconst 0, 1) := by decide +kernel
theorem dX8_image_33 : decode cX8_image 33 = .ok (.ireturn, 1) := by decide +kernel
theorem dX8_isEither_0 : decode cX8_isEither 0 = .ok (.iload_n 0, 1) := by decide +kernel
theorem dX8_isEither_1 : decode cX8_isEither 1 = .ok (.ifCond .eq 8, 3) := by decide +kernel
theorem dX8_isEither_4 : decode cX8_isEither 4 = .ok (.iload_n 0, 1) := by decide +kernel
theorem dX8_isEither_5 : decode cX8_isEither 5 = .ok (.iconst 1, 1) := by decide +kernel
theorem dX8_isEither_6 : decode cX8_isEither 6 = .ok (.if_icmp .ne 7, 3) := by decide +kernel
theorem dX8_isEither_9 : decode cX8_isEither 9 = .ok (.iconst 1, 1) := by decide +kernel
theorem dX8_isEither_10 : decode cX8_isEither 10 = .ok (.goto 4, 3) := by decide +kernel
theorem dX8_isEither_13 : decode cX8_isEither 13 = .ok (.iconst 0, 1) := by decide +kernel
theorem dX8_isEither_14 : decode cX8_isEither 14 = .ok (.ireturn, 1) := by decide +kernel
theorem dX8_isSlipSecond_0 : decode cX8_isSlipSecond 0 = .ok (.aload_n 0, 1) := by decide +kernel
theorem dX8_isSlipSecond_1 : decode cX8_isSlipSecond 1 = .ok (.getfield 28, 3) := by decide +kernel
theorem dX8_isSlipSecond_4 : decode cX8_isSlipSecond 4 = .ok (.iload_n 1, 1) := by decide +kernel
theorem dX8_isSlipSecond_5 : decode cX8_isSlipSecond 5 = .ok (.invokevirtual 150, 3) := by decide +kernel
theorem dX8_isSlipSecond_8 : decode cX8_isSlipSecond 8 = .ok (.ifCond .eq 13, 3) := by decide +kernel
theorem dX8_isSlipSecond_21 : decode cX8_isSlipSecond 21 = .ok (.iconst 0, 1) := by decide +kernel
theorem dX8_isSlipSecond_22 : decode cX8_isSlipSecond 22 = .ok (.ireturn, 1) := by decide +kernel
theorem dX8_keeps_0 : decode cX8_keeps 0 = .ok (.aload_n 0, 1) := by decide +kernel
theorem dX8_keeps_1 : decode cX8_keeps 1 = .ok (.getfield 28, 3) := by decide +kernel
theorem dX8_keeps_4 : decode cX8_keeps 4 = .ok (.iload_n 1, 1) := by decide +kernel
theorem dX8_keeps_5 : decode cX8_keeps 5 = .ok (.invokevirtual 131, 3) := by decide +kernel
theorem dX8_keeps_8 : decode cX8_keeps 8 = .ok (.ifCond .ne 6, 3) := by decide +kernel
theorem dX8_keeps_11 : decode cX8_keeps 11 = .ok (.bipush (-2), 2) := by decide +kernel
theorem dX8_keeps_13 : decode cX8_keeps 13 = .ok (.ireturn, 1) := by decide +kernel
theorem dX8_kept_0 : decode cX8_kept 0 = .ok (.aload_n 0, 1) := by decide +kernel
theorem dX8_kept_1 : decode cX8_kept 1 = .ok (.getfield 28, 3) := by decide +kernel
theorem dX8_kept_4 : decode cX8_kept 4 = .ok (.invokevirtual 146, 3) := by decide +kernel
theorem dX8_kept_7 : decode cX8_kept 7 = .ok (.ifCond .ne 6, 3) := by decide +kernel
theorem dX8_kept_10 : decode cX8_kept 10 = .ok (.bipush (-2), 2) := by decide +kernel
theorem dX8_kept_12 : decode cX8_kept 12 = .ok (.ireturn, 1) := by decide +kernel
theorem dX8_lazy_0 : decode cX8_lazy 0 = .ok (.aload_n 0, 1) := by decide +kernel
theorem dX8_lazy_1 : decode cX8_lazy 1 = .ok (.getfield 28, 3) := by decide +kernel
theorem dX8_lazy_4 : decode cX8_lazy 4 = .ok (.invokevirtual 146, 3) := by decide +kernel
theorem dX8_lazy_7 : decode cX8_lazy 7 = .ok (.ifCond .ne 6, 3) := by decide +kernel
theorem dX8_lazy_10 : decode cX8_lazy 10 = .ok (.bipush (-2), 2) := by decide +kernel
theorem dX8_lazy_12 : decode cX8_lazy 12 = .ok (.ireturn, 1) := by decide +kernel
theorem dX8_leaves_0 : decode cX8_leaves 0 = .ok (.aload_n 0, 1) := by decide +kernel
theorem dX8_leaves_1 : decode cX8_leaves 1 = .ok (.iload_n 1, 1) := by decide +kernel
theorem dX8_leaves_2 : decode cX8_leaves 2 = .ok (.invokevirtual 310, 3) := by decide +kernel
theorem dX8_leaves_5 : decode cX8_leaves 5 = .ok (.istore_n 2, 1) := by decide +kernel
theorem dX8_leaves_6 : decode cX8_leaves 6 = .ok (.iload_n 2, 1) := by decide +kernel
theorem dX8_leaves_7 : decode cX8_leaves 7 = .ok (.ifCond .eq 5, 3) := by decide +kernel
theorem dX8_leaves_10 : decode cX8_leaves 10 = .ok (.iload_n 2, 1) := by decide +kernel
theorem dX8_leaves_11 : decode cX8_leaves 11 = .ok (.ireturn, 1) := by decide +kernel
theorem dX8_left_0 : decode cX8_left 0 = .ok (.aload_n 0, 1) := by decide +kernel
theorem dX8_left_1 : decode cX8_left 1 = .ok (.getfield 28, 3) := by decide +kernel
theorem dX8_left_4 : decode cX8_left 4 = .ok (.iload_n 1, 1) := by decide +kernel
theorem dX8_left_5 : decode cX8_left 5 = .ok (.invokevirtual 150, 3) := by decide +kernel
theorem dX8_left_8 : decode cX8_left 8 = .ok (.ifCond .ne 6, 3) := by decide +kernel
theorem dX8_left_11 : decode cX8_left 11 = .ok (.bipush (-2), 2) := by decide +kernel
theorem dX8_left_13 : decode cX8_left 13 = .ok (.ireturn, 1) := by decide +kernel
theorem dX8_let_0 : decode cX8_let 0 = .ok (.aload_n 0, 1) := by decide +kernel
theorem dX8_let_1 : decode cX8_let 1 = .ok (.getfield 28, 3) := by decide +kernel
theorem dX8_let_4 : decode cX8_let 4 = .ok (.invokevirtual 146, 3) := by decide +kernel
theorem dX8_let_7 : decode cX8_let 7 = .ok (.ifCond .eq 13, 3) := by decide +kernel
theorem dX8_let_20 : decode cX8_let 20 = .ok (.bipush (-2), 2) := by decide +kernel
theorem dX8_let_22 : decode cX8_let 22 = .ok (.ireturn, 1) := by decide +kernel
theorem dX8_lets_0 : decode cX8_lets 0 = .ok (.aload_n 0, 1) := by decide +kernel
theorem dX8_lets_1 : decode cX8_lets 1 = .ok (.getfield 28, 3) := by decide +kernel
theorem dX8_lets_4 : decode cX8_lets 4 = .ok (.invokevirtual 146, 3) := by decide +kernel
theorem dX8_lets_7 : decode cX8_lets 7 = .ok (.ifCond .eq 16, 3) := by decide +kernel
theorem dX8_lets_23 : decode cX8_lets 23 = .ok (.bipush (-2), 2) := by decide +kernel
theorem dX8_lets_25 : decode cX8_lets 25 = .ok (.ireturn, 1) := by decide +kernel
theorem dX8_lineAsNow_0 : decode cX8_lineAsNow 0 = .ok (.aload_n 0, 1) := by decide +kernel
theorem dX8_lineAsNow_1 : decode cX8_lineAsNow 1 = .ok (.getfield 49, 3) := by decide +kernel
theorem dX8_lineAsNow_4 : decode cX8_lineAsNow 4 = .ok (.aload_n 0, 1) := by decide +kernel
theorem dX8_lineAsNow_5 : decode cX8_lineAsNow 5 = .ok (.getfield 28, 3) := by decide +kernel
theorem dX8_lineAsNow_8 : decode cX8_lineAsNow 8 = .ok (.invokevirtual 426, 3) := by decide +kernel
theorem dX8_lineAsNow_11 : decode cX8_lineAsNow 11 = .ok (.iconst 0, 1) := by decide +kernel
theorem dX8_lineAsNow_12 : decode cX8_lineAsNow 12 = .ok (.istore_n 1, 1) := by decide +kernel
theorem dX8_lineAsNow_13 : decode cX8_lineAsNow 13 = .ok (.iload_n 1, 1) := by decide +kernel
theorem dX8_lineAsNow_14 : decode cX8_lineAsNow 14 = .ok (.aload_n 0, 1) := by decide +kernel
theorem dX8_lineAsNow_15 : decode cX8_lineAsNow 15 = .ok (.getfield 28, 3) := by decide +kernel
theorem dX8_lineAsNow_18 : decode cX8_lineAsNow 18 = .ok (.getfield 109, 3) := by decide +kernel
theorem dX8_lineAsNow_21 : decode cX8_lineAsNow 21 = .ok (.iconst 5, 1) := by decide +kernel
theorem dX8_lineAsNow_22 : decode cX8_lineAsNow 22 = .ok (.iaload, 1) := by decide +kernel
theorem dX8_lineAsNow_23 : decode cX8_lineAsNow 23 = .ok (.if_icmp .ge 21, 3) := by decide +kernel
theorem dX8_lineAsNow_44 : decode cX8_lineAsNow 44 = .ok (.return_, 1) := by decide +kernel
theorem dX8_loses_0 : decode cX8_loses 0 = .ok (.aload_n 0, 1) := by decide +kernel
theorem dX8_loses_1 : decode cX8_loses 1 = .ok (.getfield 28, 3) := by decide +kernel
theorem dX8_loses_4 : decode cX8_loses 4 = .ok (.iload_n 1, 1) := by decide +kernel
theorem dX8_loses_5 : decode cX8_loses 5 = .ok (.invokevirtual 119, 3) := by decide +kernel
theorem dX8_loses_8 : decode cX8_loses 8 = .ok (.ifCond .eq 27, 3) := by decide +kernel
theorem dX8_loses_35 : decode cX8_loses 35 = .ok (.bipush (-2), 2) := by decide +kernel
theorem dX8_loses_37 : decode cX8_loses 37 = .ok (.ireturn, 1) := by decide +kernel
theorem dX8_luck_0 : decode cX8_luck 0 = .ok (.aload_n 0, 1) := by decide +kernel
theorem dX8_luck_1 : decode cX8_luck 1 = .ok (.getfield 28, 3) := by decide +kernel
theorem dX8_luck_4 : decode cX8_luck 4 = .ok (.invokevirtual 146, 3) := by decide +kernel
theorem dX8_luck_7 : decode cX8_luck 7 = .ok (.ifCond .eq 21, 3) := by decide +kernel
theorem dX8_luck_28 : decode cX8_luck 28 = .ok (.bipush (-2), 2) := by decide +kernel
theorem dX8_luck_30 : decode cX8_luck 30 = .ok (.ireturn, 1) := by decide +kernel
theorem dX8_may_0 : decode cX8_may 0 = .ok (.aload_n 0, 1) := by decide +kernel
theorem dX8_may_1 : decode cX8_may 1 = .ok (.getfield 28, 3) := by decide +kernel
theorem dX8_may_4 : decode cX8_may 4 = .ok (.iload_n 2, 1) := by decide +kernel
theorem dX8_may_5 : decode cX8_may 5 = .ok (.invokevirtual 119, 3) := by decide +kernel
theorem dX8_may_8 : decode cX8_may 8 = .ok (.ifCond .ne 6, 3) := by decide +kernel
theorem dX8_may_11 : decode cX8_may 11 = .ok (.bipush (-2), 2) := by decide +kernel
theorem dX8_may_13 : decode cX8_may 13 = .ok (.ireturn, 1) := by decide +kernel
theorem dX8_mean_0 : decode cX8_mean 0 = .ok (.aload_n 0, 1) := by decide +kernel
theorem dX8_mean_1 : decode cX8_mean 1 = .ok (.iload_n 1, 1) := by decide +kernel
theorem dX8_mean_2 : decode cX8_mean 2 = .ok (.invokevirtual 342, 3) := by decide +kernel
theorem dX8_mean_5 : decode cX8_mean 5 = .ok (.ifCond .eq 10, 3) := by decide +kernel
theorem dX8_mean_15 : decode cX8_mean 15 = .ok (.ldc2_w 345, 3) := by decide +kernel
theorem dX8_mean_18 : decode cX8_mean 18 = .ok (.lreturn, 1) := by decide +kernel
theorem dX8_orders_0 : decode cX8_orders 0 = .ok (.aload_n 0, 1) := by decide +kernel
theorem dX8_orders_1 : decode cX8_orders 1 = .ok (.getfield 28, 3) := by decide +kernel
theorem dX8_orders_4 : decode cX8_orders 4 = .ok (.invokevirtual 146, 3) := by decide +kernel
theorem dX8_orders_7 : decode cX8_orders 7 = .ok (.ifCond .eq 13, 3) := by decide +kernel
theorem dX8_orders_20 : decode cX8_orders 20 = .ok (.bipush (-2), 2) := by decide +kernel
theorem dX8_orders_22 : decode cX8_orders 22 = .ok (.ireturn, 1) := by decide +kernel
theorem dX8_out_0 : decode cX8_out 0 = .ok (.aload_n 0, 1) := by decide +kernel
theorem dX8_out_1 : decode cX8_out 1 = .ok (.getfield 28, 3) := by decide +kernel
theorem dX8_out_4 : decode cX8_out 4 = .ok (.invokevirtual 146, 3) := by decide +kernel
theorem dX8_out_7 : decode cX8_out 7 = .ok (.ifCond .eq 24, 3) := by decide +kernel
theorem dX8_out_31 : decode cX8_out 31 = .ok (.bipush (-2), 2) := by decide +kernel
theorem dX8_out_33 : decode cX8_out 33 = .ok (.ireturn, 1) := by decide +kernel
theorem dX8_paces_0 : decode cX8_paces 0 = .ok (.aload_n 0, 1) := by decide +kernel
theorem dX8_paces_1 : decode cX8_paces 1 = .ok (.getfield 28, 3) := by decide +kernel
theorem dX8_paces_4 : decode cX8_paces 4 = .ok (.iload_n 1, 1) := by decide +kernel
theorem dX8_paces_5 : decode cX8_paces 5 = .ok (.invokevirtual 119, 3) := by decide +kernel
theorem dX8_paces_8 : decode cX8_paces 8 = .ok (.ifCond .eq 14, 3) := by decide +kernel
theorem dX8_paces_22 : decode cX8_paces 22 = .ok (.bipush (-2), 2) := by decide +kernel
theorem dX8_paces_24 : decode cX8_paces 24 = .ok (.ireturn, 1) := by decide +kernel
theorem dX8_pair_0 : decode cX8_pair 0 = .ok (.aload_n 0, 1) := by decide +kernel
theorem dX8_pair_1 : decode cX8_pair 1 = .ok (.getfield 28, 3) := by decide +kernel
theorem dX8_pair_4 : decode cX8_pair 4 = .ok (.iload_n 1, 1) := by decide +kernel
theorem dX8_pair_5 : decode cX8_pair 5 = .ok (.invokevirtual 131, 3) := by decide +kernel
theorem dX8_pair_8 : decode cX8_pair 8 = .ok (.ifCond .eq 12, 3) := by decide +kernel
theorem dX8_pair_20 : decode cX8_pair 20 = .ok (.bipush (-2), 2) := by decide +kernel
theorem dX8_pair_22 : decode cX8_pair 22 = .ok (.ireturn, 1) := by decide +kernel
theorem dX8_passes_0 : decode cX8_passes 0 = .ok (.aload_n 0, 1) := by decide +kernel
theorem dX8_passes_1 : decode cX8_passes 1 = .ok (.getfield 28, 3) := by decide +kernel
theorem dX8_passes_4 : decode cX8_passes 4 = .ok (.iload_n 1, 1) := by decide +kernel
theorem dX8_passes_5 : decode cX8_passes 5 = .ok (.invokevirtual 119, 3) := by decide +kernel
theorem dX8_passes_8 : decode cX8_passes 8 = .ok (.ifCond .eq 18, 3) := by decide +kernel
theorem dX8_passes_26 : decode cX8_passes 26 = .ok (.bipush (-2), 2) := by decide +kernel
theorem dX8_passes_28 : decode cX8_passes 28 = .ok (.ireturn, 1) := by decide +kernel
theorem dX8_paste_0 : decode cX8_paste 0 = .ok (.aload_n 0, 1) := by decide +kernel
theorem dX8_paste_1 : decode cX8_paste 1 = .ok (.getfield 42, 3) := by decide +kernel
theorem dX8_paste_4 : decode cX8_paste 4 = .ok (.iload_n 1, 1) := by decide +kernel
theorem dX8_paste_5 : decode cX8_paste 5 = .ok (.invokevirtual 386, 3) := by decide +kernel
theorem dX8_paste_8 : decode cX8_paste 8 = .ok (.ifCond .eq 14, 3) := by decide +kernel
theorem dX8_paste_11 : decode cX8_paste 11 = .ok (.aload_n 0, 1) := by decide +kernel
theorem dX8_paste_12 : decode cX8_paste 12 = .ok (.getfield 42, 3) := by decide +kernel
theorem dX8_paste_15 : decode cX8_paste 15 = .ok (.iload_n 3, 1) := by decide +kernel
theorem dX8_paste_16 : decode cX8_paste 16 = .ok (.invokevirtual 386, 3) := by decide +kernel
theorem dX8_paste_19 : decode cX8_paste 19 = .ok (.ifCond .ne 6, 3) := by decide +kernel
theorem dX8_paste_22 : decode cX8_paste 22 = .ok (.bipush (-2), 2) := by decide +kernel
theorem dX8_paste_24 : decode cX8_paste 24 = .ok (.ireturn, 1) := by decide +kernel
theorem dX8_paste_25 : decode cX8_paste 25 = .ok (.aload_n 0, 1) := by decide +kernel
theorem dX8_paste_26 : decode cX8_paste 26 = .ok (.getfield 42, 3) := by decide +kernel
theorem dX8_paste_29 : decode cX8_paste 29 = .ok (.iload_n 1, 1) := by decide +kernel
theorem dX8_paste_30 : decode cX8_paste 30 = .ok (.invokevirtual 392, 3) := by decide +kernel
theorem dX8_paste_33 : decode cX8_paste 33 = .ok (.ifCond .eq 14, 3) := by decide +kernel
theorem dX8_paste_47 : decode cX8_paste 47 = .ok (.bipush (-6), 2) := by decide +kernel
theorem dX8_paste_49 : decode cX8_paste 49 = .ok (.ireturn, 1) := by decide +kernel
theorem dX8_place_0 : decode cX8_place 0 = .ok (.aload_n 0, 1) := by decide +kernel
theorem dX8_place_1 : decode cX8_place 1 = .ok (.getfield 28, 3) := by decide +kernel
theorem dX8_place_4 : decode cX8_place 4 = .ok (.iload_n 1, 1) := by decide +kernel
theorem dX8_place_5 : decode cX8_place 5 = .ok (.invokevirtual 119, 3) := by decide +kernel
theorem dX8_place_8 : decode cX8_place 8 = .ok (.ifCond .ne 6, 3) := by decide +kernel
theorem dX8_place_11 : decode cX8_place 11 = .ok (.bipush (-2), 2) := by decide +kernel
theorem dX8_place_13 : decode cX8_place 13 = .ok (.ireturn, 1) := by decide +kernel
theorem dX8_queue_0 : decode cX8_queue 0 = .ok (.aload_n 0, 1) := by decide +kernel
theorem dX8_queue_1 : decode cX8_queue 1 = .ok (.getfield 28, 3) := by decide +kernel
theorem dX8_queue_4 : decode cX8_queue 4 = .ok (.invokevirtual 146, 3) := by decide +kernel
theorem dX8_queue_7 : decode cX8_queue 7 = .ok (.ifCond .ne 6, 3) := by decide +kernel
theorem dX8_queue_10 : decode cX8_queue 10 = .ok (.bipush (-2), 2) := by decide +kernel
theorem dX8_queue_12 : decode cX8_queue 12 = .ok (.ireturn, 1) := by decide +kernel
theorem dX8_rate_0 : decode cX8_rate 0 = .ok (.iload_n 1, 1) := by decide +kernel
theorem dX8_rate_1 : decode cX8_rate 1 = .ok (.invokestatic 122, 3) := by decide +kernel
theorem dX8_rate_4 : decode cX8_rate 4 = .ok (.ifCond .ne 6, 3) := by decide +kernel
theorem dX8_rate_7 : decode cX8_rate 7 = .ok (.bipush (-2), 2) := by decide +kernel
theorem dX8_rate_9 : decode cX8_rate 9 = .ok (.ireturn, 1) := by decide +kernel
theorem dX8_rate_10 : decode cX8_rate 10 = .ok (.aload_n 0, 1) := by decide +kernel
theorem dX8_rate_11 : decode cX8_rate 11 = .ok (.invokevirtual 271, 3) := by decide +kernel
theorem dX8_rate_14 : decode cX8_rate 14 = .ok (.istore_n 2, 1) := by decide +kernel
theorem dX8_rate_15 : decode cX8_rate 15 = .ok (.iload_n 2, 1) := by decide +kernel
theorem dX8_rate_16 : decode cX8_rate 16 = .ok (.ifCond .eq 7, 3) := by decide +kernel
theorem dX8_rate_19 : decode cX8_rate 19 = .ok (.iload_n 2, 1) := by decide +kernel
theorem dX8_rate_20 : decode cX8_rate 20 = .ok (.goto 24, 3) := by decide +kernel
theorem dX8_rate_44 : decode cX8_rate 44 = .ok (.ireturn, 1) := by decide +kernel
theorem dX8_ready_0 : decode cX8_ready 0 = .ok (.aload_n 0, 1) := by decide +kernel
theorem dX8_ready_1 : decode cX8_ready 1 = .ok (.aload_n 0, 1) := by decide +kernel
theorem dX8_ready_2 : decode cX8_ready 2 = .ok (.invokevirtual 153, 3) := by decide +kernel
theorem dX8_ready_5 : decode cX8_ready 5 = .ok (.getfield 178, 3) := by decide +kernel
theorem dX8_ready_8 : decode cX8_ready 8 = .ok (.iload_n 1, 1) := by decide +kernel
theorem dX8_ready_9 : decode cX8_ready 9 = .ok (.invokevirtual 171, 3) := by decide +kernel
theorem dX8_ready_12 : decode cX8_ready 12 = .ok (.ireturn, 1) := by decide +kernel
theorem dX8_rest_0 : decode cX8_rest 0 = .ok (.aload_n 0, 1) := by decide +kernel
theorem dX8_rest_1 : decode cX8_rest 1 = .ok (.getfield 28, 3) := by decide +kernel
theorem dX8_rest_4 : decode cX8_rest 4 = .ok (.iload_n 1, 1) := by decide +kernel
theorem dX8_rest_5 : decode cX8_rest 5 = .ok (.invokevirtual 119, 3) := by decide +kernel
theorem dX8_rest_8 : decode cX8_rest 8 = .ok (.ifCond .eq 25, 3) := by decide +kernel
theorem dX8_rest_33 : decode cX8_rest 33 = .ok (.bipush (-2), 2) := by decide +kernel
theorem dX8_rest_35 : decode cX8_rest 35 = .ok (.ireturn, 1) := by decide +kernel
theorem dX8_rests_0 : decode cX8_rests 0 = .ok (.aload_n 0, 1) := by decide +kernel
theorem dX8_rests_1 : decode cX8_rests 1 = .ok (.getfield 28, 3) := by decide +kernel
theorem dX8_rests_4 : decode cX8_rests 4 = .ok (.iload_n 1, 1) := by decide +kernel
theorem dX8_rests_5 : decode cX8_rests 5 = .ok (.invokevirtual 119, 3) := by decide +kernel
theorem dX8_rests_8 : decode cX8_rests 8 = .ok (.ifCond .eq 19, 3) := by decide +kernel
theorem dX8_rests_27 : decode cX8_rests 27 = .ok (.bipush (-2), 2) := by decide +kernel
theorem dX8_rests_29 : decode cX8_rests 29 = .ok (.ireturn, 1) := by decide +kernel
theorem dX8_river_0 : decode cX8_river 0 = .ok (.aload_n 0, 1) := by decide +kernel
theorem dX8_river_1 : decode cX8_river 1 = .ok (.aload_n 0, 1) := by decide +kernel
theorem dX8_river_2 : decode cX8_river 2 = .ok (.invokevirtual 153, 3) := by decide +kernel
theorem dX8_river_5 : decode cX8_river 5 = .ok (.getfield 181, 3) := by decide +kernel
theorem dX8_river_8 : decode cX8_river 8 = .ok (.iload_n 1, 1) := by decide +kernel
theorem dX8_river_9 : decode cX8_river 9 = .ok (.invokevirtual 171, 3) := by decide +kernel
theorem dX8_river_12 : decode cX8_river 12 = .ok (.ireturn, 1) := by decide +kernel
theorem dX8_road_0 : decode cX8_road 0 = .ok (.aload_n 0, 1) := by decide +kernel
theorem dX8_road_1 : decode cX8_road 1 = .ok (.aload_n 0, 1) := by decide +kernel
theorem dX8_road_2 : decode cX8_road 2 = .ok (.invokevirtual 153, 3) := by decide +kernel
theorem dX8_road_5 : decode cX8_road 5 = .ok (.getfield 184, 3) := by decide +kernel
theorem dX8_road_8 : decode cX8_road 8 = .ok (.iload_n 1, 1) := by decide +kernel
theorem dX8_road_9 : decode cX8_road 9 = .ok (.invokevirtual 171, 3) := by decide +kernel
theorem dX8_road_12 : decode cX8_road 12 = .ok (.ireturn, 1) := by decide +kernel
theorem dX8_round_0 : decode cX8_round 0 = .ok (.aload_n 0, 1) := by decide +kernel
theorem dX8_round_1 : decode cX8_round 1 = .ok (.invokevirtual 271, 3) := by decide +kernel
theorem dX8_round_4 : decode cX8_round 4 = .ok (.istore_n 1, 1) := by decide +kernel
theorem dX8_round_5 : decode cX8_round 5 = .ok (.iload_n 1, 1) := by decide +kernel
theorem dX8_round_6 : decode cX8_round 6 = .ok (.ifCond .eq 7, 3) := by decide +kernel
theorem dX8_round_9 : decode cX8_round 9 = .ok (.iload_n 1, 1) := by decide +kernel
theorem dX8_round_10 : decode cX8_round 10 = .ok (.goto 10, 3) := by decide +kernel
theorem dX8_round_20 : decode cX8_round 20 = .ok (.ireturn, 1) := by decide +kernel
theorem dX8_roundRefusal_0 : decode cX8_roundRefusal 0 = .ok (.aload_n 0, 1) := by decide +kernel
theorem dX8_roundRefusal_1 : decode cX8_roundRefusal 1 = .ok (.getfield 28, 3) := by decide +kernel
theorem dX8_roundRefusal_4 : decode cX8_roundRefusal 4 = .ok (.invokevirtual 146, 3) := by decide +kernel
theorem dX8_roundRefusal_7 : decode cX8_roundRefusal 7 = .ok (.ifCond .ne 6, 3) := by decide +kernel
theorem dX8_roundRefusal_10 : decode cX8_roundRefusal 10 = .ok (.bipush (-2), 2) := by decide +kernel
theorem dX8_roundRefusal_12 : decode cX8_roundRefusal 12 = .ok (.ireturn, 1) := by decide +kernel
theorem dX8_row_0 : decode cX8_row 0 = .ok (.aload_n 0, 1) := by decide +kernel
theorem dX8_row_1 : decode cX8_row 1 = .ok (.getfield 42, 3) := by decide +kernel
theorem dX8_row_4 : decode cX8_row 4 = .ok (.iload_n 1, 1) := by decide +kernel
theorem dX8_row_5 : decode cX8_row 5 = .ok (.invokevirtual 386, 3) := by decide +kernel
theorem dX8_row_8 : decode cX8_row 8 = .ok (.ifCond .eq 18, 3) := by decide +kernel
theorem dX8_row_11 : decode cX8_row 11 = .ok (.iload_n 2, 1) := by decide +kernel
theorem dX8_row_12 : decode cX8_row 12 = .ok (.ifCond .lt 14, 3) := by decide +kernel
theorem dX8_row_15 : decode cX8_row 15 = .ok (.iload_n 2, 1) := by decide +kernel
theorem dX8_row_16 : decode cX8_row 16 = .ok (.iconst 3, 1) := by decide +kernel
theorem dX8_row_17 : decode cX8_row 17 = .ok (.if_icmp .gt 9, 3) := by decide +kernel
theorem dX8_row_20 : decode cX8_row 20 = .ok (.iload_n 3, 1) := by decide +kernel
theorem dX8_row_21 : decode cX8_row 21 = .ok (.bipush 60, 2) := by decide +kernel
theorem dX8_row_23 : decode cX8_row 23 = .ok (.if_icmp .le 6, 3) := by decide +kernel
theorem dX8_row_26 : decode cX8_row 26 = .ok (.bipush (-2), 2) := by decide +kernel
theorem dX8_row_28 : decode cX8_row 28 = .ok (.ireturn, 1) := by decide +kernel
theorem dX8_row_29 : decode cX8_row 29 = .ok (.iload_n 3, 1) := by decide +kernel
theorem dX8_row_30 : decode cX8_row 30 = .ok (.ifCond .ge 6, 3) := by decide +kernel
theorem dX8_row_33 : decode cX8_row 33 = .ok (.bipush (-3), 2) := by decide +kernel
theorem dX8_row_35 : decode cX8_row 35 = .ok (.ireturn, 1) := by decide +kernel
theorem dX8_row_36 : decode cX8_row 36 = .ok (.aload_n 0, 1) := by decide +kernel
theorem dX8_row_37 : decode cX8_row 37 = .ok (.getfield 42, 3) := by decide +kernel
theorem dX8_row_40 : decode cX8_row 40 = .ok (.iload_n 1, 1) := by decide +kernel
theorem dX8_row_41 : decode cX8_row 41 = .ok (.iload_n 2, 1) := by decide +kernel
theorem dX8_row_42 : decode cX8_row 42 = .ok (.iload_n 3, 1) := by decide +kernel
theorem dX8_row_43 : decode cX8_row 43 = .ok (.invokevirtual 389, 3) := by decide +kernel
theorem dX8_row_46 : decode cX8_row 46 = .ok (.iconst 0, 1) := by decide +kernel
theorem dX8_row_47 : decode cX8_row 47 = .ok (.ireturn, 1) := by decide +kernel
theorem dX8_seenRefusal_0 : decode cX8_seenRefusal 0 = .ok (.aload_n 0, 1) := by decide +kernel
theorem dX8_seenRefusal_1 : decode cX8_seenRefusal 1 = .ok (.getfield 42, 3) := by decide +kernel
theorem dX8_seenRefusal_4 : decode cX8_seenRefusal 4 = .ok (.iload_n 1, 1) := by decide +kernel
theorem dX8_seenRefusal_5 : decode cX8_seenRefusal 5 = .ok (.invokevirtual 386, 3) := by decide +kernel
theorem dX8_seenRefusal_8 : decode cX8_seenRefusal 8 = .ok (.ifCond .eq 13, 3) := by decide +kernel
theorem dX8_seenRefusal_11 : decode cX8_seenRefusal 11 = .ok (.aload_n 0, 1) := by decide +kernel
theorem dX8_seenRefusal_12 : decode cX8_seenRefusal 12 = .ok (.getfield 28, 3) := by decide +kernel
theorem dX8_seenRefusal_15 : decode cX8_seenRefusal 15 = .ok (.invokevirtual 146, 3) := by decide +kernel
theorem dX8_seenRefusal_18 : decode cX8_seenRefusal 18 = .ok (.ifCond .ne 6, 3) := by decide +kernel
theorem dX8_seenRefusal_21 : decode cX8_seenRefusal 21 = .ok (.bipush (-2), 2) := by decide +kernel
theorem dX8_seenRefusal_23 : decode cX8_seenRefusal 23 = .ok (.ireturn, 1) := by decide +kernel
theorem dX8_settles_0 : decode cX8_settles 0 = .ok (.aload_n 0, 1) := by decide +kernel
theorem dX8_settles_1 : decode cX8_settles 1 = .ok (.invokevirtual 271, 3) := by decide +kernel
theorem dX8_settles_4 : decode cX8_settles 4 = .ok (.istore_n 1, 1) := by decide +kernel
theorem dX8_settles_5 : decode cX8_settles 5 = .ok (.iload_n 1, 1) := by decide +kernel
theorem dX8_settles_6 : decode cX8_settles 6 = .ok (.ifCond .eq 7, 3) := by decide +kernel
theorem dX8_settles_9 : decode cX8_settles 9 = .ok (.iload_n 1, 1) := by decide +kernel
theorem dX8_settles_10 : decode cX8_settles 10 = .ok (.goto 10, 3) := by decide +kernel
theorem dX8_settles_20 : decode cX8_settles 20 = .ok (.ireturn, 1) := by decide +kernel
theorem dX8_share_0 : decode cX8_share 0 = .ok (.aload_n 0, 1) := by decide +kernel
theorem dX8_share_1 : decode cX8_share 1 = .ok (.getfield 28, 3) := by decide +kernel
theorem dX8_share_4 : decode cX8_share 4 = .ok (.iload_n 1, 1) := by decide +kernel
theorem dX8_share_5 : decode cX8_share 5 = .ok (.invokevirtual 119, 3) := by decide +kernel
theorem dX8_share_8 : decode cX8_share 8 = .ok (.ifCond .eq 10, 3) := by decide +kernel
theorem dX8_share_18 : decode cX8_share 18 = .ok (.bipush (-2), 2) := by decide +kernel
theorem dX8_share_20 : decode cX8_share 20 = .ok (.ireturn, 1) := by decide +kernel
theorem dX8_size_0 : decode cX8_size 0 = .ok (.aload_n 0, 1) := by decide +kernel
theorem dX8_size_1 : decode cX8_size 1 = .ok (.getfield 28, 3) := by decide +kernel
theorem dX8_size_4 : decode cX8_size 4 = .ok (.invokevirtual 146, 3) := by decide +kernel
theorem dX8_size_7 : decode cX8_size 7 = .ok (.ifCond .ne 6, 3) := by decide +kernel
theorem dX8_size_10 : decode cX8_size 10 = .ok (.bipush (-2), 2) := by decide +kernel
theorem dX8_size_12 : decode cX8_size 12 = .ok (.ireturn, 1) := by decide +kernel
theorem dX8_slow_0 : decode cX8_slow 0 = .ok (.aload_n 0, 1) := by decide +kernel
theorem dX8_slow_1 : decode cX8_slow 1 = .ok (.getfield 28, 3) := by decide +kernel
theorem dX8_slow_4 : decode cX8_slow 4 = .ok (.invokevirtual 146, 3) := by decide +kernel
theorem dX8_slow_7 : decode cX8_slow 7 = .ok (.ifCond .ne 6, 3) := by decide +kernel
theorem dX8_slow_10 : decode cX8_slow 10 = .ok (.bipush (-2), 2) := by decide +kernel
theorem dX8_slow_12 : decode cX8_slow 12 = .ok (.ireturn, 1) := by decide +kernel
theorem dX8_soonest_0 : decode cX8_soonest 0 = .ok (.aload_n 0, 1) := by decide +kernel
theorem dX8_soonest_1 : decode cX8_soonest 1 = .ok (.getfield 28, 3) := by decide +kernel
theorem dX8_soonest_4 : decode cX8_soonest 4 = .ok (.invokevirtual 146, 3) := by decide +kernel
theorem dX8_soonest_7 : decode cX8_soonest 7 = .ok (.ifCond .ne 6, 3) := by decide +kernel
theorem dX8_soonest_10 : decode cX8_soonest 10 = .ok (.bipush (-2), 2) := by decide +kernel
theorem dX8_soonest_12 : decode cX8_soonest 12 = .ok (.ireturn, 1) := by decide +kernel
theorem dX8_spilt_0 : decode cX8_spilt 0 = .ok (.aload_n 0, 1) := by decide +kernel
theorem dX8_spilt_1 : decode cX8_spilt 1 = .ok (.aload_n 0, 1) := by decide +kernel
theorem dX8_spilt_2 : decode cX8_spilt 2 = .ok (.invokevirtual 153, 3) := by decide +kernel
theorem dX8_spilt_5 : decode cX8_spilt 5 = .ok (.getfield 190, 3) := by decide +kernel
theorem dX8_spilt_8 : decode cX8_spilt 8 = .ok (.iload_n 1, 1) := by decide +kernel
theorem dX8_spilt_9 : decode cX8_spilt 9 = .ok (.invokevirtual 171, 3) := by decide +kernel
theorem dX8_spilt_12 : decode cX8_spilt 12 = .ok (.ireturn, 1) := by decide +kernel
theorem dX8_starts_0 : decode cX8_starts 0 = .ok (.aload_n 0, 1) := by decide +kernel
theorem dX8_starts_1 : decode cX8_starts 1 = .ok (.getfield 28, 3) := by decide +kernel
theorem dX8_starts_4 : decode cX8_starts 4 = .ok (.iload_n 1, 1) := by decide +kernel
theorem dX8_starts_5 : decode cX8_starts 5 = .ok (.invokevirtual 119, 3) := by decide +kernel
theorem dX8_starts_8 : decode cX8_starts 8 = .ok (.ifCond .ne 6, 3) := by decide +kernel
theorem dX8_starts_11 : decode cX8_starts 11 = .ok (.bipush (-2), 2) := by decide +kernel
theorem dX8_starts_13 : decode cX8_starts 13 = .ok (.ireturn, 1) := by decide +kernel
theorem dX8_stays_0 : decode cX8_stays 0 = .ok (.aload_n 0, 1) := by decide +kernel
theorem dX8_stays_1 : decode cX8_stays 1 = .ok (.getfield 28, 3) := by decide +kernel
theorem dX8_stays_4 : decode cX8_stays 4 = .ok (.iload_n 1, 1) := by decide +kernel
theorem dX8_stays_5 : decode cX8_stays 5 = .ok (.invokevirtual 119, 3) := by decide +kernel
theorem dX8_stays_8 : decode cX8_stays 8 = .ok (.ifCond .eq 18, 3) := by decide +kernel
theorem dX8_stays_26 : decode cX8_stays 26 = .ok (.bipush (-2), 2) := by decide +kernel
theorem dX8_stays_28 : decode cX8_stays 28 = .ok (.ireturn, 1) := by decide +kernel
theorem dX8_thrown_0 : decode cX8_thrown 0 = .ok (.aload_n 0, 1) := by decide +kernel
theorem dX8_thrown_1 : decode cX8_thrown 1 = .ok (.aload_n 0, 1) := by decide +kernel
theorem dX8_thrown_2 : decode cX8_thrown 2 = .ok (.invokevirtual 153, 3) := by decide +kernel
theorem dX8_thrown_5 : decode cX8_thrown 5 = .ok (.getfield 187, 3) := by decide +kernel
theorem dX8_thrown_8 : decode cX8_thrown 8 = .ok (.iload_n 1, 1) := by decide +kernel
theorem dX8_thrown_9 : decode cX8_thrown 9 = .ok (.invokevirtual 171, 3) := by decide +kernel
theorem dX8_thrown_12 : decode cX8_thrown 12 = .ok (.ireturn, 1) := by decide +kernel
theorem dX8_told_0 : decode cX8_told 0 = .ok (.aload_n 0, 1) := by decide +kernel
theorem dX8_told_1 : decode cX8_told 1 = .ok (.getfield 74, 3) := by decide +kernel
theorem dX8_told_4 : decode cX8_told 4 = .ok (.ifCond .ne 27, 3) := by decide +kernel
theorem dX8_told_7 : decode cX8_told 7 = .ok (.aload_n 0, 1) := by decide +kernel
theorem dX8_told_8 : decode cX8_told 8 = .ok (.invokevirtual 237, 3) := by decide +kernel
theorem dX8_told_11 : decode cX8_told 11 = .ok (.aload_n 0, 1) := by decide +kernel
theorem dX8_told_12 : decode cX8_told 12 = .ok (.getfield 56, 3) := by decide +kernel
theorem dX8_told_15 : decode cX8_told 15 = .ok (.aload_n 0, 1) := by decide +kernel
theorem dX8_told_16 : decode cX8_told 16 = .ok (.getfield 28, 3) := by decide +kernel
theorem dX8_told_19 : decode cX8_told 19 = .ok (.aload_n 0, 1) := by decide +kernel
theorem dX8_told_20 : decode cX8_told 20 = .ok (.getfield 49, 3) := by decide +kernel
theorem dX8_told_23 : decode cX8_told 23 = .ok (.invokevirtual 412, 3) := by decide +kernel
theorem dX8_told_26 : decode cX8_told 26 = .ok (.aload_n 0, 1) := by decide +kernel
theorem dX8_told_27 : decode cX8_told 27 = .ok (.iconst 1, 1) := by decide +kernel
theorem dX8_told_28 : decode cX8_told 28 = .ok (.putfield 74, 3) := by decide +kernel
theorem dX8_told_31 : decode cX8_told 31 = .ok (.aload_n 0, 1) := by decide +kernel
theorem dX8_told_32 : decode cX8_told 32 = .ok (.getfield 56, 3) := by decide +kernel
theorem dX8_told_35 : decode cX8_told 35 = .ok (.areturn, 1) := by decide +kernel
theorem dX8_undo_0 : decode cX8_undo 0 = .ok (.aload_n 0, 1) := by decide +kernel
theorem dX8_undo_1 : decode cX8_undo 1 = .ok (.getfield 28, 3) := by decide +kernel
theorem dX8_undo_4 : decode cX8_undo 4 = .ok (.invokevirtual 146, 3) := by decide +kernel
theorem dX8_undo_7 : decode cX8_undo 7 = .ok (.ifCond .ne 6, 3) := by decide +kernel
theorem dX8_undo_10 : decode cX8_undo 10 = .ok (.bipush (-2), 2) := by decide +kernel
theorem dX8_undo_12 : decode cX8_undo 12 = .ok (.ireturn, 1) := by decide +kernel
theorem dX8_until_0 : decode cX8_until 0 = .ok (.iload_n 1, 1) := by decide +kernel
theorem dX8_until_1 : decode cX8_until 1 = .ok (.ifCond .lt 13, 3) := by decide +kernel
theorem dX8_until_4 : decode cX8_until 4 = .ok (.aload_n 0, 1) := by decide +kernel
theorem dX8_until_5 : decode cX8_until 5 = .ok (.getfield 28, 3) := by decide +kernel
theorem dX8_until_8 : decode cX8_until 8 = .ok (.invokevirtual 146, 3) := by decide +kernel
theorem dX8_until_11 : decode cX8_until 11 = .ok (.ifCond .ne 6, 3) := by decide +kernel
theorem dX8_until_14 : decode cX8_until 14 = .ok (.bipush (-2), 2) := by decide +kernel
theorem dX8_until_16 : decode cX8_until 16 = .ok (.ireturn, 1) := by decide +kernel
theorem dX8_waits_0 : decode cX8_waits 0 = .ok (.aload_n 0, 1) := by decide +kernel
theorem dX8_waits_1 : decode cX8_waits 1 = .ok (.aload_n 0, 1) := by decide +kernel
theorem dX8_waits_2 : decode cX8_waits 2 = .ok (.invokevirtual 153, 3) := by decide +kernel
theorem dX8_waits_5 : decode cX8_waits 5 = .ok (.getfield 175, 3) := by decide +kernel
theorem dX8_waits_8 : decode cX8_waits 8 = .ok (.iload_n 1, 1) := by decide +kernel
theorem dX8_waits_9 : decode cX8_waits 9 = .ok (.invokevirtual 171, 3) := by decide +kernel
theorem dX8_waits_12 : decode cX8_waits 12 = .ok (.ireturn, 1) := by decide +kernel
theorem dX8_water_0 : decode cX8_water 0 = .ok (.aload_n 0, 1) := by decide +kernel
theorem dX8_water_1 : decode cX8_water 1 = .ok (.getfield 28, 3) := by decide +kernel
theorem dX8_water_4 : decode cX8_water 4 = .ok (.iload_n 1, 1) := by decide +kernel
theorem dX8_water_5 : decode cX8_water 5 = .ok (.invokevirtual 150, 3) := by decide +kernel
theorem dX8_water_8 : decode cX8_water 8 = .ok (.ifCond .eq 14, 3) := by decide +kernel
theorem dX8_water_22 : decode cX8_water 22 = .ok (.bipush (-2), 2) := by decide +kernel
theorem dX8_water_24 : decode cX8_water 24 = .ok (.ireturn, 1) := by decide +kernel
theorem dX8_when_0 : decode cX8_when 0 = .ok (.iload_n 1, 1) := by decide +kernel
theorem dX8_when_1 : decode cX8_when 1 = .ok (.ifCond .lt 13, 3) := by decide +kernel
theorem dX8_when_4 : decode cX8_when 4 = .ok (.aload_n 0, 1) := by decide +kernel
theorem dX8_when_5 : decode cX8_when 5 = .ok (.getfield 28, 3) := by decide +kernel
theorem dX8_when_8 : decode cX8_when 8 = .ok (.invokevirtual 146, 3) := by decide +kernel
theorem dX8_when_11 : decode cX8_when 11 = .ok (.ifCond .ne 6, 3) := by decide +kernel
theorem dX8_when_14 : decode cX8_when 14 = .ok (.bipush (-2), 2) := by decide +kernel
theorem dX8_when_16 : decode cX8_when 16 = .ok (.ireturn, 1) := by decide +kernel
theorem dX8_with_0 : decode cX8_with 0 = .ok (.iload_n 1, 1) := by decide +kernel
theorem dX8_with_1 : decode cX8_with 1 = .ok (.iconst 1, 1) := by decide +kernel
theorem dX8_with_2 : decode cX8_with 2 = .ok (.if_icmp .lt 19, 3) := by decide +kernel
theorem dX8_with_5 : decode cX8_with 5 = .ok (.iload_n 1, 1) := by decide +kernel
theorem dX8_with_6 : decode cX8_with 6 = .ok (.bipush 8, 2) := by decide +kernel
theorem dX8_with_8 : decode cX8_with 8 = .ok (.if_icmp .gt 13, 3) := by decide +kernel
theorem dX8_with_11 : decode cX8_with 11 = .ok (.aload_n 0, 1) := by decide +kernel
theorem dX8_with_12 : decode cX8_with 12 = .ok (.getfield 28, 3) := by decide +kernel
theorem dX8_with_15 : decode cX8_with 15 = .ok (.invokevirtual 146, 3) := by decide +kernel
theorem dX8_with_18 : decode cX8_with 18 = .ok (.ifCond .ne 6, 3) := by decide +kernel
theorem dX8_with_21 : decode cX8_with 21 = .ok (.bipush (-2), 2) := by decide +kernel
theorem dX8_with_23 : decode cX8_with 23 = .ok (.ireturn, 1) := by decide +kernel
theorem dX8_without_0 : decode cX8_without 0 = .ok (.aload_n 0, 1) := by decide +kernel
theorem dX8_without_1 : decode cX8_without 1 = .ok (.getfield 28, 3) := by decide +kernel
theorem dX8_without_4 : decode cX8_without 4 = .ok (.iload_n 1, 1) := by decide +kernel
theorem dX8_without_5 : decode cX8_without 5 = .ok (.invokevirtual 119, 3) := by decide +kernel
theorem dX8_without_8 : decode cX8_without 8 = .ok (.ifCond .eq 23, 3) := by decide +kernel
theorem dX8_without_31 : decode cX8_without 31 = .ok (.bipush (-2), 2) := by decide +kernel
theorem dX8_without_33 : decode cX8_without 33 = .ok (.ireturn, 1) := by decide +kernel
theorem dX8_worst_0 : decode cX8_worst 0 = .ok (.aload_n 0, 1) := by decide +kernel
theorem dX8_worst_1 : decode cX8_worst 1 = .ok (.getfield 28, 3) := by decide +kernel
theorem dX8_worst_4 : decode cX8_worst 4 = .ok (.invokevirtual 146, 3) := by decide +kernel
theorem dX8_worst_7 : decode cX8_worst 7 = .ok (.ifCond .ne 6, 3) := by decide +kernel
theorem dX8_worst_10 : decode cX8_worst 10 = .ok (.bipush (-2), 2) := by decide +kernel
theorem dX8_worst_12 : decode cX8_worst 12 = .ok (.ireturn, 1) := by decide +kernel
theorem dX8_write_0 : decode cX8_write 0 = .ok (.aload_n 0, 1) := by decide +kernel
theorem dX8_write_1 : decode cX8_write 1 = .ok (.getfield 42, 3) := by decide +kernel
theorem dX8_write_4 : decode cX8_write 4 = .ok (.iload_n 1, 1) := by decide +kernel
theorem dX8_write_5 : decode cX8_write 5 = .ok (.invokevirtual 386, 3) := by decide +kernel
theorem dX8_write_8 : decode cX8_write 8 = .ok (.ifCond .ne 6, 3) := by decide +kernel
theorem dX8_write_11 : decode cX8_write 11 = .ok (.bipush (-2), 2) := by decide +kernel
theorem dX8_write_13 : decode cX8_write 13 = .ok (.ireturn, 1) := by decide +kernel
theorem dX8_write_14 : decode cX8_write 14 = .ok (.aload_n 0, 1) := by decide +kernel
theorem dX8_write_15 : decode cX8_write 15 = .ok (.getfield 42, 3) := by decide +kernel
theorem dX8_write_18 : decode cX8_write 18 = .ok (.iload_n 1, 1) := by decide +kernel
theorem dX8_write_19 : decode cX8_write 19 = .ok (.invokevirtual 392, 3) := by decide +kernel
theorem dX8_write_22 : decode cX8_write 22 = .ok (.ifCond .ne 6, 3) := by decide +kernel
theorem dX8_write_25 : decode cX8_write 25 = .ok (.bipush (-6), 2) := by decide +kernel
theorem dX8_write_27 : decode cX8_write 27 = .ok (.ireturn, 1) := by decide +kernel
theorem dX9_advance_0 : decode cX9_advance 0 = .ok (.aload_n 0, 1) := by decide +kernel
theorem dX9_advance_1 : decode cX9_advance 1 = .ok (.aload_n 0, 1) := by decide +kernel
theorem dX9_advance_2 : decode cX9_advance 2 = .ok (.getfield 142, 3) := by decide +kernel
theorem dX9_advance_5 : decode cX9_advance 5 = .ok (.invokevirtual 145, 3) := by decide +kernel
theorem dX9_advance_8 : decode cX9_advance 8 = .ok (.bipush 32, 2) := by decide +kernel
theorem dX9_advance_10 : decode cX9_advance 10 = .ok (.if_icmp .eq 16, 3) := by decide +kernel
theorem dX9_advance_13 : decode cX9_advance 13 = .ok (.aload_n 0, 1) := by decide +kernel
theorem dX9_advance_14 : decode cX9_advance 14 = .ok (.aload_n 0, 1) := by decide +kernel
theorem dX9_advance_15 : decode cX9_advance 15 = .ok (.getfield 142, 3) := by decide +kernel
theorem dX9_advance_18 : decode cX9_advance 18 = .ok (.invokevirtual 145, 3) := by decide +kernel
theorem dX9_advance_21 : decode cX9_advance 21 = .ok (.bipush 10, 2) := by decide +kernel
theorem dX9_advance_23 : decode cX9_advance 23 = .ok (.if_icmp .ne 16, 3) := by decide +kernel
theorem dX9_advance_39 : decode cX9_advance 39 = .ok (.aload_n 0, 1) := by decide +kernel
theorem dX9_advance_40 : decode cX9_advance 40 = .ok (.aload_n 0, 1) := by decide +kernel
theorem dX9_advance_41 : decode cX9_advance 41 = .ok (.getfield 142, 3) := by decide +kernel
theorem dX9_advance_44 : decode cX9_advance 44 = .ok (.putfield 149, 3) := by decide +kernel
theorem dX9_advance_47 : decode cX9_advance 47 = .ok (.aload_n 0, 1) := by decide +kernel
theorem dX9_advance_48 : decode cX9_advance 48 = .ok (.aload_n 0, 1) := by decide +kernel
theorem dX9_advance_49 : decode cX9_advance 49 = .ok (.getfield 142, 3) := by decide +kernel
theorem dX9_advance_52 : decode cX9_advance 52 = .ok (.invokevirtual 145, 3) := by decide +kernel
theorem dX9_advance_55 : decode cX9_advance 55 = .ok (.istore_n 1, 1) := by decide +kernel
theorem dX9_advance_56 : decode cX9_advance 56 = .ok (.iload_n 1, 1) := by decide +kernel
theorem dX9_advance_57 : decode cX9_advance 57 = .ok (.iconst (-1), 1) := by decide +kernel
theorem dX9_advance_58 : decode cX9_advance 58 = .ok (.if_icmp .ne 11, 3) := by decide +kernel
theorem dX9_advance_61 : decode cX9_advance 61 = .ok (.aload_n 0, 1) := by decide +kernel
theorem dX9_advance_62 : decode cX9_advance 62 = .ok (.iconst 0, 1) := by decide +kernel
theorem dX9_advance_63 : decode cX9_advance 63 = .ok (.putfield 152, 3) := by decide +kernel
theorem dX9_advance_66 : decode cX9_advance 66 = .ok (.goto 173, 3) := by decide +kernel
theorem dX9_advance_239 : decode cX9_advance 239 = .ok (.return_, 1) := by decide +kernel
theorem dX9_anew_0 : decode cX9_anew 0 = .ok (.aload_n 0, 1) := by decide +kernel
theorem dX9_anew_1 : decode cX9_anew 1 = .ok (.invokevirtual 301, 3) := by decide +kernel
theorem dX9_anew_4 : decode cX9_anew 4 = .ok (.ifCond .ne 6, 3) := by decide +kernel
theorem dX9_anew_7 : decode cX9_anew 7 = .ok (.bipush (-2), 2) := by decide +kernel
theorem dX9_anew_9 : decode cX9_anew 9 = .ok (.ireturn, 1) := by decide +kernel
theorem dX9_areTwo_0 : decode cX9_areTwo 0 = .ok (.aload_n 0, 1) := by decide +kernel
theorem dX9_areTwo_1 : decode cX9_areTwo 1 = .ok (.iload_n 1, 1) := by decide +kernel
theorem dX9_areTwo_2 : decode cX9_areTwo 2 = .ok (.invokevirtual 314, 3) := by decide +kernel
theorem dX9_areTwo_5 : decode cX9_areTwo 5 = .ok (.ifCond .eq 20, 3) := by decide +kernel
theorem dX9_areTwo_25 : decode cX9_areTwo 25 = .ok (.iconst 0, 1) := by decide +kernel
theorem dX9_areTwo_26 : decode cX9_areTwo 26 = .ok (.ireturn, 1) := by decide +kernel
theorem dX9_asItIs_0 : decode cX9_asItIs 0 = .ok (.iconst 0, 1) := by decide +kernel
theorem dX9_asItIs_1 : decode cX9_asItIs 1 = .ok (.istore_n 1, 1) := by decide +kernel
theorem dX9_asItIs_2 : decode cX9_asItIs 2 = .ok (.iload_n 1, 1) := by decide +kernel
theorem dX9_asItIs_3 : decode cX9_asItIs 3 = .ok (.bipush 6, 2) := by decide +kernel
theorem dX9_asItIs_5 : decode cX9_asItIs 5 = .ok (.if_icmp .ge 33, 3) := by decide +kernel
theorem dX9_asItIs_8 : decode cX9_asItIs 8 = .ok (.aload_n 0, 1) := by decide +kernel
theorem dX9_asItIs_9 : decode cX9_asItIs 9 = .ok (.getfield 34, 3) := by decide +kernel
theorem dX9_asItIs_12 : decode cX9_asItIs 12 = .ok (.iload_n 1, 1) := by decide +kernel
theorem dX9_asItIs_13 : decode cX9_asItIs 13 = .ok (.aload_n 0, 1) := by decide +kernel
theorem dX9_asItIs_14 : decode cX9_asItIs 14 = .ok (.getfield 9, 3) := by decide +kernel
theorem dX9_asItIs_17 : decode cX9_asItIs 17 = .ok (.bipush 11, 2) := by decide +kernel
theorem dX9_asItIs_19 : decode cX9_asItIs 19 = .ok (.iconst 2, 1) := by decide +kernel
theorem dX9_asItIs_20 : decode cX9_asItIs 20 = .ok (.iload_n 1, 1) := by decide +kernel
theorem dX9_asItIs_21 : decode cX9_asItIs 21 = .ok (.imul, 1) := by decide +kernel
theorem dX9_asItIs_22 : decode cX9_asItIs 22 = .ok (.iadd, 1) := by decide +kernel
theorem dX9_asItIs_23 : decode cX9_asItIs 23 = .ok (.iaload, 1) := by decide +kernel
theorem dX9_asItIs_24 : decode cX9_asItIs 24 = .ok (.iastore, 1) := by decide +kernel
theorem dX9_asItIs_25 : decode cX9_asItIs 25 = .ok (.aload_n 0, 1) := by decide +kernel
theorem dX9_asItIs_26 : decode cX9_asItIs 26 = .ok (.getfield 40, 3) := by decide +kernel
theorem dX9_asItIs_29 : decode cX9_asItIs 29 = .ok (.iload_n 1, 1) := by decide +kernel
theorem dX9_asItIs_30 : decode cX9_asItIs 30 = .ok (.iload_n 1, 1) := by decide +kernel
theorem dX9_asItIs_31 : decode cX9_asItIs 31 = .ok (.iastore, 1) := by decide +kernel
theorem dX9_asItIs_32 : decode cX9_asItIs 32 = .ok (.iinc 1 1, 3) := by decide +kernel
theorem dX9_asItIs_35 : decode cX9_asItIs 35 = .ok (.goto (-33), 3) := by decide +kernel
theorem dX9_asItIs_38 : decode cX9_asItIs 38 = .ok (.iconst 0, 1) := by decide +kernel
theorem dX9_asItIs_39 : decode cX9_asItIs 39 = .ok (.istore_n 1, 1) := by decide +kernel
theorem dX9_asItIs_40 : decode cX9_asItIs 40 = .ok (.iload_n 1, 1) := by decide +kernel
theorem dX9_asItIs_41 : decode cX9_asItIs 41 = .ok (.sipush 360, 3) := by decide +kernel
theorem dX9_asItIs_44 : decode cX9_asItIs 44 = .ok (.if_icmp .ge 16, 3) := by decide +kernel
theorem dX9_asItIs_47 : decode cX9_asItIs 47 = .ok (.aload_n 0, 1) := by decide +kernel
theorem dX9_asItIs_48 : decode cX9_asItIs 48 = .ok (.getfield 37, 3) := by decide +kernel
theorem dX9_asItIs_51 : decode cX9_asItIs 51 = .ok (.iload_n 1, 1) := by decide +kernel
theorem dX9_asItIs_52 : decode cX9_asItIs 52 = .ok (.iconst 0, 1) := by decide +kernel
theorem dX9_asItIs_53 : decode cX9_asItIs 53 = .ok (.bastore, 1) := by decide +kernel
theorem dX9_asItIs_54 : decode cX9_asItIs 54 = .ok (.iinc 1 1, 3) := by decide +kernel
theorem dX9_asItIs_57 : decode cX9_asItIs 57 = .ok (.goto (-17), 3) := by decide +kernel
theorem dX9_asItIs_60 : decode cX9_asItIs 60 = .ok (.iconst 0, 1) := by decide +kernel
theorem dX9_asItIs_61 : decode cX9_asItIs 61 = .ok (.istore_n 1, 1) := by decide +kernel
theorem dX9_asItIs_62 : decode cX9_asItIs 62 = .ok (.iload_n 1, 1) := by decide +kernel
theorem dX9_asItIs_63 : decode cX9_asItIs 63 = .ok (.bipush 60, 2) := by decide +kernel
theorem dX9_asItIs_65 : decode cX9_asItIs 65 = .ok (.if_icmp .ge 16, 3) := by decide +kernel
theorem dX9_asItIs_68 : decode cX9_asItIs 68 = .ok (.aload_n 0, 1) := by decide +kernel
theorem dX9_asItIs_69 : decode cX9_asItIs 69 = .ok (.getfield 43, 3) := by decide +kernel
theorem dX9_asItIs_72 : decode cX9_asItIs 72 = .ok (.iload_n 1, 1) := by decide +kernel
