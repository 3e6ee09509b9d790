theorem d_L_batch_0 : decode c_L_batch 0 = .ok (.aload_n 2, 1) := by decide +kernel
theorem d_L_batch_1 : decode c_L_batch 1 = .ok (.iconst 0, 1) := by decide +kernel
theorem d_L_batch_2 : decode c_L_batch 2 = .ok (.aload_n 0, 1) := by decide +kernel
theorem d_L_batch_3 : decode c_L_batch 3 = .ok (.iload_n 1, 1) := by decide +kernel
theorem d_L_batch_4 : decode c_L_batch 4 = .ok (.invokevirtual 59, 3) := by decide +kernel
theorem d_L_batch_7 : decode c_L_batch 7 = .ok (.i2l, 1) := by decide +kernel
theorem d_L_batch_8 : decode c_L_batch 8 = .ok (.lastore, 1) := by decide +kernel
theorem d_L_batch_9 : decode c_L_batch 9 = .ok (.goto 6, 3) := by decide +kernel
theorem d_L_batch_12 : decode c_L_batch 12 = .ok (.astore_n 3, 1) := by decide +kernel
theorem d_L_batch_13 : decode c_L_batch 13 = .ok (.iconst 1, 1) := by decide +kernel
theorem d_L_batch_14 : decode c_L_batch 14 = .ok (.ireturn, 1) := by decide +kernel
theorem d_L_batch_15 : decode c_L_batch 15 = .ok (.iconst 0, 1) := by decide +kernel
theorem d_L_batch_16 : decode c_L_batch 16 = .ok (.ireturn, 1) := by decide +kernel
theorem d_L_best_0 : decode c_L_best 0 = .ok (.aload_n 2, 1) := by decide +kernel
theorem d_L_best_1 : decode c_L_best 1 = .ok (.iconst 0, 1) := by decide +kernel
theorem d_L_best_2 : decode c_L_best 2 = .ok (.aload_n 0, 1) := by decide +kernel
theorem d_L_best_3 : decode c_L_best 3 = .ok (.iload_n 1, 1) := by decide +kernel
theorem d_L_best_4 : decode c_L_best 4 = .ok (.invokevirtual 65, 3) := by decide +kernel
theorem d_L_best_7 : decode c_L_best 7 = .ok (.i2l, 1) := by decide +kernel
theorem d_L_best_8 : decode c_L_best 8 = .ok (.lastore, 1) := by decide +kernel
theorem d_L_best_9 : decode c_L_best 9 = .ok (.goto 9, 3) := by decide +kernel
theorem d_L_best_12 : decode c_L_best 12 = .ok (.astore_n 3, 1) := by decide +kernel
theorem d_L_best_13 : decode c_L_best 13 = .ok (.iconst 1, 1) := by decide +kernel
theorem d_L_best_14 : decode c_L_best 14 = .ok (.ireturn, 1) := by decide +kernel
theorem d_L_best_15 : decode c_L_best 15 = .ok (.astore_n 3, 1) := by decide +kernel
theorem d_L_best_16 : decode c_L_best 16 = .ok (.iconst 2, 1) := by decide +kernel
theorem d_L_best_17 : decode c_L_best 17 = .ok (.ireturn, 1) := by decide +kernel
theorem d_L_best_18 : decode c_L_best 18 = .ok (.iconst 0, 1) := by decide +kernel
theorem d_L_best_19 : decode c_L_best 19 = .ok (.ireturn, 1) := by decide +kernel
theorem d_L_join_0 : decode c_L_join 0 = .ok (.aload_n 3, 1) := by decide +kernel
theorem d_L_join_1 : decode c_L_join 1 = .ok (.iconst 0, 1) := by decide +kernel
theorem d_L_join_2 : decode c_L_join 2 = .ok (.aload_n 0, 1) := by decide +kernel
theorem d_L_join_3 : decode c_L_join 3 = .ok (.iload_n 1, 1) := by decide +kernel
theorem d_L_join_4 : decode c_L_join 4 = .ok (.iload_n 2, 1) := by decide +kernel
theorem d_L_join_5 : decode c_L_join 5 = .ok (.invokevirtual 53, 3) := by decide +kernel
theorem d_L_join_8 : decode c_L_join 8 = .ok (.i2l, 1) := by decide +kernel
theorem d_L_join_9 : decode c_L_join 9 = .ok (.lastore, 1) := by decide +kernel
theorem d_L_join_10 : decode c_L_join 10 = .ok (.goto 15, 3) := by decide +kernel
theorem d_L_join_13 : decode c_L_join 13 = .ok (.astore 4, 2) := by decide +kernel
theorem d_L_join_15 : decode c_L_join 15 = .ok (.iconst 1, 1) := by decide +kernel
theorem d_L_join_16 : decode c_L_join 16 = .ok (.ireturn, 1) := by decide +kernel
theorem d_L_join_17 : decode c_L_join 17 = .ok (.astore 4, 2) := by decide +kernel
theorem d_L_join_19 : decode c_L_join 19 = .ok (.iconst 2, 1) := by decide +kernel
theorem d_L_join_20 : decode c_L_join 20 = .ok (.ireturn, 1) := by decide +kernel
theorem d_L_join_21 : decode c_L_join 21 = .ok (.astore 4, 2) := by decide +kernel
theorem d_L_join_23 : decode c_L_join 23 = .ok (.iconst 3, 1) := by decide +kernel
theorem d_L_join_24 : decode c_L_join 24 = .ok (.ireturn, 1) := by decide +kernel
theorem d_L_join_25 : decode c_L_join 25 = .ok (.iconst 0, 1) := by decide +kernel
theorem d_L_join_26 : decode c_L_join 26 = .ok (.ireturn, 1) := by decide +kernel
theorem d_L_joined_0 : decode c_L_joined 0 = .ok (.aload 4, 2) := by decide +kernel
theorem d_L_joined_2 : decode c_L_joined 2 = .ok (.iconst 0, 1) := by decide +kernel
theorem d_L_joined_3 : decode c_L_joined 3 = .ok (.aload_n 0, 1) := by decide +kernel
theorem d_L_joined_4 : decode c_L_joined 4 = .ok (.iload_n 1, 1) := by decide +kernel
theorem d_L_joined_5 : decode c_L_joined 5 = .ok (.iload_n 2, 1) := by decide +kernel
theorem d_L_joined_6 : decode c_L_joined 6 = .ok (.iload_n 3, 1) := by decide +kernel
theorem d_L_joined_7 : decode c_L_joined 7 = .ok (.invokevirtual 17, 3) := by decide +kernel
theorem d_L_joined_10 : decode c_L_joined 10 = .ok (.i2l, 1) := by decide +kernel
theorem d_L_joined_11 : decode c_L_joined 11 = .ok (.lastore, 1) := by decide +kernel
theorem d_L_joined_12 : decode c_L_joined 12 = .ok (.goto 11, 3) := by decide +kernel
theorem d_L_joined_15 : decode c_L_joined 15 = .ok (.astore 5, 2) := by decide +kernel
theorem d_L_joined_17 : decode c_L_joined 17 = .ok (.iconst 1, 1) := by decide +kernel
theorem d_L_joined_18 : decode c_L_joined 18 = .ok (.ireturn, 1) := by decide +kernel
theorem d_L_joined_19 : decode c_L_joined 19 = .ok (.astore 5, 2) := by decide +kernel
theorem d_L_joined_21 : decode c_L_joined 21 = .ok (.iconst 2, 1) := by decide +kernel
theorem d_L_joined_22 : decode c_L_joined 22 = .ok (.ireturn, 1) := by decide +kernel
theorem d_L_joined_23 : decode c_L_joined 23 = .ok (.iconst 0, 1) := by decide +kernel
theorem d_L_joined_24 : decode c_L_joined 24 = .ok (.ireturn, 1) := by decide +kernel
theorem d_L_leave_0 : decode c_L_leave 0 = .ok (.aload_n 2, 1) := by decide +kernel
theorem d_L_leave_1 : decode c_L_leave 1 = .ok (.iconst 0, 1) := by decide +kernel
theorem d_L_leave_2 : decode c_L_leave 2 = .ok (.aload_n 0, 1) := by decide +kernel
theorem d_L_leave_3 : decode c_L_leave 3 = .ok (.iload_n 1, 1) := by decide +kernel
theorem d_L_leave_4 : decode c_L_leave 4 = .ok (.invokevirtual 56, 3) := by decide +kernel
theorem d_L_leave_7 : decode c_L_leave 7 = .ok (.i2l, 1) := by decide +kernel
theorem d_L_leave_8 : decode c_L_leave 8 = .ok (.lastore, 1) := by decide +kernel
theorem d_L_leave_9 : decode c_L_leave 9 = .ok (.goto 9, 3) := by decide +kernel
theorem d_L_leave_12 : decode c_L_leave 12 = .ok (.astore_n 3, 1) := by decide +kernel
theorem d_L_leave_13 : decode c_L_leave 13 = .ok (.iconst 1, 1) := by decide +kernel
theorem d_L_leave_14 : decode c_L_leave 14 = .ok (.ireturn, 1) := by decide +kernel
theorem d_L_leave_15 : decode c_L_leave 15 = .ok (.astore_n 3, 1) := by decide +kernel
theorem d_L_leave_16 : decode c_L_leave 16 = .ok (.iconst 2, 1) := by decide +kernel
theorem d_L_leave_17 : decode c_L_leave 17 = .ok (.ireturn, 1) := by decide +kernel
theorem d_L_leave_18 : decode c_L_leave 18 = .ok (.iconst 0, 1) := by decide +kernel
theorem d_L_leave_19 : decode c_L_leave 19 = .ok (.ireturn, 1) := by decide +kernel
theorem d_L_limit_0 : decode c_L_limit 0 = .ok (.aload_n 3, 1) := by decide +kernel
theorem d_L_limit_1 : decode c_L_limit 1 = .ok (.iconst 0, 1) := by decide +kernel
theorem d_L_limit_2 : decode c_L_limit 2 = .ok (.aload_n 0, 1) := by decide +kernel
theorem d_L_limit_3 : decode c_L_limit 3 = .ok (.iload_n 1, 1) := by decide +kernel
theorem d_L_limit_4 : decode c_L_limit 4 = .ok (.iload_n 2, 1) := by decide +kernel
theorem d_L_limit_5 : decode c_L_limit 5 = .ok (.invokevirtual 40, 3) := by decide +kernel
theorem d_L_limit_8 : decode c_L_limit 8 = .ok (.i2l, 1) := by decide +kernel
theorem d_L_limit_9 : decode c_L_limit 9 = .ok (.lastore, 1) := by decide +kernel
theorem d_L_limit_10 : decode c_L_limit 10 = .ok (.goto 7, 3) := by decide +kernel
theorem d_L_limit_13 : decode c_L_limit 13 = .ok (.astore 4, 2) := by decide +kernel
theorem d_L_limit_15 : decode c_L_limit 15 = .ok (.iconst 1, 1) := by decide +kernel
theorem d_L_limit_16 : decode c_L_limit 16 = .ok (.ireturn, 1) := by decide +kernel
theorem d_L_limit_17 : decode c_L_limit 17 = .ok (.iconst 0, 1) := by decide +kernel
theorem d_L_limit_18 : decode c_L_limit 18 = .ok (.ireturn, 1) := by decide +kernel
theorem d_L_match_0 : decode c_L_match 0 = .ok (.aload_n 2, 1) := by decide +kernel
theorem d_L_match_1 : decode c_L_match 1 = .ok (.iconst 0, 1) := by decide +kernel
theorem d_L_match_2 : decode c_L_match 2 = .ok (.aload_n 0, 1) := by decide +kernel
theorem d_L_match_3 : decode c_L_match 3 = .ok (.iload_n 1, 1) := by decide +kernel
theorem d_L_match_4 : decode c_L_match 4 = .ok (.invokevirtual 43, 3) := by decide +kernel
theorem d_L_match_7 : decode c_L_match 7 = .ok (.i2l, 1) := by decide +kernel
theorem d_L_match_8 : decode c_L_match 8 = .ok (.lastore, 1) := by decide +kernel
theorem d_L_match_9 : decode c_L_match 9 = .ok (.goto 6, 3) := by decide +kernel
theorem d_L_match_12 : decode c_L_match 12 = .ok (.astore_n 3, 1) := by decide +kernel
theorem d_L_match_13 : decode c_L_match 13 = .ok (.iconst 1, 1) := by decide +kernel
theorem d_L_match_14 : decode c_L_match 14 = .ok (.ireturn, 1) := by decide +kernel
theorem d_L_match_15 : decode c_L_match 15 = .ok (.iconst 0, 1) := by decide +kernel
theorem d_L_match_16 : decode c_L_match 16 = .ok (.ireturn, 1) := by decide +kernel
theorem d_L_mean_0 : decode c_L_mean 0 = .ok (.aload_n 1, 1) := by decide +kernel
theorem d_L_mean_1 : decode c_L_mean 1 = .ok (.iconst 0, 1) := by decide +kernel
theorem d_L_mean_2 : decode c_L_mean 2 = .ok (.aload_n 0, 1) := by decide +kernel
theorem d_L_mean_3 : decode c_L_mean 3 = .ok (.invokevirtual 73, 3) := by decide +kernel
theorem d_L_mean_6 : decode c_L_mean 6 = .ok (.i2l, 1) := by decide +kernel
theorem d_L_mean_7 : decode c_L_mean 7 = .ok (.lastore, 1) := by decide +kernel
theorem d_L_mean_8 : decode c_L_mean 8 = .ok (.goto 6, 3) := by decide +kernel
theorem d_L_mean_11 : decode c_L_mean 11 = .ok (.astore_n 2, 1) := by decide +kernel
theorem d_L_mean_12 : decode c_L_mean 12 = .ok (.iconst 1, 1) := by decide +kernel
theorem d_L_mean_13 : decode c_L_mean 13 = .ok (.ireturn, 1) := by decide +kernel
theorem d_L_mean_14 : decode c_L_mean 14 = .ok (.iconst 0, 1) := by decide +kernel
theorem d_L_mean_15 : decode c_L_mean 15 = .ok (.ireturn, 1) := by decide +kernel
theorem d_L_near_0 : decode c_L_near 0 = .ok (.aload_n 0, 1) := by decide +kernel
theorem d_L_near_1 : decode c_L_near 1 = .ok (.iload_n 1, 1) := by decide +kernel
theorem d_L_near_2 : decode c_L_near 2 = .ok (.iload_n 2, 1) := by decide +kernel
theorem d_L_near_3 : decode c_L_near 3 = .ok (.iload_n 3, 1) := by decide +kernel
theorem d_L_near_4 : decode c_L_near 4 = .ok (.invokevirtual 36, 3) := by decide +kernel
theorem d_L_near_7 : decode c_L_near 7 = .ok (.goto 7, 3) := by decide +kernel
theorem d_L_near_10 : decode c_L_near 10 = .ok (.astore 4, 2) := by decide +kernel
theorem d_L_near_12 : decode c_L_near 12 = .ok (.iconst 1, 1) := by decide +kernel
theorem d_L_near_13 : decode c_L_near 13 = .ok (.ireturn, 1) := by decide +kernel
theorem d_L_near_14 : decode c_L_near 14 = .ok (.iconst 0, 1) := by decide +kernel
theorem d_L_near_15 : decode c_L_near 15 = .ok (.ireturn, 1) := by decide +kernel
theorem d_L_open_0 : decode c_L_open 0 = .ok (.aload_n 2, 1) := by decide +kernel
theorem d_L_open_1 : decode c_L_open 1 = .ok (.iconst 0, 1) := by decide +kernel
theorem d_L_open_2 : decode c_L_open 2 = .ok (.aload_n 0, 1) := by decide +kernel
theorem d_L_open_3 : decode c_L_open 3 = .ok (.iload_n 1, 1) := by decide +kernel
theorem d_L_open_4 : decode c_L_open 4 = .ok (.invokevirtual 50, 3) := by decide +kernel
theorem d_L_open_7 : decode c_L_open 7 = .ok (.i2l, 1) := by decide +kernel
theorem d_L_open_8 : decode c_L_open 8 = .ok (.lastore, 1) := by decide +kernel
theorem d_L_open_9 : decode c_L_open 9 = .ok (.goto 12, 3) := by decide +kernel
theorem d_L_open_12 : decode c_L_open 12 = .ok (.astore_n 3, 1) := by decide +kernel
theorem d_L_open_13 : decode c_L_open 13 = .ok (.iconst 1, 1) := by decide +kernel
theorem d_L_open_14 : decode c_L_open 14 = .ok (.ireturn, 1) := by decide +kernel
theorem d_L_open_15 : decode c_L_open 15 = .ok (.astore_n 3, 1) := by decide +kernel
theorem d_L_open_16 : decode c_L_open 16 = .ok (.iconst 2, 1) := by decide +kernel
theorem d_L_open_17 : decode c_L_open 17 = .ok (.ireturn, 1) := by decide +kernel
theorem d_L_open_18 : decode c_L_open 18 = .ok (.astore_n 3, 1) := by decide +kernel
theorem d_L_open_19 : decode c_L_open 19 = .ok (.iconst 3, 1) := by decide +kernel
theorem d_L_open_20 : decode c_L_open 20 = .ok (.ireturn, 1) := by decide +kernel
theorem d_L_open_21 : decode c_L_open 21 = .ok (.iconst 0, 1) := by decide +kernel
theorem d_L_open_22 : decode c_L_open 22 = .ok (.ireturn, 1) := by decide +kernel
theorem d_L_order_0 : decode c_L_order 0 = .ok (.aload 4, 2) := by decide +kernel
theorem d_L_order_2 : decode c_L_order 2 = .ok (.iconst 0, 1) := by decide +kernel
theorem d_L_order_3 : decode c_L_order 3 = .ok (.aload_n 0, 1) := by decide +kernel
theorem d_L_order_4 : decode c_L_order 4 = .ok (.iload_n 1, 1) := by decide +kernel
theorem d_L_order_5 : decode c_L_order 5 = .ok (.iload_n 2, 1) := by decide +kernel
theorem d_L_order_6 : decode c_L_order 6 = .ok (.iload_n 3, 1) := by decide +kernel
theorem d_L_order_7 : decode c_L_order 7 = .ok (.invokevirtual 7, 3) := by decide +kernel
theorem d_L_order_10 : decode c_L_order 10 = .ok (.i2l, 1) := by decide +kernel
theorem d_L_order_11 : decode c_L_order 11 = .ok (.lastore, 1) := by decide +kernel
theorem d_L_order_12 : decode c_L_order 12 = .ok (.goto 11, 3) := by decide +kernel
theorem d_L_order_15 : decode c_L_order 15 = .ok (.astore 5, 2) := by decide +kernel
theorem d_L_order_17 : decode c_L_order 17 = .ok (.iconst 1, 1) := by decide +kernel
theorem d_L_order_18 : decode c_L_order 18 = .ok (.ireturn, 1) := by decide +kernel
theorem d_L_order_19 : decode c_L_order 19 = .ok (.astore 5, 2) := by decide +kernel
theorem d_L_order_21 : decode c_L_order 21 = .ok (.iconst 2, 1) := by decide +kernel
theorem d_L_order_22 : decode c_L_order 22 = .ok (.ireturn, 1) := by decide +kernel
theorem d_L_order_23 : decode c_L_order 23 = .ok (.iconst 0, 1) := by decide +kernel
theorem d_L_order_24 : decode c_L_order 24 = .ok (.ireturn, 1) := by decide +kernel
theorem d_L_rule_0 : decode c_L_rule 0 = .ok (.aload 4, 2) := by decide +kernel
theorem d_L_rule_2 : decode c_L_rule 2 = .ok (.iconst 0, 1) := by decide +kernel
theorem d_L_rule_3 : decode c_L_rule 3 = .ok (.aload_n 0, 1) := by decide +kernel
theorem d_L_rule_4 : decode c_L_rule 4 = .ok (.iload_n 1, 1) := by decide +kernel
theorem d_L_rule_5 : decode c_L_rule 5 = .ok (.iload_n 2, 1) := by decide +kernel
theorem d_L_rule_6 : decode c_L_rule 6 = .ok (.iload_n 3, 1) := by decide +kernel
theorem d_L_rule_7 : decode c_L_rule 7 = .ok (.invokevirtual 26, 3) := by decide +kernel
theorem d_L_rule_10 : decode c_L_rule 10 = .ok (.ifCond .eq 7, 3) := by decide +kernel
theorem d_L_rule_13 : decode c_L_rule 13 = .ok (.lconst 1, 1) := by decide +kernel
theorem d_L_rule_14 : decode c_L_rule 14 = .ok (.goto 4, 3) := by decide +kernel
theorem d_L_rule_17 : decode c_L_rule 17 = .ok (.lconst 0, 1) := by decide +kernel
theorem d_L_rule_18 : decode c_L_rule 18 = .ok (.lastore, 1) := by decide +kernel
theorem d_L_rule_19 : decode c_L_rule 19 = .ok (.goto 11, 3) := by decide +kernel
theorem d_L_rule_22 : decode c_L_rule 22 = .ok (.astore 5, 2) := by decide +kernel
theorem d_L_rule_24 : decode c_L_rule 24 = .ok (.iconst 1, 1) := by decide +kernel
theorem d_L_rule_25 : decode c_L_rule 25 = .ok (.ireturn, 1) := by decide +kernel
theorem d_L_rule_26 : decode c_L_rule 26 = .ok (.astore 5, 2) := by decide +kernel
theorem d_L_rule_28 : decode c_L_rule 28 = .ok (.iconst 2, 1) := by decide +kernel
theorem d_L_rule_29 : decode c_L_rule 29 = .ok (.ireturn, 1) := by decide +kernel
theorem d_L_rule_30 : decode c_L_rule 30 = .ok (.iconst 0, 1) := by decide +kernel
theorem d_L_rule_31 : decode c_L_rule 31 = .ok (.ireturn, 1) := by decide +kernel
theorem d_L_saving_0 : decode c_L_saving 0 = .ok (.aload_n 3, 1) := by decide +kernel
theorem d_L_saving_1 : decode c_L_saving 1 = .ok (.iconst 0, 1) := by decide +kernel
theorem d_L_saving_2 : decode c_L_saving 2 = .ok (.aload_n 0, 1) := by decide +kernel
theorem d_L_saving_3 : decode c_L_saving 3 = .ok (.iload_n 1, 1) := by decide +kernel
theorem d_L_saving_4 : decode c_L_saving 4 = .ok (.iload_n 2, 1) := by decide +kernel
theorem d_L_saving_5 : decode c_L_saving 5 = .ok (.invokevirtual 22, 3) := by decide +kernel
theorem d_L_saving_8 : decode c_L_saving 8 = .ok (.i2l, 1) := by decide +kernel
theorem d_L_saving_9 : decode c_L_saving 9 = .ok (.lastore, 1) := by decide +kernel
theorem d_L_saving_10 : decode c_L_saving 10 = .ok (.goto 11, 3) := by decide +kernel
theorem d_L_saving_13 : decode c_L_saving 13 = .ok (.astore 4, 2) := by decide +kernel
theorem d_L_saving_15 : decode c_L_saving 15 = .ok (.iconst 1, 1) := by decide +kernel
theorem d_L_saving_16 : decode c_L_saving 16 = .ok (.ireturn, 1) := by decide +kernel
theorem d_L_saving_17 : decode c_L_saving 17 = .ok (.astore 4, 2) := by decide +kernel
theorem d_L_saving_19 : decode c_L_saving 19 = .ok (.iconst 2, 1) := by decide +kernel
theorem d_L_saving_20 : decode c_L_saving 20 = .ok (.ireturn, 1) := by decide +kernel
theorem d_L_saving_21 : decode c_L_saving 21 = .ok (.iconst 0, 1) := by decide +kernel
theorem d_L_saving_22 : decode c_L_saving 22 = .ok (.ireturn, 1) := by decide +kernel
theorem d_L_share_0 : decode c_L_share 0 = .ok (.aload_n 3, 1) := by decide +kernel
theorem d_L_share_1 : decode c_L_share 1 = .ok (.iconst 0, 1) := by decide +kernel
theorem d_L_share_2 : decode c_L_share 2 = .ok (.aload_n 0, 1) := by decide +kernel
theorem d_L_share_3 : decode c_L_share 3 = .ok (.iload_n 1, 1) := by decide +kernel
theorem d_L_share_4 : decode c_L_share 4 = .ok (.iload_n 2, 1) := by decide +kernel
theorem d_L_share_5 : decode c_L_share 5 = .ok (.invokevirtual 68, 3) := by decide +kernel
theorem d_L_share_8 : decode c_L_share 8 = .ok (.i2l, 1) := by decide +kernel
theorem d_L_share_9 : decode c_L_share 9 = .ok (.lastore, 1) := by decide +kernel
theorem d_L_share_10 : decode c_L_share 10 = .ok (.goto 11, 3) := by decide +kernel
theorem d_L_share_13 : decode c_L_share 13 = .ok (.astore 4, 2) := by decide +kernel
theorem d_L_share_15 : decode c_L_share 15 = .ok (.iconst 1, 1) := by decide +kernel
theorem d_L_share_16 : decode c_L_share 16 = .ok (.ireturn, 1) := by decide +kernel
theorem d_L_share_17 : decode c_L_share 17 = .ok (.astore 4, 2) := by decide +kernel
theorem d_L_share_19 : decode c_L_share 19 = .ok (.iconst 2, 1) := by decide +kernel
theorem d_L_share_20 : decode c_L_share 20 = .ok (.ireturn, 1) := by decide +kernel
theorem d_L_share_21 : decode c_L_share 21 = .ok (.iconst 0, 1) := by decide +kernel
theorem d_L_share_22 : decode c_L_share 22 = .ok (.ireturn, 1) := by decide +kernel
theorem d_L_told_0 : decode c_L_told 0 = .ok (.aload 4, 2) := by decide +kernel
theorem d_L_told_2 : decode c_L_told 2 = .ok (.iconst 0, 1) := by decide +kernel
theorem d_L_told_3 : decode c_L_told 3 = .ok (.aload_n 0, 1) := by decide +kernel
theorem d_L_told_4 : decode c_L_told 4 = .ok (.iload_n 1, 1) := by decide +kernel
theorem d_L_told_5 : decode c_L_told 5 = .ok (.iload_n 2, 1) := by decide +kernel
theorem d_L_told_6 : decode c_L_told 6 = .ok (.iload_n 3, 1) := by decide +kernel
theorem d_L_told_7 : decode c_L_told 7 = .ok (.invokevirtual 62, 3) := by decide +kernel
theorem d_L_told_10 : decode c_L_told 10 = .ok (.i2l, 1) := by decide +kernel
theorem d_L_told_11 : decode c_L_told 11 = .ok (.lastore, 1) := by decide +kernel
theorem d_L_told_12 : decode c_L_told 12 = .ok (.goto 11, 3) := by decide +kernel
theorem d_L_told_15 : decode c_L_told 15 = .ok (.astore 5, 2) := by decide +kernel
theorem d_L_told_17 : decode c_L_told 17 = .ok (.iconst 1, 1) := by decide +kernel
theorem d_L_told_18 : decode c_L_told 18 = .ok (.ireturn, 1) := by decide +kernel
theorem d_L_told_19 : decode c_L_told 19 = .ok (.astore 5, 2) := by decide +kernel
theorem d_L_told_21 : decode c_L_told 21 = .ok (.iconst 2, 1) := by decide +kernel
theorem d_L_told_22 : decode c_L_told 22 = .ok (.ireturn, 1) := by decide +kernel
theorem d_L_told_23 : decode c_L_told 23 = .ok (.iconst 0, 1) := by decide +kernel
theorem d_L_told_24 : decode c_L_told 24 = .ok (.ireturn, 1) := by decide +kernel
theorem d_L_weight_0 : decode c_L_weight 0 = .ok (.aload_n 3, 1) := by decide +kernel
theorem d_L_weight_1 : decode c_L_weight 1 = .ok (.iconst 0, 1) := by decide +kernel
theorem d_L_weight_2 : decode c_L_weight 2 = .ok (.aload_n 0, 1) := by decide +kernel
theorem d_L_weight_3 : decode c_L_weight 3 = .ok (.iload_n 1, 1) := by decide +kernel
theorem d_L_weight_4 : decode c_L_weight 4 = .ok (.iload_n 2, 1) := by decide +kernel
theorem d_L_weight_5 : decode c_L_weight 5 = .ok (.invokevirtual 30, 3) := by decide +kernel
theorem d_L_weight_8 : decode c_L_weight 8 = .ok (.ifCond .eq 7, 3) := by decide +kernel
theorem d_L_weight_11 : decode c_L_weight 11 = .ok (.lconst 1, 1) := by decide +kernel
theorem d_L_weight_12 : decode c_L_weight 12 = .ok (.goto 4, 3) := by decide +kernel
theorem d_L_weight_15 : decode c_L_weight 15 = .ok (.lconst 0, 1) := by decide +kernel
theorem d_L_weight_16 : decode c_L_weight 16 = .ok (.lastore, 1) := by decide +kernel
theorem d_L_weight_17 : decode c_L_weight 17 = .ok (.goto 15, 3) := by decide +kernel
theorem d_L_weight_20 : decode c_L_weight 20 = .ok (.astore 4, 2) := by decide +kernel
theorem d_L_weight_22 : decode c_L_weight 22 = .ok (.iconst 1, 1) := by decide +kernel
theorem d_L_weight_23 : decode c_L_weight 23 = .ok (.ireturn, 1) := by decide +kernel
theorem d_L_weight_24 : decode c_L_weight 24 = .ok (.astore 4, 2) := by decide +kernel
theorem d_L_weight_26 : decode c_L_weight 26 = .ok (.iconst 2, 1) := by decide +kernel
theorem d_L_weight_27 : decode c_L_weight 27 = .ok (.ireturn, 1) := by decide +kernel
theorem d_L_weight_28 : decode c_L_weight 28 = .ok (.astore 4, 2) := by decide +kernel
theorem d_L_weight_30 : decode c_L_weight 30 = .ok (.iconst 3, 1) := by decide +kernel
theorem d_L_weight_31 : decode c_L_weight 31 = .ok (.ireturn, 1) := by decide +kernel
theorem d_L_weight_32 : decode c_L_weight 32 = .ok (.iconst 0, 1) := by decide +kernel
theorem d_L_weight_33 : decode c_L_weight 33 = .ok (.ireturn, 1) := by decide +kernel
theorem d_L_with_0 : decode c_L_with 0 = .ok (.aload_n 2, 1) := by decide +kernel
theorem d_L_with_1 : decode c_L_with 1 = .ok (.iconst 0, 1) := by decide +kernel
theorem d_L_with_2 : decode c_L_with 2 = .ok (.aload_n 0, 1) := by decide +kernel
theorem d_L_with_3 : decode c_L_with 3 = .ok (.iload_n 1, 1) := by decide +kernel
theorem d_L_with_4 : decode c_L_with 4 = .ok (.invokevirtual 47, 3) := by decide +kernel
theorem d_L_with_7 : decode c_L_with 7 = .ok (.i2l, 1) := by decide +kernel
theorem d_L_with_8 : decode c_L_with 8 = .ok (.lastore, 1) := by decide +kernel
theorem d_L_with_9 : decode c_L_with 9 = .ok (.goto 6, 3) := by decide +kernel
theorem d_L_with_12 : decode c_L_with 12 = .ok (.astore_n 3, 1) := by decide +kernel
theorem d_L_with_13 : decode c_L_with 13 = .ok (.iconst 1, 1) := by decide +kernel
theorem d_L_with_14 : decode c_L_with 14 = .ok (.ireturn, 1) := by decide +kernel
theorem d_L_with_15 : decode c_L_with 15 = .ok (.iconst 0, 1) := by decide +kernel
theorem d_L_with_16 : decode c_L_with 16 = .ok (.ireturn, 1) := by decide +kernel
