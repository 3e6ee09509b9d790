theorem d_S_init_0 : decode c_S_init 0 = .ok (.aload_n 0, 1) := by decide +kernel
theorem d_S_init_1 : decode c_S_init 1 = .ok (.invokespecial 1, 3) := by decide +kernel
theorem d_S_init_4 : decode c_S_init 4 = .ok (.aload_n 0, 1) := by decide +kernel
theorem d_S_init_5 : decode c_S_init 5 = .ok (.new 7, 3) := by decide +kernel
theorem d_S_init_8 : decode c_S_init 8 = .ok (.dup, 1) := by decide +kernel
theorem d_S_init_9 : decode c_S_init 9 = .ok (.invokespecial 9, 3) := by decide +kernel
theorem d_S_init_12 : decode c_S_init 12 = .ok (.putfield 10, 3) := by decide +kernel
theorem d_S_init_15 : decode c_S_init 15 = .ok (.aload_n 0, 1) := by decide +kernel
theorem d_S_init_16 : decode c_S_init 16 = .ok (.new 16, 3) := by decide +kernel
theorem d_S_init_19 : decode c_S_init 19 = .ok (.dup, 1) := by decide +kernel
theorem d_S_init_20 : decode c_S_init 20 = .ok (.aload_n 0, 1) := by decide +kernel
theorem d_S_init_21 : decode c_S_init 21 = .ok (.getfield 10, 3) := by decide +kernel
theorem d_S_init_24 : decode c_S_init 24 = .ok (.invokespecial 18, 3) := by decide +kernel
theorem d_S_init_27 : decode c_S_init 27 = .ok (.putfield 21, 3) := by decide +kernel
theorem d_S_init_30 : decode c_S_init 30 = .ok (.aload_n 0, 1) := by decide +kernel
theorem d_S_init_31 : decode c_S_init 31 = .ok (.new 25, 3) := by decide +kernel
theorem d_S_init_34 : decode c_S_init 34 = .ok (.dup, 1) := by decide +kernel
theorem d_S_init_35 : decode c_S_init 35 = .ok (.aload_n 0, 1) := by decide +kernel
theorem d_S_init_36 : decode c_S_init 36 = .ok (.getfield 10, 3) := by decide +kernel
theorem d_S_init_39 : decode c_S_init 39 = .ok (.invokespecial 27, 3) := by decide +kernel
theorem d_S_init_42 : decode c_S_init 42 = .ok (.putfield 28, 3) := by decide +kernel
theorem d_S_init_45 : decode c_S_init 45 = .ok (.aload_n 0, 1) := by decide +kernel
theorem d_S_init_46 : decode c_S_init 46 = .ok (.new 32, 3) := by decide +kernel
theorem d_S_init_49 : decode c_S_init 49 = .ok (.dup, 1) := by decide +kernel
theorem d_S_init_50 : decode c_S_init 50 = .ok (.aload_n 0, 1) := by decide +kernel
theorem d_S_init_51 : decode c_S_init 51 = .ok (.getfield 10, 3) := by decide +kernel
theorem d_S_init_54 : decode c_S_init 54 = .ok (.invokespecial 34, 3) := by decide +kernel
theorem d_S_init_57 : decode c_S_init 57 = .ok (.putfield 35, 3) := by decide +kernel
theorem d_S_init_60 : decode c_S_init 60 = .ok (.return_, 1) := by decide +kernel
theorem d_S_batch_0 : decode c_S_batch 0 = .ok (.aload_n 0, 1) := by decide +kernel
theorem d_S_batch_1 : decode c_S_batch 1 = .ok (.iload_n 1, 1) := by decide +kernel
theorem d_S_batch_2 : decode c_S_batch 2 = .ok (.invokevirtual 77, 3) := by decide +kernel
theorem d_S_batch_5 : decode c_S_batch 5 = .ok (.aload_n 0, 1) := by decide +kernel
theorem d_S_batch_6 : decode c_S_batch 6 = .ok (.getfield 28, 3) := by decide +kernel
theorem d_S_batch_9 : decode c_S_batch 9 = .ok (.getfield 157, 3) := by decide +kernel
theorem d_S_batch_12 : decode c_S_batch 12 = .ok (.iload_n 1, 1) := by decide +kernel
theorem d_S_batch_13 : decode c_S_batch 13 = .ok (.iaload, 1) := by decide +kernel
theorem d_S_batch_14 : decode c_S_batch 14 = .ok (.ireturn, 1) := by decide +kernel
theorem d_S_best_0 : decode c_S_best 0 = .ok (.aload_n 0, 1) := by decide +kernel
theorem d_S_best_1 : decode c_S_best 1 = .ok (.iload_n 1, 1) := by decide +kernel
theorem d_S_best_2 : decode c_S_best 2 = .ok (.invokevirtual 77, 3) := by decide +kernel
theorem d_S_best_5 : decode c_S_best 5 = .ok (.aload_n 0, 1) := by decide +kernel
theorem d_S_best_6 : decode c_S_best 6 = .ok (.iload_n 1, 1) := by decide +kernel
theorem d_S_best_7 : decode c_S_best 7 = .ok (.invokevirtual 81, 3) := by decide +kernel
theorem d_S_best_10 : decode c_S_best 10 = .ok (.iconst (-1), 1) := by decide +kernel
theorem d_S_best_11 : decode c_S_best 11 = .ok (.istore_n 2, 1) := by decide +kernel
theorem d_S_best_12 : decode c_S_best 12 = .ok (.iconst 0, 1) := by decide +kernel
theorem d_S_best_13 : decode c_S_best 13 = .ok (.istore_n 3, 1) := by decide +kernel
theorem d_S_best_14 : decode c_S_best 14 = .ok (.iconst 0, 1) := by decide +kernel
theorem d_S_best_15 : decode c_S_best 15 = .ok (.istore 4, 2) := by decide +kernel
theorem d_S_best_17 : decode c_S_best 17 = .ok (.iload 4, 2) := by decide +kernel
theorem d_S_best_19 : decode c_S_best 19 = .ok (.aload_n 0, 1) := by decide +kernel
theorem d_S_best_20 : decode c_S_best 20 = .ok (.getfield 28, 3) := by decide +kernel
theorem d_S_best_23 : decode c_S_best 23 = .ok (.getfield 124, 3) := by decide +kernel
theorem d_S_best_26 : decode c_S_best 26 = .ok (.if_icmp .ge 63, 3) := by decide +kernel
theorem d_S_best_29 : decode c_S_best 29 = .ok (.aload_n 0, 1) := by decide +kernel
theorem d_S_best_30 : decode c_S_best 30 = .ok (.getfield 28, 3) := by decide +kernel
theorem d_S_best_33 : decode c_S_best 33 = .ok (.iload 4, 2) := by decide +kernel
theorem d_S_best_35 : decode c_S_best 35 = .ok (.invokevirtual 147, 3) := by decide +kernel
theorem d_S_best_38 : decode c_S_best 38 = .ok (.ifCond .ne 45, 3) := by decide +kernel
theorem d_S_best_41 : decode c_S_best 41 = .ok (.aload_n 0, 1) := by decide +kernel
theorem d_S_best_42 : decode c_S_best 42 = .ok (.iload_n 1, 1) := by decide +kernel
theorem d_S_best_43 : decode c_S_best 43 = .ok (.iload 4, 2) := by decide +kernel
theorem d_S_best_45 : decode c_S_best 45 = .ok (.invokevirtual 139, 3) := by decide +kernel
theorem d_S_best_48 : decode c_S_best 48 = .ok (.ifCond .ne 6, 3) := by decide +kernel
theorem d_S_best_51 : decode c_S_best 51 = .ok (.goto 32, 3) := by decide +kernel
theorem d_S_best_54 : decode c_S_best 54 = .ok (.aload_n 0, 1) := by decide +kernel
theorem d_S_best_55 : decode c_S_best 55 = .ok (.getfield 28, 3) := by decide +kernel
theorem d_S_best_58 : decode c_S_best 58 = .ok (.iload_n 1, 1) := by decide +kernel
theorem d_S_best_59 : decode c_S_best 59 = .ok (.iload 4, 2) := by decide +kernel
theorem d_S_best_61 : decode c_S_best 61 = .ok (.invokevirtual 186, 3) := by decide +kernel
theorem d_S_best_64 : decode c_S_best 64 = .ok (.istore 5, 2) := by decide +kernel
theorem d_S_best_66 : decode c_S_best 66 = .ok (.iload_n 2, 1) := by decide +kernel
theorem d_S_best_67 : decode c_S_best 67 = .ok (.iconst (-1), 1) := by decide +kernel
theorem d_S_best_68 : decode c_S_best 68 = .ok (.if_icmp .eq 9, 3) := by decide +kernel
theorem d_S_best_71 : decode c_S_best 71 = .ok (.iload 5, 2) := by decide +kernel
theorem d_S_best_73 : decode c_S_best 73 = .ok (.iload_n 3, 1) := by decide +kernel
theorem d_S_best_74 : decode c_S_best 74 = .ok (.if_icmp .le 9, 3) := by decide +kernel
theorem d_S_best_77 : decode c_S_best 77 = .ok (.iload 4, 2) := by decide +kernel
theorem d_S_best_79 : decode c_S_best 79 = .ok (.istore_n 2, 1) := by decide +kernel
theorem d_S_best_80 : decode c_S_best 80 = .ok (.iload 5, 2) := by decide +kernel
theorem d_S_best_82 : decode c_S_best 82 = .ok (.istore_n 3, 1) := by decide +kernel
theorem d_S_best_83 : decode c_S_best 83 = .ok (.iinc 4 1, 3) := by decide +kernel
theorem d_S_best_86 : decode c_S_best 86 = .ok (.goto (-69), 3) := by decide +kernel
theorem d_S_best_89 : decode c_S_best 89 = .ok (.iload_n 2, 1) := by decide +kernel
theorem d_S_best_90 : decode c_S_best 90 = .ok (.ireturn, 1) := by decide +kernel
theorem d_S_count_0 : decode c_S_count 0 = .ok (.iload_n 1, 1) := by decide +kernel
theorem d_S_count_1 : decode c_S_count 1 = .ok (.tableswitch 75 0 4 #[35, 43, 51, 59, 67], 35) := by decide +kernel
theorem d_S_count_36 : decode c_S_count 36 = .ok (.aload_n 0, 1) := by decide +kernel
theorem d_S_count_37 : decode c_S_count 37 = .ok (.getfield 10, 3) := by decide +kernel
theorem d_S_count_40 : decode c_S_count 40 = .ok (.getfield 43, 3) := by decide +kernel
theorem d_S_count_43 : decode c_S_count 43 = .ok (.ireturn, 1) := by decide +kernel
theorem d_S_count_44 : decode c_S_count 44 = .ok (.aload_n 0, 1) := by decide +kernel
theorem d_S_count_45 : decode c_S_count 45 = .ok (.getfield 28, 3) := by decide +kernel
theorem d_S_count_48 : decode c_S_count 48 = .ok (.getfield 124, 3) := by decide +kernel
theorem d_S_count_51 : decode c_S_count 51 = .ok (.ireturn, 1) := by decide +kernel
theorem d_S_count_52 : decode c_S_count 52 = .ok (.aload_n 0, 1) := by decide +kernel
theorem d_S_count_53 : decode c_S_count 53 = .ok (.getfield 28, 3) := by decide +kernel
theorem d_S_count_56 : decode c_S_count 56 = .ok (.invokevirtual 107, 3) := by decide +kernel
theorem d_S_count_59 : decode c_S_count 59 = .ok (.ireturn, 1) := by decide +kernel
theorem d_S_count_60 : decode c_S_count 60 = .ok (.aload_n 0, 1) := by decide +kernel
theorem d_S_count_61 : decode c_S_count 61 = .ok (.getfield 35, 3) := by decide +kernel
theorem d_S_count_64 : decode c_S_count 64 = .ok (.invokevirtual 200, 3) := by decide +kernel
theorem d_S_count_67 : decode c_S_count 67 = .ok (.ireturn, 1) := by decide +kernel
theorem d_S_count_68 : decode c_S_count 68 = .ok (.aload_n 0, 1) := by decide +kernel
theorem d_S_count_69 : decode c_S_count 69 = .ok (.getfield 35, 3) := by decide +kernel
theorem d_S_count_72 : decode c_S_count 72 = .ok (.invokevirtual 114, 3) := by decide +kernel
theorem d_S_count_75 : decode c_S_count 75 = .ok (.ireturn, 1) := by decide +kernel
theorem d_S_count_76 : decode c_S_count 76 = .ok (.iconst (-1), 1) := by decide +kernel
theorem d_S_count_77 : decode c_S_count 77 = .ok (.ireturn, 1) := by decide +kernel
theorem d_S_exact_0 : decode c_S_exact 0 = .ok (.aload_n 0, 1) := by decide +kernel
theorem d_S_exact_1 : decode c_S_exact 1 = .ok (.getfield 35, 3) := by decide +kernel
theorem d_S_exact_4 : decode c_S_exact 4 = .ok (.getfield 117, 3) := by decide +kernel
theorem d_S_exact_7 : decode c_S_exact 7 = .ok (.ireturn, 1) := by decide +kernel
theorem d_S_join_0 : decode c_S_join 0 = .ok (.aload_n 0, 1) := by decide +kernel
theorem d_S_join_1 : decode c_S_join 1 = .ok (.iload_n 1, 1) := by decide +kernel
theorem d_S_join_2 : decode c_S_join 2 = .ok (.invokevirtual 77, 3) := by decide +kernel
theorem d_S_join_5 : decode c_S_join 5 = .ok (.aload_n 0, 1) := by decide +kernel
theorem d_S_join_6 : decode c_S_join 6 = .ok (.iload_n 2, 1) := by decide +kernel
theorem d_S_join_7 : decode c_S_join 7 = .ok (.invokevirtual 136, 3) := by decide +kernel
theorem d_S_join_10 : decode c_S_join 10 = .ok (.aload_n 0, 1) := by decide +kernel
theorem d_S_join_11 : decode c_S_join 11 = .ok (.iload_n 1, 1) := by decide +kernel
theorem d_S_join_12 : decode c_S_join 12 = .ok (.invokevirtual 81, 3) := by decide +kernel
theorem d_S_join_15 : decode c_S_join 15 = .ok (.aload_n 0, 1) := by decide +kernel
theorem d_S_join_16 : decode c_S_join 16 = .ok (.iload_n 1, 1) := by decide +kernel
theorem d_S_join_17 : decode c_S_join 17 = .ok (.iload_n 2, 1) := by decide +kernel
theorem d_S_join_18 : decode c_S_join 18 = .ok (.invokevirtual 139, 3) := by decide +kernel
theorem d_S_join_21 : decode c_S_join 21 = .ok (.ifCond .ne 13, 3) := by decide +kernel
theorem d_S_join_24 : decode c_S_join 24 = .ok (.new 142, 3) := by decide +kernel
theorem d_S_join_27 : decode c_S_join 27 = .ok (.dup, 1) := by decide +kernel
theorem d_S_join_28 : decode c_S_join 28 = .ok (.ldc 144, 2) := by decide +kernel
theorem d_S_join_30 : decode c_S_join 30 = .ok (.invokespecial 146, 3) := by decide +kernel
theorem d_S_join_33 : decode c_S_join 33 = .ok (.athrow, 1) := by decide +kernel
theorem d_S_join_34 : decode c_S_join 34 = .ok (.aload_n 0, 1) := by decide +kernel
theorem d_S_join_35 : decode c_S_join 35 = .ok (.getfield 28, 3) := by decide +kernel
theorem d_S_join_38 : decode c_S_join 38 = .ok (.iload_n 2, 1) := by decide +kernel
theorem d_S_join_39 : decode c_S_join 39 = .ok (.invokevirtual 147, 3) := by decide +kernel
theorem d_S_join_42 : decode c_S_join 42 = .ok (.ifCond .eq 13, 3) := by decide +kernel
theorem d_S_join_45 : decode c_S_join 45 = .ok (.new 47, 3) := by decide +kernel
theorem d_S_join_48 : decode c_S_join 48 = .ok (.dup, 1) := by decide +kernel
theorem d_S_join_49 : decode c_S_join 49 = .ok (.ldc 151, 2) := by decide +kernel
theorem d_S_join_51 : decode c_S_join 51 = .ok (.invokespecial 51, 3) := by decide +kernel
theorem d_S_join_54 : decode c_S_join 54 = .ok (.athrow, 1) := by decide +kernel
theorem d_S_join_55 : decode c_S_join 55 = .ok (.aload_n 0, 1) := by decide +kernel
theorem d_S_join_56 : decode c_S_join 56 = .ok (.getfield 35, 3) := by decide +kernel
theorem d_S_join_59 : decode c_S_join 59 = .ok (.iload_n 1, 1) := by decide +kernel
theorem d_S_join_60 : decode c_S_join 60 = .ok (.invokevirtual 127, 3) := by decide +kernel
theorem d_S_join_63 : decode c_S_join 63 = .ok (.aload_n 0, 1) := by decide +kernel
theorem d_S_join_64 : decode c_S_join 64 = .ok (.getfield 28, 3) := by decide +kernel
theorem d_S_join_67 : decode c_S_join 67 = .ok (.iload_n 1, 1) := by decide +kernel
theorem d_S_join_68 : decode c_S_join 68 = .ok (.iload_n 2, 1) := by decide +kernel
theorem d_S_join_69 : decode c_S_join 69 = .ok (.invokevirtual 133, 3) := by decide +kernel
theorem d_S_join_72 : decode c_S_join 72 = .ok (.aload_n 0, 1) := by decide +kernel
theorem d_S_join_73 : decode c_S_join 73 = .ok (.getfield 28, 3) := by decide +kernel
theorem d_S_join_76 : decode c_S_join 76 = .ok (.iload_n 2, 1) := by decide +kernel
theorem d_S_join_77 : decode c_S_join 77 = .ok (.invokevirtual 153, 3) := by decide +kernel
theorem d_S_join_80 : decode c_S_join 80 = .ok (.ireturn, 1) := by decide +kernel
theorem d_S_joined_0 : decode c_S_joined 0 = .ok (.aload_n 0, 1) := by decide +kernel
theorem d_S_joined_1 : decode c_S_joined 1 = .ok (.iload_n 1, 1) := by decide +kernel
theorem d_S_joined_2 : decode c_S_joined 2 = .ok (.iload_n 2, 1) := by decide +kernel
theorem d_S_joined_3 : decode c_S_joined 3 = .ok (.invokevirtual 58, 3) := by decide +kernel
theorem d_S_joined_6 : decode c_S_joined 6 = .ok (.iload_n 3, 1) := by decide +kernel
theorem d_S_joined_7 : decode c_S_joined 7 = .ok (.iconst 0, 1) := by decide +kernel
theorem d_S_joined_8 : decode c_S_joined 8 = .ok (.sipush 20000, 3) := by decide +kernel
theorem d_S_joined_11 : decode c_S_joined 11 = .ok (.invokestatic 39, 3) := by decide +kernel
theorem d_S_joined_14 : decode c_S_joined 14 = .ok (.aload_n 0, 1) := by decide +kernel
theorem d_S_joined_15 : decode c_S_joined 15 = .ok (.getfield 10, 3) := by decide +kernel
theorem d_S_joined_18 : decode c_S_joined 18 = .ok (.iload_n 1, 1) := by decide +kernel
theorem d_S_joined_19 : decode c_S_joined 19 = .ok (.iload_n 2, 1) := by decide +kernel
theorem d_S_joined_20 : decode c_S_joined 20 = .ok (.iload_n 3, 1) := by decide +kernel
theorem d_S_joined_21 : decode c_S_joined 21 = .ok (.invokevirtual 62, 3) := by decide +kernel
theorem d_S_joined_24 : decode c_S_joined 24 = .ok (.aload_n 0, 1) := by decide +kernel
theorem d_S_joined_25 : decode c_S_joined 25 = .ok (.getfield 10, 3) := by decide +kernel
theorem d_S_joined_28 : decode c_S_joined 28 = .ok (.iload_n 1, 1) := by decide +kernel
theorem d_S_joined_29 : decode c_S_joined 29 = .ok (.iload_n 2, 1) := by decide +kernel
theorem d_S_joined_30 : decode c_S_joined 30 = .ok (.invokevirtual 65, 3) := by decide +kernel
theorem d_S_joined_33 : decode c_S_joined 33 = .ok (.ireturn, 1) := by decide +kernel
theorem d_S_leave_0 : decode c_S_leave 0 = .ok (.aload_n 0, 1) := by decide +kernel
theorem d_S_leave_1 : decode c_S_leave 1 = .ok (.iload_n 1, 1) := by decide +kernel
theorem d_S_leave_2 : decode c_S_leave 2 = .ok (.invokevirtual 77, 3) := by decide +kernel
theorem d_S_leave_5 : decode c_S_leave 5 = .ok (.aload_n 0, 1) := by decide +kernel
theorem d_S_leave_6 : decode c_S_leave 6 = .ok (.getfield 28, 3) := by decide +kernel
theorem d_S_leave_9 : decode c_S_leave 9 = .ok (.getfield 157, 3) := by decide +kernel
theorem d_S_leave_12 : decode c_S_leave 12 = .ok (.iload_n 1, 1) := by decide +kernel
theorem d_S_leave_13 : decode c_S_leave 13 = .ok (.iaload, 1) := by decide +kernel
theorem d_S_leave_14 : decode c_S_leave 14 = .ok (.istore_n 2, 1) := by decide +kernel
theorem d_S_leave_15 : decode c_S_leave 15 = .ok (.iload_n 2, 1) := by decide +kernel
theorem d_S_leave_16 : decode c_S_leave 16 = .ok (.iconst (-1), 1) := by decide +kernel
theorem d_S_leave_17 : decode c_S_leave 17 = .ok (.if_icmp .ne 13, 3) := by decide +kernel
theorem d_S_leave_20 : decode c_S_leave 20 = .ok (.new 142, 3) := by decide +kernel
theorem d_S_leave_23 : decode c_S_leave 23 = .ok (.dup, 1) := by decide +kernel
theorem d_S_leave_24 : decode c_S_leave 24 = .ok (.ldc 160, 2) := by decide +kernel
theorem d_S_leave_26 : decode c_S_leave 26 = .ok (.invokespecial 146, 3) := by decide +kernel
theorem d_S_leave_29 : decode c_S_leave 29 = .ok (.athrow, 1) := by decide +kernel
theorem d_S_leave_30 : decode c_S_leave 30 = .ok (.aload_n 0, 1) := by decide +kernel
theorem d_S_leave_31 : decode c_S_leave 31 = .ok (.getfield 28, 3) := by decide +kernel
theorem d_S_leave_34 : decode c_S_leave 34 = .ok (.iload_n 1, 1) := by decide +kernel
theorem d_S_leave_35 : decode c_S_leave 35 = .ok (.iload_n 2, 1) := by decide +kernel
theorem d_S_leave_36 : decode c_S_leave 36 = .ok (.invokevirtual 162, 3) := by decide +kernel
theorem d_S_leave_39 : decode c_S_leave 39 = .ok (.aload_n 0, 1) := by decide +kernel
theorem d_S_leave_40 : decode c_S_leave 40 = .ok (.getfield 28, 3) := by decide +kernel
theorem d_S_leave_43 : decode c_S_leave 43 = .ok (.getfield 165, 3) := by decide +kernel
theorem d_S_leave_46 : decode c_S_leave 46 = .ok (.iload_n 2, 1) := by decide +kernel
theorem d_S_leave_47 : decode c_S_leave 47 = .ok (.iaload, 1) := by decide +kernel
theorem d_S_leave_48 : decode c_S_leave 48 = .ok (.ireturn, 1) := by decide +kernel
theorem d_S_limit_0 : decode c_S_limit 0 = .ok (.iload_n 1, 1) := by decide +kernel
theorem d_S_limit_1 : decode c_S_limit 1 = .ok (.iconst 0, 1) := by decide +kernel
theorem d_S_limit_2 : decode c_S_limit 2 = .ok (.sipush 4000, 3) := by decide +kernel
theorem d_S_limit_5 : decode c_S_limit 5 = .ok (.invokestatic 39, 3) := by decide +kernel
theorem d_S_limit_8 : decode c_S_limit 8 = .ok (.iload_n 2, 1) := by decide +kernel
theorem d_S_limit_9 : decode c_S_limit 9 = .ok (.iconst 1, 1) := by decide +kernel
theorem d_S_limit_10 : decode c_S_limit 10 = .ok (.sipush 400, 3) := by decide +kernel
theorem d_S_limit_13 : decode c_S_limit 13 = .ok (.invokestatic 39, 3) := by decide +kernel
theorem d_S_limit_16 : decode c_S_limit 16 = .ok (.aload_n 0, 1) := by decide +kernel
theorem d_S_limit_17 : decode c_S_limit 17 = .ok (.getfield 21, 3) := by decide +kernel
theorem d_S_limit_20 : decode c_S_limit 20 = .ok (.iload_n 1, 1) := by decide +kernel
theorem d_S_limit_21 : decode c_S_limit 21 = .ok (.putfield 84, 3) := by decide +kernel
theorem d_S_limit_24 : decode c_S_limit 24 = .ok (.aload_n 0, 1) := by decide +kernel
theorem d_S_limit_25 : decode c_S_limit 25 = .ok (.getfield 21, 3) := by decide +kernel
theorem d_S_limit_28 : decode c_S_limit 28 = .ok (.iload_n 2, 1) := by decide +kernel
theorem d_S_limit_29 : decode c_S_limit 29 = .ok (.putfield 97, 3) := by decide +kernel
theorem d_S_limit_32 : decode c_S_limit 32 = .ok (.aload_n 0, 1) := by decide +kernel
theorem d_S_limit_33 : decode c_S_limit 33 = .ok (.getfield 21, 3) := by decide +kernel
theorem d_S_limit_36 : decode c_S_limit 36 = .ok (.invokevirtual 100, 3) := by decide +kernel
theorem d_S_limit_39 : decode c_S_limit 39 = .ok (.ireturn, 1) := by decide +kernel
theorem d_S_match_0 : decode c_S_match 0 = .ok (.iload_n 1, 1) := by decide +kernel
theorem d_S_match_1 : decode c_S_match 1 = .ok (.iconst 0, 1) := by decide +kernel
theorem d_S_match_2 : decode c_S_match 2 = .ok (.bipush 10, 2) := by decide +kernel
theorem d_S_match_4 : decode c_S_match 4 = .ok (.invokestatic 39, 3) := by decide +kernel
theorem d_S_match_7 : decode c_S_match 7 = .ok (.aload_n 0, 1) := by decide +kernel
theorem d_S_match_8 : decode c_S_match 8 = .ok (.invokevirtual 104, 3) := by decide +kernel
theorem d_S_match_11 : decode c_S_match 11 = .ok (.aload_n 0, 1) := by decide +kernel
theorem d_S_match_12 : decode c_S_match 12 = .ok (.getfield 35, 3) := by decide +kernel
theorem d_S_match_15 : decode c_S_match 15 = .ok (.aload_n 0, 1) := by decide +kernel
theorem d_S_match_16 : decode c_S_match 16 = .ok (.getfield 28, 3) := by decide +kernel
theorem d_S_match_19 : decode c_S_match 19 = .ok (.invokevirtual 107, 3) := by decide +kernel
theorem d_S_match_22 : decode c_S_match 22 = .ok (.iload_n 1, 1) := by decide +kernel
theorem d_S_match_23 : decode c_S_match 23 = .ok (.if_icmp .gt 7, 3) := by decide +kernel
theorem d_S_match_26 : decode c_S_match 26 = .ok (.iconst 1, 1) := by decide +kernel
theorem d_S_match_27 : decode c_S_match 27 = .ok (.goto 4, 3) := by decide +kernel
theorem d_S_match_30 : decode c_S_match 30 = .ok (.iconst 0, 1) := by decide +kernel
theorem d_S_match_31 : decode c_S_match 31 = .ok (.invokevirtual 110, 3) := by decide +kernel
theorem d_S_match_34 : decode c_S_match 34 = .ok (.aload_n 0, 1) := by decide +kernel
theorem d_S_match_35 : decode c_S_match 35 = .ok (.getfield 35, 3) := by decide +kernel
theorem d_S_match_38 : decode c_S_match 38 = .ok (.invokevirtual 114, 3) := by decide +kernel
theorem d_S_match_41 : decode c_S_match 41 = .ok (.ireturn, 1) := by decide +kernel
theorem d_S_mean_0 : decode c_S_mean 0 = .ok (.aload_n 0, 1) := by decide +kernel
theorem d_S_mean_1 : decode c_S_mean 1 = .ok (.getfield 10, 3) := by decide +kernel
theorem d_S_mean_4 : decode c_S_mean 4 = .ok (.getfield 43, 3) := by decide +kernel
theorem d_S_mean_7 : decode c_S_mean 7 = .ok (.ifCond .ne 13, 3) := by decide +kernel
theorem d_S_mean_10 : decode c_S_mean 10 = .ok (.new 192, 3) := by decide +kernel
theorem d_S_mean_13 : decode c_S_mean 13 = .ok (.dup, 1) := by decide +kernel
theorem d_S_mean_14 : decode c_S_mean 14 = .ok (.ldc 197, 2) := by decide +kernel
theorem d_S_mean_16 : decode c_S_mean 16 = .ok (.invokespecial 196, 3) := by decide +kernel
theorem d_S_mean_19 : decode c_S_mean 19 = .ok (.athrow, 1) := by decide +kernel
theorem d_S_mean_20 : decode c_S_mean 20 = .ok (.aload_n 0, 1) := by decide +kernel
theorem d_S_mean_21 : decode c_S_mean 21 = .ok (.getfield 28, 3) := by decide +kernel
theorem d_S_mean_24 : decode c_S_mean 24 = .ok (.invokevirtual 199, 3) := by decide +kernel
theorem d_S_mean_27 : decode c_S_mean 27 = .ok (.aload_n 0, 1) := by decide +kernel
theorem d_S_mean_28 : decode c_S_mean 28 = .ok (.getfield 35, 3) := by decide +kernel
theorem d_S_mean_31 : decode c_S_mean 31 = .ok (.invokevirtual 114, 3) := by decide +kernel
theorem d_S_mean_34 : decode c_S_mean 34 = .ok (.iadd, 1) := by decide +kernel
theorem d_S_mean_35 : decode c_S_mean 35 = .ok (.aload_n 0, 1) := by decide +kernel
theorem d_S_mean_36 : decode c_S_mean 36 = .ok (.getfield 10, 3) := by decide +kernel
theorem d_S_mean_39 : decode c_S_mean 39 = .ok (.getfield 43, 3) := by decide +kernel
theorem d_S_mean_42 : decode c_S_mean 42 = .ok (.idiv, 1) := by decide +kernel
theorem d_S_mean_43 : decode c_S_mean 43 = .ok (.ireturn, 1) := by decide +kernel
theorem d_S_near_0 : decode c_S_near 0 = .ok (.iload_n 1, 1) := by decide +kernel
theorem d_S_near_1 : decode c_S_near 1 = .ok (.iconst 0, 1) := by decide +kernel
theorem d_S_near_2 : decode c_S_near 2 = .ok (.iconst 3, 1) := by decide +kernel
theorem d_S_near_3 : decode c_S_near 3 = .ok (.invokestatic 39, 3) := by decide +kernel
theorem d_S_near_6 : decode c_S_near 6 = .ok (.iload_n 2, 1) := by decide +kernel
theorem d_S_near_7 : decode c_S_near 7 = .ok (.iconst 0, 1) := by decide +kernel
theorem d_S_near_8 : decode c_S_near 8 = .ok (.iconst 3, 1) := by decide +kernel
theorem d_S_near_9 : decode c_S_near 9 = .ok (.invokestatic 39, 3) := by decide +kernel
theorem d_S_near_12 : decode c_S_near 12 = .ok (.iload_n 1, 1) := by decide +kernel
theorem d_S_near_13 : decode c_S_near 13 = .ok (.iload_n 2, 1) := by decide +kernel
theorem d_S_near_14 : decode c_S_near 14 = .ok (.invokestatic 91, 3) := by decide +kernel
theorem d_S_near_17 : decode c_S_near 17 = .ok (.aload_n 0, 1) := by decide +kernel
theorem d_S_near_18 : decode c_S_near 18 = .ok (.getfield 21, 3) := by decide +kernel
theorem d_S_near_21 : decode c_S_near 21 = .ok (.iload_n 1, 1) := by decide +kernel
theorem d_S_near_22 : decode c_S_near 22 = .ok (.iload_n 2, 1) := by decide +kernel
theorem d_S_near_23 : decode c_S_near 23 = .ok (.iload_n 3, 1) := by decide +kernel
theorem d_S_near_24 : decode c_S_near 24 = .ok (.invokevirtual 94, 3) := by decide +kernel
theorem d_S_near_27 : decode c_S_near 27 = .ok (.return_, 1) := by decide +kernel
theorem d_S_needBatch_0 : decode c_S_needBatch 0 = .ok (.aload_n 0, 1) := by decide +kernel
theorem d_S_needBatch_1 : decode c_S_needBatch 1 = .ok (.getfield 28, 3) := by decide +kernel
theorem d_S_needBatch_4 : decode c_S_needBatch 4 = .ok (.iload_n 1, 1) := by decide +kernel
theorem d_S_needBatch_5 : decode c_S_needBatch 5 = .ok (.invokevirtual 211, 3) := by decide +kernel
theorem d_S_needBatch_8 : decode c_S_needBatch 8 = .ok (.ifCond .ne 13, 3) := by decide +kernel
theorem d_S_needBatch_11 : decode c_S_needBatch 11 = .ok (.new 206, 3) := by decide +kernel
theorem d_S_needBatch_14 : decode c_S_needBatch 14 = .ok (.dup, 1) := by decide +kernel
theorem d_S_needBatch_15 : decode c_S_needBatch 15 = .ok (.ldc 212, 2) := by decide +kernel
theorem d_S_needBatch_17 : decode c_S_needBatch 17 = .ok (.invokespecial 210, 3) := by decide +kernel
theorem d_S_needBatch_20 : decode c_S_needBatch 20 = .ok (.athrow, 1) := by decide +kernel
theorem d_S_needBatch_21 : decode c_S_needBatch 21 = .ok (.return_, 1) := by decide +kernel
theorem d_S_needDifferent_0 : decode c_S_needDifferent 0 = .ok (.iload_n 0, 1) := by decide +kernel
theorem d_S_needDifferent_1 : decode c_S_needDifferent 1 = .ok (.iload_n 1, 1) := by decide +kernel
theorem d_S_needDifferent_2 : decode c_S_needDifferent 2 = .ok (.if_icmp .ne 13, 3) := by decide +kernel
theorem d_S_needDifferent_5 : decode c_S_needDifferent 5 = .ok (.new 181, 3) := by decide +kernel
theorem d_S_needDifferent_8 : decode c_S_needDifferent 8 = .ok (.dup, 1) := by decide +kernel
theorem d_S_needDifferent_9 : decode c_S_needDifferent 9 = .ok (.ldc 221, 2) := by decide +kernel
theorem d_S_needDifferent_11 : decode c_S_needDifferent 11 = .ok (.invokespecial 185, 3) := by decide +kernel
theorem d_S_needDifferent_14 : decode c_S_needDifferent 14 = .ok (.athrow, 1) := by decide +kernel
theorem d_S_needDifferent_15 : decode c_S_needDifferent 15 = .ok (.return_, 1) := by decide +kernel
theorem d_S_needFree_0 : decode c_S_needFree 0 = .ok (.aload_n 0, 1) := by decide +kernel
theorem d_S_needFree_1 : decode c_S_needFree 1 = .ok (.getfield 28, 3) := by decide +kernel
theorem d_S_needFree_4 : decode c_S_needFree 4 = .ok (.iload_n 1, 1) := by decide +kernel
theorem d_S_needFree_5 : decode c_S_needFree 5 = .ok (.invokevirtual 214, 3) := by decide +kernel
theorem d_S_needFree_8 : decode c_S_needFree 8 = .ok (.ifCond .ne 13, 3) := by decide +kernel
theorem d_S_needFree_11 : decode c_S_needFree 11 = .ok (.new 142, 3) := by decide +kernel
theorem d_S_needFree_14 : decode c_S_needFree 14 = .ok (.dup, 1) := by decide +kernel
theorem d_S_needFree_15 : decode c_S_needFree 15 = .ok (.ldc 217, 2) := by decide +kernel
theorem d_S_needFree_17 : decode c_S_needFree 17 = .ok (.invokespecial 146, 3) := by decide +kernel
theorem d_S_needFree_20 : decode c_S_needFree 20 = .ok (.athrow, 1) := by decide +kernel
theorem d_S_needFree_21 : decode c_S_needFree 21 = .ok (.return_, 1) := by decide +kernel
theorem d_S_needOrder_0 : decode c_S_needOrder 0 = .ok (.aload_n 0, 1) := by decide +kernel
theorem d_S_needOrder_1 : decode c_S_needOrder 1 = .ok (.getfield 10, 3) := by decide +kernel
theorem d_S_needOrder_4 : decode c_S_needOrder 4 = .ok (.iload_n 1, 1) := by decide +kernel
theorem d_S_needOrder_5 : decode c_S_needOrder 5 = .ok (.invokevirtual 203, 3) := by decide +kernel
theorem d_S_needOrder_8 : decode c_S_needOrder 8 = .ok (.ifCond .ne 13, 3) := by decide +kernel
theorem d_S_needOrder_11 : decode c_S_needOrder 11 = .ok (.new 206, 3) := by decide +kernel
theorem d_S_needOrder_14 : decode c_S_needOrder 14 = .ok (.dup, 1) := by decide +kernel
theorem d_S_needOrder_15 : decode c_S_needOrder 15 = .ok (.ldc 208, 2) := by decide +kernel
theorem d_S_needOrder_17 : decode c_S_needOrder 17 = .ok (.invokespecial 210, 3) := by decide +kernel
theorem d_S_needOrder_20 : decode c_S_needOrder 20 = .ok (.athrow, 1) := by decide +kernel
theorem d_S_needOrder_21 : decode c_S_needOrder 21 = .ok (.return_, 1) := by decide +kernel
theorem d_S_needRange_0 : decode c_S_needRange 0 = .ok (.iload_n 0, 1) := by decide +kernel
theorem d_S_needRange_1 : decode c_S_needRange 1 = .ok (.iload_n 1, 1) := by decide +kernel
theorem d_S_needRange_2 : decode c_S_needRange 2 = .ok (.if_icmp .lt 8, 3) := by decide +kernel
theorem d_S_needRange_5 : decode c_S_needRange 5 = .ok (.iload_n 0, 1) := by decide +kernel
theorem d_S_needRange_6 : decode c_S_needRange 6 = .ok (.iload_n 2, 1) := by decide +kernel
theorem d_S_needRange_7 : decode c_S_needRange 7 = .ok (.if_icmp .le 13, 3) := by decide +kernel
theorem d_S_needRange_10 : decode c_S_needRange 10 = .ok (.new 181, 3) := by decide +kernel
theorem d_S_needRange_13 : decode c_S_needRange 13 = .ok (.dup, 1) := by decide +kernel
theorem d_S_needRange_14 : decode c_S_needRange 14 = .ok (.ldc 219, 2) := by decide +kernel
theorem d_S_needRange_16 : decode c_S_needRange 16 = .ok (.invokespecial 185, 3) := by decide +kernel
theorem d_S_needRange_19 : decode c_S_needRange 19 = .ok (.athrow, 1) := by decide +kernel
theorem d_S_needRange_20 : decode c_S_needRange 20 = .ok (.return_, 1) := by decide +kernel
theorem d_S_needTwoOrders_0 : decode c_S_needTwoOrders 0 = .ok (.aload_n 0, 1) := by decide +kernel
theorem d_S_needTwoOrders_1 : decode c_S_needTwoOrders 1 = .ok (.iload_n 1, 1) := by decide +kernel
theorem d_S_needTwoOrders_2 : decode c_S_needTwoOrders 2 = .ok (.invokevirtual 77, 3) := by decide +kernel
theorem d_S_needTwoOrders_5 : decode c_S_needTwoOrders 5 = .ok (.aload_n 0, 1) := by decide +kernel
theorem d_S_needTwoOrders_6 : decode c_S_needTwoOrders 6 = .ok (.iload_n 2, 1) := by decide +kernel
theorem d_S_needTwoOrders_7 : decode c_S_needTwoOrders 7 = .ok (.invokevirtual 77, 3) := by decide +kernel
theorem d_S_needTwoOrders_10 : decode c_S_needTwoOrders 10 = .ok (.iload_n 1, 1) := by decide +kernel
theorem d_S_needTwoOrders_11 : decode c_S_needTwoOrders 11 = .ok (.iload_n 2, 1) := by decide +kernel
theorem d_S_needTwoOrders_12 : decode c_S_needTwoOrders 12 = .ok (.invokestatic 91, 3) := by decide +kernel
theorem d_S_needTwoOrders_15 : decode c_S_needTwoOrders 15 = .ok (.return_, 1) := by decide +kernel
theorem d_S_open_0 : decode c_S_open 0 = .ok (.aload_n 0, 1) := by decide +kernel
theorem d_S_open_1 : decode c_S_open 1 = .ok (.iload_n 1, 1) := by decide +kernel
theorem d_S_open_2 : decode c_S_open 2 = .ok (.invokevirtual 77, 3) := by decide +kernel
theorem d_S_open_5 : decode c_S_open 5 = .ok (.aload_n 0, 1) := by decide +kernel
theorem d_S_open_6 : decode c_S_open 6 = .ok (.iload_n 1, 1) := by decide +kernel
theorem d_S_open_7 : decode c_S_open 7 = .ok (.invokevirtual 81, 3) := by decide +kernel
theorem d_S_open_10 : decode c_S_open 10 = .ok (.aload_n 0, 1) := by decide +kernel
theorem d_S_open_11 : decode c_S_open 11 = .ok (.getfield 28, 3) := by decide +kernel
theorem d_S_open_14 : decode c_S_open 14 = .ok (.getfield 124, 3) := by decide +kernel
theorem d_S_open_17 : decode c_S_open 17 = .ok (.bipush 10, 2) := by decide +kernel
theorem d_S_open_19 : decode c_S_open 19 = .ok (.if_icmp .lt 13, 3) := by decide +kernel
theorem d_S_open_22 : decode c_S_open 22 = .ok (.new 47, 3) := by decide +kernel
theorem d_S_open_25 : decode c_S_open 25 = .ok (.dup, 1) := by decide +kernel
theorem d_S_open_26 : decode c_S_open 26 = .ok (.ldc 125, 2) := by decide +kernel
theorem d_S_open_28 : decode c_S_open 28 = .ok (.invokespecial 51, 3) := by decide +kernel
theorem d_S_open_31 : decode c_S_open 31 = .ok (.athrow, 1) := by decide +kernel
theorem d_S_open_32 : decode c_S_open 32 = .ok (.aload_n 0, 1) := by decide +kernel
theorem d_S_open_33 : decode c_S_open 33 = .ok (.getfield 35, 3) := by decide +kernel
theorem d_S_open_36 : decode c_S_open 36 = .ok (.getfield 121, 3) := by decide +kernel
theorem d_S_open_39 : decode c_S_open 39 = .ok (.iload_n 1, 1) := by decide +kernel
theorem d_S_open_40 : decode c_S_open 40 = .ok (.iaload, 1) := by decide +kernel
theorem d_S_open_41 : decode c_S_open 41 = .ok (.istore_n 2, 1) := by decide +kernel
theorem d_S_open_42 : decode c_S_open 42 = .ok (.aload_n 0, 1) := by decide +kernel
theorem d_S_open_43 : decode c_S_open 43 = .ok (.getfield 35, 3) := by decide +kernel
theorem d_S_open_46 : decode c_S_open 46 = .ok (.iload_n 1, 1) := by decide +kernel
theorem d_S_open_47 : decode c_S_open 47 = .ok (.invokevirtual 127, 3) := by decide +kernel
theorem d_S_open_50 : decode c_S_open 50 = .ok (.aload_n 0, 1) := by decide +kernel
theorem d_S_open_51 : decode c_S_open 51 = .ok (.getfield 28, 3) := by decide +kernel
theorem d_S_open_54 : decode c_S_open 54 = .ok (.invokevirtual 130, 3) := by decide +kernel
theorem d_S_open_57 : decode c_S_open 57 = .ok (.istore_n 3, 1) := by decide +kernel
theorem d_S_open_58 : decode c_S_open 58 = .ok (.aload_n 0, 1) := by decide +kernel
theorem d_S_open_59 : decode c_S_open 59 = .ok (.getfield 28, 3) := by decide +kernel
theorem d_S_open_62 : decode c_S_open 62 = .ok (.iload_n 1, 1) := by decide +kernel
theorem d_S_open_63 : decode c_S_open 63 = .ok (.iload_n 3, 1) := by decide +kernel
theorem d_S_open_64 : decode c_S_open 64 = .ok (.invokevirtual 133, 3) := by decide +kernel
theorem d_S_open_67 : decode c_S_open 67 = .ok (.iload_n 2, 1) := by decide +kernel
theorem d_S_open_68 : decode c_S_open 68 = .ok (.iconst (-1), 1) := by decide +kernel
theorem d_S_open_69 : decode c_S_open 69 = .ok (.if_icmp .eq 12, 3) := by decide +kernel
theorem d_S_open_72 : decode c_S_open 72 = .ok (.aload_n 0, 1) := by decide +kernel
theorem d_S_open_73 : decode c_S_open 73 = .ok (.getfield 28, 3) := by decide +kernel
theorem d_S_open_76 : decode c_S_open 76 = .ok (.iload_n 2, 1) := by decide +kernel
theorem d_S_open_77 : decode c_S_open 77 = .ok (.iload_n 3, 1) := by decide +kernel
theorem d_S_open_78 : decode c_S_open 78 = .ok (.invokevirtual 133, 3) := by decide +kernel
theorem d_S_open_81 : decode c_S_open 81 = .ok (.iload_n 3, 1) := by decide +kernel
theorem d_S_open_82 : decode c_S_open 82 = .ok (.ireturn, 1) := by decide +kernel
theorem d_S_order_0 : decode c_S_order 0 = .ok (.iload_n 1, 1) := by decide +kernel
theorem d_S_order_1 : decode c_S_order 1 = .ok (.iconst 1, 1) := by decide +kernel
theorem d_S_order_2 : decode c_S_order 2 = .ok (.sipush 10000, 3) := by decide +kernel
theorem d_S_order_5 : decode c_S_order 5 = .ok (.invokestatic 39, 3) := by decide +kernel
theorem d_S_order_8 : decode c_S_order 8 = .ok (.iload_n 2, 1) := by decide +kernel
theorem d_S_order_9 : decode c_S_order 9 = .ok (.iconst 1, 1) := by decide +kernel
theorem d_S_order_10 : decode c_S_order 10 = .ok (.bipush 100, 2) := by decide +kernel
theorem d_S_order_12 : decode c_S_order 12 = .ok (.invokestatic 39, 3) := by decide +kernel
theorem d_S_order_15 : decode c_S_order 15 = .ok (.iload_n 3, 1) := by decide +kernel
theorem d_S_order_16 : decode c_S_order 16 = .ok (.iconst 0, 1) := by decide +kernel
theorem d_S_order_17 : decode c_S_order 17 = .ok (.iconst 3, 1) := by decide +kernel
theorem d_S_order_18 : decode c_S_order 18 = .ok (.invokestatic 39, 3) := by decide +kernel
theorem d_S_order_21 : decode c_S_order 21 = .ok (.aload_n 0, 1) := by decide +kernel
theorem d_S_order_22 : decode c_S_order 22 = .ok (.getfield 10, 3) := by decide +kernel
theorem d_S_order_25 : decode c_S_order 25 = .ok (.getfield 43, 3) := by decide +kernel
theorem d_S_order_28 : decode c_S_order 28 = .ok (.bipush 10, 2) := by decide +kernel
theorem d_S_order_30 : decode c_S_order 30 = .ok (.if_icmp .lt 13, 3) := by decide +kernel
theorem d_S_order_33 : decode c_S_order 33 = .ok (.new 47, 3) := by decide +kernel
theorem d_S_order_36 : decode c_S_order 36 = .ok (.dup, 1) := by decide +kernel
theorem d_S_order_37 : decode c_S_order 37 = .ok (.ldc 49, 2) := by decide +kernel
theorem d_S_order_39 : decode c_S_order 39 = .ok (.invokespecial 51, 3) := by decide +kernel
theorem d_S_order_42 : decode c_S_order 42 = .ok (.athrow, 1) := by decide +kernel
theorem d_S_order_43 : decode c_S_order 43 = .ok (.aload_n 0, 1) := by decide +kernel
theorem d_S_order_44 : decode c_S_order 44 = .ok (.getfield 10, 3) := by decide +kernel
theorem d_S_order_47 : decode c_S_order 47 = .ok (.iload_n 1, 1) := by decide +kernel
theorem d_S_order_48 : decode c_S_order 48 = .ok (.iload_n 2, 1) := by decide +kernel
theorem d_S_order_49 : decode c_S_order 49 = .ok (.iload_n 3, 1) := by decide +kernel
theorem d_S_order_50 : decode c_S_order 50 = .ok (.invokevirtual 54, 3) := by decide +kernel
theorem d_S_order_53 : decode c_S_order 53 = .ok (.ireturn, 1) := by decide +kernel
theorem d_S_pairIndex_0 : decode c_S_pairIndex 0 = .ok (.iload_n 0, 1) := by decide +kernel
theorem d_S_pairIndex_1 : decode c_S_pairIndex 1 = .ok (.bipush 10, 2) := by decide +kernel
theorem d_S_pairIndex_3 : decode c_S_pairIndex 3 = .ok (.imul, 1) := by decide +kernel
theorem d_S_pairIndex_4 : decode c_S_pairIndex 4 = .ok (.iload_n 1, 1) := by decide +kernel
theorem d_S_pairIndex_5 : decode c_S_pairIndex 5 = .ok (.iadd, 1) := by decide +kernel
theorem d_S_pairIndex_6 : decode c_S_pairIndex 6 = .ok (.ireturn, 1) := by decide +kernel
theorem d_S_rule_0 : decode c_S_rule 0 = .ok (.aload_n 0, 1) := by decide +kernel
theorem d_S_rule_1 : decode c_S_rule 1 = .ok (.iload_n 1, 1) := by decide +kernel
theorem d_S_rule_2 : decode c_S_rule 2 = .ok (.iload_n 2, 1) := by decide +kernel
theorem d_S_rule_3 : decode c_S_rule 3 = .ok (.invokevirtual 58, 3) := by decide +kernel
theorem d_S_rule_6 : decode c_S_rule 6 = .ok (.aload_n 0, 1) := by decide +kernel
theorem d_S_rule_7 : decode c_S_rule 7 = .ok (.getfield 21, 3) := by decide +kernel
theorem d_S_rule_10 : decode c_S_rule 10 = .ok (.iload_n 1, 1) := by decide +kernel
theorem d_S_rule_11 : decode c_S_rule 11 = .ok (.iload_n 2, 1) := by decide +kernel
theorem d_S_rule_12 : decode c_S_rule 12 = .ok (.iload_n 3, 1) := by decide +kernel
theorem d_S_rule_13 : decode c_S_rule 13 = .ok (.invokevirtual 69, 3) := by decide +kernel
theorem d_S_rule_16 : decode c_S_rule 16 = .ok (.aload_n 0, 1) := by decide +kernel
theorem d_S_rule_17 : decode c_S_rule 17 = .ok (.getfield 21, 3) := by decide +kernel
theorem d_S_rule_20 : decode c_S_rule 20 = .ok (.iload_n 1, 1) := by decide +kernel
theorem d_S_rule_21 : decode c_S_rule 21 = .ok (.iload_n 2, 1) := by decide +kernel
theorem d_S_rule_22 : decode c_S_rule 22 = .ok (.invokevirtual 73, 3) := by decide +kernel
theorem d_S_rule_25 : decode c_S_rule 25 = .ok (.ireturn, 1) := by decide +kernel
theorem d_S_saving_0 : decode c_S_saving 0 = .ok (.aload_n 0, 1) := by decide +kernel
theorem d_S_saving_1 : decode c_S_saving 1 = .ok (.iload_n 1, 1) := by decide +kernel
theorem d_S_saving_2 : decode c_S_saving 2 = .ok (.iload_n 2, 1) := by decide +kernel
theorem d_S_saving_3 : decode c_S_saving 3 = .ok (.invokevirtual 58, 3) := by decide +kernel
theorem d_S_saving_6 : decode c_S_saving 6 = .ok (.aload_n 0, 1) := by decide +kernel
theorem d_S_saving_7 : decode c_S_saving 7 = .ok (.getfield 10, 3) := by decide +kernel
theorem d_S_saving_10 : decode c_S_saving 10 = .ok (.iload_n 1, 1) := by decide +kernel
theorem d_S_saving_11 : decode c_S_saving 11 = .ok (.iload_n 2, 1) := by decide +kernel
theorem d_S_saving_12 : decode c_S_saving 12 = .ok (.invokevirtual 65, 3) := by decide +kernel
theorem d_S_saving_15 : decode c_S_saving 15 = .ok (.ireturn, 1) := by decide +kernel
theorem d_S_share_0 : decode c_S_share 0 = .ok (.iload_n 1, 1) := by decide +kernel
theorem d_S_share_1 : decode c_S_share 1 = .ok (.iconst 0, 1) := by decide +kernel
theorem d_S_share_2 : decode c_S_share 2 = .ok (.ldc 189, 2) := by decide +kernel
theorem d_S_share_4 : decode c_S_share 4 = .ok (.invokestatic 39, 3) := by decide +kernel
theorem d_S_share_7 : decode c_S_share 7 = .ok (.iload_n 2, 1) := by decide +kernel
theorem d_S_share_8 : decode c_S_share 8 = .ok (.ifCond .ge 13, 3) := by decide +kernel
theorem d_S_share_11 : decode c_S_share 11 = .ok (.new 181, 3) := by decide +kernel
theorem d_S_share_14 : decode c_S_share 14 = .ok (.dup, 1) := by decide +kernel
theorem d_S_share_15 : decode c_S_share 15 = .ok (.ldc 190, 2) := by decide +kernel
theorem d_S_share_17 : decode c_S_share 17 = .ok (.invokespecial 185, 3) := by decide +kernel
theorem d_S_share_20 : decode c_S_share 20 = .ok (.athrow, 1) := by decide +kernel
theorem d_S_share_21 : decode c_S_share 21 = .ok (.iload_n 2, 1) := by decide +kernel
theorem d_S_share_22 : decode c_S_share 22 = .ok (.ifCond .ne 13, 3) := by decide +kernel
theorem d_S_share_25 : decode c_S_share 25 = .ok (.new 192, 3) := by decide +kernel
theorem d_S_share_28 : decode c_S_share 28 = .ok (.dup, 1) := by decide +kernel
theorem d_S_share_29 : decode c_S_share 29 = .ok (.ldc 194, 2) := by decide +kernel
theorem d_S_share_31 : decode c_S_share 31 = .ok (.invokespecial 196, 3) := by decide +kernel
theorem d_S_share_34 : decode c_S_share 34 = .ok (.athrow, 1) := by decide +kernel
theorem d_S_share_35 : decode c_S_share 35 = .ok (.bipush 100, 2) := by decide +kernel
theorem d_S_share_37 : decode c_S_share 37 = .ok (.iload_n 1, 1) := by decide +kernel
theorem d_S_share_38 : decode c_S_share 38 = .ok (.imul, 1) := by decide +kernel
theorem d_S_share_39 : decode c_S_share 39 = .ok (.iload_n 2, 1) := by decide +kernel
theorem d_S_share_40 : decode c_S_share 40 = .ok (.idiv, 1) := by decide +kernel
theorem d_S_share_41 : decode c_S_share 41 = .ok (.ireturn, 1) := by decide +kernel
theorem d_S_suits_0 : decode c_S_suits 0 = .ok (.aload_n 0, 1) := by decide +kernel
theorem d_S_suits_1 : decode c_S_suits 1 = .ok (.getfield 21, 3) := by decide +kernel
theorem d_S_suits_4 : decode c_S_suits 4 = .ok (.invokevirtual 231, 3) := by decide +kernel
theorem d_S_suits_7 : decode c_S_suits 7 = .ok (.iconst 0, 1) := by decide +kernel
theorem d_S_suits_8 : decode c_S_suits 8 = .ok (.istore_n 3, 1) := by decide +kernel
theorem d_S_suits_9 : decode c_S_suits 9 = .ok (.iload_n 3, 1) := by decide +kernel
theorem d_S_suits_10 : decode c_S_suits 10 = .ok (.aload_n 0, 1) := by decide +kernel
theorem d_S_suits_11 : decode c_S_suits 11 = .ok (.getfield 28, 3) := by decide +kernel
theorem d_S_suits_14 : decode c_S_suits 14 = .ok (.getfield 165, 3) := by decide +kernel
theorem d_S_suits_17 : decode c_S_suits 17 = .ok (.iload_n 2, 1) := by decide +kernel
theorem d_S_suits_18 : decode c_S_suits 18 = .ok (.iaload, 1) := by decide +kernel
theorem d_S_suits_19 : decode c_S_suits 19 = .ok (.if_icmp .ge 25, 3) := by decide +kernel
theorem d_S_suits_22 : decode c_S_suits 22 = .ok (.aload_n 0, 1) := by decide +kernel
theorem d_S_suits_23 : decode c_S_suits 23 = .ok (.getfield 21, 3) := by decide +kernel
theorem d_S_suits_26 : decode c_S_suits 26 = .ok (.aload_n 0, 1) := by decide +kernel
theorem d_S_suits_27 : decode c_S_suits 27 = .ok (.getfield 28, 3) := by decide +kernel
theorem d_S_suits_30 : decode c_S_suits 30 = .ok (.iload_n 2, 1) := by decide +kernel
theorem d_S_suits_31 : decode c_S_suits 31 = .ok (.iload_n 3, 1) := by decide +kernel
theorem d_S_suits_32 : decode c_S_suits 32 = .ok (.invokevirtual 168, 3) := by decide +kernel
theorem d_S_suits_35 : decode c_S_suits 35 = .ok (.invokevirtual 234, 3) := by decide +kernel
theorem d_S_suits_38 : decode c_S_suits 38 = .ok (.iinc 3 1, 3) := by decide +kernel
theorem d_S_suits_41 : decode c_S_suits 41 = .ok (.goto (-32), 3) := by decide +kernel
theorem d_S_suits_44 : decode c_S_suits 44 = .ok (.aload_n 0, 1) := by decide +kernel
theorem d_S_suits_45 : decode c_S_suits 45 = .ok (.getfield 21, 3) := by decide +kernel
theorem d_S_suits_48 : decode c_S_suits 48 = .ok (.iload_n 1, 1) := by decide +kernel
theorem d_S_suits_49 : decode c_S_suits 49 = .ok (.invokevirtual 234, 3) := by decide +kernel
theorem d_S_suits_52 : decode c_S_suits 52 = .ok (.aload_n 0, 1) := by decide +kernel
theorem d_S_suits_53 : decode c_S_suits 53 = .ok (.getfield 21, 3) := by decide +kernel
theorem d_S_suits_56 : decode c_S_suits 56 = .ok (.invokevirtual 237, 3) := by decide +kernel
theorem d_S_suits_59 : decode c_S_suits 59 = .ok (.ifCond .eq 19, 3) := by decide +kernel
theorem d_S_suits_62 : decode c_S_suits 62 = .ok (.aload_n 0, 1) := by decide +kernel
theorem d_S_suits_63 : decode c_S_suits 63 = .ok (.getfield 28, 3) := by decide +kernel
theorem d_S_suits_66 : decode c_S_suits 66 = .ok (.iload_n 1, 1) := by decide +kernel
theorem d_S_suits_67 : decode c_S_suits 67 = .ok (.iload_n 2, 1) := by decide +kernel
theorem d_S_suits_68 : decode c_S_suits 68 = .ok (.invokevirtual 186, 3) := by decide +kernel
theorem d_S_suits_71 : decode c_S_suits 71 = .ok (.ifCond .lt 7, 3) := by decide +kernel
theorem d_S_suits_74 : decode c_S_suits 74 = .ok (.iconst 1, 1) := by decide +kernel
theorem d_S_suits_75 : decode c_S_suits 75 = .ok (.goto 4, 3) := by decide +kernel
theorem d_S_suits_78 : decode c_S_suits 78 = .ok (.iconst 0, 1) := by decide +kernel
theorem d_S_suits_79 : decode c_S_suits 79 = .ok (.ireturn, 1) := by decide +kernel
theorem d_S_takeGains_0 : decode c_S_takeGains 0 = .ok (.iconst 0, 1) := by decide +kernel
theorem d_S_takeGains_1 : decode c_S_takeGains 1 = .ok (.istore_n 1, 1) := by decide +kernel
theorem d_S_takeGains_2 : decode c_S_takeGains 2 = .ok (.iload_n 1, 1) := by decide +kernel
theorem d_S_takeGains_3 : decode c_S_takeGains 3 = .ok (.aload_n 0, 1) := by decide +kernel
theorem d_S_takeGains_4 : decode c_S_takeGains 4 = .ok (.getfield 10, 3) := by decide +kernel
theorem d_S_takeGains_7 : decode c_S_takeGains 7 = .ok (.getfield 43, 3) := by decide +kernel
theorem d_S_takeGains_10 : decode c_S_takeGains 10 = .ok (.if_icmp .ge 100, 3) := by decide +kernel
theorem d_S_takeGains_13 : decode c_S_takeGains 13 = .ok (.iload_n 1, 1) := by decide +kernel
theorem d_S_takeGains_14 : decode c_S_takeGains 14 = .ok (.iconst 1, 1) := by decide +kernel
theorem d_S_takeGains_15 : decode c_S_takeGains 15 = .ok (.iadd, 1) := by decide +kernel
theorem d_S_takeGains_16 : decode c_S_takeGains 16 = .ok (.istore_n 2, 1) := by decide +kernel
theorem d_S_takeGains_17 : decode c_S_takeGains 17 = .ok (.iload_n 2, 1) := by decide +kernel
theorem d_S_takeGains_18 : decode c_S_takeGains 18 = .ok (.aload_n 0, 1) := by decide +kernel
theorem d_S_takeGains_19 : decode c_S_takeGains 19 = .ok (.getfield 10, 3) := by decide +kernel
theorem d_S_takeGains_22 : decode c_S_takeGains 22 = .ok (.getfield 43, 3) := by decide +kernel
theorem d_S_takeGains_25 : decode c_S_takeGains 25 = .ok (.if_icmp .ge 79, 3) := by decide +kernel
theorem d_S_takeGains_28 : decode c_S_takeGains 28 = .ok (.aload_n 0, 1) := by decide +kernel
theorem d_S_takeGains_29 : decode c_S_takeGains 29 = .ok (.getfield 28, 3) := by decide +kernel
theorem d_S_takeGains_32 : decode c_S_takeGains 32 = .ok (.iload_n 1, 1) := by decide +kernel
theorem d_S_takeGains_33 : decode c_S_takeGains 33 = .ok (.invokevirtual 214, 3) := by decide +kernel
theorem d_S_takeGains_36 : decode c_S_takeGains 36 = .ok (.ifCond .eq 30, 3) := by decide +kernel
theorem d_S_takeGains_39 : decode c_S_takeGains 39 = .ok (.aload_n 0, 1) := by decide +kernel
theorem d_S_takeGains_40 : decode c_S_takeGains 40 = .ok (.getfield 28, 3) := by decide +kernel
theorem d_S_takeGains_43 : decode c_S_takeGains 43 = .ok (.iload_n 2, 1) := by decide +kernel
theorem d_S_takeGains_44 : decode c_S_takeGains 44 = .ok (.invokevirtual 214, 3) := by decide +kernel
theorem d_S_takeGains_47 : decode c_S_takeGains 47 = .ok (.ifCond .eq 19, 3) := by decide +kernel
theorem d_S_takeGains_50 : decode c_S_takeGains 50 = .ok (.aload_n 0, 1) := by decide +kernel
theorem d_S_takeGains_51 : decode c_S_takeGains 51 = .ok (.getfield 21, 3) := by decide +kernel
theorem d_S_takeGains_54 : decode c_S_takeGains 54 = .ok (.iload_n 1, 1) := by decide +kernel
theorem d_S_takeGains_55 : decode c_S_takeGains 55 = .ok (.iload_n 2, 1) := by decide +kernel
theorem d_S_takeGains_56 : decode c_S_takeGains 56 = .ok (.invokevirtual 73, 3) := by decide +kernel
theorem d_S_takeGains_59 : decode c_S_takeGains 59 = .ok (.ifCond .eq 7, 3) := by decide +kernel
theorem d_S_takeGains_62 : decode c_S_takeGains 62 = .ok (.iconst 1, 1) := by decide +kernel
theorem d_S_takeGains_63 : decode c_S_takeGains 63 = .ok (.goto 4, 3) := by decide +kernel
theorem d_S_takeGains_66 : decode c_S_takeGains 66 = .ok (.iconst 0, 1) := by decide +kernel
theorem d_S_takeGains_67 : decode c_S_takeGains 67 = .ok (.istore_n 3, 1) := by decide +kernel
theorem d_S_takeGains_68 : decode c_S_takeGains 68 = .ok (.aload_n 0, 1) := by decide +kernel
theorem d_S_takeGains_69 : decode c_S_takeGains 69 = .ok (.getfield 35, 3) := by decide +kernel
theorem d_S_takeGains_72 : decode c_S_takeGains 72 = .ok (.iload_n 1, 1) := by decide +kernel
theorem d_S_takeGains_73 : decode c_S_takeGains 73 = .ok (.iload_n 2, 1) := by decide +kernel
theorem d_S_takeGains_74 : decode c_S_takeGains 74 = .ok (.iload_n 3, 1) := by decide +kernel
theorem d_S_takeGains_75 : decode c_S_takeGains 75 = .ok (.ifCond .eq 19, 3) := by decide +kernel
theorem d_S_takeGains_78 : decode c_S_takeGains 78 = .ok (.iconst 0, 1) := by decide +kernel
theorem d_S_takeGains_79 : decode c_S_takeGains 79 = .ok (.aload_n 0, 1) := by decide +kernel
theorem d_S_takeGains_80 : decode c_S_takeGains 80 = .ok (.getfield 10, 3) := by decide +kernel
theorem d_S_takeGains_83 : decode c_S_takeGains 83 = .ok (.iload_n 1, 1) := by decide +kernel
theorem d_S_takeGains_84 : decode c_S_takeGains 84 = .ok (.iload_n 2, 1) := by decide +kernel
theorem d_S_takeGains_85 : decode c_S_takeGains 85 = .ok (.invokevirtual 65, 3) := by decide +kernel
theorem d_S_takeGains_88 : decode c_S_takeGains 88 = .ok (.invokestatic 223, 3) := by decide +kernel
theorem d_S_takeGains_91 : decode c_S_takeGains 91 = .ok (.goto 4, 3) := by decide +kernel
theorem d_S_takeGains_94 : decode c_S_takeGains 94 = .ok (.iconst 0, 1) := by decide +kernel
theorem d_S_takeGains_95 : decode c_S_takeGains 95 = .ok (.invokevirtual 228, 3) := by decide +kernel
theorem d_S_takeGains_98 : decode c_S_takeGains 98 = .ok (.iinc 2 1, 3) := by decide +kernel
theorem d_S_takeGains_101 : decode c_S_takeGains 101 = .ok (.goto (-84), 3) := by decide +kernel
theorem d_S_takeGains_104 : decode c_S_takeGains 104 = .ok (.iinc 1 1, 3) := by decide +kernel
theorem d_S_takeGains_107 : decode c_S_takeGains 107 = .ok (.goto (-105), 3) := by decide +kernel
theorem d_S_takeGains_110 : decode c_S_takeGains 110 = .ok (.return_, 1) := by decide +kernel
theorem d_S_told_0 : decode c_S_told 0 = .ok (.aload_n 0, 1) := by decide +kernel
theorem d_S_told_1 : decode c_S_told 1 = .ok (.iload_n 1, 1) := by decide +kernel
theorem d_S_told_2 : decode c_S_told 2 = .ok (.invokevirtual 136, 3) := by decide +kernel
theorem d_S_told_5 : decode c_S_told 5 = .ok (.iload_n 3, 1) := by decide +kernel
theorem d_S_told_6 : decode c_S_told 6 = .ok (.tableswitch 110 0 4 #[34, 60, 69, 78, 94], 34) := by decide +kernel
theorem d_S_told_40 : decode c_S_told 40 = .ok (.iload_n 2, 1) := by decide +kernel
theorem d_S_told_41 : decode c_S_told 41 = .ok (.iconst 0, 1) := by decide +kernel
theorem d_S_told_42 : decode c_S_told 42 = .ok (.aload_n 0, 1) := by decide +kernel
theorem d_S_told_43 : decode c_S_told 43 = .ok (.getfield 28, 3) := by decide +kernel
theorem d_S_told_46 : decode c_S_told 46 = .ok (.getfield 165, 3) := by decide +kernel
theorem d_S_told_49 : decode c_S_told 49 = .ok (.iload_n 1, 1) := by decide +kernel
theorem d_S_told_50 : decode c_S_told 50 = .ok (.iaload, 1) := by decide +kernel
theorem d_S_told_51 : decode c_S_told 51 = .ok (.iconst 1, 1) := by decide +kernel
theorem d_S_told_52 : decode c_S_told 52 = .ok (.isub, 1) := by decide +kernel
theorem d_S_told_53 : decode c_S_told 53 = .ok (.invokestatic 39, 3) := by decide +kernel
theorem d_S_told_56 : decode c_S_told 56 = .ok (.aload_n 0, 1) := by decide +kernel
theorem d_S_told_57 : decode c_S_told 57 = .ok (.getfield 28, 3) := by decide +kernel
theorem d_S_told_60 : decode c_S_told 60 = .ok (.iload_n 1, 1) := by decide +kernel
theorem d_S_told_61 : decode c_S_told 61 = .ok (.iload_n 2, 1) := by decide +kernel
theorem d_S_told_62 : decode c_S_told 62 = .ok (.invokevirtual 168, 3) := by decide +kernel
theorem d_S_told_65 : decode c_S_told 65 = .ok (.ireturn, 1) := by decide +kernel
theorem d_S_told_66 : decode c_S_told 66 = .ok (.aload_n 0, 1) := by decide +kernel
theorem d_S_told_67 : decode c_S_told 67 = .ok (.getfield 28, 3) := by decide +kernel
theorem d_S_told_70 : decode c_S_told 70 = .ok (.iload_n 1, 1) := by decide +kernel
theorem d_S_told_71 : decode c_S_told 71 = .ok (.invokevirtual 153, 3) := by decide +kernel
theorem d_S_told_74 : decode c_S_told 74 = .ok (.ireturn, 1) := by decide +kernel
theorem d_S_told_75 : decode c_S_told 75 = .ok (.aload_n 0, 1) := by decide +kernel
theorem d_S_told_76 : decode c_S_told 76 = .ok (.getfield 28, 3) := by decide +kernel
theorem d_S_told_79 : decode c_S_told 79 = .ok (.iload_n 1, 1) := by decide +kernel
theorem d_S_told_80 : decode c_S_told 80 = .ok (.invokevirtual 171, 3) := by decide +kernel
theorem d_S_told_83 : decode c_S_told 83 = .ok (.ireturn, 1) := by decide +kernel
theorem d_S_told_84 : decode c_S_told 84 = .ok (.aload_n 0, 1) := by decide +kernel
theorem d_S_told_85 : decode c_S_told 85 = .ok (.getfield 28, 3) := by decide +kernel
theorem d_S_told_88 : decode c_S_told 88 = .ok (.iload_n 1, 1) := by decide +kernel
theorem d_S_told_89 : decode c_S_told 89 = .ok (.aload_n 0, 1) := by decide +kernel
theorem d_S_told_90 : decode c_S_told 90 = .ok (.getfield 10, 3) := by decide +kernel
theorem d_S_told_93 : decode c_S_told 93 = .ok (.getfield 174, 3) := by decide +kernel
theorem d_S_told_96 : decode c_S_told 96 = .ok (.invokevirtual 177, 3) := by decide +kernel
theorem d_S_told_99 : decode c_S_told 99 = .ok (.ireturn, 1) := by decide +kernel
theorem d_S_told_100 : decode c_S_told 100 = .ok (.aload_n 0, 1) := by decide +kernel
theorem d_S_told_101 : decode c_S_told 101 = .ok (.getfield 28, 3) := by decide +kernel
theorem d_S_told_104 : decode c_S_told 104 = .ok (.iload_n 1, 1) := by decide +kernel
theorem d_S_told_105 : decode c_S_told 105 = .ok (.aload_n 0, 1) := by decide +kernel
theorem d_S_told_106 : decode c_S_told 106 = .ok (.getfield 10, 3) := by decide +kernel
theorem d_S_told_109 : decode c_S_told 109 = .ok (.getfield 87, 3) := by decide +kernel
theorem d_S_told_112 : decode c_S_told 112 = .ok (.invokevirtual 177, 3) := by decide +kernel
theorem d_S_told_115 : decode c_S_told 115 = .ok (.ireturn, 1) := by decide +kernel
theorem d_S_told_116 : decode c_S_told 116 = .ok (.new 181, 3) := by decide +kernel
theorem d_S_told_119 : decode c_S_told 119 = .ok (.dup, 1) := by decide +kernel
theorem d_S_told_120 : decode c_S_told 120 = .ok (.ldc 183, 2) := by decide +kernel
theorem d_S_told_122 : decode c_S_told 122 = .ok (.invokespecial 185, 3) := by decide +kernel
theorem d_S_told_125 : decode c_S_told 125 = .ok (.athrow, 1) := by decide +kernel
theorem d_S_weight_0 : decode c_S_weight 0 = .ok (.aload_n 0, 1) := by decide +kernel
theorem d_S_weight_1 : decode c_S_weight 1 = .ok (.iload_n 1, 1) := by decide +kernel
theorem d_S_weight_2 : decode c_S_weight 2 = .ok (.invokevirtual 77, 3) := by decide +kernel
theorem d_S_weight_5 : decode c_S_weight 5 = .ok (.iload_n 2, 1) := by decide +kernel
theorem d_S_weight_6 : decode c_S_weight 6 = .ok (.iconst 0, 1) := by decide +kernel
theorem d_S_weight_7 : decode c_S_weight 7 = .ok (.sipush 1000, 3) := by decide +kernel
theorem d_S_weight_10 : decode c_S_weight 10 = .ok (.invokestatic 39, 3) := by decide +kernel
theorem d_S_weight_13 : decode c_S_weight 13 = .ok (.aload_n 0, 1) := by decide +kernel
theorem d_S_weight_14 : decode c_S_weight 14 = .ok (.iload_n 1, 1) := by decide +kernel
theorem d_S_weight_15 : decode c_S_weight 15 = .ok (.invokevirtual 81, 3) := by decide +kernel
theorem d_S_weight_18 : decode c_S_weight 18 = .ok (.iload_n 2, 1) := by decide +kernel
theorem d_S_weight_19 : decode c_S_weight 19 = .ok (.aload_n 0, 1) := by decide +kernel
theorem d_S_weight_20 : decode c_S_weight 20 = .ok (.getfield 21, 3) := by decide +kernel
theorem d_S_weight_23 : decode c_S_weight 23 = .ok (.getfield 84, 3) := by decide +kernel
theorem d_S_weight_26 : decode c_S_weight 26 = .ok (.if_icmp .le 5, 3) := by decide +kernel
theorem d_S_weight_29 : decode c_S_weight 29 = .ok (.iconst 0, 1) := by decide +kernel
theorem d_S_weight_30 : decode c_S_weight 30 = .ok (.ireturn, 1) := by decide +kernel
theorem d_S_weight_31 : decode c_S_weight 31 = .ok (.aload_n 0, 1) := by decide +kernel
theorem d_S_weight_32 : decode c_S_weight 32 = .ok (.getfield 10, 3) := by decide +kernel
theorem d_S_weight_35 : decode c_S_weight 35 = .ok (.getfield 87, 3) := by decide +kernel
theorem d_S_weight_38 : decode c_S_weight 38 = .ok (.iload_n 1, 1) := by decide +kernel
theorem d_S_weight_39 : decode c_S_weight 39 = .ok (.iload_n 2, 1) := by decide +kernel
theorem d_S_weight_40 : decode c_S_weight 40 = .ok (.iastore, 1) := by decide +kernel
theorem d_S_weight_41 : decode c_S_weight 41 = .ok (.iconst 1, 1) := by decide +kernel
theorem d_S_weight_42 : decode c_S_weight 42 = .ok (.ireturn, 1) := by decide +kernel
theorem d_S_with_0 : decode c_S_with 0 = .ok (.aload_n 0, 1) := by decide +kernel
theorem d_S_with_1 : decode c_S_with 1 = .ok (.iload_n 1, 1) := by decide +kernel
theorem d_S_with_2 : decode c_S_with 2 = .ok (.invokevirtual 77, 3) := by decide +kernel
theorem d_S_with_5 : decode c_S_with 5 = .ok (.aload_n 0, 1) := by decide +kernel
theorem d_S_with_6 : decode c_S_with 6 = .ok (.getfield 35, 3) := by decide +kernel
theorem d_S_with_9 : decode c_S_with 9 = .ok (.getfield 121, 3) := by decide +kernel
theorem d_S_with_12 : decode c_S_with 12 = .ok (.iload_n 1, 1) := by decide +kernel
theorem d_S_with_13 : decode c_S_with 13 = .ok (.iaload, 1) := by decide +kernel
theorem d_S_with_14 : decode c_S_with 14 = .ok (.ireturn, 1) := by decide +kernel
theorem d_O_init_0 : decode c_O_init 0 = .ok (.aload_n 0, 1) := by decide +kernel
theorem d_O_init_1 : decode c_O_init 1 = .ok (.invokespecial 3, 3) := by decide +kernel
theorem d_O_init_4 : decode c_O_init 4 = .ok (.aload_n 0, 1) := by decide +kernel
theorem d_O_init_5 : decode c_O_init 5 = .ok (.bipush 10, 2) := by decide +kernel
theorem d_O_init_7 : decode c_O_init 7 = .ok (.newarray .int, 2) := by decide +kernel
theorem d_O_init_9 : decode c_O_init 9 = .ok (.putfield 9, 3) := by decide +kernel
theorem d_O_init_12 : decode c_O_init 12 = .ok (.aload_n 0, 1) := by decide +kernel
theorem d_O_init_13 : decode c_O_init 13 = .ok (.bipush 10, 2) := by decide +kernel
theorem d_O_init_15 : decode c_O_init 15 = .ok (.newarray .int, 2) := by decide +kernel
theorem d_O_init_17 : decode c_O_init 17 = .ok (.putfield 15, 3) := by decide +kernel
theorem d_O_init_20 : decode c_O_init 20 = .ok (.aload_n 0, 1) := by decide +kernel
theorem d_O_init_21 : decode c_O_init 21 = .ok (.bipush 10, 2) := by decide +kernel
theorem d_O_init_23 : decode c_O_init 23 = .ok (.newarray .int, 2) := by decide +kernel
theorem d_O_init_25 : decode c_O_init 25 = .ok (.putfield 18, 3) := by decide +kernel
theorem d_O_init_28 : decode c_O_init 28 = .ok (.aload_n 0, 1) := by decide +kernel
theorem d_O_init_29 : decode c_O_init 29 = .ok (.bipush 10, 2) := by decide +kernel
theorem d_O_init_31 : decode c_O_init 31 = .ok (.newarray .int, 2) := by decide +kernel
theorem d_O_init_33 : decode c_O_init 33 = .ok (.putfield 21, 3) := by decide +kernel
theorem d_O_init_36 : decode c_O_init 36 = .ok (.aload_n 0, 1) := by decide +kernel
theorem d_O_init_37 : decode c_O_init 37 = .ok (.bipush 100, 2) := by decide +kernel
theorem d_O_init_39 : decode c_O_init 39 = .ok (.newarray .int, 2) := by decide +kernel
theorem d_O_init_41 : decode c_O_init 41 = .ok (.putfield 24, 3) := by decide +kernel
theorem d_O_init_44 : decode c_O_init 44 = .ok (.aload_n 0, 1) := by decide +kernel
theorem d_O_init_45 : decode c_O_init 45 = .ok (.getfield 24, 3) := by decide +kernel
theorem d_O_init_48 : decode c_O_init 48 = .ok (.iconst (-1), 1) := by decide +kernel
theorem d_O_init_49 : decode c_O_init 49 = .ok (.invokestatic 27, 3) := by decide +kernel
theorem d_O_init_52 : decode c_O_init 52 = .ok (.return_, 1) := by decide +kernel
theorem d_O_add_0 : decode c_O_add 0 = .ok (.aload_n 0, 1) := by decide +kernel
theorem d_O_add_1 : decode c_O_add 1 = .ok (.getfield 33, 3) := by decide +kernel
theorem d_O_add_4 : decode c_O_add 4 = .ok (.istore 4, 2) := by decide +kernel
theorem d_O_add_6 : decode c_O_add 6 = .ok (.aload_n 0, 1) := by decide +kernel
theorem d_O_add_7 : decode c_O_add 7 = .ok (.getfield 9, 3) := by decide +kernel
theorem d_O_add_10 : decode c_O_add 10 = .ok (.iload 4, 2) := by decide +kernel
theorem d_O_add_12 : decode c_O_add 12 = .ok (.iload_n 1, 1) := by decide +kernel
theorem d_O_add_13 : decode c_O_add 13 = .ok (.iastore, 1) := by decide +kernel
theorem d_O_add_14 : decode c_O_add 14 = .ok (.aload_n 0, 1) := by decide +kernel
theorem d_O_add_15 : decode c_O_add 15 = .ok (.getfield 15, 3) := by decide +kernel
theorem d_O_add_18 : decode c_O_add 18 = .ok (.iload 4, 2) := by decide +kernel
theorem d_O_add_20 : decode c_O_add 20 = .ok (.iload_n 2, 1) := by decide +kernel
theorem d_O_add_21 : decode c_O_add 21 = .ok (.iastore, 1) := by decide +kernel
theorem d_O_add_22 : decode c_O_add 22 = .ok (.aload_n 0, 1) := by decide +kernel
theorem d_O_add_23 : decode c_O_add 23 = .ok (.getfield 18, 3) := by decide +kernel
theorem d_O_add_26 : decode c_O_add 26 = .ok (.iload 4, 2) := by decide +kernel
theorem d_O_add_28 : decode c_O_add 28 = .ok (.iload_n 3, 1) := by decide +kernel
theorem d_O_add_29 : decode c_O_add 29 = .ok (.iastore, 1) := by decide +kernel
theorem d_O_add_30 : decode c_O_add 30 = .ok (.aload_n 0, 1) := by decide +kernel
theorem d_O_add_31 : decode c_O_add 31 = .ok (.dup, 1) := by decide +kernel
theorem d_O_add_32 : decode c_O_add 32 = .ok (.getfield 33, 3) := by decide +kernel
theorem d_O_add_35 : decode c_O_add 35 = .ok (.iconst 1, 1) := by decide +kernel
theorem d_O_add_36 : decode c_O_add 36 = .ok (.iadd, 1) := by decide +kernel
theorem d_O_add_37 : decode c_O_add 37 = .ok (.putfield 33, 3) := by decide +kernel
theorem d_O_add_40 : decode c_O_add 40 = .ok (.iload 4, 2) := by decide +kernel
theorem d_O_add_42 : decode c_O_add 42 = .ok (.ireturn, 1) := by decide +kernel
theorem d_O_has_0 : decode c_O_has 0 = .ok (.iload_n 1, 1) := by decide +kernel
theorem d_O_has_1 : decode c_O_has 1 = .ok (.ifCond .lt 15, 3) := by decide +kernel
theorem d_O_has_4 : decode c_O_has 4 = .ok (.iload_n 1, 1) := by decide +kernel
theorem d_O_has_5 : decode c_O_has 5 = .ok (.aload_n 0, 1) := by decide +kernel
theorem d_O_has_6 : decode c_O_has 6 = .ok (.getfield 33, 3) := by decide +kernel
theorem d_O_has_9 : decode c_O_has 9 = .ok (.if_icmp .ge 7, 3) := by decide +kernel
theorem d_O_has_12 : decode c_O_has 12 = .ok (.iconst 1, 1) := by decide +kernel
theorem d_O_has_13 : decode c_O_has 13 = .ok (.goto 4, 3) := by decide +kernel
theorem d_O_has_16 : decode c_O_has 16 = .ok (.iconst 0, 1) := by decide +kernel
theorem d_O_has_17 : decode c_O_has 17 = .ok (.ireturn, 1) := by decide +kernel
theorem d_O_putTogether_0 : decode c_O_putTogether 0 = .ok (.aload_n 0, 1) := by decide +kernel
theorem d_O_putTogether_1 : decode c_O_putTogether 1 = .ok (.getfield 24, 3) := by decide +kernel
theorem d_O_putTogether_4 : decode c_O_putTogether 4 = .ok (.iload_n 1, 1) := by decide +kernel
theorem d_O_putTogether_5 : decode c_O_putTogether 5 = .ok (.iload_n 2, 1) := by decide +kernel
theorem d_O_putTogether_6 : decode c_O_putTogether 6 = .ok (.invokestatic 37, 3) := by decide +kernel
theorem d_O_putTogether_9 : decode c_O_putTogether 9 = .ok (.iload_n 3, 1) := by decide +kernel
theorem d_O_putTogether_10 : decode c_O_putTogether 10 = .ok (.iastore, 1) := by decide +kernel
theorem d_O_putTogether_11 : decode c_O_putTogether 11 = .ok (.aload_n 0, 1) := by decide +kernel
theorem d_O_putTogether_12 : decode c_O_putTogether 12 = .ok (.getfield 24, 3) := by decide +kernel
theorem d_O_putTogether_15 : decode c_O_putTogether 15 = .ok (.iload_n 2, 1) := by decide +kernel
theorem d_O_putTogether_16 : decode c_O_putTogether 16 = .ok (.iload_n 1, 1) := by decide +kernel
theorem d_O_putTogether_17 : decode c_O_putTogether 17 = .ok (.invokestatic 37, 3) := by decide +kernel
theorem d_O_putTogether_20 : decode c_O_putTogether 20 = .ok (.iload_n 3, 1) := by decide +kernel
theorem d_O_putTogether_21 : decode c_O_putTogether 21 = .ok (.iastore, 1) := by decide +kernel
theorem d_O_putTogether_22 : decode c_O_putTogether 22 = .ok (.return_, 1) := by decide +kernel
theorem d_O_savingOf_0 : decode c_O_savingOf 0 = .ok (.aload_n 0, 1) := by decide +kernel
theorem d_O_savingOf_1 : decode c_O_savingOf 1 = .ok (.getfield 24, 3) := by decide +kernel
theorem d_O_savingOf_4 : decode c_O_savingOf 4 = .ok (.iload_n 1, 1) := by decide +kernel
theorem d_O_savingOf_5 : decode c_O_savingOf 5 = .ok (.iload_n 2, 1) := by decide +kernel
theorem d_O_savingOf_6 : decode c_O_savingOf 6 = .ok (.invokestatic 37, 3) := by decide +kernel
theorem d_O_savingOf_9 : decode c_O_savingOf 9 = .ok (.iaload, 1) := by decide +kernel
theorem d_O_savingOf_10 : decode c_O_savingOf 10 = .ok (.istore_n 3, 1) := by decide +kernel
theorem d_O_savingOf_11 : decode c_O_savingOf 11 = .ok (.iload_n 3, 1) := by decide +kernel
theorem d_O_savingOf_12 : decode c_O_savingOf 12 = .ok (.iconst (-1), 1) := by decide +kernel
theorem d_O_savingOf_13 : decode c_O_savingOf 13 = .ok (.if_icmp .ne 7, 3) := by decide +kernel
theorem d_O_savingOf_16 : decode c_O_savingOf 16 = .ok (.iconst 0, 1) := by decide +kernel
theorem d_O_savingOf_17 : decode c_O_savingOf 17 = .ok (.goto 18, 3) := by decide +kernel
theorem d_O_savingOf_20 : decode c_O_savingOf 20 = .ok (.aload_n 0, 1) := by decide +kernel
theorem d_O_savingOf_21 : decode c_O_savingOf 21 = .ok (.getfield 9, 3) := by decide +kernel
theorem d_O_savingOf_24 : decode c_O_savingOf 24 = .ok (.iload_n 1, 1) := by decide +kernel
theorem d_O_savingOf_25 : decode c_O_savingOf 25 = .ok (.iaload, 1) := by decide +kernel
theorem d_O_savingOf_26 : decode c_O_savingOf 26 = .ok (.aload_n 0, 1) := by decide +kernel
theorem d_O_savingOf_27 : decode c_O_savingOf 27 = .ok (.getfield 9, 3) := by decide +kernel
theorem d_O_savingOf_30 : decode c_O_savingOf 30 = .ok (.iload_n 2, 1) := by decide +kernel
theorem d_O_savingOf_31 : decode c_O_savingOf 31 = .ok (.iaload, 1) := by decide +kernel
theorem d_O_savingOf_32 : decode c_O_savingOf 32 = .ok (.iadd, 1) := by decide +kernel
theorem d_O_savingOf_33 : decode c_O_savingOf 33 = .ok (.iload_n 3, 1) := by decide +kernel
theorem d_O_savingOf_34 : decode c_O_savingOf 34 = .ok (.isub, 1) := by decide +kernel
theorem d_O_savingOf_35 : decode c_O_savingOf 35 = .ok (.ireturn, 1) := by decide +kernel
theorem d_R_init_0 : decode c_R_init 0 = .ok (.aload_n 0, 1) := by decide +kernel
theorem d_R_init_1 : decode c_R_init 1 = .ok (.invokespecial 3, 3) := by decide +kernel
theorem d_R_init_4 : decode c_R_init 4 = .ok (.aload_n 0, 1) := by decide +kernel
theorem d_R_init_5 : decode c_R_init 5 = .ok (.bipush 100, 2) := by decide +kernel
theorem d_R_init_7 : decode c_R_init 7 = .ok (.newarray .boolean, 2) := by decide +kernel
theorem d_R_init_9 : decode c_R_init 9 = .ok (.putfield 9, 3) := by decide +kernel
theorem d_R_init_12 : decode c_R_init 12 = .ok (.aload_n 0, 1) := by decide +kernel
theorem d_R_init_13 : decode c_R_init 13 = .ok (.bipush 16, 2) := by decide +kernel
theorem d_R_init_15 : decode c_R_init 15 = .ok (.newarray .boolean, 2) := by decide +kernel
theorem d_R_init_17 : decode c_R_init 17 = .ok (.putfield 15, 3) := by decide +kernel
theorem d_R_init_20 : decode c_R_init 20 = .ok (.aload_n 0, 1) := by decide +kernel
theorem d_R_init_21 : decode c_R_init 21 = .ok (.iconst 5, 1) := by decide +kernel
theorem d_R_init_22 : decode c_R_init 22 = .ok (.newarray .int, 2) := by decide +kernel
theorem d_R_init_24 : decode c_R_init 24 = .ok (.putfield 18, 3) := by decide +kernel
theorem d_R_init_27 : decode c_R_init 27 = .ok (.aload_n 0, 1) := by decide +kernel
theorem d_R_init_28 : decode c_R_init 28 = .ok (.sipush 1000, 3) := by decide +kernel
theorem d_R_init_31 : decode c_R_init 31 = .ok (.putfield 22, 3) := by decide +kernel
theorem d_R_init_34 : decode c_R_init 34 = .ok (.aload_n 0, 1) := by decide +kernel
theorem d_R_init_35 : decode c_R_init 35 = .ok (.bipush 100, 2) := by decide +kernel
theorem d_R_init_37 : decode c_R_init 37 = .ok (.putfield 26, 3) := by decide +kernel
theorem d_R_init_40 : decode c_R_init 40 = .ok (.aload_n 0, 1) := by decide +kernel
theorem d_R_init_41 : decode c_R_init 41 = .ok (.aload_n 1, 1) := by decide +kernel
theorem d_R_init_42 : decode c_R_init 42 = .ok (.putfield 29, 3) := by decide +kernel
theorem d_R_init_45 : decode c_R_init 45 = .ok (.iconst 0, 1) := by decide +kernel
theorem d_R_init_46 : decode c_R_init 46 = .ok (.istore_n 2, 1) := by decide +kernel
theorem d_R_init_47 : decode c_R_init 47 = .ok (.iload_n 2, 1) := by decide +kernel
theorem d_R_init_48 : decode c_R_init 48 = .ok (.iconst 4, 1) := by decide +kernel
theorem d_R_init_49 : decode c_R_init 49 = .ok (.if_icmp .ge 20, 3) := by decide +kernel
theorem d_R_init_52 : decode c_R_init 52 = .ok (.aload_n 0, 1) := by decide +kernel
theorem d_R_init_53 : decode c_R_init 53 = .ok (.getfield 15, 3) := by decide +kernel
theorem d_R_init_56 : decode c_R_init 56 = .ok (.iload_n 2, 1) := by decide +kernel
theorem d_R_init_57 : decode c_R_init 57 = .ok (.iconst 4, 1) := by decide +kernel
theorem d_R_init_58 : decode c_R_init 58 = .ok (.imul, 1) := by decide +kernel
theorem d_R_init_59 : decode c_R_init 59 = .ok (.iload_n 2, 1) := by decide +kernel
theorem d_R_init_60 : decode c_R_init 60 = .ok (.iadd, 1) := by decide +kernel
theorem d_R_init_61 : decode c_R_init 61 = .ok (.iconst 1, 1) := by decide +kernel
theorem d_R_init_62 : decode c_R_init 62 = .ok (.bastore, 1) := by decide +kernel
theorem d_R_init_63 : decode c_R_init 63 = .ok (.iinc 2 1, 3) := by decide +kernel
theorem d_R_init_66 : decode c_R_init 66 = .ok (.goto (-19), 3) := by decide +kernel
theorem d_R_init_69 : decode c_R_init 69 = .ok (.return_, 1) := by decide +kernel
theorem d_R_aboveAlone_0 : decode c_R_aboveAlone 0 = .ok (.iconst 0, 1) := by decide +kernel
theorem d_R_aboveAlone_1 : decode c_R_aboveAlone 1 = .ok (.istore_n 1, 1) := by decide +kernel
theorem d_R_aboveAlone_2 : decode c_R_aboveAlone 2 = .ok (.iconst 0, 1) := by decide +kernel
theorem d_R_aboveAlone_3 : decode c_R_aboveAlone 3 = .ok (.istore_n 2, 1) := by decide +kernel
theorem d_R_aboveAlone_4 : decode c_R_aboveAlone 4 = .ok (.iload_n 2, 1) := by decide +kernel
theorem d_R_aboveAlone_5 : decode c_R_aboveAlone 5 = .ok (.aload_n 0, 1) := by decide +kernel
theorem d_R_aboveAlone_6 : decode c_R_aboveAlone 6 = .ok (.getfield 29, 3) := by decide +kernel
theorem d_R_aboveAlone_9 : decode c_R_aboveAlone 9 = .ok (.getfield 37, 3) := by decide +kernel
theorem d_R_aboveAlone_12 : decode c_R_aboveAlone 12 = .ok (.if_icmp .ge 44, 3) := by decide +kernel
theorem d_R_aboveAlone_15 : decode c_R_aboveAlone 15 = .ok (.aload_n 0, 1) := by decide +kernel
theorem d_R_aboveAlone_16 : decode c_R_aboveAlone 16 = .ok (.getfield 29, 3) := by decide +kernel
theorem d_R_aboveAlone_19 : decode c_R_aboveAlone 19 = .ok (.getfield 42, 3) := by decide +kernel
theorem d_R_aboveAlone_22 : decode c_R_aboveAlone 22 = .ok (.iload_n 2, 1) := by decide +kernel
theorem d_R_aboveAlone_23 : decode c_R_aboveAlone 23 = .ok (.iaload, 1) := by decide +kernel
theorem d_R_aboveAlone_24 : decode c_R_aboveAlone 24 = .ok (.aload_n 0, 1) := by decide +kernel
theorem d_R_aboveAlone_25 : decode c_R_aboveAlone 25 = .ok (.getfield 22, 3) := by decide +kernel
theorem d_R_aboveAlone_28 : decode c_R_aboveAlone 28 = .ok (.if_icmp .gt 19, 3) := by decide +kernel
theorem d_R_aboveAlone_31 : decode c_R_aboveAlone 31 = .ok (.aload_n 0, 1) := by decide +kernel
theorem d_R_aboveAlone_32 : decode c_R_aboveAlone 32 = .ok (.getfield 29, 3) := by decide +kernel
theorem d_R_aboveAlone_35 : decode c_R_aboveAlone 35 = .ok (.getfield 45, 3) := by decide +kernel
theorem d_R_aboveAlone_38 : decode c_R_aboveAlone 38 = .ok (.iload_n 2, 1) := by decide +kernel
theorem d_R_aboveAlone_39 : decode c_R_aboveAlone 39 = .ok (.iaload, 1) := by decide +kernel
theorem d_R_aboveAlone_40 : decode c_R_aboveAlone 40 = .ok (.aload_n 0, 1) := by decide +kernel
theorem d_R_aboveAlone_41 : decode c_R_aboveAlone 41 = .ok (.getfield 26, 3) := by decide +kernel
theorem d_R_aboveAlone_44 : decode c_R_aboveAlone 44 = .ok (.if_icmp .le 6, 3) := by decide +kernel
theorem d_R_aboveAlone_47 : decode c_R_aboveAlone 47 = .ok (.iinc 1 1, 3) := by decide +kernel
theorem d_R_aboveAlone_50 : decode c_R_aboveAlone 50 = .ok (.iinc 2 1, 3) := by decide +kernel
theorem d_R_aboveAlone_53 : decode c_R_aboveAlone 53 = .ok (.goto (-49), 3) := by decide +kernel
theorem d_R_aboveAlone_56 : decode c_R_aboveAlone 56 = .ok (.iload_n 1, 1) := by decide +kernel
theorem d_R_aboveAlone_57 : decode c_R_aboveAlone 57 = .ok (.ireturn, 1) := by decide +kernel
theorem d_R_addToSet_0 : decode c_R_addToSet 0 = .ok (.aload_n 0, 1) := by decide +kernel
theorem d_R_addToSet_1 : decode c_R_addToSet 1 = .ok (.getfield 48, 3) := by decide +kernel
theorem d_R_addToSet_4 : decode c_R_addToSet 4 = .ok (.aload_n 0, 1) := by decide +kernel
theorem d_R_addToSet_5 : decode c_R_addToSet 5 = .ok (.getfield 18, 3) := by decide +kernel
theorem d_R_addToSet_8 : decode c_R_addToSet 8 = .ok (.arraylength, 1) := by decide +kernel
theorem d_R_addToSet_9 : decode c_R_addToSet 9 = .ok (.if_icmp .ge 23, 3) := by decide +kernel
theorem d_R_addToSet_12 : decode c_R_addToSet 12 = .ok (.aload_n 0, 1) := by decide +kernel
theorem d_R_addToSet_13 : decode c_R_addToSet 13 = .ok (.getfield 18, 3) := by decide +kernel
theorem d_R_addToSet_16 : decode c_R_addToSet 16 = .ok (.aload_n 0, 1) := by decide +kernel
theorem d_R_addToSet_17 : decode c_R_addToSet 17 = .ok (.getfield 48, 3) := by decide +kernel
theorem d_R_addToSet_20 : decode c_R_addToSet 20 = .ok (.iload_n 1, 1) := by decide +kernel
theorem d_R_addToSet_21 : decode c_R_addToSet 21 = .ok (.iastore, 1) := by decide +kernel
theorem d_R_addToSet_22 : decode c_R_addToSet 22 = .ok (.aload_n 0, 1) := by decide +kernel
theorem d_R_addToSet_23 : decode c_R_addToSet 23 = .ok (.dup, 1) := by decide +kernel
theorem d_R_addToSet_24 : decode c_R_addToSet 24 = .ok (.getfield 48, 3) := by decide +kernel
theorem d_R_addToSet_27 : decode c_R_addToSet 27 = .ok (.iconst 1, 1) := by decide +kernel
theorem d_R_addToSet_28 : decode c_R_addToSet 28 = .ok (.iadd, 1) := by decide +kernel
theorem d_R_addToSet_29 : decode c_R_addToSet 29 = .ok (.putfield 48, 3) := by decide +kernel
theorem d_R_addToSet_32 : decode c_R_addToSet 32 = .ok (.return_, 1) := by decide +kernel
theorem d_R_allowPair_0 : decode c_R_allowPair 0 = .ok (.aload_n 0, 1) := by decide +kernel
theorem d_R_allowPair_1 : decode c_R_allowPair 1 = .ok (.invokevirtual 51, 3) := by decide +kernel
theorem d_R_allowPair_4 : decode c_R_allowPair 4 = .ok (.aload_n 0, 1) := by decide +kernel
theorem d_R_allowPair_5 : decode c_R_allowPair 5 = .ok (.iload_n 1, 1) := by decide +kernel
theorem d_R_allowPair_6 : decode c_R_allowPair 6 = .ok (.invokevirtual 54, 3) := by decide +kernel
theorem d_R_allowPair_9 : decode c_R_allowPair 9 = .ok (.aload_n 0, 1) := by decide +kernel
theorem d_R_allowPair_10 : decode c_R_allowPair 10 = .ok (.iload_n 2, 1) := by decide +kernel
theorem d_R_allowPair_11 : decode c_R_allowPair 11 = .ok (.invokevirtual 54, 3) := by decide +kernel
theorem d_R_allowPair_14 : decode c_R_allowPair 14 = .ok (.aload_n 0, 1) := by decide +kernel
theorem d_R_allowPair_15 : decode c_R_allowPair 15 = .ok (.invokevirtual 58, 3) := by decide +kernel
theorem d_R_allowPair_18 : decode c_R_allowPair 18 = .ok (.ireturn, 1) := by decide +kernel
theorem d_R_allowSet_0 : decode c_R_allowSet 0 = .ok (.iconst 0, 1) := by decide +kernel
theorem d_R_allowSet_1 : decode c_R_allowSet 1 = .ok (.istore_n 1, 1) := by decide +kernel
theorem d_R_allowSet_2 : decode c_R_allowSet 2 = .ok (.iconst 0, 1) := by decide +kernel
theorem d_R_allowSet_3 : decode c_R_allowSet 3 = .ok (.istore_n 2, 1) := by decide +kernel
theorem d_R_allowSet_4 : decode c_R_allowSet 4 = .ok (.iconst 0, 1) := by decide +kernel
theorem d_R_allowSet_5 : decode c_R_allowSet 5 = .ok (.istore_n 3, 1) := by decide +kernel
theorem d_R_allowSet_6 : decode c_R_allowSet 6 = .ok (.iload_n 3, 1) := by decide +kernel
theorem d_R_allowSet_7 : decode c_R_allowSet 7 = .ok (.aload_n 0, 1) := by decide +kernel
theorem d_R_allowSet_8 : decode c_R_allowSet 8 = .ok (.getfield 48, 3) := by decide +kernel
theorem d_R_allowSet_11 : decode c_R_allowSet 11 = .ok (.if_icmp .ge 85, 3) := by decide +kernel
theorem d_R_allowSet_14 : decode c_R_allowSet 14 = .ok (.iload_n 1, 1) := by decide +kernel
theorem d_R_allowSet_15 : decode c_R_allowSet 15 = .ok (.aload_n 0, 1) := by decide +kernel
theorem d_R_allowSet_16 : decode c_R_allowSet 16 = .ok (.getfield 29, 3) := by decide +kernel
theorem d_R_allowSet_19 : decode c_R_allowSet 19 = .ok (.getfield 42, 3) := by decide +kernel
theorem d_R_allowSet_22 : decode c_R_allowSet 22 = .ok (.aload_n 0, 1) := by decide +kernel
theorem d_R_allowSet_23 : decode c_R_allowSet 23 = .ok (.getfield 18, 3) := by decide +kernel
theorem d_R_allowSet_26 : decode c_R_allowSet 26 = .ok (.iload_n 3, 1) := by decide +kernel
theorem d_R_allowSet_27 : decode c_R_allowSet 27 = .ok (.iaload, 1) := by decide +kernel
theorem d_R_allowSet_28 : decode c_R_allowSet 28 = .ok (.iaload, 1) := by decide +kernel
theorem d_R_allowSet_29 : decode c_R_allowSet 29 = .ok (.iadd, 1) := by decide +kernel
theorem d_R_allowSet_30 : decode c_R_allowSet 30 = .ok (.istore_n 1, 1) := by decide +kernel
theorem d_R_allowSet_31 : decode c_R_allowSet 31 = .ok (.iload_n 2, 1) := by decide +kernel
theorem d_R_allowSet_32 : decode c_R_allowSet 32 = .ok (.aload_n 0, 1) := by decide +kernel
theorem d_R_allowSet_33 : decode c_R_allowSet 33 = .ok (.getfield 29, 3) := by decide +kernel
theorem d_R_allowSet_36 : decode c_R_allowSet 36 = .ok (.getfield 45, 3) := by decide +kernel
theorem d_R_allowSet_39 : decode c_R_allowSet 39 = .ok (.aload_n 0, 1) := by decide +kernel
theorem d_R_allowSet_40 : decode c_R_allowSet 40 = .ok (.getfield 18, 3) := by decide +kernel
theorem d_R_allowSet_43 : decode c_R_allowSet 43 = .ok (.iload_n 3, 1) := by decide +kernel
theorem d_R_allowSet_44 : decode c_R_allowSet 44 = .ok (.iaload, 1) := by decide +kernel
theorem d_R_allowSet_45 : decode c_R_allowSet 45 = .ok (.iaload, 1) := by decide +kernel
theorem d_R_allowSet_46 : decode c_R_allowSet 46 = .ok (.iadd, 1) := by decide +kernel
theorem d_R_allowSet_47 : decode c_R_allowSet 47 = .ok (.istore_n 2, 1) := by decide +kernel
theorem d_R_allowSet_48 : decode c_R_allowSet 48 = .ok (.iload_n 3, 1) := by decide +kernel
theorem d_R_allowSet_49 : decode c_R_allowSet 49 = .ok (.iconst 1, 1) := by decide +kernel
theorem d_R_allowSet_50 : decode c_R_allowSet 50 = .ok (.iadd, 1) := by decide +kernel
theorem d_R_allowSet_51 : decode c_R_allowSet 51 = .ok (.istore 4, 2) := by decide +kernel
theorem d_R_allowSet_53 : decode c_R_allowSet 53 = .ok (.iload 4, 2) := by decide +kernel
theorem d_R_allowSet_55 : decode c_R_allowSet 55 = .ok (.aload_n 0, 1) := by decide +kernel
theorem d_R_allowSet_56 : decode c_R_allowSet 56 = .ok (.getfield 48, 3) := by decide +kernel
theorem d_R_allowSet_59 : decode c_R_allowSet 59 = .ok (.if_icmp .ge 31, 3) := by decide +kernel
theorem d_R_allowSet_62 : decode c_R_allowSet 62 = .ok (.aload_n 0, 1) := by decide +kernel
theorem d_R_allowSet_63 : decode c_R_allowSet 63 = .ok (.aload_n 0, 1) := by decide +kernel
theorem d_R_allowSet_64 : decode c_R_allowSet 64 = .ok (.getfield 18, 3) := by decide +kernel
theorem d_R_allowSet_67 : decode c_R_allowSet 67 = .ok (.iload_n 3, 1) := by decide +kernel
theorem d_R_allowSet_68 : decode c_R_allowSet 68 = .ok (.iaload, 1) := by decide +kernel
theorem d_R_allowSet_69 : decode c_R_allowSet 69 = .ok (.aload_n 0, 1) := by decide +kernel
theorem d_R_allowSet_70 : decode c_R_allowSet 70 = .ok (.getfield 18, 3) := by decide +kernel
theorem d_R_allowSet_73 : decode c_R_allowSet 73 = .ok (.iload 4, 2) := by decide +kernel
theorem d_R_allowSet_75 : decode c_R_allowSet 75 = .ok (.iaload, 1) := by decide +kernel
theorem d_R_allowSet_76 : decode c_R_allowSet 76 = .ok (.invokevirtual 62, 3) := by decide +kernel
theorem d_R_allowSet_79 : decode c_R_allowSet 79 = .ok (.ifCond .ne 5, 3) := by decide +kernel
theorem d_R_allowSet_82 : decode c_R_allowSet 82 = .ok (.iconst 0, 1) := by decide +kernel
theorem d_R_allowSet_83 : decode c_R_allowSet 83 = .ok (.ireturn, 1) := by decide +kernel
theorem d_R_allowSet_84 : decode c_R_allowSet 84 = .ok (.iinc 4 1, 3) := by decide +kernel
theorem d_R_allowSet_87 : decode c_R_allowSet 87 = .ok (.goto (-34), 3) := by decide +kernel
theorem d_R_allowSet_90 : decode c_R_allowSet 90 = .ok (.iinc 3 1, 3) := by decide +kernel
theorem d_R_allowSet_93 : decode c_R_allowSet 93 = .ok (.goto (-87), 3) := by decide +kernel
theorem d_R_allowSet_96 : decode c_R_allowSet 96 = .ok (.iload_n 1, 1) := by decide +kernel
theorem d_R_allowSet_97 : decode c_R_allowSet 97 = .ok (.aload_n 0, 1) := by decide +kernel
theorem d_R_allowSet_98 : decode c_R_allowSet 98 = .ok (.getfield 22, 3) := by decide +kernel
theorem d_R_allowSet_101 : decode c_R_allowSet 101 = .ok (.if_icmp .gt 15, 3) := by decide +kernel
theorem d_R_allowSet_104 : decode c_R_allowSet 104 = .ok (.iload_n 2, 1) := by decide +kernel
theorem d_R_allowSet_105 : decode c_R_allowSet 105 = .ok (.aload_n 0, 1) := by decide +kernel
theorem d_R_allowSet_106 : decode c_R_allowSet 106 = .ok (.getfield 26, 3) := by decide +kernel
theorem d_R_allowSet_109 : decode c_R_allowSet 109 = .ok (.if_icmp .gt 7, 3) := by decide +kernel
theorem d_R_allowSet_112 : decode c_R_allowSet 112 = .ok (.iconst 1, 1) := by decide +kernel
theorem d_R_allowSet_113 : decode c_R_allowSet 113 = .ok (.goto 4, 3) := by decide +kernel
theorem d_R_allowSet_116 : decode c_R_allowSet 116 = .ok (.iconst 0, 1) := by decide +kernel
theorem d_R_allowSet_117 : decode c_R_allowSet 117 = .ok (.ireturn, 1) := by decide +kernel
theorem d_R_bar_0 : decode c_R_bar 0 = .ok (.aload_n 0, 1) := by decide +kernel
theorem d_R_bar_1 : decode c_R_bar 1 = .ok (.getfield 9, 3) := by decide +kernel
theorem d_R_bar_4 : decode c_R_bar 4 = .ok (.iload_n 1, 1) := by decide +kernel
theorem d_R_bar_5 : decode c_R_bar 5 = .ok (.iload_n 2, 1) := by decide +kernel
theorem d_R_bar_6 : decode c_R_bar 6 = .ok (.invokestatic 33, 3) := by decide +kernel
theorem d_R_bar_9 : decode c_R_bar 9 = .ok (.iload_n 3, 1) := by decide +kernel
theorem d_R_bar_10 : decode c_R_bar 10 = .ok (.bastore, 1) := by decide +kernel
theorem d_R_bar_11 : decode c_R_bar 11 = .ok (.aload_n 0, 1) := by decide +kernel
theorem d_R_bar_12 : decode c_R_bar 12 = .ok (.getfield 9, 3) := by decide +kernel
theorem d_R_bar_15 : decode c_R_bar 15 = .ok (.iload_n 2, 1) := by decide +kernel
theorem d_R_bar_16 : decode c_R_bar 16 = .ok (.iload_n 1, 1) := by decide +kernel
theorem d_R_bar_17 : decode c_R_bar 17 = .ok (.invokestatic 33, 3) := by decide +kernel
theorem d_R_bar_20 : decode c_R_bar 20 = .ok (.iload_n 3, 1) := by decide +kernel
theorem d_R_bar_21 : decode c_R_bar 21 = .ok (.bastore, 1) := by decide +kernel
theorem d_R_bar_22 : decode c_R_bar 22 = .ok (.return_, 1) := by decide +kernel
theorem d_R_bringNear_0 : decode c_R_bringNear 0 = .ok (.aload_n 0, 1) := by decide +kernel
theorem d_R_bringNear_1 : decode c_R_bringNear 1 = .ok (.getfield 15, 3) := by decide +kernel
theorem d_R_bringNear_4 : decode c_R_bringNear 4 = .ok (.iload_n 1, 1) := by decide +kernel
theorem d_R_bringNear_5 : decode c_R_bringNear 5 = .ok (.iconst 4, 1) := by decide +kernel
theorem d_R_bringNear_6 : decode c_R_bringNear 6 = .ok (.imul, 1) := by decide +kernel
theorem d_R_bringNear_7 : decode c_R_bringNear 7 = .ok (.iload_n 2, 1) := by decide +kernel
theorem d_R_bringNear_8 : decode c_R_bringNear 8 = .ok (.iadd, 1) := by decide +kernel
theorem d_R_bringNear_9 : decode c_R_bringNear 9 = .ok (.iload_n 3, 1) := by decide +kernel
theorem d_R_bringNear_10 : decode c_R_bringNear 10 = .ok (.bastore, 1) := by decide +kernel
theorem d_R_bringNear_11 : decode c_R_bringNear 11 = .ok (.aload_n 0, 1) := by decide +kernel
theorem d_R_bringNear_12 : decode c_R_bringNear 12 = .ok (.getfield 15, 3) := by decide +kernel
theorem d_R_bringNear_15 : decode c_R_bringNear 15 = .ok (.iload_n 2, 1) := by decide +kernel
theorem d_R_bringNear_16 : decode c_R_bringNear 16 = .ok (.iconst 4, 1) := by decide +kernel
theorem d_R_bringNear_17 : decode c_R_bringNear 17 = .ok (.imul, 1) := by decide +kernel
theorem d_R_bringNear_18 : decode c_R_bringNear 18 = .ok (.iload_n 1, 1) := by decide +kernel
theorem d_R_bringNear_19 : decode c_R_bringNear 19 = .ok (.iadd, 1) := by decide +kernel
theorem d_R_bringNear_20 : decode c_R_bringNear 20 = .ok (.iload_n 3, 1) := by decide +kernel
theorem d_R_bringNear_21 : decode c_R_bringNear 21 = .ok (.bastore, 1) := by decide +kernel
theorem d_R_bringNear_22 : decode c_R_bringNear 22 = .ok (.return_, 1) := by decide +kernel
theorem d_R_getAlong_0 : decode c_R_getAlong 0 = .ok (.aload_n 0, 1) := by decide +kernel
theorem d_R_getAlong_1 : decode c_R_getAlong 1 = .ok (.getfield 9, 3) := by decide +kernel
theorem d_R_getAlong_4 : decode c_R_getAlong 4 = .ok (.iload_n 1, 1) := by decide +kernel
theorem d_R_getAlong_5 : decode c_R_getAlong 5 = .ok (.iload_n 2, 1) := by decide +kernel
theorem d_R_getAlong_6 : decode c_R_getAlong 6 = .ok (.invokestatic 33, 3) := by decide +kernel
theorem d_R_getAlong_9 : decode c_R_getAlong 9 = .ok (.baload, 1) := by decide +kernel
theorem d_R_getAlong_10 : decode c_R_getAlong 10 = .ok (.ifCond .ne 36, 3) := by decide +kernel
theorem d_R_getAlong_13 : decode c_R_getAlong 13 = .ok (.aload_n 0, 1) := by decide +kernel
theorem d_R_getAlong_14 : decode c_R_getAlong 14 = .ok (.getfield 15, 3) := by decide +kernel
theorem d_R_getAlong_17 : decode c_R_getAlong 17 = .ok (.aload_n 0, 1) := by decide +kernel
theorem d_R_getAlong_18 : decode c_R_getAlong 18 = .ok (.getfield 29, 3) := by decide +kernel
theorem d_R_getAlong_21 : decode c_R_getAlong 21 = .ok (.getfield 66, 3) := by decide +kernel
theorem d_R_getAlong_24 : decode c_R_getAlong 24 = .ok (.iload_n 1, 1) := by decide +kernel
theorem d_R_getAlong_25 : decode c_R_getAlong 25 = .ok (.iaload, 1) := by decide +kernel
theorem d_R_getAlong_26 : decode c_R_getAlong 26 = .ok (.iconst 4, 1) := by decide +kernel
theorem d_R_getAlong_27 : decode c_R_getAlong 27 = .ok (.imul, 1) := by decide +kernel
theorem d_R_getAlong_28 : decode c_R_getAlong 28 = .ok (.aload_n 0, 1) := by decide +kernel
theorem d_R_getAlong_29 : decode c_R_getAlong 29 = .ok (.getfield 29, 3) := by decide +kernel
theorem d_R_getAlong_32 : decode c_R_getAlong 32 = .ok (.getfield 66, 3) := by decide +kernel
theorem d_R_getAlong_35 : decode c_R_getAlong 35 = .ok (.iload_n 2, 1) := by decide +kernel
theorem d_R_getAlong_36 : decode c_R_getAlong 36 = .ok (.iaload, 1) := by decide +kernel
theorem d_R_getAlong_37 : decode c_R_getAlong 37 = .ok (.iadd, 1) := by decide +kernel
theorem d_R_getAlong_38 : decode c_R_getAlong 38 = .ok (.baload, 1) := by decide +kernel
theorem d_R_getAlong_39 : decode c_R_getAlong 39 = .ok (.ifCond .eq 7, 3) := by decide +kernel
theorem d_R_getAlong_42 : decode c_R_getAlong 42 = .ok (.iconst 1, 1) := by decide +kernel
theorem d_R_getAlong_43 : decode c_R_getAlong 43 = .ok (.goto 4, 3) := by decide +kernel
theorem d_R_getAlong_46 : decode c_R_getAlong 46 = .ok (.iconst 0, 1) := by decide +kernel
theorem d_R_getAlong_47 : decode c_R_getAlong 47 = .ok (.ireturn, 1) := by decide +kernel
theorem d_R_startSet_0 : decode c_R_startSet 0 = .ok (.aload_n 0, 1) := by decide +kernel
theorem d_R_startSet_1 : decode c_R_startSet 1 = .ok (.iconst 0, 1) := by decide +kernel
theorem d_R_startSet_2 : decode c_R_startSet 2 = .ok (.putfield 48, 3) := by decide +kernel
theorem d_R_startSet_5 : decode c_R_startSet 5 = .ok (.return_, 1) := by decide +kernel
theorem d_B_init_0 : decode c_B_init 0 = .ok (.aload_n 0, 1) := by decide +kernel
theorem d_B_init_1 : decode c_B_init 1 = .ok (.invokespecial 3, 3) := by decide +kernel
theorem d_B_init_4 : decode c_B_init 4 = .ok (.aload_n 0, 1) := by decide +kernel
theorem d_B_init_5 : decode c_B_init 5 = .ok (.bipush 40, 2) := by decide +kernel
theorem d_B_init_7 : decode c_B_init 7 = .ok (.newarray .int, 2) := by decide +kernel
theorem d_B_init_9 : decode c_B_init 9 = .ok (.putfield 9, 3) := by decide +kernel
theorem d_B_init_12 : decode c_B_init 12 = .ok (.aload_n 0, 1) := by decide +kernel
theorem d_B_init_13 : decode c_B_init 13 = .ok (.bipush 10, 2) := by decide +kernel
theorem d_B_init_15 : decode c_B_init 15 = .ok (.newarray .int, 2) := by decide +kernel
theorem d_B_init_17 : decode c_B_init 17 = .ok (.putfield 15, 3) := by decide +kernel
theorem d_B_init_20 : decode c_B_init 20 = .ok (.aload_n 0, 1) := by decide +kernel
theorem d_B_init_21 : decode c_B_init 21 = .ok (.bipush 10, 2) := by decide +kernel
theorem d_B_init_23 : decode c_B_init 23 = .ok (.newarray .int, 2) := by decide +kernel
theorem d_B_init_25 : decode c_B_init 25 = .ok (.putfield 18, 3) := by decide +kernel
theorem d_B_init_28 : decode c_B_init 28 = .ok (.aload_n 0, 1) := by decide +kernel
theorem d_B_init_29 : decode c_B_init 29 = .ok (.aload_n 1, 1) := by decide +kernel
theorem d_B_init_30 : decode c_B_init 30 = .ok (.putfield 21, 3) := by decide +kernel
theorem d_B_init_33 : decode c_B_init 33 = .ok (.aload_n 0, 1) := by decide +kernel
theorem d_B_init_34 : decode c_B_init 34 = .ok (.getfield 18, 3) := by decide +kernel
theorem d_B_init_37 : decode c_B_init 37 = .ok (.iconst (-1), 1) := by decide +kernel
theorem d_B_init_38 : decode c_B_init 38 = .ok (.invokestatic 25, 3) := by decide +kernel
theorem d_B_init_41 : decode c_B_init 41 = .ok (.return_, 1) := by decide +kernel
theorem d_B_addEmpty_0 : decode c_B_addEmpty 0 = .ok (.aload_n 0, 1) := by decide +kernel
theorem d_B_addEmpty_1 : decode c_B_addEmpty 1 = .ok (.getfield 31, 3) := by decide +kernel
theorem d_B_addEmpty_4 : decode c_B_addEmpty 4 = .ok (.istore_n 1, 1) := by decide +kernel
theorem d_B_addEmpty_5 : decode c_B_addEmpty 5 = .ok (.aload_n 0, 1) := by decide +kernel
theorem d_B_addEmpty_6 : decode c_B_addEmpty 6 = .ok (.dup, 1) := by decide +kernel
theorem d_B_addEmpty_7 : decode c_B_addEmpty 7 = .ok (.getfield 31, 3) := by decide +kernel
theorem d_B_addEmpty_10 : decode c_B_addEmpty 10 = .ok (.iconst 1, 1) := by decide +kernel
theorem d_B_addEmpty_11 : decode c_B_addEmpty 11 = .ok (.iadd, 1) := by decide +kernel
theorem d_B_addEmpty_12 : decode c_B_addEmpty 12 = .ok (.putfield 31, 3) := by decide +kernel
theorem d_B_addEmpty_15 : decode c_B_addEmpty 15 = .ok (.iload_n 1, 1) := by decide +kernel
theorem d_B_addEmpty_16 : decode c_B_addEmpty 16 = .ok (.ireturn, 1) := by decide +kernel
theorem d_B_freeOrders_0 : decode c_B_freeOrders 0 = .ok (.iconst 0, 1) := by decide +kernel
theorem d_B_freeOrders_1 : decode c_B_freeOrders 1 = .ok (.istore_n 1, 1) := by decide +kernel
theorem d_B_freeOrders_2 : decode c_B_freeOrders 2 = .ok (.iconst 0, 1) := by decide +kernel
theorem d_B_freeOrders_3 : decode c_B_freeOrders 3 = .ok (.istore_n 2, 1) := by decide +kernel
theorem d_B_freeOrders_4 : decode c_B_freeOrders 4 = .ok (.iload_n 2, 1) := by decide +kernel
theorem d_B_freeOrders_5 : decode c_B_freeOrders 5 = .ok (.aload_n 0, 1) := by decide +kernel
theorem d_B_freeOrders_6 : decode c_B_freeOrders 6 = .ok (.getfield 21, 3) := by decide +kernel
theorem d_B_freeOrders_9 : decode c_B_freeOrders 9 = .ok (.getfield 35, 3) := by decide +kernel
theorem d_B_freeOrders_12 : decode c_B_freeOrders 12 = .ok (.if_icmp .ge 20, 3) := by decide +kernel
theorem d_B_freeOrders_15 : decode c_B_freeOrders 15 = .ok (.aload_n 0, 1) := by decide +kernel
theorem d_B_freeOrders_16 : decode c_B_freeOrders 16 = .ok (.iload_n 2, 1) := by decide +kernel
theorem d_B_freeOrders_17 : decode c_B_freeOrders 17 = .ok (.invokevirtual 38, 3) := by decide +kernel
theorem d_B_freeOrders_20 : decode c_B_freeOrders 20 = .ok (.ifCond .eq 6, 3) := by decide +kernel
theorem d_B_freeOrders_23 : decode c_B_freeOrders 23 = .ok (.iinc 1 1, 3) := by decide +kernel
theorem d_B_freeOrders_26 : decode c_B_freeOrders 26 = .ok (.iinc 2 1, 3) := by decide +kernel
theorem d_B_freeOrders_29 : decode c_B_freeOrders 29 = .ok (.goto (-25), 3) := by decide +kernel
theorem d_B_freeOrders_32 : decode c_B_freeOrders 32 = .ok (.iload_n 1, 1) := by decide +kernel
theorem d_B_freeOrders_33 : decode c_B_freeOrders 33 = .ok (.ireturn, 1) := by decide +kernel
theorem d_B_has_0 : decode c_B_has 0 = .ok (.iload_n 1, 1) := by decide +kernel
theorem d_B_has_1 : decode c_B_has 1 = .ok (.ifCond .lt 15, 3) := by decide +kernel
theorem d_B_has_4 : decode c_B_has 4 = .ok (.iload_n 1, 1) := by decide +kernel
theorem d_B_has_5 : decode c_B_has 5 = .ok (.aload_n 0, 1) := by decide +kernel
theorem d_B_has_6 : decode c_B_has 6 = .ok (.getfield 31, 3) := by decide +kernel
theorem d_B_has_9 : decode c_B_has 9 = .ok (.if_icmp .ge 7, 3) := by decide +kernel
theorem d_B_has_12 : decode c_B_has 12 = .ok (.iconst 1, 1) := by decide +kernel
theorem d_B_has_13 : decode c_B_has 13 = .ok (.goto 4, 3) := by decide +kernel
theorem d_B_has_16 : decode c_B_has 16 = .ok (.iconst 0, 1) := by decide +kernel
theorem d_B_has_17 : decode c_B_has 17 = .ok (.ireturn, 1) := by decide +kernel
theorem d_B_isFree_0 : decode c_B_isFree 0 = .ok (.aload_n 0, 1) := by decide +kernel
theorem d_B_isFree_1 : decode c_B_isFree 1 = .ok (.getfield 18, 3) := by decide +kernel
theorem d_B_isFree_4 : decode c_B_isFree 4 = .ok (.iload_n 1, 1) := by decide +kernel
theorem d_B_isFree_5 : decode c_B_isFree 5 = .ok (.iaload, 1) := by decide +kernel
theorem d_B_isFree_6 : decode c_B_isFree 6 = .ok (.iconst (-1), 1) := by decide +kernel
theorem d_B_isFree_7 : decode c_B_isFree 7 = .ok (.if_icmp .ne 7, 3) := by decide +kernel
theorem d_B_isFree_10 : decode c_B_isFree 10 = .ok (.iconst 1, 1) := by decide +kernel
theorem d_B_isFree_11 : decode c_B_isFree 11 = .ok (.goto 4, 3) := by decide +kernel
theorem d_B_isFree_14 : decode c_B_isFree 14 = .ok (.iconst 0, 1) := by decide +kernel
theorem d_B_isFree_15 : decode c_B_isFree 15 = .ok (.ireturn, 1) := by decide +kernel
theorem d_B_isFull_0 : decode c_B_isFull 0 = .ok (.aload_n 0, 1) := by decide +kernel
theorem d_B_isFull_1 : decode c_B_isFull 1 = .ok (.getfield 15, 3) := by decide +kernel
theorem d_B_isFull_4 : decode c_B_isFull 4 = .ok (.iload_n 1, 1) := by decide +kernel
theorem d_B_isFull_5 : decode c_B_isFull 5 = .ok (.iaload, 1) := by decide +kernel
theorem d_B_isFull_6 : decode c_B_isFull 6 = .ok (.iconst 4, 1) := by decide +kernel
theorem d_B_isFull_7 : decode c_B_isFull 7 = .ok (.if_icmp .lt 7, 3) := by decide +kernel
theorem d_B_isFull_10 : decode c_B_isFull 10 = .ok (.iconst 1, 1) := by decide +kernel
theorem d_B_isFull_11 : decode c_B_isFull 11 = .ok (.goto 4, 3) := by decide +kernel
theorem d_B_isFull_14 : decode c_B_isFull 14 = .ok (.iconst 0, 1) := by decide +kernel
theorem d_B_isFull_15 : decode c_B_isFull 15 = .ok (.ireturn, 1) := by decide +kernel
theorem d_B_orderAt_0 : decode c_B_orderAt 0 = .ok (.aload_n 0, 1) := by decide +kernel
theorem d_B_orderAt_1 : decode c_B_orderAt 1 = .ok (.getfield 9, 3) := by decide +kernel
theorem d_B_orderAt_4 : decode c_B_orderAt 4 = .ok (.iload_n 1, 1) := by decide +kernel
theorem d_B_orderAt_5 : decode c_B_orderAt 5 = .ok (.iconst 4, 1) := by decide +kernel
theorem d_B_orderAt_6 : decode c_B_orderAt 6 = .ok (.imul, 1) := by decide +kernel
theorem d_B_orderAt_7 : decode c_B_orderAt 7 = .ok (.iload_n 2, 1) := by decide +kernel
theorem d_B_orderAt_8 : decode c_B_orderAt 8 = .ok (.iadd, 1) := by decide +kernel
theorem d_B_orderAt_9 : decode c_B_orderAt 9 = .ok (.iaload, 1) := by decide +kernel
theorem d_B_orderAt_10 : decode c_B_orderAt 10 = .ok (.ireturn, 1) := by decide +kernel
theorem d_B_put_0 : decode c_B_put 0 = .ok (.aload_n 0, 1) := by decide +kernel
theorem d_B_put_1 : decode c_B_put 1 = .ok (.getfield 9, 3) := by decide +kernel
theorem d_B_put_4 : decode c_B_put 4 = .ok (.iload_n 2, 1) := by decide +kernel
theorem d_B_put_5 : decode c_B_put 5 = .ok (.iconst 4, 1) := by decide +kernel
theorem d_B_put_6 : decode c_B_put 6 = .ok (.imul, 1) := by decide +kernel
theorem d_B_put_7 : decode c_B_put 7 = .ok (.aload_n 0, 1) := by decide +kernel
theorem d_B_put_8 : decode c_B_put 8 = .ok (.getfield 15, 3) := by decide +kernel
theorem d_B_put_11 : decode c_B_put 11 = .ok (.iload_n 2, 1) := by decide +kernel
theorem d_B_put_12 : decode c_B_put 12 = .ok (.iaload, 1) := by decide +kernel
theorem d_B_put_13 : decode c_B_put 13 = .ok (.iadd, 1) := by decide +kernel
theorem d_B_put_14 : decode c_B_put 14 = .ok (.iload_n 1, 1) := by decide +kernel
theorem d_B_put_15 : decode c_B_put 15 = .ok (.iastore, 1) := by decide +kernel
theorem d_B_put_16 : decode c_B_put 16 = .ok (.aload_n 0, 1) := by decide +kernel
theorem d_B_put_17 : decode c_B_put 17 = .ok (.getfield 15, 3) := by decide +kernel
theorem d_B_put_20 : decode c_B_put 20 = .ok (.iload_n 2, 1) := by decide +kernel
theorem d_B_put_21 : decode c_B_put 21 = .ok (.dup2, 1) := by decide +kernel
theorem d_B_put_22 : decode c_B_put 22 = .ok (.iaload, 1) := by decide +kernel
theorem d_B_put_23 : decode c_B_put 23 = .ok (.iconst 1, 1) := by decide +kernel
theorem d_B_put_24 : decode c_B_put 24 = .ok (.iadd, 1) := by decide +kernel
theorem d_B_put_25 : decode c_B_put 25 = .ok (.iastore, 1) := by decide +kernel
theorem d_B_put_26 : decode c_B_put 26 = .ok (.aload_n 0, 1) := by decide +kernel
theorem d_B_put_27 : decode c_B_put 27 = .ok (.getfield 18, 3) := by decide +kernel
theorem d_B_put_30 : decode c_B_put 30 = .ok (.iload_n 1, 1) := by decide +kernel
theorem d_B_put_31 : decode c_B_put 31 = .ok (.iload_n 2, 1) := by decide +kernel
theorem d_B_put_32 : decode c_B_put 32 = .ok (.iastore, 1) := by decide +kernel
theorem d_B_put_33 : decode c_B_put 33 = .ok (.return_, 1) := by decide +kernel
theorem d_B_saved_0 : decode c_B_saved 0 = .ok (.iconst 0, 1) := by decide +kernel
theorem d_B_saved_1 : decode c_B_saved 1 = .ok (.istore_n 1, 1) := by decide +kernel
theorem d_B_saved_2 : decode c_B_saved 2 = .ok (.iconst 0, 1) := by decide +kernel
theorem d_B_saved_3 : decode c_B_saved 3 = .ok (.istore_n 2, 1) := by decide +kernel
theorem d_B_saved_4 : decode c_B_saved 4 = .ok (.iload_n 2, 1) := by decide +kernel
theorem d_B_saved_5 : decode c_B_saved 5 = .ok (.aload_n 0, 1) := by decide +kernel
theorem d_B_saved_6 : decode c_B_saved 6 = .ok (.getfield 31, 3) := by decide +kernel
theorem d_B_saved_9 : decode c_B_saved 9 = .ok (.if_icmp .ge 17, 3) := by decide +kernel
theorem d_B_saved_12 : decode c_B_saved 12 = .ok (.iload_n 1, 1) := by decide +kernel
theorem d_B_saved_13 : decode c_B_saved 13 = .ok (.aload_n 0, 1) := by decide +kernel
theorem d_B_saved_14 : decode c_B_saved 14 = .ok (.iload_n 2, 1) := by decide +kernel
theorem d_B_saved_15 : decode c_B_saved 15 = .ok (.invokevirtual 56, 3) := by decide +kernel
theorem d_B_saved_18 : decode c_B_saved 18 = .ok (.iadd, 1) := by decide +kernel
theorem d_B_saved_19 : decode c_B_saved 19 = .ok (.istore_n 1, 1) := by decide +kernel
theorem d_B_saved_20 : decode c_B_saved 20 = .ok (.iinc 2 1, 3) := by decide +kernel
theorem d_B_saved_23 : decode c_B_saved 23 = .ok (.goto (-19), 3) := by decide +kernel
theorem d_B_saved_26 : decode c_B_saved 26 = .ok (.iload_n 1, 1) := by decide +kernel
theorem d_B_saved_27 : decode c_B_saved 27 = .ok (.ireturn, 1) := by decide +kernel
theorem d_B_savedBy_0 : decode c_B_savedBy 0 = .ok (.iconst 0, 1) := by decide +kernel
theorem d_B_savedBy_1 : decode c_B_savedBy 1 = .ok (.istore_n 2, 1) := by decide +kernel
theorem d_B_savedBy_2 : decode c_B_savedBy 2 = .ok (.iconst 1, 1) := by decide +kernel
theorem d_B_savedBy_3 : decode c_B_savedBy 3 = .ok (.istore_n 3, 1) := by decide +kernel
theorem d_B_savedBy_4 : decode c_B_savedBy 4 = .ok (.iload_n 3, 1) := by decide +kernel
theorem d_B_savedBy_5 : decode c_B_savedBy 5 = .ok (.aload_n 0, 1) := by decide +kernel
theorem d_B_savedBy_6 : decode c_B_savedBy 6 = .ok (.getfield 15, 3) := by decide +kernel
theorem d_B_savedBy_9 : decode c_B_savedBy 9 = .ok (.iload_n 1, 1) := by decide +kernel
theorem d_B_savedBy_10 : decode c_B_savedBy 10 = .ok (.iaload, 1) := by decide +kernel
theorem d_B_savedBy_11 : decode c_B_savedBy 11 = .ok (.if_icmp .ge 33, 3) := by decide +kernel
theorem d_B_savedBy_14 : decode c_B_savedBy 14 = .ok (.iload_n 2, 1) := by decide +kernel
theorem d_B_savedBy_15 : decode c_B_savedBy 15 = .ok (.aload_n 0, 1) := by decide +kernel
theorem d_B_savedBy_16 : decode c_B_savedBy 16 = .ok (.getfield 21, 3) := by decide +kernel
theorem d_B_savedBy_19 : decode c_B_savedBy 19 = .ok (.aload_n 0, 1) := by decide +kernel
theorem d_B_savedBy_20 : decode c_B_savedBy 20 = .ok (.iload_n 1, 1) := by decide +kernel
theorem d_B_savedBy_21 : decode c_B_savedBy 21 = .ok (.iload_n 3, 1) := by decide +kernel
theorem d_B_savedBy_22 : decode c_B_savedBy 22 = .ok (.iconst 1, 1) := by decide +kernel
theorem d_B_savedBy_23 : decode c_B_savedBy 23 = .ok (.isub, 1) := by decide +kernel
theorem d_B_savedBy_24 : decode c_B_savedBy 24 = .ok (.invokevirtual 42, 3) := by decide +kernel
theorem d_B_savedBy_27 : decode c_B_savedBy 27 = .ok (.aload_n 0, 1) := by decide +kernel
theorem d_B_savedBy_28 : decode c_B_savedBy 28 = .ok (.iload_n 1, 1) := by decide +kernel
theorem d_B_savedBy_29 : decode c_B_savedBy 29 = .ok (.iload_n 3, 1) := by decide +kernel
theorem d_B_savedBy_30 : decode c_B_savedBy 30 = .ok (.invokevirtual 42, 3) := by decide +kernel
theorem d_B_savedBy_33 : decode c_B_savedBy 33 = .ok (.invokevirtual 46, 3) := by decide +kernel
theorem d_B_savedBy_36 : decode c_B_savedBy 36 = .ok (.iadd, 1) := by decide +kernel
theorem d_B_savedBy_37 : decode c_B_savedBy 37 = .ok (.istore_n 2, 1) := by decide +kernel
theorem d_B_savedBy_38 : decode c_B_savedBy 38 = .ok (.iinc 3 1, 3) := by decide +kernel
theorem d_B_savedBy_41 : decode c_B_savedBy 41 = .ok (.goto (-37), 3) := by decide +kernel
theorem d_B_savedBy_44 : decode c_B_savedBy 44 = .ok (.iload_n 2, 1) := by decide +kernel
theorem d_B_savedBy_45 : decode c_B_savedBy 45 = .ok (.ireturn, 1) := by decide +kernel
theorem d_B_savingWithLast_0 : decode c_B_savingWithLast 0 = .ok (.aload_n 0, 1) := by decide +kernel
theorem d_B_savingWithLast_1 : decode c_B_savingWithLast 1 = .ok (.getfield 15, 3) := by decide +kernel
theorem d_B_savingWithLast_4 : decode c_B_savingWithLast 4 = .ok (.iload_n 2, 1) := by decide +kernel
theorem d_B_savingWithLast_5 : decode c_B_savingWithLast 5 = .ok (.iaload, 1) := by decide +kernel
theorem d_B_savingWithLast_6 : decode c_B_savingWithLast 6 = .ok (.istore_n 3, 1) := by decide +kernel
theorem d_B_savingWithLast_7 : decode c_B_savingWithLast 7 = .ok (.iload_n 3, 1) := by decide +kernel
theorem d_B_savingWithLast_8 : decode c_B_savingWithLast 8 = .ok (.ifCond .ne 7, 3) := by decide +kernel
theorem d_B_savingWithLast_11 : decode c_B_savingWithLast 11 = .ok (.iconst 0, 1) := by decide +kernel
theorem d_B_savingWithLast_12 : decode c_B_savingWithLast 12 = .ok (.goto 19, 3) := by decide +kernel
theorem d_B_savingWithLast_15 : decode c_B_savingWithLast 15 = .ok (.aload_n 0, 1) := by decide +kernel
theorem d_B_savingWithLast_16 : decode c_B_savingWithLast 16 = .ok (.getfield 21, 3) := by decide +kernel
theorem d_B_savingWithLast_19 : decode c_B_savingWithLast 19 = .ok (.aload_n 0, 1) := by decide +kernel
theorem d_B_savingWithLast_20 : decode c_B_savingWithLast 20 = .ok (.iload_n 2, 1) := by decide +kernel
theorem d_B_savingWithLast_21 : decode c_B_savingWithLast 21 = .ok (.iload_n 3, 1) := by decide +kernel
theorem d_B_savingWithLast_22 : decode c_B_savingWithLast 22 = .ok (.iconst 1, 1) := by decide +kernel
theorem d_B_savingWithLast_23 : decode c_B_savingWithLast 23 = .ok (.isub, 1) := by decide +kernel
theorem d_B_savingWithLast_24 : decode c_B_savingWithLast 24 = .ok (.invokevirtual 42, 3) := by decide +kernel
theorem d_B_savingWithLast_27 : decode c_B_savingWithLast 27 = .ok (.iload_n 1, 1) := by decide +kernel
theorem d_B_savingWithLast_28 : decode c_B_savingWithLast 28 = .ok (.invokevirtual 46, 3) := by decide +kernel
theorem d_B_savingWithLast_31 : decode c_B_savingWithLast 31 = .ok (.ireturn, 1) := by decide +kernel
theorem d_B_sumOf_0 : decode c_B_sumOf 0 = .ok (.iconst 0, 1) := by decide +kernel
theorem d_B_sumOf_1 : decode c_B_sumOf 1 = .ok (.istore_n 3, 1) := by decide +kernel
theorem d_B_sumOf_2 : decode c_B_sumOf 2 = .ok (.iconst 0, 1) := by decide +kernel
theorem d_B_sumOf_3 : decode c_B_sumOf 3 = .ok (.istore 4, 2) := by decide +kernel
theorem d_B_sumOf_5 : decode c_B_sumOf 5 = .ok (.iload 4, 2) := by decide +kernel
theorem d_B_sumOf_7 : decode c_B_sumOf 7 = .ok (.aload_n 0, 1) := by decide +kernel
theorem d_B_sumOf_8 : decode c_B_sumOf 8 = .ok (.getfield 15, 3) := by decide +kernel
theorem d_B_sumOf_11 : decode c_B_sumOf 11 = .ok (.iload_n 1, 1) := by decide +kernel
theorem d_B_sumOf_12 : decode c_B_sumOf 12 = .ok (.iaload, 1) := by decide +kernel
theorem d_B_sumOf_13 : decode c_B_sumOf 13 = .ok (.if_icmp .ge 21, 3) := by decide +kernel
theorem d_B_sumOf_16 : decode c_B_sumOf 16 = .ok (.iload_n 3, 1) := by decide +kernel
theorem d_B_sumOf_17 : decode c_B_sumOf 17 = .ok (.aload_n 2, 1) := by decide +kernel
theorem d_B_sumOf_18 : decode c_B_sumOf 18 = .ok (.aload_n 0, 1) := by decide +kernel
theorem d_B_sumOf_19 : decode c_B_sumOf 19 = .ok (.iload_n 1, 1) := by decide +kernel
theorem d_B_sumOf_20 : decode c_B_sumOf 20 = .ok (.iload 4, 2) := by decide +kernel
theorem d_B_sumOf_22 : decode c_B_sumOf 22 = .ok (.invokevirtual 42, 3) := by decide +kernel
theorem d_B_sumOf_25 : decode c_B_sumOf 25 = .ok (.iaload, 1) := by decide +kernel
theorem d_B_sumOf_26 : decode c_B_sumOf 26 = .ok (.iadd, 1) := by decide +kernel
theorem d_B_sumOf_27 : decode c_B_sumOf 27 = .ok (.istore_n 3, 1) := by decide +kernel
theorem d_B_sumOf_28 : decode c_B_sumOf 28 = .ok (.iinc 4 1, 3) := by decide +kernel
theorem d_B_sumOf_31 : decode c_B_sumOf 31 = .ok (.goto (-26), 3) := by decide +kernel
theorem d_B_sumOf_34 : decode c_B_sumOf 34 = .ok (.iload_n 3, 1) := by decide +kernel
theorem d_B_sumOf_35 : decode c_B_sumOf 35 = .ok (.ireturn, 1) := by decide +kernel
theorem d_B_take_0 : decode c_B_take 0 = .ok (.iload_n 2, 1) := by decide +kernel
theorem d_B_take_1 : decode c_B_take 1 = .ok (.iconst 4, 1) := by decide +kernel
theorem d_B_take_2 : decode c_B_take 2 = .ok (.imul, 1) := by decide +kernel
theorem d_B_take_3 : decode c_B_take 3 = .ok (.istore_n 3, 1) := by decide +kernel
theorem d_B_take_4 : decode c_B_take 4 = .ok (.iconst 0, 1) := by decide +kernel
theorem d_B_take_5 : decode c_B_take 5 = .ok (.istore 4, 2) := by decide +kernel
theorem d_B_take_7 : decode c_B_take 7 = .ok (.iconst 0, 1) := by decide +kernel
theorem d_B_take_8 : decode c_B_take 8 = .ok (.istore 5, 2) := by decide +kernel
theorem d_B_take_10 : decode c_B_take 10 = .ok (.iload 5, 2) := by decide +kernel
theorem d_B_take_12 : decode c_B_take 12 = .ok (.aload_n 0, 1) := by decide +kernel
theorem d_B_take_13 : decode c_B_take 13 = .ok (.getfield 15, 3) := by decide +kernel
theorem d_B_take_16 : decode c_B_take 16 = .ok (.iload_n 2, 1) := by decide +kernel
theorem d_B_take_17 : decode c_B_take 17 = .ok (.iaload, 1) := by decide +kernel
theorem d_B_take_18 : decode c_B_take 18 = .ok (.if_icmp .ge 43, 3) := by decide +kernel
theorem d_B_take_21 : decode c_B_take 21 = .ok (.aload_n 0, 1) := by decide +kernel
theorem d_B_take_22 : decode c_B_take 22 = .ok (.getfield 9, 3) := by decide +kernel
theorem d_B_take_25 : decode c_B_take 25 = .ok (.iload_n 3, 1) := by decide +kernel
theorem d_B_take_26 : decode c_B_take 26 = .ok (.iload 5, 2) := by decide +kernel
theorem d_B_take_28 : decode c_B_take 28 = .ok (.iadd, 1) := by decide +kernel
theorem d_B_take_29 : decode c_B_take 29 = .ok (.iaload, 1) := by decide +kernel
theorem d_B_take_30 : decode c_B_take 30 = .ok (.iload_n 1, 1) := by decide +kernel
theorem d_B_take_31 : decode c_B_take 31 = .ok (.if_icmp .eq 24, 3) := by decide +kernel
theorem d_B_take_34 : decode c_B_take 34 = .ok (.aload_n 0, 1) := by decide +kernel
theorem d_B_take_35 : decode c_B_take 35 = .ok (.getfield 9, 3) := by decide +kernel
theorem d_B_take_38 : decode c_B_take 38 = .ok (.iload_n 3, 1) := by decide +kernel
theorem d_B_take_39 : decode c_B_take 39 = .ok (.iload 4, 2) := by decide +kernel
theorem d_B_take_41 : decode c_B_take 41 = .ok (.iadd, 1) := by decide +kernel
theorem d_B_take_42 : decode c_B_take 42 = .ok (.aload_n 0, 1) := by decide +kernel
theorem d_B_take_43 : decode c_B_take 43 = .ok (.getfield 9, 3) := by decide +kernel
theorem d_B_take_46 : decode c_B_take 46 = .ok (.iload_n 3, 1) := by decide +kernel
theorem d_B_take_47 : decode c_B_take 47 = .ok (.iload 5, 2) := by decide +kernel
theorem d_B_take_49 : decode c_B_take 49 = .ok (.iadd, 1) := by decide +kernel
theorem d_B_take_50 : decode c_B_take 50 = .ok (.iaload, 1) := by decide +kernel
theorem d_B_take_51 : decode c_B_take 51 = .ok (.iastore, 1) := by decide +kernel
theorem d_B_take_52 : decode c_B_take 52 = .ok (.iinc 4 1, 3) := by decide +kernel
theorem d_B_take_55 : decode c_B_take 55 = .ok (.iinc 5 1, 3) := by decide +kernel
theorem d_B_take_58 : decode c_B_take 58 = .ok (.goto (-48), 3) := by decide +kernel
theorem d_B_take_61 : decode c_B_take 61 = .ok (.aload_n 0, 1) := by decide +kernel
theorem d_B_take_62 : decode c_B_take 62 = .ok (.getfield 15, 3) := by decide +kernel
theorem d_B_take_65 : decode c_B_take 65 = .ok (.iload_n 2, 1) := by decide +kernel
theorem d_B_take_66 : decode c_B_take 66 = .ok (.iload 4, 2) := by decide +kernel
theorem d_B_take_68 : decode c_B_take 68 = .ok (.iastore, 1) := by decide +kernel
theorem d_B_take_69 : decode c_B_take 69 = .ok (.aload_n 0, 1) := by decide +kernel
theorem d_B_take_70 : decode c_B_take 70 = .ok (.getfield 18, 3) := by decide +kernel
theorem d_B_take_73 : decode c_B_take 73 = .ok (.iload_n 1, 1) := by decide +kernel
theorem d_B_take_74 : decode c_B_take 74 = .ok (.iconst (-1), 1) := by decide +kernel
theorem d_B_take_75 : decode c_B_take 75 = .ok (.iastore, 1) := by decide +kernel
theorem d_B_take_76 : decode c_B_take 76 = .ok (.return_, 1) := by decide +kernel
theorem d_B_wayOf_0 : decode c_B_wayOf 0 = .ok (.aload_n 0, 1) := by decide +kernel
theorem d_B_wayOf_1 : decode c_B_wayOf 1 = .ok (.iload_n 1, 1) := by decide +kernel
theorem d_B_wayOf_2 : decode c_B_wayOf 2 = .ok (.aload_n 0, 1) := by decide +kernel
theorem d_B_wayOf_3 : decode c_B_wayOf 3 = .ok (.getfield 21, 3) := by decide +kernel
theorem d_B_wayOf_6 : decode c_B_wayOf 6 = .ok (.getfield 49, 3) := by decide +kernel
theorem d_B_wayOf_9 : decode c_B_wayOf 9 = .ok (.invokevirtual 52, 3) := by decide +kernel
theorem d_B_wayOf_12 : decode c_B_wayOf 12 = .ok (.aload_n 0, 1) := by decide +kernel
theorem d_B_wayOf_13 : decode c_B_wayOf 13 = .ok (.iload_n 1, 1) := by decide +kernel
theorem d_B_wayOf_14 : decode c_B_wayOf 14 = .ok (.invokevirtual 56, 3) := by decide +kernel
theorem d_B_wayOf_17 : decode c_B_wayOf 17 = .ok (.isub, 1) := by decide +kernel
theorem d_B_wayOf_18 : decode c_B_wayOf 18 = .ok (.ireturn, 1) := by decide +kernel
theorem d_M_init_0 : decode c_M_init 0 = .ok (.aload_n 0, 1) := by decide +kernel
theorem d_M_init_1 : decode c_M_init 1 = .ok (.invokespecial 3, 3) := by decide +kernel
theorem d_M_init_4 : decode c_M_init 4 = .ok (.aload_n 0, 1) := by decide +kernel
theorem d_M_init_5 : decode c_M_init 5 = .ok (.bipush 10, 2) := by decide +kernel
theorem d_M_init_7 : decode c_M_init 7 = .ok (.newarray .int, 2) := by decide +kernel
theorem d_M_init_9 : decode c_M_init 9 = .ok (.putfield 9, 3) := by decide +kernel
theorem d_M_init_12 : decode c_M_init 12 = .ok (.aload_n 0, 1) := by decide +kernel
theorem d_M_init_13 : decode c_M_init 13 = .ok (.bipush 100, 2) := by decide +kernel
theorem d_M_init_15 : decode c_M_init 15 = .ok (.newarray .int, 2) := by decide +kernel
theorem d_M_init_17 : decode c_M_init 17 = .ok (.putfield 15, 3) := by decide +kernel
theorem d_M_init_20 : decode c_M_init 20 = .ok (.aload_n 0, 1) := by decide +kernel
theorem d_M_init_21 : decode c_M_init 21 = .ok (.sipush 1024, 3) := by decide +kernel
theorem d_M_init_24 : decode c_M_init 24 = .ok (.newarray .int, 2) := by decide +kernel
theorem d_M_init_26 : decode c_M_init 26 = .ok (.putfield 18, 3) := by decide +kernel
theorem d_M_init_29 : decode c_M_init 29 = .ok (.aload_n 0, 1) := by decide +kernel
theorem d_M_init_30 : decode c_M_init 30 = .ok (.aload_n 1, 1) := by decide +kernel
theorem d_M_init_31 : decode c_M_init 31 = .ok (.putfield 21, 3) := by decide +kernel
theorem d_M_init_34 : decode c_M_init 34 = .ok (.aload_n 0, 1) := by decide +kernel
theorem d_M_init_35 : decode c_M_init 35 = .ok (.getfield 9, 3) := by decide +kernel
theorem d_M_init_38 : decode c_M_init 38 = .ok (.iconst (-1), 1) := by decide +kernel
theorem d_M_init_39 : decode c_M_init 39 = .ok (.invokestatic 25, 3) := by decide +kernel
theorem d_M_init_42 : decode c_M_init 42 = .ok (.return_, 1) := by decide +kernel
theorem d_M_bind_0 : decode c_M_bind 0 = .ok (.aload_n 0, 1) := by decide +kernel
theorem d_M_bind_1 : decode c_M_bind 1 = .ok (.getfield 9, 3) := by decide +kernel
theorem d_M_bind_4 : decode c_M_bind 4 = .ok (.iload_n 1, 1) := by decide +kernel
theorem d_M_bind_5 : decode c_M_bind 5 = .ok (.iload_n 2, 1) := by decide +kernel
theorem d_M_bind_6 : decode c_M_bind 6 = .ok (.iastore, 1) := by decide +kernel
theorem d_M_bind_7 : decode c_M_bind 7 = .ok (.aload_n 0, 1) := by decide +kernel
theorem d_M_bind_8 : decode c_M_bind 8 = .ok (.getfield 9, 3) := by decide +kernel
theorem d_M_bind_11 : decode c_M_bind 11 = .ok (.iload_n 2, 1) := by decide +kernel
theorem d_M_bind_12 : decode c_M_bind 12 = .ok (.iload_n 1, 1) := by decide +kernel
theorem d_M_bind_13 : decode c_M_bind 13 = .ok (.iastore, 1) := by decide +kernel
theorem d_M_bind_14 : decode c_M_bind 14 = .ok (.return_, 1) := by decide +kernel
theorem d_M_findSums_0 : decode c_M_findSums 0 = .ok (.aload_n 0, 1) := by decide +kernel
theorem d_M_findSums_1 : decode c_M_findSums 1 = .ok (.getfield 18, 3) := by decide +kernel
theorem d_M_findSums_4 : decode c_M_findSums 4 = .ok (.iconst 0, 1) := by decide +kernel
theorem d_M_findSums_5 : decode c_M_findSums 5 = .ok (.iconst 0, 1) := by decide +kernel
theorem d_M_findSums_6 : decode c_M_findSums 6 = .ok (.iastore, 1) := by decide +kernel
theorem d_M_findSums_7 : decode c_M_findSums 7 = .ok (.aload_n 0, 1) := by decide +kernel
theorem d_M_findSums_8 : decode c_M_findSums 8 = .ok (.getfield 21, 3) := by decide +kernel
theorem d_M_findSums_11 : decode c_M_findSums 11 = .ok (.getfield 48, 3) := by decide +kernel
theorem d_M_findSums_14 : decode c_M_findSums 14 = .ok (.iconst 1, 1) := by decide +kernel
theorem d_M_findSums_15 : decode c_M_findSums 15 = .ok (.isub, 1) := by decide +kernel
theorem d_M_findSums_16 : decode c_M_findSums 16 = .ok (.istore_n 1, 1) := by decide +kernel
theorem d_M_findSums_17 : decode c_M_findSums 17 = .ok (.iload_n 1, 1) := by decide +kernel
theorem d_M_findSums_18 : decode c_M_findSums 18 = .ok (.ifCond .lt 71, 3) := by decide +kernel
theorem d_M_findSums_21 : decode c_M_findSums 21 = .ok (.aload_n 0, 1) := by decide +kernel
theorem d_M_findSums_22 : decode c_M_findSums 22 = .ok (.getfield 21, 3) := by decide +kernel
theorem d_M_findSums_25 : decode c_M_findSums 25 = .ok (.getfield 48, 3) := by decide +kernel
theorem d_M_findSums_28 : decode c_M_findSums 28 = .ok (.iconst 1, 1) := by decide +kernel
theorem d_M_findSums_29 : decode c_M_findSums 29 = .ok (.isub, 1) := by decide +kernel
theorem d_M_findSums_30 : decode c_M_findSums 30 = .ok (.iload_n 1, 1) := by decide +kernel
theorem d_M_findSums_31 : decode c_M_findSums 31 = .ok (.isub, 1) := by decide +kernel
theorem d_M_findSums_32 : decode c_M_findSums 32 = .ok (.istore_n 2, 1) := by decide +kernel
theorem d_M_findSums_33 : decode c_M_findSums 33 = .ok (.iconst 0, 1) := by decide +kernel
theorem d_M_findSums_34 : decode c_M_findSums 34 = .ok (.istore_n 3, 1) := by decide +kernel
theorem d_M_findSums_35 : decode c_M_findSums 35 = .ok (.iload_n 3, 1) := by decide +kernel
theorem d_M_findSums_36 : decode c_M_findSums 36 = .ok (.iconst 1, 1) := by decide +kernel
theorem d_M_findSums_37 : decode c_M_findSums 37 = .ok (.iload_n 2, 1) := by decide +kernel
theorem d_M_findSums_38 : decode c_M_findSums 38 = .ok (.ishl, 1) := by decide +kernel
theorem d_M_findSums_39 : decode c_M_findSums 39 = .ok (.if_icmp .ge 44, 3) := by decide +kernel
theorem d_M_findSums_42 : decode c_M_findSums 42 = .ok (.iload_n 2, 1) := by decide +kernel
theorem d_M_findSums_43 : decode c_M_findSums 43 = .ok (.iload_n 3, 1) := by decide +kernel
theorem d_M_findSums_44 : decode c_M_findSums 44 = .ok (.invokestatic 57, 3) := by decide +kernel
theorem d_M_findSums_47 : decode c_M_findSums 47 = .ok (.isub, 1) := by decide +kernel
theorem d_M_findSums_48 : decode c_M_findSums 48 = .ok (.iload_n 1, 1) := by decide +kernel
theorem d_M_findSums_49 : decode c_M_findSums 49 = .ok (.if_icmp .gt 28, 3) := by decide +kernel
theorem d_M_findSums_52 : decode c_M_findSums 52 = .ok (.iload_n 3, 1) := by decide +kernel
theorem d_M_findSums_53 : decode c_M_findSums 53 = .ok (.iload_n 1, 1) := by decide +kernel
theorem d_M_findSums_54 : decode c_M_findSums 54 = .ok (.iconst 1, 1) := by decide +kernel
theorem d_M_findSums_55 : decode c_M_findSums 55 = .ok (.iadd, 1) := by decide +kernel
theorem d_M_findSums_56 : decode c_M_findSums 56 = .ok (.ishl, 1) := by decide +kernel
theorem d_M_findSums_57 : decode c_M_findSums 57 = .ok (.istore 4, 2) := by decide +kernel
theorem d_M_findSums_59 : decode c_M_findSums 59 = .ok (.aload_n 0, 1) := by decide +kernel
theorem d_M_findSums_60 : decode c_M_findSums 60 = .ok (.getfield 18, 3) := by decide +kernel
theorem d_M_findSums_63 : decode c_M_findSums 63 = .ok (.iload 4, 2) := by decide +kernel
theorem d_M_findSums_65 : decode c_M_findSums 65 = .ok (.iconst 1, 1) := by decide +kernel
theorem d_M_findSums_66 : decode c_M_findSums 66 = .ok (.iload_n 1, 1) := by decide +kernel
theorem d_M_findSums_67 : decode c_M_findSums 67 = .ok (.ishl, 1) := by decide +kernel
theorem d_M_findSums_68 : decode c_M_findSums 68 = .ok (.ior, 1) := by decide +kernel
theorem d_M_findSums_69 : decode c_M_findSums 69 = .ok (.aload_n 0, 1) := by decide +kernel
theorem d_M_findSums_70 : decode c_M_findSums 70 = .ok (.iload_n 1, 1) := by decide +kernel
theorem d_M_findSums_71 : decode c_M_findSums 71 = .ok (.iload 4, 2) := by decide +kernel
theorem d_M_findSums_73 : decode c_M_findSums 73 = .ok (.invokevirtual 63, 3) := by decide +kernel
theorem d_M_findSums_76 : decode c_M_findSums 76 = .ok (.iastore, 1) := by decide +kernel
theorem d_M_findSums_77 : decode c_M_findSums 77 = .ok (.iinc 3 1, 3) := by decide +kernel
theorem d_M_findSums_80 : decode c_M_findSums 80 = .ok (.goto (-45), 3) := by decide +kernel
theorem d_M_findSums_83 : decode c_M_findSums 83 = .ok (.iinc 1 (-1), 3) := by decide +kernel
theorem d_M_findSums_86 : decode c_M_findSums 86 = .ok (.goto (-69), 3) := by decide +kernel
theorem d_M_findSums_89 : decode c_M_findSums 89 = .ok (.return_, 1) := by decide +kernel
theorem d_M_firstPartner_0 : decode c_M_firstPartner 0 = .ok (.iload_n 1, 1) := by decide +kernel
theorem d_M_firstPartner_1 : decode c_M_firstPartner 1 = .ok (.iconst 1, 1) := by decide +kernel
theorem d_M_firstPartner_2 : decode c_M_firstPartner 2 = .ok (.iadd, 1) := by decide +kernel
theorem d_M_firstPartner_3 : decode c_M_firstPartner 3 = .ok (.istore 4, 2) := by decide +kernel
theorem d_M_firstPartner_5 : decode c_M_firstPartner 5 = .ok (.iload 4, 2) := by decide +kernel
theorem d_M_firstPartner_7 : decode c_M_firstPartner 7 = .ok (.aload_n 0, 1) := by decide +kernel
theorem d_M_firstPartner_8 : decode c_M_firstPartner 8 = .ok (.getfield 21, 3) := by decide +kernel
theorem d_M_firstPartner_11 : decode c_M_firstPartner 11 = .ok (.getfield 48, 3) := by decide +kernel
theorem d_M_firstPartner_14 : decode c_M_firstPartner 14 = .ok (.if_icmp .ge 35, 3) := by decide +kernel
theorem d_M_firstPartner_17 : decode c_M_firstPartner 17 = .ok (.aload_n 0, 1) := by decide +kernel
theorem d_M_firstPartner_18 : decode c_M_firstPartner 18 = .ok (.iload_n 1, 1) := by decide +kernel
theorem d_M_firstPartner_19 : decode c_M_firstPartner 19 = .ok (.iload 4, 2) := by decide +kernel
theorem d_M_firstPartner_21 : decode c_M_firstPartner 21 = .ok (.iload_n 2, 1) := by decide +kernel
theorem d_M_firstPartner_22 : decode c_M_firstPartner 22 = .ok (.invokevirtual 66, 3) := by decide +kernel
theorem d_M_firstPartner_25 : decode c_M_firstPartner 25 = .ok (.ifCond .eq 18, 3) := by decide +kernel
theorem d_M_firstPartner_28 : decode c_M_firstPartner 28 = .ok (.aload_n 0, 1) := by decide +kernel
theorem d_M_firstPartner_29 : decode c_M_firstPartner 29 = .ok (.iload_n 1, 1) := by decide +kernel
theorem d_M_firstPartner_30 : decode c_M_firstPartner 30 = .ok (.iload 4, 2) := by decide +kernel
theorem d_M_firstPartner_32 : decode c_M_firstPartner 32 = .ok (.iload_n 2, 1) := by decide +kernel
theorem d_M_firstPartner_33 : decode c_M_firstPartner 33 = .ok (.invokevirtual 70, 3) := by decide +kernel
theorem d_M_firstPartner_36 : decode c_M_firstPartner 36 = .ok (.iload_n 3, 1) := by decide +kernel
theorem d_M_firstPartner_37 : decode c_M_firstPartner 37 = .ok (.if_icmp .ne 6, 3) := by decide +kernel
theorem d_M_firstPartner_40 : decode c_M_firstPartner 40 = .ok (.iload 4, 2) := by decide +kernel
theorem d_M_firstPartner_42 : decode c_M_firstPartner 42 = .ok (.ireturn, 1) := by decide +kernel
theorem d_M_firstPartner_43 : decode c_M_firstPartner 43 = .ok (.iinc 4 1, 3) := by decide +kernel
theorem d_M_firstPartner_46 : decode c_M_firstPartner 46 = .ok (.goto (-41), 3) := by decide +kernel
theorem d_M_firstPartner_49 : decode c_M_firstPartner 49 = .ok (.iconst (-1), 1) := by decide +kernel
theorem d_M_firstPartner_50 : decode c_M_firstPartner 50 = .ok (.ireturn, 1) := by decide +kernel
theorem d_M_greatestSum_0 : decode c_M_greatestSum 0 = .ok (.aload_n 0, 1) := by decide +kernel
theorem d_M_greatestSum_1 : decode c_M_greatestSum 1 = .ok (.getfield 18, 3) := by decide +kernel
theorem d_M_greatestSum_4 : decode c_M_greatestSum 4 = .ok (.iload_n 2, 1) := by decide +kernel
theorem d_M_greatestSum_5 : decode c_M_greatestSum 5 = .ok (.iaload, 1) := by decide +kernel
theorem d_M_greatestSum_6 : decode c_M_greatestSum 6 = .ok (.istore_n 3, 1) := by decide +kernel
theorem d_M_greatestSum_7 : decode c_M_greatestSum 7 = .ok (.iload_n 1, 1) := by decide +kernel
theorem d_M_greatestSum_8 : decode c_M_greatestSum 8 = .ok (.iconst 1, 1) := by decide +kernel
theorem d_M_greatestSum_9 : decode c_M_greatestSum 9 = .ok (.iadd, 1) := by decide +kernel
theorem d_M_greatestSum_10 : decode c_M_greatestSum 10 = .ok (.istore 4, 2) := by decide +kernel
theorem d_M_greatestSum_12 : decode c_M_greatestSum 12 = .ok (.iload 4, 2) := by decide +kernel
theorem d_M_greatestSum_14 : decode c_M_greatestSum 14 = .ok (.aload_n 0, 1) := by decide +kernel
theorem d_M_greatestSum_15 : decode c_M_greatestSum 15 = .ok (.getfield 21, 3) := by decide +kernel
theorem d_M_greatestSum_18 : decode c_M_greatestSum 18 = .ok (.getfield 48, 3) := by decide +kernel
theorem d_M_greatestSum_21 : decode c_M_greatestSum 21 = .ok (.if_icmp .ge 33, 3) := by decide +kernel
theorem d_M_greatestSum_24 : decode c_M_greatestSum 24 = .ok (.aload_n 0, 1) := by decide +kernel
theorem d_M_greatestSum_25 : decode c_M_greatestSum 25 = .ok (.iload_n 1, 1) := by decide +kernel
theorem d_M_greatestSum_26 : decode c_M_greatestSum 26 = .ok (.iload 4, 2) := by decide +kernel
theorem d_M_greatestSum_28 : decode c_M_greatestSum 28 = .ok (.iload_n 2, 1) := by decide +kernel
theorem d_M_greatestSum_29 : decode c_M_greatestSum 29 = .ok (.invokevirtual 66, 3) := by decide +kernel
theorem d_M_greatestSum_32 : decode c_M_greatestSum 32 = .ok (.ifCond .eq 16, 3) := by decide +kernel
theorem d_M_greatestSum_35 : decode c_M_greatestSum 35 = .ok (.iload_n 3, 1) := by decide +kernel
theorem d_M_greatestSum_36 : decode c_M_greatestSum 36 = .ok (.aload_n 0, 1) := by decide +kernel
theorem d_M_greatestSum_37 : decode c_M_greatestSum 37 = .ok (.iload_n 1, 1) := by decide +kernel
theorem d_M_greatestSum_38 : decode c_M_greatestSum 38 = .ok (.iload 4, 2) := by decide +kernel
theorem d_M_greatestSum_40 : decode c_M_greatestSum 40 = .ok (.iload_n 2, 1) := by decide +kernel
theorem d_M_greatestSum_41 : decode c_M_greatestSum 41 = .ok (.invokevirtual 70, 3) := by decide +kernel
theorem d_M_greatestSum_44 : decode c_M_greatestSum 44 = .ok (.invokestatic 74, 3) := by decide +kernel
theorem d_M_greatestSum_47 : decode c_M_greatestSum 47 = .ok (.istore_n 3, 1) := by decide +kernel
theorem d_M_greatestSum_48 : decode c_M_greatestSum 48 = .ok (.iinc 4 1, 3) := by decide +kernel
theorem d_M_greatestSum_51 : decode c_M_greatestSum 51 = .ok (.goto (-39), 3) := by decide +kernel
theorem d_M_greatestSum_54 : decode c_M_greatestSum 54 = .ok (.iload_n 3, 1) := by decide +kernel
theorem d_M_greatestSum_55 : decode c_M_greatestSum 55 = .ok (.ireturn, 1) := by decide +kernel
theorem d_M_mayTake_0 : decode c_M_mayTake 0 = .ok (.iload_n 3, 1) := by decide +kernel
theorem d_M_mayTake_1 : decode c_M_mayTake 1 = .ok (.iconst 1, 1) := by decide +kernel
theorem d_M_mayTake_2 : decode c_M_mayTake 2 = .ok (.iload_n 2, 1) := by decide +kernel
theorem d_M_mayTake_3 : decode c_M_mayTake 3 = .ok (.ishl, 1) := by decide +kernel
theorem d_M_mayTake_4 : decode c_M_mayTake 4 = .ok (.iand, 1) := by decide +kernel
theorem d_M_mayTake_5 : decode c_M_mayTake 5 = .ok (.ifCond .eq 20, 3) := by decide +kernel
theorem d_M_mayTake_8 : decode c_M_mayTake 8 = .ok (.aload_n 0, 1) := by decide +kernel
theorem d_M_mayTake_9 : decode c_M_mayTake 9 = .ok (.getfield 15, 3) := by decide +kernel
theorem d_M_mayTake_12 : decode c_M_mayTake 12 = .ok (.iload_n 1, 1) := by decide +kernel
theorem d_M_mayTake_13 : decode c_M_mayTake 13 = .ok (.iload_n 2, 1) := by decide +kernel
theorem d_M_mayTake_14 : decode c_M_mayTake 14 = .ok (.invokestatic 31, 3) := by decide +kernel
theorem d_M_mayTake_17 : decode c_M_mayTake 17 = .ok (.iaload, 1) := by decide +kernel
theorem d_M_mayTake_18 : decode c_M_mayTake 18 = .ok (.ifCond .le 7, 3) := by decide +kernel
theorem d_M_mayTake_21 : decode c_M_mayTake 21 = .ok (.iconst 1, 1) := by decide +kernel
theorem d_M_mayTake_22 : decode c_M_mayTake 22 = .ok (.goto 4, 3) := by decide +kernel
theorem d_M_mayTake_25 : decode c_M_mayTake 25 = .ok (.iconst 0, 1) := by decide +kernel
theorem d_M_mayTake_26 : decode c_M_mayTake 26 = .ok (.ireturn, 1) := by decide +kernel
theorem d_M_pairAnew_0 : decode c_M_pairAnew 0 = .ok (.aload_n 0, 1) := by decide +kernel
theorem d_M_pairAnew_1 : decode c_M_pairAnew 1 = .ok (.getfield 9, 3) := by decide +kernel
theorem d_M_pairAnew_4 : decode c_M_pairAnew 4 = .ok (.iconst (-1), 1) := by decide +kernel
theorem d_M_pairAnew_5 : decode c_M_pairAnew 5 = .ok (.invokestatic 25, 3) := by decide +kernel
theorem d_M_pairAnew_8 : decode c_M_pairAnew 8 = .ok (.aload_n 0, 1) := by decide +kernel
theorem d_M_pairAnew_9 : decode c_M_pairAnew 9 = .ok (.iload_n 1, 1) := by decide +kernel
theorem d_M_pairAnew_10 : decode c_M_pairAnew 10 = .ok (.putfield 35, 3) := by decide +kernel
theorem d_M_pairAnew_13 : decode c_M_pairAnew 13 = .ok (.iload_n 1, 1) := by decide +kernel
theorem d_M_pairAnew_14 : decode c_M_pairAnew 14 = .ok (.ifCond .eq 14, 3) := by decide +kernel
theorem d_M_pairAnew_17 : decode c_M_pairAnew 17 = .ok (.aload_n 0, 1) := by decide +kernel
theorem d_M_pairAnew_18 : decode c_M_pairAnew 18 = .ok (.invokevirtual 39, 3) := by decide +kernel
theorem d_M_pairAnew_21 : decode c_M_pairAnew 21 = .ok (.aload_n 0, 1) := by decide +kernel
theorem d_M_pairAnew_22 : decode c_M_pairAnew 22 = .ok (.invokevirtual 42, 3) := by decide +kernel
theorem d_M_pairAnew_25 : decode c_M_pairAnew 25 = .ok (.goto 7, 3) := by decide +kernel
theorem d_M_pairAnew_28 : decode c_M_pairAnew 28 = .ok (.aload_n 0, 1) := by decide +kernel
theorem d_M_pairAnew_29 : decode c_M_pairAnew 29 = .ok (.invokevirtual 45, 3) := by decide +kernel
theorem d_M_pairAnew_32 : decode c_M_pairAnew 32 = .ok (.return_, 1) := by decide +kernel
theorem d_M_pairByRule_0 : decode c_M_pairByRule 0 = .ok (.iconst 0, 1) := by decide +kernel
theorem d_M_pairByRule_1 : decode c_M_pairByRule 1 = .ok (.istore_n 1, 1) := by decide +kernel
theorem d_M_pairByRule_2 : decode c_M_pairByRule 2 = .ok (.iload_n 1, 1) := by decide +kernel
theorem d_M_pairByRule_3 : decode c_M_pairByRule 3 = .ok (.iconst 5, 1) := by decide +kernel
theorem d_M_pairByRule_4 : decode c_M_pairByRule 4 = .ok (.if_icmp .ge 126, 3) := by decide +kernel
theorem d_M_pairByRule_7 : decode c_M_pairByRule 7 = .ok (.iconst (-1), 1) := by decide +kernel
theorem d_M_pairByRule_8 : decode c_M_pairByRule 8 = .ok (.istore_n 2, 1) := by decide +kernel
theorem d_M_pairByRule_9 : decode c_M_pairByRule 9 = .ok (.iconst (-1), 1) := by decide +kernel
theorem d_M_pairByRule_10 : decode c_M_pairByRule 10 = .ok (.istore_n 3, 1) := by decide +kernel
theorem d_M_pairByRule_11 : decode c_M_pairByRule 11 = .ok (.iconst 0, 1) := by decide +kernel
theorem d_M_pairByRule_12 : decode c_M_pairByRule 12 = .ok (.istore 4, 2) := by decide +kernel
theorem d_M_pairByRule_14 : decode c_M_pairByRule 14 = .ok (.iconst 0, 1) := by decide +kernel
theorem d_M_pairByRule_15 : decode c_M_pairByRule 15 = .ok (.istore 5, 2) := by decide +kernel
theorem d_M_pairByRule_17 : decode c_M_pairByRule 17 = .ok (.iload 5, 2) := by decide +kernel
theorem d_M_pairByRule_19 : decode c_M_pairByRule 19 = .ok (.aload_n 0, 1) := by decide +kernel
theorem d_M_pairByRule_20 : decode c_M_pairByRule 20 = .ok (.getfield 21, 3) := by decide +kernel
theorem d_M_pairByRule_23 : decode c_M_pairByRule 23 = .ok (.getfield 48, 3) := by decide +kernel
theorem d_M_pairByRule_26 : decode c_M_pairByRule 26 = .ok (.if_icmp .ge 86, 3) := by decide +kernel
theorem d_M_pairByRule_29 : decode c_M_pairByRule 29 = .ok (.iload 5, 2) := by decide +kernel
theorem d_M_pairByRule_31 : decode c_M_pairByRule 31 = .ok (.iconst 1, 1) := by decide +kernel
theorem d_M_pairByRule_32 : decode c_M_pairByRule 32 = .ok (.iadd, 1) := by decide +kernel
theorem d_M_pairByRule_33 : decode c_M_pairByRule 33 = .ok (.istore 6, 2) := by decide +kernel
theorem d_M_pairByRule_35 : decode c_M_pairByRule 35 = .ok (.iload 6, 2) := by decide +kernel
theorem d_M_pairByRule_37 : decode c_M_pairByRule 37 = .ok (.aload_n 0, 1) := by decide +kernel
theorem d_M_pairByRule_38 : decode c_M_pairByRule 38 = .ok (.getfield 21, 3) := by decide +kernel
theorem d_M_pairByRule_41 : decode c_M_pairByRule 41 = .ok (.getfield 48, 3) := by decide +kernel
theorem d_M_pairByRule_44 : decode c_M_pairByRule 44 = .ok (.if_icmp .ge 62, 3) := by decide +kernel
theorem d_M_pairByRule_47 : decode c_M_pairByRule 47 = .ok (.aload_n 0, 1) := by decide +kernel
theorem d_M_pairByRule_48 : decode c_M_pairByRule 48 = .ok (.getfield 15, 3) := by decide +kernel
theorem d_M_pairByRule_51 : decode c_M_pairByRule 51 = .ok (.iload 5, 2) := by decide +kernel
theorem d_M_pairByRule_53 : decode c_M_pairByRule 53 = .ok (.iload 6, 2) := by decide +kernel
theorem d_M_pairByRule_55 : decode c_M_pairByRule 55 = .ok (.invokestatic 31, 3) := by decide +kernel
theorem d_M_pairByRule_58 : decode c_M_pairByRule 58 = .ok (.iaload, 1) := by decide +kernel
theorem d_M_pairByRule_59 : decode c_M_pairByRule 59 = .ok (.istore 7, 2) := by decide +kernel
theorem d_M_pairByRule_61 : decode c_M_pairByRule 61 = .ok (.iload 7, 2) := by decide +kernel
theorem d_M_pairByRule_63 : decode c_M_pairByRule 63 = .ok (.iload 4, 2) := by decide +kernel
theorem d_M_pairByRule_65 : decode c_M_pairByRule 65 = .ok (.if_icmp .le 35, 3) := by decide +kernel
theorem d_M_pairByRule_68 : decode c_M_pairByRule 68 = .ok (.aload_n 0, 1) := by decide +kernel
theorem d_M_pairByRule_69 : decode c_M_pairByRule 69 = .ok (.getfield 9, 3) := by decide +kernel
theorem d_M_pairByRule_72 : decode c_M_pairByRule 72 = .ok (.iload 5, 2) := by decide +kernel
theorem d_M_pairByRule_74 : decode c_M_pairByRule 74 = .ok (.iaload, 1) := by decide +kernel
theorem d_M_pairByRule_75 : decode c_M_pairByRule 75 = .ok (.iconst (-1), 1) := by decide +kernel
theorem d_M_pairByRule_76 : decode c_M_pairByRule 76 = .ok (.if_icmp .ne 24, 3) := by decide +kernel
theorem d_M_pairByRule_79 : decode c_M_pairByRule 79 = .ok (.aload_n 0, 1) := by decide +kernel
theorem d_M_pairByRule_80 : decode c_M_pairByRule 80 = .ok (.getfield 9, 3) := by decide +kernel
theorem d_M_pairByRule_83 : decode c_M_pairByRule 83 = .ok (.iload 6, 2) := by decide +kernel
theorem d_M_pairByRule_85 : decode c_M_pairByRule 85 = .ok (.iaload, 1) := by decide +kernel
theorem d_M_pairByRule_86 : decode c_M_pairByRule 86 = .ok (.iconst (-1), 1) := by decide +kernel
theorem d_M_pairByRule_87 : decode c_M_pairByRule 87 = .ok (.if_icmp .ne 13, 3) := by decide +kernel
theorem d_M_pairByRule_90 : decode c_M_pairByRule 90 = .ok (.iload 5, 2) := by decide +kernel
theorem d_M_pairByRule_92 : decode c_M_pairByRule 92 = .ok (.istore_n 2, 1) := by decide +kernel
theorem d_M_pairByRule_93 : decode c_M_pairByRule 93 = .ok (.iload 6, 2) := by decide +kernel
theorem d_M_pairByRule_95 : decode c_M_pairByRule 95 = .ok (.istore_n 3, 1) := by decide +kernel
theorem d_M_pairByRule_96 : decode c_M_pairByRule 96 = .ok (.iload 7, 2) := by decide +kernel
theorem d_M_pairByRule_98 : decode c_M_pairByRule 98 = .ok (.istore 4, 2) := by decide +kernel
theorem d_M_pairByRule_100 : decode c_M_pairByRule 100 = .ok (.iinc 6 1, 3) := by decide +kernel
theorem d_M_pairByRule_103 : decode c_M_pairByRule 103 = .ok (.goto (-68), 3) := by decide +kernel
theorem d_M_pairByRule_106 : decode c_M_pairByRule 106 = .ok (.iinc 5 1, 3) := by decide +kernel
theorem d_M_pairByRule_109 : decode c_M_pairByRule 109 = .ok (.goto (-92), 3) := by decide +kernel
theorem d_M_pairByRule_112 : decode c_M_pairByRule 112 = .ok (.iload_n 2, 1) := by decide +kernel
theorem d_M_pairByRule_113 : decode c_M_pairByRule 113 = .ok (.iconst (-1), 1) := by decide +kernel
theorem d_M_pairByRule_114 : decode c_M_pairByRule 114 = .ok (.if_icmp .ne 4, 3) := by decide +kernel
theorem d_M_pairByRule_117 : decode c_M_pairByRule 117 = .ok (.return_, 1) := by decide +kernel
theorem d_M_pairByRule_118 : decode c_M_pairByRule 118 = .ok (.aload_n 0, 1) := by decide +kernel
theorem d_M_pairByRule_119 : decode c_M_pairByRule 119 = .ok (.iload_n 2, 1) := by decide +kernel
theorem d_M_pairByRule_120 : decode c_M_pairByRule 120 = .ok (.iload_n 3, 1) := by decide +kernel
theorem d_M_pairByRule_121 : decode c_M_pairByRule 121 = .ok (.invokevirtual 82, 3) := by decide +kernel
theorem d_M_pairByRule_124 : decode c_M_pairByRule 124 = .ok (.iinc 1 1, 3) := by decide +kernel
theorem d_M_pairByRule_127 : decode c_M_pairByRule 127 = .ok (.goto (-125), 3) := by decide +kernel
theorem d_M_pairByRule_130 : decode c_M_pairByRule 130 = .ok (.return_, 1) := by decide +kernel
theorem d_M_pairBySums_0 : decode c_M_pairBySums 0 = .ok (.iconst 1, 1) := by decide +kernel
theorem d_M_pairBySums_1 : decode c_M_pairBySums 1 = .ok (.aload_n 0, 1) := by decide +kernel
theorem d_M_pairBySums_2 : decode c_M_pairBySums 2 = .ok (.getfield 21, 3) := by decide +kernel
theorem d_M_pairBySums_5 : decode c_M_pairBySums 5 = .ok (.getfield 48, 3) := by decide +kernel
theorem d_M_pairBySums_8 : decode c_M_pairBySums 8 = .ok (.ishl, 1) := by decide +kernel
theorem d_M_pairBySums_9 : decode c_M_pairBySums 9 = .ok (.iconst 1, 1) := by decide +kernel
theorem d_M_pairBySums_10 : decode c_M_pairBySums 10 = .ok (.isub, 1) := by decide +kernel
theorem d_M_pairBySums_11 : decode c_M_pairBySums 11 = .ok (.istore_n 1, 1) := by decide +kernel
theorem d_M_pairBySums_12 : decode c_M_pairBySums 12 = .ok (.iconst 0, 1) := by decide +kernel
theorem d_M_pairBySums_13 : decode c_M_pairBySums 13 = .ok (.istore_n 2, 1) := by decide +kernel
theorem d_M_pairBySums_14 : decode c_M_pairBySums 14 = .ok (.iload_n 2, 1) := by decide +kernel
theorem d_M_pairBySums_15 : decode c_M_pairBySums 15 = .ok (.aload_n 0, 1) := by decide +kernel
theorem d_M_pairBySums_16 : decode c_M_pairBySums 16 = .ok (.getfield 21, 3) := by decide +kernel
theorem d_M_pairBySums_19 : decode c_M_pairBySums 19 = .ok (.getfield 48, 3) := by decide +kernel
theorem d_M_pairBySums_22 : decode c_M_pairBySums 22 = .ok (.if_icmp .ge 63, 3) := by decide +kernel
theorem d_M_pairBySums_25 : decode c_M_pairBySums 25 = .ok (.iload_n 1, 1) := by decide +kernel
theorem d_M_pairBySums_26 : decode c_M_pairBySums 26 = .ok (.iconst 1, 1) := by decide +kernel
theorem d_M_pairBySums_27 : decode c_M_pairBySums 27 = .ok (.iload_n 2, 1) := by decide +kernel
theorem d_M_pairBySums_28 : decode c_M_pairBySums 28 = .ok (.ishl, 1) := by decide +kernel
theorem d_M_pairBySums_29 : decode c_M_pairBySums 29 = .ok (.iand, 1) := by decide +kernel
theorem d_M_pairBySums_30 : decode c_M_pairBySums 30 = .ok (.ifCond .eq 49, 3) := by decide +kernel
theorem d_M_pairBySums_33 : decode c_M_pairBySums 33 = .ok (.iload_n 1, 1) := by decide +kernel
theorem d_M_pairBySums_34 : decode c_M_pairBySums 34 = .ok (.iconst 1, 1) := by decide +kernel
theorem d_M_pairBySums_35 : decode c_M_pairBySums 35 = .ok (.iload_n 2, 1) := by decide +kernel
theorem d_M_pairBySums_36 : decode c_M_pairBySums 36 = .ok (.ishl, 1) := by decide +kernel
theorem d_M_pairBySums_37 : decode c_M_pairBySums 37 = .ok (.iconst (-1), 1) := by decide +kernel
theorem d_M_pairBySums_38 : decode c_M_pairBySums 38 = .ok (.ixor, 1) := by decide +kernel
theorem d_M_pairBySums_39 : decode c_M_pairBySums 39 = .ok (.iand, 1) := by decide +kernel
theorem d_M_pairBySums_40 : decode c_M_pairBySums 40 = .ok (.istore_n 3, 1) := by decide +kernel
theorem d_M_pairBySums_41 : decode c_M_pairBySums 41 = .ok (.aload_n 0, 1) := by decide +kernel
theorem d_M_pairBySums_42 : decode c_M_pairBySums 42 = .ok (.iload_n 2, 1) := by decide +kernel
theorem d_M_pairBySums_43 : decode c_M_pairBySums 43 = .ok (.iload_n 3, 1) := by decide +kernel
theorem d_M_pairBySums_44 : decode c_M_pairBySums 44 = .ok (.aload_n 0, 1) := by decide +kernel
theorem d_M_pairBySums_45 : decode c_M_pairBySums 45 = .ok (.getfield 18, 3) := by decide +kernel
theorem d_M_pairBySums_48 : decode c_M_pairBySums 48 = .ok (.iload_n 1, 1) := by decide +kernel
theorem d_M_pairBySums_49 : decode c_M_pairBySums 49 = .ok (.iaload, 1) := by decide +kernel
theorem d_M_pairBySums_50 : decode c_M_pairBySums 50 = .ok (.invokevirtual 79, 3) := by decide +kernel
theorem d_M_pairBySums_53 : decode c_M_pairBySums 53 = .ok (.istore 4, 2) := by decide +kernel
theorem d_M_pairBySums_55 : decode c_M_pairBySums 55 = .ok (.iload 4, 2) := by decide +kernel
theorem d_M_pairBySums_57 : decode c_M_pairBySums 57 = .ok (.iconst (-1), 1) := by decide +kernel
theorem d_M_pairBySums_58 : decode c_M_pairBySums 58 = .ok (.if_icmp .eq 19, 3) := by decide +kernel
theorem d_M_pairBySums_61 : decode c_M_pairBySums 61 = .ok (.aload_n 0, 1) := by decide +kernel
theorem d_M_pairBySums_62 : decode c_M_pairBySums 62 = .ok (.iload_n 2, 1) := by decide +kernel
theorem d_M_pairBySums_63 : decode c_M_pairBySums 63 = .ok (.iload 4, 2) := by decide +kernel
theorem d_M_pairBySums_65 : decode c_M_pairBySums 65 = .ok (.invokevirtual 82, 3) := by decide +kernel
theorem d_M_pairBySums_68 : decode c_M_pairBySums 68 = .ok (.iload_n 3, 1) := by decide +kernel
theorem d_M_pairBySums_69 : decode c_M_pairBySums 69 = .ok (.iconst 1, 1) := by decide +kernel
theorem d_M_pairBySums_70 : decode c_M_pairBySums 70 = .ok (.iload 4, 2) := by decide +kernel
theorem d_M_pairBySums_72 : decode c_M_pairBySums 72 = .ok (.ishl, 1) := by decide +kernel
theorem d_M_pairBySums_73 : decode c_M_pairBySums 73 = .ok (.iconst (-1), 1) := by decide +kernel
theorem d_M_pairBySums_74 : decode c_M_pairBySums 74 = .ok (.ixor, 1) := by decide +kernel
theorem d_M_pairBySums_75 : decode c_M_pairBySums 75 = .ok (.iand, 1) := by decide +kernel
theorem d_M_pairBySums_76 : decode c_M_pairBySums 76 = .ok (.istore_n 3, 1) := by decide +kernel
theorem d_M_pairBySums_77 : decode c_M_pairBySums 77 = .ok (.iload_n 3, 1) := by decide +kernel
theorem d_M_pairBySums_78 : decode c_M_pairBySums 78 = .ok (.istore_n 1, 1) := by decide +kernel
theorem d_M_pairBySums_79 : decode c_M_pairBySums 79 = .ok (.iinc 2 1, 3) := by decide +kernel
theorem d_M_pairBySums_82 : decode c_M_pairBySums 82 = .ok (.goto (-68), 3) := by decide +kernel
theorem d_M_pairBySums_85 : decode c_M_pairBySums 85 = .ok (.return_, 1) := by decide +kernel
theorem d_M_pairs_0 : decode c_M_pairs 0 = .ok (.iconst 0, 1) := by decide +kernel
theorem d_M_pairs_1 : decode c_M_pairs 1 = .ok (.istore_n 1, 1) := by decide +kernel
theorem d_M_pairs_2 : decode c_M_pairs 2 = .ok (.iconst 0, 1) := by decide +kernel
theorem d_M_pairs_3 : decode c_M_pairs 3 = .ok (.istore_n 2, 1) := by decide +kernel
theorem d_M_pairs_4 : decode c_M_pairs 4 = .ok (.iload_n 2, 1) := by decide +kernel
theorem d_M_pairs_5 : decode c_M_pairs 5 = .ok (.aload_n 0, 1) := by decide +kernel
theorem d_M_pairs_6 : decode c_M_pairs 6 = .ok (.getfield 21, 3) := by decide +kernel
theorem d_M_pairs_9 : decode c_M_pairs 9 = .ok (.getfield 48, 3) := by decide +kernel
theorem d_M_pairs_12 : decode c_M_pairs 12 = .ok (.if_icmp .ge 22, 3) := by decide +kernel
theorem d_M_pairs_15 : decode c_M_pairs 15 = .ok (.aload_n 0, 1) := by decide +kernel
theorem d_M_pairs_16 : decode c_M_pairs 16 = .ok (.getfield 9, 3) := by decide +kernel
theorem d_M_pairs_19 : decode c_M_pairs 19 = .ok (.iload_n 2, 1) := by decide +kernel
theorem d_M_pairs_20 : decode c_M_pairs 20 = .ok (.iaload, 1) := by decide +kernel
theorem d_M_pairs_21 : decode c_M_pairs 21 = .ok (.iload_n 2, 1) := by decide +kernel
theorem d_M_pairs_22 : decode c_M_pairs 22 = .ok (.if_icmp .le 6, 3) := by decide +kernel
theorem d_M_pairs_25 : decode c_M_pairs 25 = .ok (.iinc 1 1, 3) := by decide +kernel
theorem d_M_pairs_28 : decode c_M_pairs 28 = .ok (.iinc 2 1, 3) := by decide +kernel
theorem d_M_pairs_31 : decode c_M_pairs 31 = .ok (.goto (-27), 3) := by decide +kernel
theorem d_M_pairs_34 : decode c_M_pairs 34 = .ok (.iload_n 1, 1) := by decide +kernel
theorem d_M_pairs_35 : decode c_M_pairs 35 = .ok (.ireturn, 1) := by decide +kernel
theorem d_M_part_0 : decode c_M_part 0 = .ok (.aload_n 0, 1) := by decide +kernel
theorem d_M_part_1 : decode c_M_part 1 = .ok (.getfield 9, 3) := by decide +kernel
theorem d_M_part_4 : decode c_M_part 4 = .ok (.iload_n 1, 1) := by decide +kernel
theorem d_M_part_5 : decode c_M_part 5 = .ok (.iaload, 1) := by decide +kernel
theorem d_M_part_6 : decode c_M_part 6 = .ok (.istore_n 2, 1) := by decide +kernel
theorem d_M_part_7 : decode c_M_part 7 = .ok (.iload_n 2, 1) := by decide +kernel
theorem d_M_part_8 : decode c_M_part 8 = .ok (.iconst (-1), 1) := by decide +kernel
theorem d_M_part_9 : decode c_M_part 9 = .ok (.if_icmp .eq 10, 3) := by decide +kernel
theorem d_M_part_12 : decode c_M_part 12 = .ok (.aload_n 0, 1) := by decide +kernel
theorem d_M_part_13 : decode c_M_part 13 = .ok (.getfield 9, 3) := by decide +kernel
theorem d_M_part_16 : decode c_M_part 16 = .ok (.iload_n 2, 1) := by decide +kernel
theorem d_M_part_17 : decode c_M_part 17 = .ok (.iconst (-1), 1) := by decide +kernel
theorem d_M_part_18 : decode c_M_part 18 = .ok (.iastore, 1) := by decide +kernel
theorem d_M_part_19 : decode c_M_part 19 = .ok (.aload_n 0, 1) := by decide +kernel
theorem d_M_part_20 : decode c_M_part 20 = .ok (.getfield 9, 3) := by decide +kernel
theorem d_M_part_23 : decode c_M_part 23 = .ok (.iload_n 1, 1) := by decide +kernel
theorem d_M_part_24 : decode c_M_part 24 = .ok (.iconst (-1), 1) := by decide +kernel
theorem d_M_part_25 : decode c_M_part 25 = .ok (.iastore, 1) := by decide +kernel
theorem d_M_part_26 : decode c_M_part 26 = .ok (.return_, 1) := by decide +kernel
theorem d_M_putGain_0 : decode c_M_putGain 0 = .ok (.aload_n 0, 1) := by decide +kernel
theorem d_M_putGain_1 : decode c_M_putGain 1 = .ok (.getfield 15, 3) := by decide +kernel
theorem d_M_putGain_4 : decode c_M_putGain 4 = .ok (.iload_n 1, 1) := by decide +kernel
theorem d_M_putGain_5 : decode c_M_putGain 5 = .ok (.iload_n 2, 1) := by decide +kernel
theorem d_M_putGain_6 : decode c_M_putGain 6 = .ok (.invokestatic 31, 3) := by decide +kernel
theorem d_M_putGain_9 : decode c_M_putGain 9 = .ok (.iload_n 3, 1) := by decide +kernel
theorem d_M_putGain_10 : decode c_M_putGain 10 = .ok (.iastore, 1) := by decide +kernel
theorem d_M_putGain_11 : decode c_M_putGain 11 = .ok (.return_, 1) := by decide +kernel
theorem d_M_saved_0 : decode c_M_saved 0 = .ok (.iconst 0, 1) := by decide +kernel
theorem d_M_saved_1 : decode c_M_saved 1 = .ok (.istore_n 1, 1) := by decide +kernel
theorem d_M_saved_2 : decode c_M_saved 2 = .ok (.iconst 0, 1) := by decide +kernel
theorem d_M_saved_3 : decode c_M_saved 3 = .ok (.istore_n 2, 1) := by decide +kernel
theorem d_M_saved_4 : decode c_M_saved 4 = .ok (.iload_n 2, 1) := by decide +kernel
theorem d_M_saved_5 : decode c_M_saved 5 = .ok (.aload_n 0, 1) := by decide +kernel
theorem d_M_saved_6 : decode c_M_saved 6 = .ok (.getfield 21, 3) := by decide +kernel
theorem d_M_saved_9 : decode c_M_saved 9 = .ok (.getfield 48, 3) := by decide +kernel
theorem d_M_saved_12 : decode c_M_saved 12 = .ok (.if_icmp .ge 36, 3) := by decide +kernel
theorem d_M_saved_15 : decode c_M_saved 15 = .ok (.aload_n 0, 1) := by decide +kernel
theorem d_M_saved_16 : decode c_M_saved 16 = .ok (.getfield 9, 3) := by decide +kernel
theorem d_M_saved_19 : decode c_M_saved 19 = .ok (.iload_n 2, 1) := by decide +kernel
theorem d_M_saved_20 : decode c_M_saved 20 = .ok (.iaload, 1) := by decide +kernel
theorem d_M_saved_21 : decode c_M_saved 21 = .ok (.iload_n 2, 1) := by decide +kernel
theorem d_M_saved_22 : decode c_M_saved 22 = .ok (.if_icmp .le 20, 3) := by decide +kernel
theorem d_M_saved_25 : decode c_M_saved 25 = .ok (.iload_n 1, 1) := by decide +kernel
theorem d_M_saved_26 : decode c_M_saved 26 = .ok (.aload_n 0, 1) := by decide +kernel
theorem d_M_saved_27 : decode c_M_saved 27 = .ok (.getfield 21, 3) := by decide +kernel
theorem d_M_saved_30 : decode c_M_saved 30 = .ok (.iload_n 2, 1) := by decide +kernel
theorem d_M_saved_31 : decode c_M_saved 31 = .ok (.aload_n 0, 1) := by decide +kernel
theorem d_M_saved_32 : decode c_M_saved 32 = .ok (.getfield 9, 3) := by decide +kernel
theorem d_M_saved_35 : decode c_M_saved 35 = .ok (.iload_n 2, 1) := by decide +kernel
theorem d_M_saved_36 : decode c_M_saved 36 = .ok (.iaload, 1) := by decide +kernel
theorem d_M_saved_37 : decode c_M_saved 37 = .ok (.invokevirtual 54, 3) := by decide +kernel
theorem d_M_saved_40 : decode c_M_saved 40 = .ok (.iadd, 1) := by decide +kernel
theorem d_M_saved_41 : decode c_M_saved 41 = .ok (.istore_n 1, 1) := by decide +kernel
theorem d_M_saved_42 : decode c_M_saved 42 = .ok (.iinc 2 1, 3) := by decide +kernel
theorem d_M_saved_45 : decode c_M_saved 45 = .ok (.goto (-41), 3) := by decide +kernel
theorem d_M_saved_48 : decode c_M_saved 48 = .ok (.iload_n 1, 1) := by decide +kernel
theorem d_M_saved_49 : decode c_M_saved 49 = .ok (.ireturn, 1) := by decide +kernel
theorem d_M_sumWith_0 : decode c_M_sumWith 0 = .ok (.aload_n 0, 1) := by decide +kernel
theorem d_M_sumWith_1 : decode c_M_sumWith 1 = .ok (.getfield 15, 3) := by decide +kernel
theorem d_M_sumWith_4 : decode c_M_sumWith 4 = .ok (.iload_n 1, 1) := by decide +kernel
theorem d_M_sumWith_5 : decode c_M_sumWith 5 = .ok (.iload_n 2, 1) := by decide +kernel
theorem d_M_sumWith_6 : decode c_M_sumWith 6 = .ok (.invokestatic 31, 3) := by decide +kernel
theorem d_M_sumWith_9 : decode c_M_sumWith 9 = .ok (.iaload, 1) := by decide +kernel
theorem d_M_sumWith_10 : decode c_M_sumWith 10 = .ok (.aload_n 0, 1) := by decide +kernel
theorem d_M_sumWith_11 : decode c_M_sumWith 11 = .ok (.getfield 18, 3) := by decide +kernel
theorem d_M_sumWith_14 : decode c_M_sumWith 14 = .ok (.iload_n 3, 1) := by decide +kernel
theorem d_M_sumWith_15 : decode c_M_sumWith 15 = .ok (.iconst 1, 1) := by decide +kernel
theorem d_M_sumWith_16 : decode c_M_sumWith 16 = .ok (.iload_n 2, 1) := by decide +kernel
theorem d_M_sumWith_17 : decode c_M_sumWith 17 = .ok (.ishl, 1) := by decide +kernel
theorem d_M_sumWith_18 : decode c_M_sumWith 18 = .ok (.iconst (-1), 1) := by decide +kernel
theorem d_M_sumWith_19 : decode c_M_sumWith 19 = .ok (.ixor, 1) := by decide +kernel
theorem d_M_sumWith_20 : decode c_M_sumWith 20 = .ok (.iand, 1) := by decide +kernel
theorem d_M_sumWith_21 : decode c_M_sumWith 21 = .ok (.iaload, 1) := by decide +kernel
theorem d_M_sumWith_22 : decode c_M_sumWith 22 = .ok (.iadd, 1) := by decide +kernel
theorem d_M_sumWith_23 : decode c_M_sumWith 23 = .ok (.ireturn, 1) := by decide +kernel
theorem d_A_fill_0 : decode c_A_fill 0 = .ok (.iconst 0, 1) := by decide +kernel
theorem d_A_fill_1 : decode c_A_fill 1 = .ok (.istore_n 2, 1) := by decide +kernel
theorem d_A_fill_2 : decode c_A_fill 2 = .ok (.aload_n 0, 1) := by decide +kernel
theorem d_A_fill_3 : decode c_A_fill 3 = .ok (.arraylength, 1) := by decide +kernel
theorem d_A_fill_4 : decode c_A_fill 4 = .ok (.istore_n 3, 1) := by decide +kernel
theorem d_A_fill_5 : decode c_A_fill 5 = .ok (.iload_n 2, 1) := by decide +kernel
theorem d_A_fill_6 : decode c_A_fill 6 = .ok (.iload_n 3, 1) := by decide +kernel
theorem d_A_fill_7 : decode c_A_fill 7 = .ok (.if_icmp .ge 13, 3) := by decide +kernel
theorem d_A_fill_10 : decode c_A_fill 10 = .ok (.aload_n 0, 1) := by decide +kernel
theorem d_A_fill_11 : decode c_A_fill 11 = .ok (.iload_n 2, 1) := by decide +kernel
theorem d_A_fill_12 : decode c_A_fill 12 = .ok (.iload_n 1, 1) := by decide +kernel
theorem d_A_fill_13 : decode c_A_fill 13 = .ok (.iastore, 1) := by decide +kernel
theorem d_A_fill_14 : decode c_A_fill 14 = .ok (.iinc 2 1, 3) := by decide +kernel
theorem d_A_fill_17 : decode c_A_fill 17 = .ok (.goto (-12), 3) := by decide +kernel
theorem d_A_fill_20 : decode c_A_fill 20 = .ok (.return_, 1) := by decide +kernel
theorem d_I_bitCount_0 : decode c_I_bitCount 0 = .ok (.iload_n 0, 1) := by decide +kernel
theorem d_I_bitCount_1 : decode c_I_bitCount 1 = .ok (.iload_n 0, 1) := by decide +kernel
theorem d_I_bitCount_2 : decode c_I_bitCount 2 = .ok (.iconst 1, 1) := by decide +kernel
theorem d_I_bitCount_3 : decode c_I_bitCount 3 = .ok (.iushr, 1) := by decide +kernel
theorem d_I_bitCount_4 : decode c_I_bitCount 4 = .ok (.ldc_w 265, 3) := by decide +kernel
theorem d_I_bitCount_7 : decode c_I_bitCount 7 = .ok (.iand, 1) := by decide +kernel
theorem d_I_bitCount_8 : decode c_I_bitCount 8 = .ok (.isub, 1) := by decide +kernel
theorem d_I_bitCount_9 : decode c_I_bitCount 9 = .ok (.istore_n 0, 1) := by decide +kernel
theorem d_I_bitCount_10 : decode c_I_bitCount 10 = .ok (.iload_n 0, 1) := by decide +kernel
theorem d_I_bitCount_11 : decode c_I_bitCount 11 = .ok (.ldc_w 266, 3) := by decide +kernel
theorem d_I_bitCount_14 : decode c_I_bitCount 14 = .ok (.iand, 1) := by decide +kernel
theorem d_I_bitCount_15 : decode c_I_bitCount 15 = .ok (.iload_n 0, 1) := by decide +kernel
theorem d_I_bitCount_16 : decode c_I_bitCount 16 = .ok (.iconst 2, 1) := by decide +kernel
theorem d_I_bitCount_17 : decode c_I_bitCount 17 = .ok (.iushr, 1) := by decide +kernel
theorem d_I_bitCount_18 : decode c_I_bitCount 18 = .ok (.ldc_w 266, 3) := by decide +kernel
theorem d_I_bitCount_21 : decode c_I_bitCount 21 = .ok (.iand, 1) := by decide +kernel
theorem d_I_bitCount_22 : decode c_I_bitCount 22 = .ok (.iadd, 1) := by decide +kernel
theorem d_I_bitCount_23 : decode c_I_bitCount 23 = .ok (.istore_n 0, 1) := by decide +kernel
theorem d_I_bitCount_24 : decode c_I_bitCount 24 = .ok (.iload_n 0, 1) := by decide +kernel
theorem d_I_bitCount_25 : decode c_I_bitCount 25 = .ok (.iload_n 0, 1) := by decide +kernel
theorem d_I_bitCount_26 : decode c_I_bitCount 26 = .ok (.iconst 4, 1) := by decide +kernel
theorem d_I_bitCount_27 : decode c_I_bitCount 27 = .ok (.iushr, 1) := by decide +kernel
theorem d_I_bitCount_28 : decode c_I_bitCount 28 = .ok (.iadd, 1) := by decide +kernel
theorem d_I_bitCount_29 : decode c_I_bitCount 29 = .ok (.ldc_w 267, 3) := by decide +kernel
theorem d_I_bitCount_32 : decode c_I_bitCount 32 = .ok (.iand, 1) := by decide +kernel
theorem d_I_bitCount_33 : decode c_I_bitCount 33 = .ok (.istore_n 0, 1) := by decide +kernel
theorem d_I_bitCount_34 : decode c_I_bitCount 34 = .ok (.iload_n 0, 1) := by decide +kernel
theorem d_I_bitCount_35 : decode c_I_bitCount 35 = .ok (.iload_n 0, 1) := by decide +kernel
theorem d_I_bitCount_36 : decode c_I_bitCount 36 = .ok (.bipush 8, 2) := by decide +kernel
theorem d_I_bitCount_38 : decode c_I_bitCount 38 = .ok (.iushr, 1) := by decide +kernel
theorem d_I_bitCount_39 : decode c_I_bitCount 39 = .ok (.iadd, 1) := by decide +kernel
theorem d_I_bitCount_40 : decode c_I_bitCount 40 = .ok (.istore_n 0, 1) := by decide +kernel
theorem d_I_bitCount_41 : decode c_I_bitCount 41 = .ok (.iload_n 0, 1) := by decide +kernel
theorem d_I_bitCount_42 : decode c_I_bitCount 42 = .ok (.iload_n 0, 1) := by decide +kernel
theorem d_I_bitCount_43 : decode c_I_bitCount 43 = .ok (.bipush 16, 2) := by decide +kernel
theorem d_I_bitCount_45 : decode c_I_bitCount 45 = .ok (.iushr, 1) := by decide +kernel
theorem d_I_bitCount_46 : decode c_I_bitCount 46 = .ok (.iadd, 1) := by decide +kernel
theorem d_I_bitCount_47 : decode c_I_bitCount 47 = .ok (.istore_n 0, 1) := by decide +kernel
theorem d_I_bitCount_48 : decode c_I_bitCount 48 = .ok (.iload_n 0, 1) := by decide +kernel
theorem d_I_bitCount_49 : decode c_I_bitCount 49 = .ok (.bipush 63, 2) := by decide +kernel
theorem d_I_bitCount_51 : decode c_I_bitCount 51 = .ok (.iand, 1) := by decide +kernel
theorem d_I_bitCount_52 : decode c_I_bitCount 52 = .ok (.ireturn, 1) := by decide +kernel
theorem d_Ob_init_0 : decode c_Ob_init 0 = .ok (.return_, 1) := by decide +kernel
theorem d_Ma_max_0 : decode c_Ma_max 0 = .ok (.iload_n 0, 1) := by decide +kernel
theorem d_Ma_max_1 : decode c_Ma_max 1 = .ok (.iload_n 1, 1) := by decide +kernel
theorem d_Ma_max_2 : decode c_Ma_max 2 = .ok (.if_icmp .lt 7, 3) := by decide +kernel
theorem d_Ma_max_5 : decode c_Ma_max 5 = .ok (.iload_n 0, 1) := by decide +kernel
theorem d_Ma_max_6 : decode c_Ma_max 6 = .ok (.goto 4, 3) := by decide +kernel
theorem d_Ma_max_9 : decode c_Ma_max 9 = .ok (.iload_n 1, 1) := by decide +kernel
theorem d_Ma_max_10 : decode c_Ma_max 10 = .ok (.ireturn, 1) := by decide +kernel
