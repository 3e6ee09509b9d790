theorem d_Tw_init_0 : decode c_Tw_init 0 = .ok (.aload_n 0, 1) := by decide +kernel
theorem d_Tw_init_1 : decode c_Tw_init 1 = .ok (.invokespecial 1, 3) := by decide +kernel
theorem d_Tw_init_4 : decode c_Tw_init 4 = .ok (.aload_n 0, 1) := by decide +kernel
theorem d_Tw_init_5 : decode c_Tw_init 5 = .ok (.bipush 10, 2) := by decide +kernel
theorem d_Tw_init_7 : decode c_Tw_init 7 = .ok (.newarray .int, 2) := by decide +kernel
theorem d_Tw_init_9 : decode c_Tw_init 9 = .ok (.putfield 7, 3) := by decide +kernel
theorem d_Tw_init_12 : decode c_Tw_init 12 = .ok (.aload_n 0, 1) := by decide +kernel
theorem d_Tw_init_13 : decode c_Tw_init 13 = .ok (.bipush 10, 2) := by decide +kernel
theorem d_Tw_init_15 : decode c_Tw_init 15 = .ok (.newarray .int, 2) := by decide +kernel
theorem d_Tw_init_17 : decode c_Tw_init 17 = .ok (.putfield 13, 3) := by decide +kernel
theorem d_Tw_init_20 : decode c_Tw_init 20 = .ok (.aload_n 0, 1) := by decide +kernel
theorem d_Tw_init_21 : decode c_Tw_init 21 = .ok (.bipush 10, 2) := by decide +kernel
theorem d_Tw_init_23 : decode c_Tw_init 23 = .ok (.newarray .int, 2) := by decide +kernel
theorem d_Tw_init_25 : decode c_Tw_init 25 = .ok (.putfield 16, 3) := by decide +kernel
theorem d_Tw_init_28 : decode c_Tw_init 28 = .ok (.aload_n 0, 1) := by decide +kernel
theorem d_Tw_init_29 : decode c_Tw_init 29 = .ok (.bipush 10, 2) := by decide +kernel
theorem d_Tw_init_31 : decode c_Tw_init 31 = .ok (.newarray .int, 2) := by decide +kernel
theorem d_Tw_init_33 : decode c_Tw_init 33 = .ok (.putfield 19, 3) := by decide +kernel
theorem d_Tw_init_36 : decode c_Tw_init 36 = .ok (.aload_n 0, 1) := by decide +kernel
theorem d_Tw_init_37 : decode c_Tw_init 37 = .ok (.bipush 100, 2) := by decide +kernel
theorem d_Tw_init_39 : decode c_Tw_init 39 = .ok (.newarray .int, 2) := by decide +kernel
theorem d_Tw_init_41 : decode c_Tw_init 41 = .ok (.putfield 22, 3) := by decide +kernel
theorem d_Tw_init_44 : decode c_Tw_init 44 = .ok (.aload_n 0, 1) := by decide +kernel
theorem d_Tw_init_45 : decode c_Tw_init 45 = .ok (.bipush 100, 2) := by decide +kernel
theorem d_Tw_init_47 : decode c_Tw_init 47 = .ok (.newarray .boolean, 2) := by decide +kernel
theorem d_Tw_init_49 : decode c_Tw_init 49 = .ok (.putfield 25, 3) := by decide +kernel
theorem d_Tw_init_52 : decode c_Tw_init 52 = .ok (.aload_n 0, 1) := by decide +kernel
theorem d_Tw_init_53 : decode c_Tw_init 53 = .ok (.bipush 16, 2) := by decide +kernel
theorem d_Tw_init_55 : decode c_Tw_init 55 = .ok (.newarray .boolean, 2) := by decide +kernel
theorem d_Tw_init_57 : decode c_Tw_init 57 = .ok (.putfield 29, 3) := by decide +kernel
theorem d_Tw_init_60 : decode c_Tw_init 60 = .ok (.aload_n 0, 1) := by decide +kernel
theorem d_Tw_init_61 : decode c_Tw_init 61 = .ok (.sipush 1000, 3) := by decide +kernel
theorem d_Tw_init_64 : decode c_Tw_init 64 = .ok (.putfield 32, 3) := by decide +kernel
theorem d_Tw_init_67 : decode c_Tw_init 67 = .ok (.aload_n 0, 1) := by decide +kernel
theorem d_Tw_init_68 : decode c_Tw_init 68 = .ok (.bipush 100, 2) := by decide +kernel
theorem d_Tw_init_70 : decode c_Tw_init 70 = .ok (.putfield 36, 3) := by decide +kernel
theorem d_Tw_init_73 : decode c_Tw_init 73 = .ok (.aload_n 0, 1) := by decide +kernel
theorem d_Tw_init_74 : decode c_Tw_init 74 = .ok (.bipush 10, 2) := by decide +kernel
theorem d_Tw_init_76 : decode c_Tw_init 76 = .ok (.newarray .int, 2) := by decide +kernel
theorem d_Tw_init_78 : decode c_Tw_init 78 = .ok (.putfield 39, 3) := by decide +kernel
theorem d_Tw_init_81 : decode c_Tw_init 81 = .ok (.aload_n 0, 1) := by decide +kernel
theorem d_Tw_init_82 : decode c_Tw_init 82 = .ok (.bipush 10, 2) := by decide +kernel
theorem d_Tw_init_84 : decode c_Tw_init 84 = .ok (.newarray .int, 2) := by decide +kernel
theorem d_Tw_init_86 : decode c_Tw_init 86 = .ok (.putfield 42, 3) := by decide +kernel
theorem d_Tw_init_89 : decode c_Tw_init 89 = .ok (.aload_n 0, 1) := by decide +kernel
theorem d_Tw_init_90 : decode c_Tw_init 90 = .ok (.bipush 40, 2) := by decide +kernel
theorem d_Tw_init_92 : decode c_Tw_init 92 = .ok (.newarray .int, 2) := by decide +kernel
theorem d_Tw_init_94 : decode c_Tw_init 94 = .ok (.putfield 45, 3) := by decide +kernel
theorem d_Tw_init_97 : decode c_Tw_init 97 = .ok (.aload_n 0, 1) := by decide +kernel
theorem d_Tw_init_98 : decode c_Tw_init 98 = .ok (.bipush 10, 2) := by decide +kernel
theorem d_Tw_init_100 : decode c_Tw_init 100 = .ok (.newarray .int, 2) := by decide +kernel
theorem d_Tw_init_102 : decode c_Tw_init 102 = .ok (.putfield 48, 3) := by decide +kernel
theorem d_Tw_init_105 : decode c_Tw_init 105 = .ok (.aload_n 0, 1) := by decide +kernel
theorem d_Tw_init_106 : decode c_Tw_init 106 = .ok (.sipush 1024, 3) := by decide +kernel
theorem d_Tw_init_109 : decode c_Tw_init 109 = .ok (.newarray .int, 2) := by decide +kernel
theorem d_Tw_init_111 : decode c_Tw_init 111 = .ok (.putfield 51, 3) := by decide +kernel
theorem d_Tw_init_114 : decode c_Tw_init 114 = .ok (.iconst 0, 1) := by decide +kernel
theorem d_Tw_init_115 : decode c_Tw_init 115 = .ok (.istore_n 1, 1) := by decide +kernel
theorem d_Tw_init_116 : decode c_Tw_init 116 = .ok (.iload_n 1, 1) := by decide +kernel
theorem d_Tw_init_117 : decode c_Tw_init 117 = .ok (.bipush 100, 2) := by decide +kernel
theorem d_Tw_init_119 : decode c_Tw_init 119 = .ok (.if_icmp .ge 16, 3) := by decide +kernel
theorem d_Tw_init_122 : decode c_Tw_init 122 = .ok (.aload_n 0, 1) := by decide +kernel
theorem d_Tw_init_123 : decode c_Tw_init 123 = .ok (.getfield 22, 3) := by decide +kernel
theorem d_Tw_init_126 : decode c_Tw_init 126 = .ok (.iload_n 1, 1) := by decide +kernel
theorem d_Tw_init_127 : decode c_Tw_init 127 = .ok (.iconst (-1), 1) := by decide +kernel
theorem d_Tw_init_128 : decode c_Tw_init 128 = .ok (.iastore, 1) := by decide +kernel
theorem d_Tw_init_129 : decode c_Tw_init 129 = .ok (.iinc 1 1, 3) := by decide +kernel
theorem d_Tw_init_132 : decode c_Tw_init 132 = .ok (.goto (-16), 3) := by decide +kernel
theorem d_Tw_init_135 : decode c_Tw_init 135 = .ok (.iconst 0, 1) := by decide +kernel
theorem d_Tw_init_136 : decode c_Tw_init 136 = .ok (.istore_n 1, 1) := by decide +kernel
theorem d_Tw_init_137 : decode c_Tw_init 137 = .ok (.iload_n 1, 1) := by decide +kernel
theorem d_Tw_init_138 : decode c_Tw_init 138 = .ok (.iconst 4, 1) := by decide +kernel
theorem d_Tw_init_139 : decode c_Tw_init 139 = .ok (.if_icmp .ge 20, 3) := by decide +kernel
theorem d_Tw_init_142 : decode c_Tw_init 142 = .ok (.aload_n 0, 1) := by decide +kernel
theorem d_Tw_init_143 : decode c_Tw_init 143 = .ok (.getfield 29, 3) := by decide +kernel
theorem d_Tw_init_146 : decode c_Tw_init 146 = .ok (.iconst 4, 1) := by decide +kernel
theorem d_Tw_init_147 : decode c_Tw_init 147 = .ok (.iload_n 1, 1) := by decide +kernel
theorem d_Tw_init_148 : decode c_Tw_init 148 = .ok (.imul, 1) := by decide +kernel
theorem d_Tw_init_149 : decode c_Tw_init 149 = .ok (.iload_n 1, 1) := by decide +kernel
theorem d_Tw_init_150 : decode c_Tw_init 150 = .ok (.iadd, 1) := by decide +kernel
theorem d_Tw_init_151 : decode c_Tw_init 151 = .ok (.iconst 1, 1) := by decide +kernel
theorem d_Tw_init_152 : decode c_Tw_init 152 = .ok (.bastore, 1) := by decide +kernel
theorem d_Tw_init_153 : decode c_Tw_init 153 = .ok (.iinc 1 1, 3) := by decide +kernel
theorem d_Tw_init_156 : decode c_Tw_init 156 = .ok (.goto (-19), 3) := by decide +kernel
theorem d_Tw_init_159 : decode c_Tw_init 159 = .ok (.iconst 0, 1) := by decide +kernel
theorem d_Tw_init_160 : decode c_Tw_init 160 = .ok (.istore_n 1, 1) := by decide +kernel
theorem d_Tw_init_161 : decode c_Tw_init 161 = .ok (.iload_n 1, 1) := by decide +kernel
theorem d_Tw_init_162 : decode c_Tw_init 162 = .ok (.bipush 10, 2) := by decide +kernel
theorem d_Tw_init_164 : decode c_Tw_init 164 = .ok (.if_icmp .ge 23, 3) := by decide +kernel
theorem d_Tw_init_167 : decode c_Tw_init 167 = .ok (.aload_n 0, 1) := by decide +kernel
theorem d_Tw_init_168 : decode c_Tw_init 168 = .ok (.getfield 39, 3) := by decide +kernel
theorem d_Tw_init_171 : decode c_Tw_init 171 = .ok (.iload_n 1, 1) := by decide +kernel
theorem d_Tw_init_172 : decode c_Tw_init 172 = .ok (.iconst (-1), 1) := by decide +kernel
theorem d_Tw_init_173 : decode c_Tw_init 173 = .ok (.iastore, 1) := by decide +kernel
theorem d_Tw_init_174 : decode c_Tw_init 174 = .ok (.aload_n 0, 1) := by decide +kernel
theorem d_Tw_init_175 : decode c_Tw_init 175 = .ok (.getfield 48, 3) := by decide +kernel
theorem d_Tw_init_178 : decode c_Tw_init 178 = .ok (.iload_n 1, 1) := by decide +kernel
theorem d_Tw_init_179 : decode c_Tw_init 179 = .ok (.iconst (-1), 1) := by decide +kernel
theorem d_Tw_init_180 : decode c_Tw_init 180 = .ok (.iastore, 1) := by decide +kernel
theorem d_Tw_init_181 : decode c_Tw_init 181 = .ok (.iinc 1 1, 3) := by decide +kernel
theorem d_Tw_init_184 : decode c_Tw_init 184 = .ok (.goto (-23), 3) := by decide +kernel
theorem d_Tw_init_187 : decode c_Tw_init 187 = .ok (.return_, 1) := by decide +kernel
theorem d_Tw_allSeconds_0 : decode c_Tw_allSeconds 0 = .ok (.iconst 0, 1) := by decide +kernel
theorem d_Tw_allSeconds_1 : decode c_Tw_allSeconds 1 = .ok (.istore_n 2, 1) := by decide +kernel
theorem d_Tw_allSeconds_2 : decode c_Tw_allSeconds 2 = .ok (.iconst 0, 1) := by decide +kernel
theorem d_Tw_allSeconds_3 : decode c_Tw_allSeconds 3 = .ok (.istore_n 3, 1) := by decide +kernel
theorem d_Tw_allSeconds_4 : decode c_Tw_allSeconds 4 = .ok (.iload_n 3, 1) := by decide +kernel
theorem d_Tw_allSeconds_5 : decode c_Tw_allSeconds 5 = .ok (.aload_n 0, 1) := by decide +kernel
theorem d_Tw_allSeconds_6 : decode c_Tw_allSeconds 6 = .ok (.getfield 42, 3) := by decide +kernel
theorem d_Tw_allSeconds_9 : decode c_Tw_allSeconds 9 = .ok (.iload_n 1, 1) := by decide +kernel
theorem d_Tw_allSeconds_10 : decode c_Tw_allSeconds 10 = .ok (.iaload, 1) := by decide +kernel
theorem d_Tw_allSeconds_11 : decode c_Tw_allSeconds 11 = .ok (.if_icmp .ge 27, 3) := by decide +kernel
theorem d_Tw_allSeconds_14 : decode c_Tw_allSeconds 14 = .ok (.iload_n 2, 1) := by decide +kernel
theorem d_Tw_allSeconds_15 : decode c_Tw_allSeconds 15 = .ok (.aload_n 0, 1) := by decide +kernel
theorem d_Tw_allSeconds_16 : decode c_Tw_allSeconds 16 = .ok (.getfield 7, 3) := by decide +kernel
theorem d_Tw_allSeconds_19 : decode c_Tw_allSeconds 19 = .ok (.aload_n 0, 1) := by decide +kernel
theorem d_Tw_allSeconds_20 : decode c_Tw_allSeconds 20 = .ok (.getfield 45, 3) := by decide +kernel
theorem d_Tw_allSeconds_23 : decode c_Tw_allSeconds 23 = .ok (.iconst 4, 1) := by decide +kernel
theorem d_Tw_allSeconds_24 : decode c_Tw_allSeconds 24 = .ok (.iload_n 1, 1) := by decide +kernel
theorem d_Tw_allSeconds_25 : decode c_Tw_allSeconds 25 = .ok (.imul, 1) := by decide +kernel
theorem d_Tw_allSeconds_26 : decode c_Tw_allSeconds 26 = .ok (.iload_n 3, 1) := by decide +kernel
theorem d_Tw_allSeconds_27 : decode c_Tw_allSeconds 27 = .ok (.iadd, 1) := by decide +kernel
theorem d_Tw_allSeconds_28 : decode c_Tw_allSeconds 28 = .ok (.iaload, 1) := by decide +kernel
theorem d_Tw_allSeconds_29 : decode c_Tw_allSeconds 29 = .ok (.iaload, 1) := by decide +kernel
theorem d_Tw_allSeconds_30 : decode c_Tw_allSeconds 30 = .ok (.iadd, 1) := by decide +kernel
theorem d_Tw_allSeconds_31 : decode c_Tw_allSeconds 31 = .ok (.istore_n 2, 1) := by decide +kernel
theorem d_Tw_allSeconds_32 : decode c_Tw_allSeconds 32 = .ok (.iinc 3 1, 3) := by decide +kernel
theorem d_Tw_allSeconds_35 : decode c_Tw_allSeconds 35 = .ok (.goto (-31), 3) := by decide +kernel
theorem d_Tw_allSeconds_38 : decode c_Tw_allSeconds 38 = .ok (.iload_n 2, 1) := by decide +kernel
theorem d_Tw_allSeconds_39 : decode c_Tw_allSeconds 39 = .ok (.ireturn, 1) := by decide +kernel
theorem d_Tw_batch_0 : decode c_Tw_batch 0 = .ok (.aload_n 0, 1) := by decide +kernel
theorem d_Tw_batch_1 : decode c_Tw_batch 1 = .ok (.aload_n 0, 1) := by decide +kernel
theorem d_Tw_batch_2 : decode c_Tw_batch 2 = .ok (.iload_n 1, 1) := by decide +kernel
theorem d_Tw_batch_3 : decode c_Tw_batch 3 = .ok (.invokevirtual 67, 3) := by decide +kernel
theorem d_Tw_batch_6 : decode c_Tw_batch 6 = .ok (.ifCond .eq 7, 3) := by decide +kernel
theorem d_Tw_batch_9 : decode c_Tw_batch 9 = .ok (.iconst 0, 1) := by decide +kernel
theorem d_Tw_batch_10 : decode c_Tw_batch 10 = .ok (.goto 4, 3) := by decide +kernel
theorem d_Tw_batch_13 : decode c_Tw_batch 13 = .ok (.iconst 1, 1) := by decide +kernel
theorem d_Tw_batch_14 : decode c_Tw_batch 14 = .ok (.putfield 54, 3) := by decide +kernel
theorem d_Tw_batch_17 : decode c_Tw_batch 17 = .ok (.aload_n 0, 1) := by decide +kernel
theorem d_Tw_batch_18 : decode c_Tw_batch 18 = .ok (.getfield 54, 3) := by decide +kernel
theorem d_Tw_batch_21 : decode c_Tw_batch 21 = .ok (.ifCond .le 7, 3) := by decide +kernel
theorem d_Tw_batch_24 : decode c_Tw_batch 24 = .ok (.iconst 0, 1) := by decide +kernel
theorem d_Tw_batch_25 : decode c_Tw_batch 25 = .ok (.goto 9, 3) := by decide +kernel
theorem d_Tw_batch_28 : decode c_Tw_batch 28 = .ok (.aload_n 0, 1) := by decide +kernel
theorem d_Tw_batch_29 : decode c_Tw_batch 29 = .ok (.getfield 48, 3) := by decide +kernel
theorem d_Tw_batch_32 : decode c_Tw_batch 32 = .ok (.iload_n 1, 1) := by decide +kernel
theorem d_Tw_batch_33 : decode c_Tw_batch 33 = .ok (.iaload, 1) := by decide +kernel
theorem d_Tw_batch_34 : decode c_Tw_batch 34 = .ok (.ireturn, 1) := by decide +kernel
theorem d_Tw_best_0 : decode c_Tw_best 0 = .ok (.aload_n 0, 1) := by decide +kernel
theorem d_Tw_best_1 : decode c_Tw_best 1 = .ok (.aload_n 0, 1) := by decide +kernel
theorem d_Tw_best_2 : decode c_Tw_best 2 = .ok (.iload_n 1, 1) := by decide +kernel
theorem d_Tw_best_3 : decode c_Tw_best 3 = .ok (.invokevirtual 67, 3) := by decide +kernel
theorem d_Tw_best_6 : decode c_Tw_best 6 = .ok (.ifCond .ne 7, 3) := by decide +kernel
theorem d_Tw_best_9 : decode c_Tw_best 9 = .ok (.iconst 1, 1) := by decide +kernel
theorem d_Tw_best_10 : decode c_Tw_best 10 = .ok (.goto 4, 3) := by decide +kernel
theorem d_Tw_best_13 : decode c_Tw_best 13 = .ok (.iconst 0, 1) := by decide +kernel
theorem d_Tw_best_14 : decode c_Tw_best 14 = .ok (.putfield 54, 3) := by decide +kernel
theorem d_Tw_best_17 : decode c_Tw_best 17 = .ok (.aload_n 0, 1) := by decide +kernel
theorem d_Tw_best_18 : decode c_Tw_best 18 = .ok (.getfield 54, 3) := by decide +kernel
theorem d_Tw_best_21 : decode c_Tw_best 21 = .ok (.ifCond .ne 20, 3) := by decide +kernel
theorem d_Tw_best_24 : decode c_Tw_best 24 = .ok (.aload_n 0, 1) := by decide +kernel
theorem d_Tw_best_25 : decode c_Tw_best 25 = .ok (.aload_n 0, 1) := by decide +kernel
theorem d_Tw_best_26 : decode c_Tw_best 26 = .ok (.iload_n 1, 1) := by decide +kernel
theorem d_Tw_best_27 : decode c_Tw_best 27 = .ok (.invokevirtual 82, 3) := by decide +kernel
theorem d_Tw_best_30 : decode c_Tw_best 30 = .ok (.ifCond .ne 7, 3) := by decide +kernel
theorem d_Tw_best_33 : decode c_Tw_best 33 = .ok (.iconst 2, 1) := by decide +kernel
theorem d_Tw_best_34 : decode c_Tw_best 34 = .ok (.goto 4, 3) := by decide +kernel
theorem d_Tw_best_37 : decode c_Tw_best 37 = .ok (.iconst 0, 1) := by decide +kernel
theorem d_Tw_best_38 : decode c_Tw_best 38 = .ok (.putfield 54, 3) := by decide +kernel
theorem d_Tw_best_41 : decode c_Tw_best 41 = .ok (.aload_n 0, 1) := by decide +kernel
theorem d_Tw_best_42 : decode c_Tw_best 42 = .ok (.getfield 54, 3) := by decide +kernel
theorem d_Tw_best_45 : decode c_Tw_best 45 = .ok (.ifCond .le 5, 3) := by decide +kernel
theorem d_Tw_best_48 : decode c_Tw_best 48 = .ok (.iconst 0, 1) := by decide +kernel
theorem d_Tw_best_49 : decode c_Tw_best 49 = .ok (.ireturn, 1) := by decide +kernel
theorem d_Tw_best_50 : decode c_Tw_best 50 = .ok (.iconst (-1), 1) := by decide +kernel
theorem d_Tw_best_51 : decode c_Tw_best 51 = .ok (.istore_n 2, 1) := by decide +kernel
theorem d_Tw_best_52 : decode c_Tw_best 52 = .ok (.iconst 0, 1) := by decide +kernel
theorem d_Tw_best_53 : decode c_Tw_best 53 = .ok (.istore_n 3, 1) := by decide +kernel
theorem d_Tw_best_54 : decode c_Tw_best 54 = .ok (.iload_n 3, 1) := by decide +kernel
theorem d_Tw_best_55 : decode c_Tw_best 55 = .ok (.aload_n 0, 1) := by decide +kernel
theorem d_Tw_best_56 : decode c_Tw_best 56 = .ok (.getfield 64, 3) := by decide +kernel
theorem d_Tw_best_59 : decode c_Tw_best 59 = .ok (.if_icmp .ge 53, 3) := by decide +kernel
theorem d_Tw_best_62 : decode c_Tw_best 62 = .ok (.aload_n 0, 1) := by decide +kernel
theorem d_Tw_best_63 : decode c_Tw_best 63 = .ok (.getfield 42, 3) := by decide +kernel
theorem d_Tw_best_66 : decode c_Tw_best 66 = .ok (.iload_n 3, 1) := by decide +kernel
theorem d_Tw_best_67 : decode c_Tw_best 67 = .ok (.iaload, 1) := by decide +kernel
theorem d_Tw_best_68 : decode c_Tw_best 68 = .ok (.iconst 4, 1) := by decide +kernel
theorem d_Tw_best_69 : decode c_Tw_best 69 = .ok (.if_icmp .eq 37, 3) := by decide +kernel
theorem d_Tw_best_72 : decode c_Tw_best 72 = .ok (.aload_n 0, 1) := by decide +kernel
theorem d_Tw_best_73 : decode c_Tw_best 73 = .ok (.iload_n 1, 1) := by decide +kernel
theorem d_Tw_best_74 : decode c_Tw_best 74 = .ok (.iload_n 3, 1) := by decide +kernel
theorem d_Tw_best_75 : decode c_Tw_best 75 = .ok (.invokevirtual 129, 3) := by decide +kernel
theorem d_Tw_best_78 : decode c_Tw_best 78 = .ok (.ifCond .ne 6, 3) := by decide +kernel
theorem d_Tw_best_81 : decode c_Tw_best 81 = .ok (.goto 25, 3) := by decide +kernel
theorem d_Tw_best_84 : decode c_Tw_best 84 = .ok (.iload_n 2, 1) := by decide +kernel
theorem d_Tw_best_85 : decode c_Tw_best 85 = .ok (.iconst (-1), 1) := by decide +kernel
theorem d_Tw_best_86 : decode c_Tw_best 86 = .ok (.if_icmp .eq 18, 3) := by decide +kernel
theorem d_Tw_best_89 : decode c_Tw_best 89 = .ok (.aload_n 0, 1) := by decide +kernel
theorem d_Tw_best_90 : decode c_Tw_best 90 = .ok (.iload_n 1, 1) := by decide +kernel
theorem d_Tw_best_91 : decode c_Tw_best 91 = .ok (.iload_n 3, 1) := by decide +kernel
theorem d_Tw_best_92 : decode c_Tw_best 92 = .ok (.invokevirtual 123, 3) := by decide +kernel
theorem d_Tw_best_95 : decode c_Tw_best 95 = .ok (.aload_n 0, 1) := by decide +kernel
theorem d_Tw_best_96 : decode c_Tw_best 96 = .ok (.iload_n 1, 1) := by decide +kernel
theorem d_Tw_best_97 : decode c_Tw_best 97 = .ok (.iload_n 2, 1) := by decide +kernel
theorem d_Tw_best_98 : decode c_Tw_best 98 = .ok (.invokevirtual 123, 3) := by decide +kernel
theorem d_Tw_best_101 : decode c_Tw_best 101 = .ok (.if_icmp .le 5, 3) := by decide +kernel
theorem d_Tw_best_104 : decode c_Tw_best 104 = .ok (.iload_n 3, 1) := by decide +kernel
theorem d_Tw_best_105 : decode c_Tw_best 105 = .ok (.istore_n 2, 1) := by decide +kernel
theorem d_Tw_best_106 : decode c_Tw_best 106 = .ok (.iinc 3 1, 3) := by decide +kernel
theorem d_Tw_best_109 : decode c_Tw_best 109 = .ok (.goto (-55), 3) := by decide +kernel
theorem d_Tw_best_112 : decode c_Tw_best 112 = .ok (.iload_n 2, 1) := by decide +kernel
theorem d_Tw_best_113 : decode c_Tw_best 113 = .ok (.ireturn, 1) := by decide +kernel
theorem d_Tw_byRule_0 : decode c_Tw_byRule 0 = .ok (.iload_n 1, 1) := by decide +kernel
theorem d_Tw_byRule_1 : decode c_Tw_byRule 1 = .ok (.istore_n 2, 1) := by decide +kernel
theorem d_Tw_byRule_2 : decode c_Tw_byRule 2 = .ok (.iconst 1, 1) := by decide +kernel
theorem d_Tw_byRule_3 : decode c_Tw_byRule 3 = .ok (.istore_n 3, 1) := by decide +kernel
theorem d_Tw_byRule_4 : decode c_Tw_byRule 4 = .ok (.iload_n 3, 1) := by decide +kernel
theorem d_Tw_byRule_5 : decode c_Tw_byRule 5 = .ok (.ifCond .eq 162, 3) := by decide +kernel
theorem d_Tw_byRule_8 : decode c_Tw_byRule 8 = .ok (.iconst (-1), 1) := by decide +kernel
theorem d_Tw_byRule_9 : decode c_Tw_byRule 9 = .ok (.istore 4, 2) := by decide +kernel
theorem d_Tw_byRule_11 : decode c_Tw_byRule 11 = .ok (.iconst (-1), 1) := by decide +kernel
theorem d_Tw_byRule_12 : decode c_Tw_byRule 12 = .ok (.istore 5, 2) := by decide +kernel
theorem d_Tw_byRule_14 : decode c_Tw_byRule 14 = .ok (.iconst 0, 1) := by decide +kernel
theorem d_Tw_byRule_15 : decode c_Tw_byRule 15 = .ok (.istore 6, 2) := by decide +kernel
theorem d_Tw_byRule_17 : decode c_Tw_byRule 17 = .ok (.iload 6, 2) := by decide +kernel
theorem d_Tw_byRule_19 : decode c_Tw_byRule 19 = .ok (.aload_n 0, 1) := by decide +kernel
theorem d_Tw_byRule_20 : decode c_Tw_byRule 20 = .ok (.getfield 57, 3) := by decide +kernel
theorem d_Tw_byRule_23 : decode c_Tw_byRule 23 = .ok (.if_icmp .ge 98, 3) := by decide +kernel
theorem d_Tw_byRule_26 : decode c_Tw_byRule 26 = .ok (.iload 6, 2) := by decide +kernel
theorem d_Tw_byRule_28 : decode c_Tw_byRule 28 = .ok (.iconst 1, 1) := by decide +kernel
theorem d_Tw_byRule_29 : decode c_Tw_byRule 29 = .ok (.iadd, 1) := by decide +kernel
theorem d_Tw_byRule_30 : decode c_Tw_byRule 30 = .ok (.istore 7, 2) := by decide +kernel
theorem d_Tw_byRule_32 : decode c_Tw_byRule 32 = .ok (.iload 7, 2) := by decide +kernel
theorem d_Tw_byRule_34 : decode c_Tw_byRule 34 = .ok (.aload_n 0, 1) := by decide +kernel
theorem d_Tw_byRule_35 : decode c_Tw_byRule 35 = .ok (.getfield 57, 3) := by decide +kernel
theorem d_Tw_byRule_38 : decode c_Tw_byRule 38 = .ok (.if_icmp .ge 77, 3) := by decide +kernel
theorem d_Tw_byRule_41 : decode c_Tw_byRule 41 = .ok (.iload_n 2, 1) := by decide +kernel
theorem d_Tw_byRule_42 : decode c_Tw_byRule 42 = .ok (.iload 6, 2) := by decide +kernel
theorem d_Tw_byRule_44 : decode c_Tw_byRule 44 = .ok (.ishr, 1) := by decide +kernel
theorem d_Tw_byRule_45 : decode c_Tw_byRule 45 = .ok (.iconst 1, 1) := by decide +kernel
theorem d_Tw_byRule_46 : decode c_Tw_byRule 46 = .ok (.iand, 1) := by decide +kernel
theorem d_Tw_byRule_47 : decode c_Tw_byRule 47 = .ok (.ifCond .eq 62, 3) := by decide +kernel
theorem d_Tw_byRule_50 : decode c_Tw_byRule 50 = .ok (.iload_n 2, 1) := by decide +kernel
theorem d_Tw_byRule_51 : decode c_Tw_byRule 51 = .ok (.iload 7, 2) := by decide +kernel
theorem d_Tw_byRule_53 : decode c_Tw_byRule 53 = .ok (.ishr, 1) := by decide +kernel
theorem d_Tw_byRule_54 : decode c_Tw_byRule 54 = .ok (.iconst 1, 1) := by decide +kernel
theorem d_Tw_byRule_55 : decode c_Tw_byRule 55 = .ok (.iand, 1) := by decide +kernel
theorem d_Tw_byRule_56 : decode c_Tw_byRule 56 = .ok (.ifCond .eq 53, 3) := by decide +kernel
theorem d_Tw_byRule_59 : decode c_Tw_byRule 59 = .ok (.aload_n 0, 1) := by decide +kernel
theorem d_Tw_byRule_60 : decode c_Tw_byRule 60 = .ok (.iload 6, 2) := by decide +kernel
theorem d_Tw_byRule_62 : decode c_Tw_byRule 62 = .ok (.iload 7, 2) := by decide +kernel
theorem d_Tw_byRule_64 : decode c_Tw_byRule 64 = .ok (.invokevirtual 89, 3) := by decide +kernel
theorem d_Tw_byRule_67 : decode c_Tw_byRule 67 = .ok (.ifCond .ne 6, 3) := by decide +kernel
theorem d_Tw_byRule_70 : decode c_Tw_byRule 70 = .ok (.goto 39, 3) := by decide +kernel
theorem d_Tw_byRule_73 : decode c_Tw_byRule 73 = .ok (.iload 4, 2) := by decide +kernel
theorem d_Tw_byRule_75 : decode c_Tw_byRule 75 = .ok (.iconst (-1), 1) := by decide +kernel
theorem d_Tw_byRule_76 : decode c_Tw_byRule 76 = .ok (.if_icmp .eq 25, 3) := by decide +kernel
theorem d_Tw_byRule_79 : decode c_Tw_byRule 79 = .ok (.aload_n 0, 1) := by decide +kernel
theorem d_Tw_byRule_80 : decode c_Tw_byRule 80 = .ok (.iload 6, 2) := by decide +kernel
theorem d_Tw_byRule_82 : decode c_Tw_byRule 82 = .ok (.iload 7, 2) := by decide +kernel
theorem d_Tw_byRule_84 : decode c_Tw_byRule 84 = .ok (.invokevirtual 71, 3) := by decide +kernel
theorem d_Tw_byRule_87 : decode c_Tw_byRule 87 = .ok (.aload_n 0, 1) := by decide +kernel
theorem d_Tw_byRule_88 : decode c_Tw_byRule 88 = .ok (.iload 4, 2) := by decide +kernel
theorem d_Tw_byRule_90 : decode c_Tw_byRule 90 = .ok (.iload 5, 2) := by decide +kernel
theorem d_Tw_byRule_92 : decode c_Tw_byRule 92 = .ok (.invokevirtual 71, 3) := by decide +kernel
theorem d_Tw_byRule_95 : decode c_Tw_byRule 95 = .ok (.if_icmp .gt 6, 3) := by decide +kernel
theorem d_Tw_byRule_98 : decode c_Tw_byRule 98 = .ok (.goto 11, 3) := by decide +kernel
theorem d_Tw_byRule_101 : decode c_Tw_byRule 101 = .ok (.iload 6, 2) := by decide +kernel
theorem d_Tw_byRule_103 : decode c_Tw_byRule 103 = .ok (.istore 4, 2) := by decide +kernel
theorem d_Tw_byRule_105 : decode c_Tw_byRule 105 = .ok (.iload 7, 2) := by decide +kernel
theorem d_Tw_byRule_107 : decode c_Tw_byRule 107 = .ok (.istore 5, 2) := by decide +kernel
theorem d_Tw_byRule_109 : decode c_Tw_byRule 109 = .ok (.iinc 7 1, 3) := by decide +kernel
theorem d_Tw_byRule_112 : decode c_Tw_byRule 112 = .ok (.goto (-80), 3) := by decide +kernel
theorem d_Tw_byRule_115 : decode c_Tw_byRule 115 = .ok (.iinc 6 1, 3) := by decide +kernel
theorem d_Tw_byRule_118 : decode c_Tw_byRule 118 = .ok (.goto (-101), 3) := by decide +kernel
theorem d_Tw_byRule_121 : decode c_Tw_byRule 121 = .ok (.iload 4, 2) := by decide +kernel
theorem d_Tw_byRule_123 : decode c_Tw_byRule 123 = .ok (.iconst (-1), 1) := by decide +kernel
theorem d_Tw_byRule_124 : decode c_Tw_byRule 124 = .ok (.if_icmp .eq 7, 3) := by decide +kernel
theorem d_Tw_byRule_127 : decode c_Tw_byRule 127 = .ok (.iconst 1, 1) := by decide +kernel
theorem d_Tw_byRule_128 : decode c_Tw_byRule 128 = .ok (.goto 4, 3) := by decide +kernel
theorem d_Tw_byRule_131 : decode c_Tw_byRule 131 = .ok (.iconst 0, 1) := by decide +kernel
theorem d_Tw_byRule_132 : decode c_Tw_byRule 132 = .ok (.istore_n 3, 1) := by decide +kernel
theorem d_Tw_byRule_133 : decode c_Tw_byRule 133 = .ok (.iload_n 3, 1) := by decide +kernel
theorem d_Tw_byRule_134 : decode c_Tw_byRule 134 = .ok (.ifCond .ne 6, 3) := by decide +kernel
theorem d_Tw_byRule_137 : decode c_Tw_byRule 137 = .ok (.goto (-133), 3) := by decide +kernel
theorem d_Tw_byRule_140 : decode c_Tw_byRule 140 = .ok (.aload_n 0, 1) := by decide +kernel
theorem d_Tw_byRule_141 : decode c_Tw_byRule 141 = .ok (.iload 4, 2) := by decide +kernel
theorem d_Tw_byRule_143 : decode c_Tw_byRule 143 = .ok (.iload 5, 2) := by decide +kernel
theorem d_Tw_byRule_145 : decode c_Tw_byRule 145 = .ok (.invokevirtual 92, 3) := by decide +kernel
theorem d_Tw_byRule_148 : decode c_Tw_byRule 148 = .ok (.iload_n 2, 1) := by decide +kernel
theorem d_Tw_byRule_149 : decode c_Tw_byRule 149 = .ok (.iconst 1, 1) := by decide +kernel
theorem d_Tw_byRule_150 : decode c_Tw_byRule 150 = .ok (.iload 4, 2) := by decide +kernel
theorem d_Tw_byRule_152 : decode c_Tw_byRule 152 = .ok (.ishl, 1) := by decide +kernel
theorem d_Tw_byRule_153 : decode c_Tw_byRule 153 = .ok (.iconst (-1), 1) := by decide +kernel
theorem d_Tw_byRule_154 : decode c_Tw_byRule 154 = .ok (.ixor, 1) := by decide +kernel
theorem d_Tw_byRule_155 : decode c_Tw_byRule 155 = .ok (.iconst 1, 1) := by decide +kernel
theorem d_Tw_byRule_156 : decode c_Tw_byRule 156 = .ok (.iload 5, 2) := by decide +kernel
theorem d_Tw_byRule_158 : decode c_Tw_byRule 158 = .ok (.ishl, 1) := by decide +kernel
theorem d_Tw_byRule_159 : decode c_Tw_byRule 159 = .ok (.iconst (-1), 1) := by decide +kernel
theorem d_Tw_byRule_160 : decode c_Tw_byRule 160 = .ok (.ixor, 1) := by decide +kernel
theorem d_Tw_byRule_161 : decode c_Tw_byRule 161 = .ok (.iand, 1) := by decide +kernel
theorem d_Tw_byRule_162 : decode c_Tw_byRule 162 = .ok (.iand, 1) := by decide +kernel
theorem d_Tw_byRule_163 : decode c_Tw_byRule 163 = .ok (.istore_n 2, 1) := by decide +kernel
theorem d_Tw_byRule_164 : decode c_Tw_byRule 164 = .ok (.goto (-160), 3) := by decide +kernel
theorem d_Tw_byRule_167 : decode c_Tw_byRule 167 = .ok (.return_, 1) := by decide +kernel
theorem d_Tw_count_0 : decode c_Tw_count 0 = .ok (.aload_n 0, 1) := by decide +kernel
theorem d_Tw_count_1 : decode c_Tw_count 1 = .ok (.iconst 0, 1) := by decide +kernel
theorem d_Tw_count_2 : decode c_Tw_count 2 = .ok (.putfield 54, 3) := by decide +kernel
theorem d_Tw_count_5 : decode c_Tw_count 5 = .ok (.iload_n 1, 1) := by decide +kernel
theorem d_Tw_count_6 : decode c_Tw_count 6 = .ok (.ifCond .ne 8, 3) := by decide +kernel
theorem d_Tw_count_9 : decode c_Tw_count 9 = .ok (.aload_n 0, 1) := by decide +kernel
theorem d_Tw_count_10 : decode c_Tw_count 10 = .ok (.getfield 57, 3) := by decide +kernel
theorem d_Tw_count_13 : decode c_Tw_count 13 = .ok (.ireturn, 1) := by decide +kernel
theorem d_Tw_count_14 : decode c_Tw_count 14 = .ok (.iload_n 1, 1) := by decide +kernel
theorem d_Tw_count_15 : decode c_Tw_count 15 = .ok (.iconst 1, 1) := by decide +kernel
theorem d_Tw_count_16 : decode c_Tw_count 16 = .ok (.if_icmp .ne 8, 3) := by decide +kernel
theorem d_Tw_count_19 : decode c_Tw_count 19 = .ok (.aload_n 0, 1) := by decide +kernel
theorem d_Tw_count_20 : decode c_Tw_count 20 = .ok (.getfield 64, 3) := by decide +kernel
theorem d_Tw_count_23 : decode c_Tw_count 23 = .ok (.ireturn, 1) := by decide +kernel
theorem d_Tw_count_24 : decode c_Tw_count 24 = .ok (.iload_n 1, 1) := by decide +kernel
theorem d_Tw_count_25 : decode c_Tw_count 25 = .ok (.iconst 2, 1) := by decide +kernel
theorem d_Tw_count_26 : decode c_Tw_count 26 = .ok (.if_icmp .ne 8, 3) := by decide +kernel
theorem d_Tw_count_29 : decode c_Tw_count 29 = .ok (.aload_n 0, 1) := by decide +kernel
theorem d_Tw_count_30 : decode c_Tw_count 30 = .ok (.invokevirtual 96, 3) := by decide +kernel
theorem d_Tw_count_33 : decode c_Tw_count 33 = .ok (.ireturn, 1) := by decide +kernel
theorem d_Tw_count_34 : decode c_Tw_count 34 = .ok (.iload_n 1, 1) := by decide +kernel
theorem d_Tw_count_35 : decode c_Tw_count 35 = .ok (.iconst 3, 1) := by decide +kernel
theorem d_Tw_count_36 : decode c_Tw_count 36 = .ok (.if_icmp .ne 10, 3) := by decide +kernel
theorem d_Tw_count_39 : decode c_Tw_count 39 = .ok (.aload_n 0, 1) := by decide +kernel
theorem d_Tw_count_40 : decode c_Tw_count 40 = .ok (.invokevirtual 139, 3) := by decide +kernel
theorem d_Tw_count_43 : decode c_Tw_count 43 = .ok (.goto 16, 3) := by decide +kernel
theorem d_Tw_count_46 : decode c_Tw_count 46 = .ok (.iload_n 1, 1) := by decide +kernel
theorem d_Tw_count_47 : decode c_Tw_count 47 = .ok (.iconst 4, 1) := by decide +kernel
theorem d_Tw_count_48 : decode c_Tw_count 48 = .ok (.if_icmp .ne 10, 3) := by decide +kernel
theorem d_Tw_count_51 : decode c_Tw_count 51 = .ok (.aload_n 0, 1) := by decide +kernel
theorem d_Tw_count_52 : decode c_Tw_count 52 = .ok (.invokevirtual 111, 3) := by decide +kernel
theorem d_Tw_count_55 : decode c_Tw_count 55 = .ok (.goto 4, 3) := by decide +kernel
theorem d_Tw_count_58 : decode c_Tw_count 58 = .ok (.iconst (-1), 1) := by decide +kernel
theorem d_Tw_count_59 : decode c_Tw_count 59 = .ok (.ireturn, 1) := by decide +kernel
theorem d_Tw_exact_0 : decode c_Tw_exact 0 = .ok (.aload_n 0, 1) := by decide +kernel
theorem d_Tw_exact_1 : decode c_Tw_exact 1 = .ok (.iconst 0, 1) := by decide +kernel
theorem d_Tw_exact_2 : decode c_Tw_exact 2 = .ok (.putfield 54, 3) := by decide +kernel
theorem d_Tw_exact_5 : decode c_Tw_exact 5 = .ok (.aload_n 0, 1) := by decide +kernel
theorem d_Tw_exact_6 : decode c_Tw_exact 6 = .ok (.getfield 100, 3) := by decide +kernel
theorem d_Tw_exact_9 : decode c_Tw_exact 9 = .ok (.ireturn, 1) := by decide +kernel
theorem d_Tw_exactly_0 : decode c_Tw_exactly 0 = .ok (.aload_n 0, 1) := by decide +kernel
theorem d_Tw_exactly_1 : decode c_Tw_exactly 1 = .ok (.getfield 51, 3) := by decide +kernel
theorem d_Tw_exactly_4 : decode c_Tw_exactly 4 = .ok (.iconst 0, 1) := by decide +kernel
theorem d_Tw_exactly_5 : decode c_Tw_exactly 5 = .ok (.iconst 0, 1) := by decide +kernel
theorem d_Tw_exactly_6 : decode c_Tw_exactly 6 = .ok (.iastore, 1) := by decide +kernel
theorem d_Tw_exactly_7 : decode c_Tw_exactly 7 = .ok (.iconst 1, 1) := by decide +kernel
theorem d_Tw_exactly_8 : decode c_Tw_exactly 8 = .ok (.istore_n 2, 1) := by decide +kernel
theorem d_Tw_exactly_9 : decode c_Tw_exactly 9 = .ok (.iload_n 2, 1) := by decide +kernel
theorem d_Tw_exactly_10 : decode c_Tw_exactly 10 = .ok (.iconst 1, 1) := by decide +kernel
theorem d_Tw_exactly_11 : decode c_Tw_exactly 11 = .ok (.aload_n 0, 1) := by decide +kernel
theorem d_Tw_exactly_12 : decode c_Tw_exactly 12 = .ok (.getfield 57, 3) := by decide +kernel
theorem d_Tw_exactly_15 : decode c_Tw_exactly 15 = .ok (.ishl, 1) := by decide +kernel
theorem d_Tw_exactly_16 : decode c_Tw_exactly 16 = .ok (.if_icmp .ge 123, 3) := by decide +kernel
theorem d_Tw_exactly_19 : decode c_Tw_exactly 19 = .ok (.iload_n 2, 1) := by decide +kernel
theorem d_Tw_exactly_20 : decode c_Tw_exactly 20 = .ok (.invokestatic 85, 3) := by decide +kernel
theorem d_Tw_exactly_23 : decode c_Tw_exactly 23 = .ok (.istore_n 3, 1) := by decide +kernel
theorem d_Tw_exactly_24 : decode c_Tw_exactly 24 = .ok (.aload_n 0, 1) := by decide +kernel
theorem d_Tw_exactly_25 : decode c_Tw_exactly 25 = .ok (.getfield 51, 3) := by decide +kernel
theorem d_Tw_exactly_28 : decode c_Tw_exactly 28 = .ok (.iload_n 2, 1) := by decide +kernel
theorem d_Tw_exactly_29 : decode c_Tw_exactly 29 = .ok (.iconst 1, 1) := by decide +kernel
theorem d_Tw_exactly_30 : decode c_Tw_exactly 30 = .ok (.iload_n 3, 1) := by decide +kernel
theorem d_Tw_exactly_31 : decode c_Tw_exactly 31 = .ok (.ishl, 1) := by decide +kernel
theorem d_Tw_exactly_32 : decode c_Tw_exactly 32 = .ok (.iconst (-1), 1) := by decide +kernel
theorem d_Tw_exactly_33 : decode c_Tw_exactly 33 = .ok (.ixor, 1) := by decide +kernel
theorem d_Tw_exactly_34 : decode c_Tw_exactly 34 = .ok (.iand, 1) := by decide +kernel
theorem d_Tw_exactly_35 : decode c_Tw_exactly 35 = .ok (.iaload, 1) := by decide +kernel
theorem d_Tw_exactly_36 : decode c_Tw_exactly 36 = .ok (.istore 4, 2) := by decide +kernel
theorem d_Tw_exactly_38 : decode c_Tw_exactly 38 = .ok (.iload_n 3, 1) := by decide +kernel
theorem d_Tw_exactly_39 : decode c_Tw_exactly 39 = .ok (.iconst 1, 1) := by decide +kernel
theorem d_Tw_exactly_40 : decode c_Tw_exactly 40 = .ok (.iadd, 1) := by decide +kernel
theorem d_Tw_exactly_41 : decode c_Tw_exactly 41 = .ok (.istore 5, 2) := by decide +kernel
theorem d_Tw_exactly_43 : decode c_Tw_exactly 43 = .ok (.iload 5, 2) := by decide +kernel
theorem d_Tw_exactly_45 : decode c_Tw_exactly 45 = .ok (.aload_n 0, 1) := by decide +kernel
theorem d_Tw_exactly_46 : decode c_Tw_exactly 46 = .ok (.getfield 57, 3) := by decide +kernel
theorem d_Tw_exactly_49 : decode c_Tw_exactly 49 = .ok (.if_icmp .ge 76, 3) := by decide +kernel
theorem d_Tw_exactly_52 : decode c_Tw_exactly 52 = .ok (.iload_n 2, 1) := by decide +kernel
theorem d_Tw_exactly_53 : decode c_Tw_exactly 53 = .ok (.iload 5, 2) := by decide +kernel
theorem d_Tw_exactly_55 : decode c_Tw_exactly 55 = .ok (.ishr, 1) := by decide +kernel
theorem d_Tw_exactly_56 : decode c_Tw_exactly 56 = .ok (.iconst 1, 1) := by decide +kernel
theorem d_Tw_exactly_57 : decode c_Tw_exactly 57 = .ok (.iand, 1) := by decide +kernel
theorem d_Tw_exactly_58 : decode c_Tw_exactly 58 = .ok (.ifCond .eq 61, 3) := by decide +kernel
theorem d_Tw_exactly_61 : decode c_Tw_exactly 61 = .ok (.aload_n 0, 1) := by decide +kernel
theorem d_Tw_exactly_62 : decode c_Tw_exactly 62 = .ok (.iload_n 3, 1) := by decide +kernel
theorem d_Tw_exactly_63 : decode c_Tw_exactly 63 = .ok (.iload 5, 2) := by decide +kernel
theorem d_Tw_exactly_65 : decode c_Tw_exactly 65 = .ok (.invokevirtual 89, 3) := by decide +kernel
theorem d_Tw_exactly_68 : decode c_Tw_exactly 68 = .ok (.ifCond .ne 6, 3) := by decide +kernel
theorem d_Tw_exactly_71 : decode c_Tw_exactly 71 = .ok (.goto 48, 3) := by decide +kernel
theorem d_Tw_exactly_74 : decode c_Tw_exactly 74 = .ok (.aload_n 0, 1) := by decide +kernel
theorem d_Tw_exactly_75 : decode c_Tw_exactly 75 = .ok (.iload_n 3, 1) := by decide +kernel
theorem d_Tw_exactly_76 : decode c_Tw_exactly 76 = .ok (.iload 5, 2) := by decide +kernel
theorem d_Tw_exactly_78 : decode c_Tw_exactly 78 = .ok (.invokevirtual 71, 3) := by decide +kernel
theorem d_Tw_exactly_81 : decode c_Tw_exactly 81 = .ok (.aload_n 0, 1) := by decide +kernel
theorem d_Tw_exactly_82 : decode c_Tw_exactly 82 = .ok (.getfield 51, 3) := by decide +kernel
theorem d_Tw_exactly_85 : decode c_Tw_exactly 85 = .ok (.iload_n 2, 1) := by decide +kernel
theorem d_Tw_exactly_86 : decode c_Tw_exactly 86 = .ok (.iconst 1, 1) := by decide +kernel
theorem d_Tw_exactly_87 : decode c_Tw_exactly 87 = .ok (.iload_n 3, 1) := by decide +kernel
theorem d_Tw_exactly_88 : decode c_Tw_exactly 88 = .ok (.ishl, 1) := by decide +kernel
theorem d_Tw_exactly_89 : decode c_Tw_exactly 89 = .ok (.iconst (-1), 1) := by decide +kernel
theorem d_Tw_exactly_90 : decode c_Tw_exactly 90 = .ok (.ixor, 1) := by decide +kernel
theorem d_Tw_exactly_91 : decode c_Tw_exactly 91 = .ok (.iand, 1) := by decide +kernel
theorem d_Tw_exactly_92 : decode c_Tw_exactly 92 = .ok (.iconst 1, 1) := by decide +kernel
theorem d_Tw_exactly_93 : decode c_Tw_exactly 93 = .ok (.iload 5, 2) := by decide +kernel
theorem d_Tw_exactly_95 : decode c_Tw_exactly 95 = .ok (.ishl, 1) := by decide +kernel
theorem d_Tw_exactly_96 : decode c_Tw_exactly 96 = .ok (.iconst (-1), 1) := by decide +kernel
theorem d_Tw_exactly_97 : decode c_Tw_exactly 97 = .ok (.ixor, 1) := by decide +kernel
theorem d_Tw_exactly_98 : decode c_Tw_exactly 98 = .ok (.iand, 1) := by decide +kernel
theorem d_Tw_exactly_99 : decode c_Tw_exactly 99 = .ok (.iaload, 1) := by decide +kernel
theorem d_Tw_exactly_100 : decode c_Tw_exactly 100 = .ok (.iadd, 1) := by decide +kernel
theorem d_Tw_exactly_101 : decode c_Tw_exactly 101 = .ok (.istore 6, 2) := by decide +kernel
theorem d_Tw_exactly_103 : decode c_Tw_exactly 103 = .ok (.iload 6, 2) := by decide +kernel
theorem d_Tw_exactly_105 : decode c_Tw_exactly 105 = .ok (.iload 4, 2) := by decide +kernel
theorem d_Tw_exactly_107 : decode c_Tw_exactly 107 = .ok (.if_icmp .le 8, 3) := by decide +kernel
theorem d_Tw_exactly_110 : decode c_Tw_exactly 110 = .ok (.iload 6, 2) := by decide +kernel
theorem d_Tw_exactly_112 : decode c_Tw_exactly 112 = .ok (.goto 5, 3) := by decide +kernel
theorem d_Tw_exactly_115 : decode c_Tw_exactly 115 = .ok (.iload 4, 2) := by decide +kernel
theorem d_Tw_exactly_117 : decode c_Tw_exactly 117 = .ok (.istore 4, 2) := by decide +kernel
theorem d_Tw_exactly_119 : decode c_Tw_exactly 119 = .ok (.iinc 5 1, 3) := by decide +kernel
theorem d_Tw_exactly_122 : decode c_Tw_exactly 122 = .ok (.goto (-79), 3) := by decide +kernel
theorem d_Tw_exactly_125 : decode c_Tw_exactly 125 = .ok (.aload_n 0, 1) := by decide +kernel
theorem d_Tw_exactly_126 : decode c_Tw_exactly 126 = .ok (.getfield 51, 3) := by decide +kernel
theorem d_Tw_exactly_129 : decode c_Tw_exactly 129 = .ok (.iload_n 2, 1) := by decide +kernel
theorem d_Tw_exactly_130 : decode c_Tw_exactly 130 = .ok (.iload 4, 2) := by decide +kernel
theorem d_Tw_exactly_132 : decode c_Tw_exactly 132 = .ok (.iastore, 1) := by decide +kernel
theorem d_Tw_exactly_133 : decode c_Tw_exactly 133 = .ok (.iinc 2 1, 3) := by decide +kernel
theorem d_Tw_exactly_136 : decode c_Tw_exactly 136 = .ok (.goto (-127), 3) := by decide +kernel
theorem d_Tw_exactly_139 : decode c_Tw_exactly 139 = .ok (.iload_n 1, 1) := by decide +kernel
theorem d_Tw_exactly_140 : decode c_Tw_exactly 140 = .ok (.istore_n 2, 1) := by decide +kernel
theorem d_Tw_exactly_141 : decode c_Tw_exactly 141 = .ok (.iload_n 2, 1) := by decide +kernel
theorem d_Tw_exactly_142 : decode c_Tw_exactly 142 = .ok (.ifCond .eq 127, 3) := by decide +kernel
theorem d_Tw_exactly_145 : decode c_Tw_exactly 145 = .ok (.iload_n 2, 1) := by decide +kernel
theorem d_Tw_exactly_146 : decode c_Tw_exactly 146 = .ok (.invokestatic 85, 3) := by decide +kernel
theorem d_Tw_exactly_149 : decode c_Tw_exactly 149 = .ok (.istore_n 3, 1) := by decide +kernel
theorem d_Tw_exactly_150 : decode c_Tw_exactly 150 = .ok (.iconst (-1), 1) := by decide +kernel
theorem d_Tw_exactly_151 : decode c_Tw_exactly 151 = .ok (.istore 4, 2) := by decide +kernel
theorem d_Tw_exactly_153 : decode c_Tw_exactly 153 = .ok (.aload_n 0, 1) := by decide +kernel
theorem d_Tw_exactly_154 : decode c_Tw_exactly 154 = .ok (.getfield 57, 3) := by decide +kernel
theorem d_Tw_exactly_157 : decode c_Tw_exactly 157 = .ok (.iconst 1, 1) := by decide +kernel
theorem d_Tw_exactly_158 : decode c_Tw_exactly 158 = .ok (.isub, 1) := by decide +kernel
theorem d_Tw_exactly_159 : decode c_Tw_exactly 159 = .ok (.istore 5, 2) := by decide +kernel
theorem d_Tw_exactly_161 : decode c_Tw_exactly 161 = .ok (.iload 5, 2) := by decide +kernel
theorem d_Tw_exactly_163 : decode c_Tw_exactly 163 = .ok (.iload_n 3, 1) := by decide +kernel
theorem d_Tw_exactly_164 : decode c_Tw_exactly 164 = .ok (.if_icmp .le 69, 3) := by decide +kernel
theorem d_Tw_exactly_167 : decode c_Tw_exactly 167 = .ok (.iload_n 2, 1) := by decide +kernel
theorem d_Tw_exactly_168 : decode c_Tw_exactly 168 = .ok (.iload 5, 2) := by decide +kernel
theorem d_Tw_exactly_170 : decode c_Tw_exactly 170 = .ok (.ishr, 1) := by decide +kernel
theorem d_Tw_exactly_171 : decode c_Tw_exactly 171 = .ok (.iconst 1, 1) := by decide +kernel
theorem d_Tw_exactly_172 : decode c_Tw_exactly 172 = .ok (.iand, 1) := by decide +kernel
theorem d_Tw_exactly_173 : decode c_Tw_exactly 173 = .ok (.iconst 1, 1) := by decide +kernel
theorem d_Tw_exactly_174 : decode c_Tw_exactly 174 = .ok (.if_icmp .ne 53, 3) := by decide +kernel
theorem d_Tw_exactly_177 : decode c_Tw_exactly 177 = .ok (.aload_n 0, 1) := by decide +kernel
theorem d_Tw_exactly_178 : decode c_Tw_exactly 178 = .ok (.iload_n 3, 1) := by decide +kernel
theorem d_Tw_exactly_179 : decode c_Tw_exactly 179 = .ok (.iload 5, 2) := by decide +kernel
theorem d_Tw_exactly_181 : decode c_Tw_exactly 181 = .ok (.invokevirtual 89, 3) := by decide +kernel
theorem d_Tw_exactly_184 : decode c_Tw_exactly 184 = .ok (.ifCond .eq 43, 3) := by decide +kernel
theorem d_Tw_exactly_187 : decode c_Tw_exactly 187 = .ok (.aload_n 0, 1) := by decide +kernel
theorem d_Tw_exactly_188 : decode c_Tw_exactly 188 = .ok (.iload_n 3, 1) := by decide +kernel
theorem d_Tw_exactly_189 : decode c_Tw_exactly 189 = .ok (.iload 5, 2) := by decide +kernel
theorem d_Tw_exactly_191 : decode c_Tw_exactly 191 = .ok (.invokevirtual 71, 3) := by decide +kernel
theorem d_Tw_exactly_194 : decode c_Tw_exactly 194 = .ok (.aload_n 0, 1) := by decide +kernel
theorem d_Tw_exactly_195 : decode c_Tw_exactly 195 = .ok (.getfield 51, 3) := by decide +kernel
theorem d_Tw_exactly_198 : decode c_Tw_exactly 198 = .ok (.iload_n 2, 1) := by decide +kernel
theorem d_Tw_exactly_199 : decode c_Tw_exactly 199 = .ok (.iconst 1, 1) := by decide +kernel
theorem d_Tw_exactly_200 : decode c_Tw_exactly 200 = .ok (.iload_n 3, 1) := by decide +kernel
theorem d_Tw_exactly_201 : decode c_Tw_exactly 201 = .ok (.ishl, 1) := by decide +kernel
theorem d_Tw_exactly_202 : decode c_Tw_exactly 202 = .ok (.iconst (-1), 1) := by decide +kernel
theorem d_Tw_exactly_203 : decode c_Tw_exactly 203 = .ok (.ixor, 1) := by decide +kernel
theorem d_Tw_exactly_204 : decode c_Tw_exactly 204 = .ok (.iand, 1) := by decide +kernel
theorem d_Tw_exactly_205 : decode c_Tw_exactly 205 = .ok (.iconst 1, 1) := by decide +kernel
theorem d_Tw_exactly_206 : decode c_Tw_exactly 206 = .ok (.iload 5, 2) := by decide +kernel
theorem d_Tw_exactly_208 : decode c_Tw_exactly 208 = .ok (.ishl, 1) := by decide +kernel
theorem d_Tw_exactly_209 : decode c_Tw_exactly 209 = .ok (.iconst (-1), 1) := by decide +kernel
theorem d_Tw_exactly_210 : decode c_Tw_exactly 210 = .ok (.ixor, 1) := by decide +kernel
theorem d_Tw_exactly_211 : decode c_Tw_exactly 211 = .ok (.iand, 1) := by decide +kernel
theorem d_Tw_exactly_212 : decode c_Tw_exactly 212 = .ok (.iaload, 1) := by decide +kernel
theorem d_Tw_exactly_213 : decode c_Tw_exactly 213 = .ok (.iadd, 1) := by decide +kernel
theorem d_Tw_exactly_214 : decode c_Tw_exactly 214 = .ok (.aload_n 0, 1) := by decide +kernel
theorem d_Tw_exactly_215 : decode c_Tw_exactly 215 = .ok (.getfield 51, 3) := by decide +kernel
theorem d_Tw_exactly_218 : decode c_Tw_exactly 218 = .ok (.iload_n 2, 1) := by decide +kernel
theorem d_Tw_exactly_219 : decode c_Tw_exactly 219 = .ok (.iaload, 1) := by decide +kernel
theorem d_Tw_exactly_220 : decode c_Tw_exactly 220 = .ok (.if_icmp .ne 7, 3) := by decide +kernel
theorem d_Tw_exactly_223 : decode c_Tw_exactly 223 = .ok (.iload 5, 2) := by decide +kernel
theorem d_Tw_exactly_225 : decode c_Tw_exactly 225 = .ok (.istore 4, 2) := by decide +kernel
theorem d_Tw_exactly_227 : decode c_Tw_exactly 227 = .ok (.iinc 5 (-1), 3) := by decide +kernel
theorem d_Tw_exactly_230 : decode c_Tw_exactly 230 = .ok (.goto (-69), 3) := by decide +kernel
theorem d_Tw_exactly_233 : decode c_Tw_exactly 233 = .ok (.iload_n 2, 1) := by decide +kernel
theorem d_Tw_exactly_234 : decode c_Tw_exactly 234 = .ok (.iconst 1, 1) := by decide +kernel
theorem d_Tw_exactly_235 : decode c_Tw_exactly 235 = .ok (.iload_n 3, 1) := by decide +kernel
theorem d_Tw_exactly_236 : decode c_Tw_exactly 236 = .ok (.ishl, 1) := by decide +kernel
theorem d_Tw_exactly_237 : decode c_Tw_exactly 237 = .ok (.iconst (-1), 1) := by decide +kernel
theorem d_Tw_exactly_238 : decode c_Tw_exactly 238 = .ok (.ixor, 1) := by decide +kernel
theorem d_Tw_exactly_239 : decode c_Tw_exactly 239 = .ok (.iand, 1) := by decide +kernel
theorem d_Tw_exactly_240 : decode c_Tw_exactly 240 = .ok (.istore_n 2, 1) := by decide +kernel
theorem d_Tw_exactly_241 : decode c_Tw_exactly 241 = .ok (.iload 4, 2) := by decide +kernel
theorem d_Tw_exactly_243 : decode c_Tw_exactly 243 = .ok (.iconst (-1), 1) := by decide +kernel
theorem d_Tw_exactly_244 : decode c_Tw_exactly 244 = .ok (.if_icmp .ne 6, 3) := by decide +kernel
theorem d_Tw_exactly_247 : decode c_Tw_exactly 247 = .ok (.goto (-106), 3) := by decide +kernel
theorem d_Tw_exactly_250 : decode c_Tw_exactly 250 = .ok (.aload_n 0, 1) := by decide +kernel
theorem d_Tw_exactly_251 : decode c_Tw_exactly 251 = .ok (.iload_n 3, 1) := by decide +kernel
theorem d_Tw_exactly_252 : decode c_Tw_exactly 252 = .ok (.iload 4, 2) := by decide +kernel
theorem d_Tw_exactly_254 : decode c_Tw_exactly 254 = .ok (.invokevirtual 92, 3) := by decide +kernel
theorem d_Tw_exactly_257 : decode c_Tw_exactly 257 = .ok (.iload_n 2, 1) := by decide +kernel
theorem d_Tw_exactly_258 : decode c_Tw_exactly 258 = .ok (.iconst 1, 1) := by decide +kernel
theorem d_Tw_exactly_259 : decode c_Tw_exactly 259 = .ok (.iload 4, 2) := by decide +kernel
theorem d_Tw_exactly_261 : decode c_Tw_exactly 261 = .ok (.ishl, 1) := by decide +kernel
theorem d_Tw_exactly_262 : decode c_Tw_exactly 262 = .ok (.iconst (-1), 1) := by decide +kernel
theorem d_Tw_exactly_263 : decode c_Tw_exactly 263 = .ok (.ixor, 1) := by decide +kernel
theorem d_Tw_exactly_264 : decode c_Tw_exactly 264 = .ok (.iand, 1) := by decide +kernel
theorem d_Tw_exactly_265 : decode c_Tw_exactly 265 = .ok (.istore_n 2, 1) := by decide +kernel
theorem d_Tw_exactly_266 : decode c_Tw_exactly 266 = .ok (.goto (-125), 3) := by decide +kernel
theorem d_Tw_exactly_269 : decode c_Tw_exactly 269 = .ok (.return_, 1) := by decide +kernel
theorem d_Tw_freeOnes_0 : decode c_Tw_freeOnes 0 = .ok (.iconst 0, 1) := by decide +kernel
theorem d_Tw_freeOnes_1 : decode c_Tw_freeOnes 1 = .ok (.istore_n 1, 1) := by decide +kernel
theorem d_Tw_freeOnes_2 : decode c_Tw_freeOnes 2 = .ok (.iconst 0, 1) := by decide +kernel
theorem d_Tw_freeOnes_3 : decode c_Tw_freeOnes 3 = .ok (.istore_n 2, 1) := by decide +kernel
theorem d_Tw_freeOnes_4 : decode c_Tw_freeOnes 4 = .ok (.iload_n 2, 1) := by decide +kernel
theorem d_Tw_freeOnes_5 : decode c_Tw_freeOnes 5 = .ok (.aload_n 0, 1) := by decide +kernel
theorem d_Tw_freeOnes_6 : decode c_Tw_freeOnes 6 = .ok (.getfield 57, 3) := by decide +kernel
theorem d_Tw_freeOnes_9 : decode c_Tw_freeOnes 9 = .ok (.if_icmp .ge 25, 3) := by decide +kernel
theorem d_Tw_freeOnes_12 : decode c_Tw_freeOnes 12 = .ok (.iload_n 1, 1) := by decide +kernel
theorem d_Tw_freeOnes_13 : decode c_Tw_freeOnes 13 = .ok (.aload_n 0, 1) := by decide +kernel
theorem d_Tw_freeOnes_14 : decode c_Tw_freeOnes 14 = .ok (.iload_n 2, 1) := by decide +kernel
theorem d_Tw_freeOnes_15 : decode c_Tw_freeOnes 15 = .ok (.invokevirtual 82, 3) := by decide +kernel
theorem d_Tw_freeOnes_18 : decode c_Tw_freeOnes 18 = .ok (.ifCond .eq 7, 3) := by decide +kernel
theorem d_Tw_freeOnes_21 : decode c_Tw_freeOnes 21 = .ok (.iconst 1, 1) := by decide +kernel
theorem d_Tw_freeOnes_22 : decode c_Tw_freeOnes 22 = .ok (.goto 4, 3) := by decide +kernel
theorem d_Tw_freeOnes_25 : decode c_Tw_freeOnes 25 = .ok (.iconst 0, 1) := by decide +kernel
theorem d_Tw_freeOnes_26 : decode c_Tw_freeOnes 26 = .ok (.iadd, 1) := by decide +kernel
theorem d_Tw_freeOnes_27 : decode c_Tw_freeOnes 27 = .ok (.istore_n 1, 1) := by decide +kernel
theorem d_Tw_freeOnes_28 : decode c_Tw_freeOnes 28 = .ok (.iinc 2 1, 3) := by decide +kernel
theorem d_Tw_freeOnes_31 : decode c_Tw_freeOnes 31 = .ok (.goto (-27), 3) := by decide +kernel
theorem d_Tw_freeOnes_34 : decode c_Tw_freeOnes 34 = .ok (.iload_n 1, 1) := by decide +kernel
theorem d_Tw_freeOnes_35 : decode c_Tw_freeOnes 35 = .ok (.ireturn, 1) := by decide +kernel
theorem d_Tw_in_0 : decode c_Tw_in 0 = .ok (.iload_n 0, 1) := by decide +kernel
theorem d_Tw_in_1 : decode c_Tw_in 1 = .ok (.iload_n 1, 1) := by decide +kernel
theorem d_Tw_in_2 : decode c_Tw_in 2 = .ok (.if_icmp .lt 12, 3) := by decide +kernel
theorem d_Tw_in_5 : decode c_Tw_in 5 = .ok (.iload_n 0, 1) := by decide +kernel
theorem d_Tw_in_6 : decode c_Tw_in 6 = .ok (.iload_n 2, 1) := by decide +kernel
theorem d_Tw_in_7 : decode c_Tw_in 7 = .ok (.if_icmp .gt 7, 3) := by decide +kernel
theorem d_Tw_in_10 : decode c_Tw_in 10 = .ok (.iconst 1, 1) := by decide +kernel
theorem d_Tw_in_11 : decode c_Tw_in 11 = .ok (.goto 4, 3) := by decide +kernel
theorem d_Tw_in_14 : decode c_Tw_in 14 = .ok (.iconst 0, 1) := by decide +kernel
theorem d_Tw_in_15 : decode c_Tw_in 15 = .ok (.ireturn, 1) := by decide +kernel
theorem d_Tw_isBatch_0 : decode c_Tw_isBatch 0 = .ok (.iload_n 1, 1) := by decide +kernel
theorem d_Tw_isBatch_1 : decode c_Tw_isBatch 1 = .ok (.iconst 0, 1) := by decide +kernel
theorem d_Tw_isBatch_2 : decode c_Tw_isBatch 2 = .ok (.aload_n 0, 1) := by decide +kernel
theorem d_Tw_isBatch_3 : decode c_Tw_isBatch 3 = .ok (.getfield 64, 3) := by decide +kernel
theorem d_Tw_isBatch_6 : decode c_Tw_isBatch 6 = .ok (.iconst 1, 1) := by decide +kernel
theorem d_Tw_isBatch_7 : decode c_Tw_isBatch 7 = .ok (.isub, 1) := by decide +kernel
theorem d_Tw_isBatch_8 : decode c_Tw_isBatch 8 = .ok (.invokestatic 60, 3) := by decide +kernel
theorem d_Tw_isBatch_11 : decode c_Tw_isBatch 11 = .ok (.ireturn, 1) := by decide +kernel
theorem d_Tw_isFree_0 : decode c_Tw_isFree 0 = .ok (.aload_n 0, 1) := by decide +kernel
theorem d_Tw_isFree_1 : decode c_Tw_isFree 1 = .ok (.getfield 48, 3) := by decide +kernel
theorem d_Tw_isFree_4 : decode c_Tw_isFree 4 = .ok (.iload_n 1, 1) := by decide +kernel
theorem d_Tw_isFree_5 : decode c_Tw_isFree 5 = .ok (.iaload, 1) := by decide +kernel
theorem d_Tw_isFree_6 : decode c_Tw_isFree 6 = .ok (.iconst (-1), 1) := by decide +kernel
theorem d_Tw_isFree_7 : decode c_Tw_isFree 7 = .ok (.if_icmp .ne 7, 3) := by decide +kernel
theorem d_Tw_isFree_10 : decode c_Tw_isFree 10 = .ok (.iconst 1, 1) := by decide +kernel
theorem d_Tw_isFree_11 : decode c_Tw_isFree 11 = .ok (.goto 4, 3) := by decide +kernel
theorem d_Tw_isFree_14 : decode c_Tw_isFree 14 = .ok (.iconst 0, 1) := by decide +kernel
theorem d_Tw_isFree_15 : decode c_Tw_isFree 15 = .ok (.ireturn, 1) := by decide +kernel
theorem d_Tw_isOrder_0 : decode c_Tw_isOrder 0 = .ok (.iload_n 1, 1) := by decide +kernel
theorem d_Tw_isOrder_1 : decode c_Tw_isOrder 1 = .ok (.iconst 0, 1) := by decide +kernel
theorem d_Tw_isOrder_2 : decode c_Tw_isOrder 2 = .ok (.aload_n 0, 1) := by decide +kernel
theorem d_Tw_isOrder_3 : decode c_Tw_isOrder 3 = .ok (.getfield 57, 3) := by decide +kernel
theorem d_Tw_isOrder_6 : decode c_Tw_isOrder 6 = .ok (.iconst 1, 1) := by decide +kernel
theorem d_Tw_isOrder_7 : decode c_Tw_isOrder 7 = .ok (.isub, 1) := by decide +kernel
theorem d_Tw_isOrder_8 : decode c_Tw_isOrder 8 = .ok (.invokestatic 60, 3) := by decide +kernel
theorem d_Tw_isOrder_11 : decode c_Tw_isOrder 11 = .ok (.ireturn, 1) := by decide +kernel
theorem d_Tw_join_0 : decode c_Tw_join 0 = .ok (.aload_n 0, 1) := by decide +kernel
theorem d_Tw_join_1 : decode c_Tw_join 1 = .ok (.aload_n 0, 1) := by decide +kernel
theorem d_Tw_join_2 : decode c_Tw_join 2 = .ok (.iload_n 1, 1) := by decide +kernel
theorem d_Tw_join_3 : decode c_Tw_join 3 = .ok (.invokevirtual 67, 3) := by decide +kernel
theorem d_Tw_join_6 : decode c_Tw_join 6 = .ok (.ifCond .eq 11, 3) := by decide +kernel
theorem d_Tw_join_9 : decode c_Tw_join 9 = .ok (.aload_n 0, 1) := by decide +kernel
theorem d_Tw_join_10 : decode c_Tw_join 10 = .ok (.iload_n 2, 1) := by decide +kernel
theorem d_Tw_join_11 : decode c_Tw_join 11 = .ok (.invokevirtual 126, 3) := by decide +kernel
theorem d_Tw_join_14 : decode c_Tw_join 14 = .ok (.ifCond .ne 7, 3) := by decide +kernel
theorem d_Tw_join_17 : decode c_Tw_join 17 = .ok (.iconst 1, 1) := by decide +kernel
theorem d_Tw_join_18 : decode c_Tw_join 18 = .ok (.goto 4, 3) := by decide +kernel
theorem d_Tw_join_21 : decode c_Tw_join 21 = .ok (.iconst 0, 1) := by decide +kernel
theorem d_Tw_join_22 : decode c_Tw_join 22 = .ok (.putfield 54, 3) := by decide +kernel
theorem d_Tw_join_25 : decode c_Tw_join 25 = .ok (.aload_n 0, 1) := by decide +kernel
theorem d_Tw_join_26 : decode c_Tw_join 26 = .ok (.getfield 54, 3) := by decide +kernel
theorem d_Tw_join_29 : decode c_Tw_join 29 = .ok (.ifCond .ne 43, 3) := by decide +kernel
theorem d_Tw_join_32 : decode c_Tw_join 32 = .ok (.aload_n 0, 1) := by decide +kernel
theorem d_Tw_join_33 : decode c_Tw_join 33 = .ok (.aload_n 0, 1) := by decide +kernel
theorem d_Tw_join_34 : decode c_Tw_join 34 = .ok (.iload_n 1, 1) := by decide +kernel
theorem d_Tw_join_35 : decode c_Tw_join 35 = .ok (.invokevirtual 82, 3) := by decide +kernel
theorem d_Tw_join_38 : decode c_Tw_join 38 = .ok (.ifCond .eq 12, 3) := by decide +kernel
theorem d_Tw_join_41 : decode c_Tw_join 41 = .ok (.aload_n 0, 1) := by decide +kernel
theorem d_Tw_join_42 : decode c_Tw_join 42 = .ok (.iload_n 1, 1) := by decide +kernel
theorem d_Tw_join_43 : decode c_Tw_join 43 = .ok (.iload_n 2, 1) := by decide +kernel
theorem d_Tw_join_44 : decode c_Tw_join 44 = .ok (.invokevirtual 129, 3) := by decide +kernel
theorem d_Tw_join_47 : decode c_Tw_join 47 = .ok (.ifCond .ne 7, 3) := by decide +kernel
theorem d_Tw_join_50 : decode c_Tw_join 50 = .ok (.iconst 2, 1) := by decide +kernel
theorem d_Tw_join_51 : decode c_Tw_join 51 = .ok (.goto 18, 3) := by decide +kernel
theorem d_Tw_join_54 : decode c_Tw_join 54 = .ok (.aload_n 0, 1) := by decide +kernel
theorem d_Tw_join_55 : decode c_Tw_join 55 = .ok (.getfield 42, 3) := by decide +kernel
theorem d_Tw_join_58 : decode c_Tw_join 58 = .ok (.iload_n 2, 1) := by decide +kernel
theorem d_Tw_join_59 : decode c_Tw_join 59 = .ok (.iaload, 1) := by decide +kernel
theorem d_Tw_join_60 : decode c_Tw_join 60 = .ok (.iconst 4, 1) := by decide +kernel
theorem d_Tw_join_61 : decode c_Tw_join 61 = .ok (.if_icmp .ne 7, 3) := by decide +kernel
theorem d_Tw_join_64 : decode c_Tw_join 64 = .ok (.iconst 3, 1) := by decide +kernel
theorem d_Tw_join_65 : decode c_Tw_join 65 = .ok (.goto 4, 3) := by decide +kernel
theorem d_Tw_join_68 : decode c_Tw_join 68 = .ok (.iconst 0, 1) := by decide +kernel
theorem d_Tw_join_69 : decode c_Tw_join 69 = .ok (.putfield 54, 3) := by decide +kernel
theorem d_Tw_join_72 : decode c_Tw_join 72 = .ok (.aload_n 0, 1) := by decide +kernel
theorem d_Tw_join_73 : decode c_Tw_join 73 = .ok (.getfield 54, 3) := by decide +kernel
theorem d_Tw_join_76 : decode c_Tw_join 76 = .ok (.ifCond .le 5, 3) := by decide +kernel
theorem d_Tw_join_79 : decode c_Tw_join 79 = .ok (.iconst 0, 1) := by decide +kernel
theorem d_Tw_join_80 : decode c_Tw_join 80 = .ok (.ireturn, 1) := by decide +kernel
theorem d_Tw_join_81 : decode c_Tw_join 81 = .ok (.aload_n 0, 1) := by decide +kernel
theorem d_Tw_join_82 : decode c_Tw_join 82 = .ok (.iload_n 1, 1) := by decide +kernel
theorem d_Tw_join_83 : decode c_Tw_join 83 = .ok (.iload_n 2, 1) := by decide +kernel
theorem d_Tw_join_84 : decode c_Tw_join 84 = .ok (.invokevirtual 117, 3) := by decide +kernel
theorem d_Tw_join_87 : decode c_Tw_join 87 = .ok (.aload_n 0, 1) := by decide +kernel
theorem d_Tw_join_88 : decode c_Tw_join 88 = .ok (.iload_n 2, 1) := by decide +kernel
theorem d_Tw_join_89 : decode c_Tw_join 89 = .ok (.invokevirtual 132, 3) := by decide +kernel
theorem d_Tw_join_92 : decode c_Tw_join 92 = .ok (.ireturn, 1) := by decide +kernel
theorem d_Tw_joined_0 : decode c_Tw_joined 0 = .ok (.aload_n 0, 1) := by decide +kernel
theorem d_Tw_joined_1 : decode c_Tw_joined 1 = .ok (.aload_n 0, 1) := by decide +kernel
theorem d_Tw_joined_2 : decode c_Tw_joined 2 = .ok (.iload_n 1, 1) := by decide +kernel
theorem d_Tw_joined_3 : decode c_Tw_joined 3 = .ok (.invokevirtual 67, 3) := by decide +kernel
theorem d_Tw_joined_6 : decode c_Tw_joined 6 = .ok (.ifCond .eq 11, 3) := by decide +kernel
theorem d_Tw_joined_9 : decode c_Tw_joined 9 = .ok (.aload_n 0, 1) := by decide +kernel
theorem d_Tw_joined_10 : decode c_Tw_joined 10 = .ok (.iload_n 2, 1) := by decide +kernel
theorem d_Tw_joined_11 : decode c_Tw_joined 11 = .ok (.invokevirtual 67, 3) := by decide +kernel
theorem d_Tw_joined_14 : decode c_Tw_joined 14 = .ok (.ifCond .ne 7, 3) := by decide +kernel
theorem d_Tw_joined_17 : decode c_Tw_joined 17 = .ok (.iconst 1, 1) := by decide +kernel
theorem d_Tw_joined_18 : decode c_Tw_joined 18 = .ok (.goto 24, 3) := by decide +kernel
theorem d_Tw_joined_21 : decode c_Tw_joined 21 = .ok (.iload_n 1, 1) := by decide +kernel
theorem d_Tw_joined_22 : decode c_Tw_joined 22 = .ok (.iload_n 2, 1) := by decide +kernel
theorem d_Tw_joined_23 : decode c_Tw_joined 23 = .ok (.if_icmp .eq 14, 3) := by decide +kernel
theorem d_Tw_joined_26 : decode c_Tw_joined 26 = .ok (.iload_n 3, 1) := by decide +kernel
theorem d_Tw_joined_27 : decode c_Tw_joined 27 = .ok (.iconst 0, 1) := by decide +kernel
theorem d_Tw_joined_28 : decode c_Tw_joined 28 = .ok (.sipush 20000, 3) := by decide +kernel
theorem d_Tw_joined_31 : decode c_Tw_joined 31 = .ok (.invokestatic 60, 3) := by decide +kernel
theorem d_Tw_joined_34 : decode c_Tw_joined 34 = .ok (.ifCond .ne 7, 3) := by decide +kernel
theorem d_Tw_joined_37 : decode c_Tw_joined 37 = .ok (.iconst 2, 1) := by decide +kernel
theorem d_Tw_joined_38 : decode c_Tw_joined 38 = .ok (.goto 4, 3) := by decide +kernel
theorem d_Tw_joined_41 : decode c_Tw_joined 41 = .ok (.iconst 0, 1) := by decide +kernel
theorem d_Tw_joined_42 : decode c_Tw_joined 42 = .ok (.putfield 54, 3) := by decide +kernel
theorem d_Tw_joined_45 : decode c_Tw_joined 45 = .ok (.aload_n 0, 1) := by decide +kernel
theorem d_Tw_joined_46 : decode c_Tw_joined 46 = .ok (.getfield 54, 3) := by decide +kernel
theorem d_Tw_joined_49 : decode c_Tw_joined 49 = .ok (.ifCond .le 5, 3) := by decide +kernel
theorem d_Tw_joined_52 : decode c_Tw_joined 52 = .ok (.iconst 0, 1) := by decide +kernel
theorem d_Tw_joined_53 : decode c_Tw_joined 53 = .ok (.ireturn, 1) := by decide +kernel
theorem d_Tw_joined_54 : decode c_Tw_joined 54 = .ok (.aload_n 0, 1) := by decide +kernel
theorem d_Tw_joined_55 : decode c_Tw_joined 55 = .ok (.getfield 22, 3) := by decide +kernel
theorem d_Tw_joined_58 : decode c_Tw_joined 58 = .ok (.bipush 10, 2) := by decide +kernel
theorem d_Tw_joined_60 : decode c_Tw_joined 60 = .ok (.iload_n 1, 1) := by decide +kernel
theorem d_Tw_joined_61 : decode c_Tw_joined 61 = .ok (.imul, 1) := by decide +kernel
theorem d_Tw_joined_62 : decode c_Tw_joined 62 = .ok (.iload_n 2, 1) := by decide +kernel
theorem d_Tw_joined_63 : decode c_Tw_joined 63 = .ok (.iadd, 1) := by decide +kernel
theorem d_Tw_joined_64 : decode c_Tw_joined 64 = .ok (.iload_n 3, 1) := by decide +kernel
theorem d_Tw_joined_65 : decode c_Tw_joined 65 = .ok (.iastore, 1) := by decide +kernel
theorem d_Tw_joined_66 : decode c_Tw_joined 66 = .ok (.aload_n 0, 1) := by decide +kernel
theorem d_Tw_joined_67 : decode c_Tw_joined 67 = .ok (.getfield 22, 3) := by decide +kernel
theorem d_Tw_joined_70 : decode c_Tw_joined 70 = .ok (.bipush 10, 2) := by decide +kernel
theorem d_Tw_joined_72 : decode c_Tw_joined 72 = .ok (.iload_n 2, 1) := by decide +kernel
theorem d_Tw_joined_73 : decode c_Tw_joined 73 = .ok (.imul, 1) := by decide +kernel
theorem d_Tw_joined_74 : decode c_Tw_joined 74 = .ok (.iload_n 1, 1) := by decide +kernel
theorem d_Tw_joined_75 : decode c_Tw_joined 75 = .ok (.iadd, 1) := by decide +kernel
theorem d_Tw_joined_76 : decode c_Tw_joined 76 = .ok (.iload_n 3, 1) := by decide +kernel
theorem d_Tw_joined_77 : decode c_Tw_joined 77 = .ok (.iastore, 1) := by decide +kernel
theorem d_Tw_joined_78 : decode c_Tw_joined 78 = .ok (.aload_n 0, 1) := by decide +kernel
theorem d_Tw_joined_79 : decode c_Tw_joined 79 = .ok (.iload_n 1, 1) := by decide +kernel
theorem d_Tw_joined_80 : decode c_Tw_joined 80 = .ok (.iload_n 2, 1) := by decide +kernel
theorem d_Tw_joined_81 : decode c_Tw_joined 81 = .ok (.invokevirtual 71, 3) := by decide +kernel
theorem d_Tw_joined_84 : decode c_Tw_joined 84 = .ok (.ireturn, 1) := by decide +kernel
theorem d_Tw_leave_0 : decode c_Tw_leave 0 = .ok (.aload_n 0, 1) := by decide +kernel
theorem d_Tw_leave_1 : decode c_Tw_leave 1 = .ok (.aload_n 0, 1) := by decide +kernel
theorem d_Tw_leave_2 : decode c_Tw_leave 2 = .ok (.iload_n 1, 1) := by decide +kernel
theorem d_Tw_leave_3 : decode c_Tw_leave 3 = .ok (.invokevirtual 67, 3) := by decide +kernel
theorem d_Tw_leave_6 : decode c_Tw_leave 6 = .ok (.ifCond .ne 7, 3) := by decide +kernel
theorem d_Tw_leave_9 : decode c_Tw_leave 9 = .ok (.iconst 1, 1) := by decide +kernel
theorem d_Tw_leave_10 : decode c_Tw_leave 10 = .ok (.goto 4, 3) := by decide +kernel
theorem d_Tw_leave_13 : decode c_Tw_leave 13 = .ok (.iconst 0, 1) := by decide +kernel
theorem d_Tw_leave_14 : decode c_Tw_leave 14 = .ok (.putfield 54, 3) := by decide +kernel
theorem d_Tw_leave_17 : decode c_Tw_leave 17 = .ok (.aload_n 0, 1) := by decide +kernel
theorem d_Tw_leave_18 : decode c_Tw_leave 18 = .ok (.getfield 54, 3) := by decide +kernel
theorem d_Tw_leave_21 : decode c_Tw_leave 21 = .ok (.ifCond .ne 20, 3) := by decide +kernel
theorem d_Tw_leave_24 : decode c_Tw_leave 24 = .ok (.aload_n 0, 1) := by decide +kernel
theorem d_Tw_leave_25 : decode c_Tw_leave 25 = .ok (.aload_n 0, 1) := by decide +kernel
theorem d_Tw_leave_26 : decode c_Tw_leave 26 = .ok (.iload_n 1, 1) := by decide +kernel
theorem d_Tw_leave_27 : decode c_Tw_leave 27 = .ok (.invokevirtual 82, 3) := by decide +kernel
theorem d_Tw_leave_30 : decode c_Tw_leave 30 = .ok (.ifCond .eq 7, 3) := by decide +kernel
theorem d_Tw_leave_33 : decode c_Tw_leave 33 = .ok (.iconst 2, 1) := by decide +kernel
theorem d_Tw_leave_34 : decode c_Tw_leave 34 = .ok (.goto 4, 3) := by decide +kernel
theorem d_Tw_leave_37 : decode c_Tw_leave 37 = .ok (.iconst 0, 1) := by decide +kernel
theorem d_Tw_leave_38 : decode c_Tw_leave 38 = .ok (.putfield 54, 3) := by decide +kernel
theorem d_Tw_leave_41 : decode c_Tw_leave 41 = .ok (.aload_n 0, 1) := by decide +kernel
theorem d_Tw_leave_42 : decode c_Tw_leave 42 = .ok (.getfield 54, 3) := by decide +kernel
theorem d_Tw_leave_45 : decode c_Tw_leave 45 = .ok (.ifCond .le 5, 3) := by decide +kernel
theorem d_Tw_leave_48 : decode c_Tw_leave 48 = .ok (.iconst 0, 1) := by decide +kernel
theorem d_Tw_leave_49 : decode c_Tw_leave 49 = .ok (.ireturn, 1) := by decide +kernel
theorem d_Tw_leave_50 : decode c_Tw_leave 50 = .ok (.aload_n 0, 1) := by decide +kernel
theorem d_Tw_leave_51 : decode c_Tw_leave 51 = .ok (.getfield 48, 3) := by decide +kernel
theorem d_Tw_leave_54 : decode c_Tw_leave 54 = .ok (.iload_n 1, 1) := by decide +kernel
theorem d_Tw_leave_55 : decode c_Tw_leave 55 = .ok (.iaload, 1) := by decide +kernel
theorem d_Tw_leave_56 : decode c_Tw_leave 56 = .ok (.istore_n 2, 1) := by decide +kernel
theorem d_Tw_leave_57 : decode c_Tw_leave 57 = .ok (.iconst 0, 1) := by decide +kernel
theorem d_Tw_leave_58 : decode c_Tw_leave 58 = .ok (.istore_n 3, 1) := by decide +kernel
theorem d_Tw_leave_59 : decode c_Tw_leave 59 = .ok (.iconst 0, 1) := by decide +kernel
theorem d_Tw_leave_60 : decode c_Tw_leave 60 = .ok (.istore 4, 2) := by decide +kernel
theorem d_Tw_leave_62 : decode c_Tw_leave 62 = .ok (.iload 4, 2) := by decide +kernel
theorem d_Tw_leave_64 : decode c_Tw_leave 64 = .ok (.aload_n 0, 1) := by decide +kernel
theorem d_Tw_leave_65 : decode c_Tw_leave 65 = .ok (.getfield 42, 3) := by decide +kernel
theorem d_Tw_leave_68 : decode c_Tw_leave 68 = .ok (.iload_n 2, 1) := by decide +kernel
theorem d_Tw_leave_69 : decode c_Tw_leave 69 = .ok (.iaload, 1) := by decide +kernel
theorem d_Tw_leave_70 : decode c_Tw_leave 70 = .ok (.if_icmp .ge 46, 3) := by decide +kernel
theorem d_Tw_leave_73 : decode c_Tw_leave 73 = .ok (.aload_n 0, 1) := by decide +kernel
theorem d_Tw_leave_74 : decode c_Tw_leave 74 = .ok (.getfield 45, 3) := by decide +kernel
theorem d_Tw_leave_77 : decode c_Tw_leave 77 = .ok (.iconst 4, 1) := by decide +kernel
theorem d_Tw_leave_78 : decode c_Tw_leave 78 = .ok (.iload_n 2, 1) := by decide +kernel
theorem d_Tw_leave_79 : decode c_Tw_leave 79 = .ok (.imul, 1) := by decide +kernel
theorem d_Tw_leave_80 : decode c_Tw_leave 80 = .ok (.iload 4, 2) := by decide +kernel
theorem d_Tw_leave_82 : decode c_Tw_leave 82 = .ok (.iadd, 1) := by decide +kernel
theorem d_Tw_leave_83 : decode c_Tw_leave 83 = .ok (.iaload, 1) := by decide +kernel
theorem d_Tw_leave_84 : decode c_Tw_leave 84 = .ok (.istore 5, 2) := by decide +kernel
theorem d_Tw_leave_86 : decode c_Tw_leave 86 = .ok (.iload 5, 2) := by decide +kernel
theorem d_Tw_leave_88 : decode c_Tw_leave 88 = .ok (.iload_n 1, 1) := by decide +kernel
theorem d_Tw_leave_89 : decode c_Tw_leave 89 = .ok (.if_icmp .ne 6, 3) := by decide +kernel
theorem d_Tw_leave_92 : decode c_Tw_leave 92 = .ok (.goto 18, 3) := by decide +kernel
theorem d_Tw_leave_95 : decode c_Tw_leave 95 = .ok (.aload_n 0, 1) := by decide +kernel
theorem d_Tw_leave_96 : decode c_Tw_leave 96 = .ok (.getfield 45, 3) := by decide +kernel
theorem d_Tw_leave_99 : decode c_Tw_leave 99 = .ok (.iconst 4, 1) := by decide +kernel
theorem d_Tw_leave_100 : decode c_Tw_leave 100 = .ok (.iload_n 2, 1) := by decide +kernel
theorem d_Tw_leave_101 : decode c_Tw_leave 101 = .ok (.imul, 1) := by decide +kernel
theorem d_Tw_leave_102 : decode c_Tw_leave 102 = .ok (.iload_n 3, 1) := by decide +kernel
theorem d_Tw_leave_103 : decode c_Tw_leave 103 = .ok (.iadd, 1) := by decide +kernel
theorem d_Tw_leave_104 : decode c_Tw_leave 104 = .ok (.iload 5, 2) := by decide +kernel
theorem d_Tw_leave_106 : decode c_Tw_leave 106 = .ok (.iastore, 1) := by decide +kernel
theorem d_Tw_leave_107 : decode c_Tw_leave 107 = .ok (.iinc 3 1, 3) := by decide +kernel
theorem d_Tw_leave_110 : decode c_Tw_leave 110 = .ok (.iinc 4 1, 3) := by decide +kernel
theorem d_Tw_leave_113 : decode c_Tw_leave 113 = .ok (.goto (-51), 3) := by decide +kernel
theorem d_Tw_leave_116 : decode c_Tw_leave 116 = .ok (.aload_n 0, 1) := by decide +kernel
theorem d_Tw_leave_117 : decode c_Tw_leave 117 = .ok (.getfield 42, 3) := by decide +kernel
theorem d_Tw_leave_120 : decode c_Tw_leave 120 = .ok (.iload_n 2, 1) := by decide +kernel
theorem d_Tw_leave_121 : decode c_Tw_leave 121 = .ok (.iload_n 3, 1) := by decide +kernel
theorem d_Tw_leave_122 : decode c_Tw_leave 122 = .ok (.iastore, 1) := by decide +kernel
theorem d_Tw_leave_123 : decode c_Tw_leave 123 = .ok (.aload_n 0, 1) := by decide +kernel
theorem d_Tw_leave_124 : decode c_Tw_leave 124 = .ok (.getfield 48, 3) := by decide +kernel
theorem d_Tw_leave_127 : decode c_Tw_leave 127 = .ok (.iload_n 1, 1) := by decide +kernel
theorem d_Tw_leave_128 : decode c_Tw_leave 128 = .ok (.iconst (-1), 1) := by decide +kernel
theorem d_Tw_leave_129 : decode c_Tw_leave 129 = .ok (.iastore, 1) := by decide +kernel
theorem d_Tw_leave_130 : decode c_Tw_leave 130 = .ok (.iload_n 3, 1) := by decide +kernel
theorem d_Tw_leave_131 : decode c_Tw_leave 131 = .ok (.ireturn, 1) := by decide +kernel
theorem d_Tw_limit_0 : decode c_Tw_limit 0 = .ok (.aload_n 0, 1) := by decide +kernel
theorem d_Tw_limit_1 : decode c_Tw_limit 1 = .ok (.iload_n 1, 1) := by decide +kernel
theorem d_Tw_limit_2 : decode c_Tw_limit 2 = .ok (.iconst 0, 1) := by decide +kernel
theorem d_Tw_limit_3 : decode c_Tw_limit 3 = .ok (.sipush 4000, 3) := by decide +kernel
theorem d_Tw_limit_6 : decode c_Tw_limit 6 = .ok (.invokestatic 60, 3) := by decide +kernel
theorem d_Tw_limit_9 : decode c_Tw_limit 9 = .ok (.ifCond .eq 14, 3) := by decide +kernel
theorem d_Tw_limit_12 : decode c_Tw_limit 12 = .ok (.iload_n 2, 1) := by decide +kernel
theorem d_Tw_limit_13 : decode c_Tw_limit 13 = .ok (.iconst 1, 1) := by decide +kernel
theorem d_Tw_limit_14 : decode c_Tw_limit 14 = .ok (.sipush 400, 3) := by decide +kernel
theorem d_Tw_limit_17 : decode c_Tw_limit 17 = .ok (.invokestatic 60, 3) := by decide +kernel
theorem d_Tw_limit_20 : decode c_Tw_limit 20 = .ok (.ifCond .ne 7, 3) := by decide +kernel
theorem d_Tw_limit_23 : decode c_Tw_limit 23 = .ok (.iconst 1, 1) := by decide +kernel
theorem d_Tw_limit_24 : decode c_Tw_limit 24 = .ok (.goto 4, 3) := by decide +kernel
theorem d_Tw_limit_27 : decode c_Tw_limit 27 = .ok (.iconst 0, 1) := by decide +kernel
theorem d_Tw_limit_28 : decode c_Tw_limit 28 = .ok (.putfield 54, 3) := by decide +kernel
theorem d_Tw_limit_31 : decode c_Tw_limit 31 = .ok (.aload_n 0, 1) := by decide +kernel
theorem d_Tw_limit_32 : decode c_Tw_limit 32 = .ok (.getfield 54, 3) := by decide +kernel
theorem d_Tw_limit_35 : decode c_Tw_limit 35 = .ok (.ifCond .le 5, 3) := by decide +kernel
theorem d_Tw_limit_38 : decode c_Tw_limit 38 = .ok (.iconst 0, 1) := by decide +kernel
theorem d_Tw_limit_39 : decode c_Tw_limit 39 = .ok (.ireturn, 1) := by decide +kernel
theorem d_Tw_limit_40 : decode c_Tw_limit 40 = .ok (.aload_n 0, 1) := by decide +kernel
theorem d_Tw_limit_41 : decode c_Tw_limit 41 = .ok (.iload_n 1, 1) := by decide +kernel
theorem d_Tw_limit_42 : decode c_Tw_limit 42 = .ok (.putfield 32, 3) := by decide +kernel
theorem d_Tw_limit_45 : decode c_Tw_limit 45 = .ok (.aload_n 0, 1) := by decide +kernel
theorem d_Tw_limit_46 : decode c_Tw_limit 46 = .ok (.iload_n 2, 1) := by decide +kernel
theorem d_Tw_limit_47 : decode c_Tw_limit 47 = .ok (.putfield 36, 3) := by decide +kernel
theorem d_Tw_limit_50 : decode c_Tw_limit 50 = .ok (.iconst 0, 1) := by decide +kernel
theorem d_Tw_limit_51 : decode c_Tw_limit 51 = .ok (.istore_n 3, 1) := by decide +kernel
theorem d_Tw_limit_52 : decode c_Tw_limit 52 = .ok (.iconst 0, 1) := by decide +kernel
theorem d_Tw_limit_53 : decode c_Tw_limit 53 = .ok (.istore 4, 2) := by decide +kernel
theorem d_Tw_limit_55 : decode c_Tw_limit 55 = .ok (.iload 4, 2) := by decide +kernel
theorem d_Tw_limit_57 : decode c_Tw_limit 57 = .ok (.aload_n 0, 1) := by decide +kernel
theorem d_Tw_limit_58 : decode c_Tw_limit 58 = .ok (.getfield 57, 3) := by decide +kernel
theorem d_Tw_limit_61 : decode c_Tw_limit 61 = .ok (.if_icmp .ge 39, 3) := by decide +kernel
theorem d_Tw_limit_64 : decode c_Tw_limit 64 = .ok (.iload_n 3, 1) := by decide +kernel
theorem d_Tw_limit_65 : decode c_Tw_limit 65 = .ok (.aload_n 0, 1) := by decide +kernel
theorem d_Tw_limit_66 : decode c_Tw_limit 66 = .ok (.getfield 19, 3) := by decide +kernel
theorem d_Tw_limit_69 : decode c_Tw_limit 69 = .ok (.iload 4, 2) := by decide +kernel
theorem d_Tw_limit_71 : decode c_Tw_limit 71 = .ok (.iaload, 1) := by decide +kernel
theorem d_Tw_limit_72 : decode c_Tw_limit 72 = .ok (.iload_n 1, 1) := by decide +kernel
theorem d_Tw_limit_73 : decode c_Tw_limit 73 = .ok (.if_icmp .gt 14, 3) := by decide +kernel
theorem d_Tw_limit_76 : decode c_Tw_limit 76 = .ok (.aload_n 0, 1) := by decide +kernel
theorem d_Tw_limit_77 : decode c_Tw_limit 77 = .ok (.getfield 13, 3) := by decide +kernel
theorem d_Tw_limit_80 : decode c_Tw_limit 80 = .ok (.iload 4, 2) := by decide +kernel
theorem d_Tw_limit_82 : decode c_Tw_limit 82 = .ok (.iaload, 1) := by decide +kernel
theorem d_Tw_limit_83 : decode c_Tw_limit 83 = .ok (.iload_n 2, 1) := by decide +kernel
theorem d_Tw_limit_84 : decode c_Tw_limit 84 = .ok (.if_icmp .le 7, 3) := by decide +kernel
theorem d_Tw_limit_87 : decode c_Tw_limit 87 = .ok (.iconst 1, 1) := by decide +kernel
theorem d_Tw_limit_88 : decode c_Tw_limit 88 = .ok (.goto 4, 3) := by decide +kernel
theorem d_Tw_limit_91 : decode c_Tw_limit 91 = .ok (.iconst 0, 1) := by decide +kernel
theorem d_Tw_limit_92 : decode c_Tw_limit 92 = .ok (.iadd, 1) := by decide +kernel
theorem d_Tw_limit_93 : decode c_Tw_limit 93 = .ok (.istore_n 3, 1) := by decide +kernel
theorem d_Tw_limit_94 : decode c_Tw_limit 94 = .ok (.iinc 4 1, 3) := by decide +kernel
theorem d_Tw_limit_97 : decode c_Tw_limit 97 = .ok (.goto (-42), 3) := by decide +kernel
theorem d_Tw_limit_100 : decode c_Tw_limit 100 = .ok (.iload_n 3, 1) := by decide +kernel
theorem d_Tw_limit_101 : decode c_Tw_limit 101 = .ok (.ireturn, 1) := by decide +kernel
theorem d_Tw_lowest_0 : decode c_Tw_lowest 0 = .ok (.iconst 0, 1) := by decide +kernel
theorem d_Tw_lowest_1 : decode c_Tw_lowest 1 = .ok (.istore_n 1, 1) := by decide +kernel
theorem d_Tw_lowest_2 : decode c_Tw_lowest 2 = .ok (.iload_n 0, 1) := by decide +kernel
theorem d_Tw_lowest_3 : decode c_Tw_lowest 3 = .ok (.iload_n 1, 1) := by decide +kernel
theorem d_Tw_lowest_4 : decode c_Tw_lowest 4 = .ok (.ishr, 1) := by decide +kernel
theorem d_Tw_lowest_5 : decode c_Tw_lowest 5 = .ok (.iconst 1, 1) := by decide +kernel
theorem d_Tw_lowest_6 : decode c_Tw_lowest 6 = .ok (.iand, 1) := by decide +kernel
theorem d_Tw_lowest_7 : decode c_Tw_lowest 7 = .ok (.ifCond .ne 9, 3) := by decide +kernel
theorem d_Tw_lowest_10 : decode c_Tw_lowest 10 = .ok (.iinc 1 1, 3) := by decide +kernel
theorem d_Tw_lowest_13 : decode c_Tw_lowest 13 = .ok (.goto (-11), 3) := by decide +kernel
theorem d_Tw_lowest_16 : decode c_Tw_lowest 16 = .ok (.iload_n 1, 1) := by decide +kernel
theorem d_Tw_lowest_17 : decode c_Tw_lowest 17 = .ok (.ireturn, 1) := by decide +kernel
theorem d_Tw_match_0 : decode c_Tw_match 0 = .ok (.aload_n 0, 1) := by decide +kernel
theorem d_Tw_match_1 : decode c_Tw_match 1 = .ok (.iload_n 1, 1) := by decide +kernel
theorem d_Tw_match_2 : decode c_Tw_match 2 = .ok (.iconst 0, 1) := by decide +kernel
theorem d_Tw_match_3 : decode c_Tw_match 3 = .ok (.bipush 10, 2) := by decide +kernel
theorem d_Tw_match_5 : decode c_Tw_match 5 = .ok (.invokestatic 60, 3) := by decide +kernel
theorem d_Tw_match_8 : decode c_Tw_match 8 = .ok (.ifCond .eq 7, 3) := by decide +kernel
theorem d_Tw_match_11 : decode c_Tw_match 11 = .ok (.iconst 0, 1) := by decide +kernel
theorem d_Tw_match_12 : decode c_Tw_match 12 = .ok (.goto 4, 3) := by decide +kernel
theorem d_Tw_match_15 : decode c_Tw_match 15 = .ok (.iconst 1, 1) := by decide +kernel
theorem d_Tw_match_16 : decode c_Tw_match 16 = .ok (.putfield 54, 3) := by decide +kernel
theorem d_Tw_match_19 : decode c_Tw_match 19 = .ok (.aload_n 0, 1) := by decide +kernel
theorem d_Tw_match_20 : decode c_Tw_match 20 = .ok (.getfield 54, 3) := by decide +kernel
theorem d_Tw_match_23 : decode c_Tw_match 23 = .ok (.ifCond .le 5, 3) := by decide +kernel
theorem d_Tw_match_26 : decode c_Tw_match 26 = .ok (.iconst 0, 1) := by decide +kernel
theorem d_Tw_match_27 : decode c_Tw_match 27 = .ok (.ireturn, 1) := by decide +kernel
theorem d_Tw_match_28 : decode c_Tw_match 28 = .ok (.iconst 0, 1) := by decide +kernel
theorem d_Tw_match_29 : decode c_Tw_match 29 = .ok (.istore_n 2, 1) := by decide +kernel
theorem d_Tw_match_30 : decode c_Tw_match 30 = .ok (.iconst 0, 1) := by decide +kernel
theorem d_Tw_match_31 : decode c_Tw_match 31 = .ok (.istore_n 3, 1) := by decide +kernel
theorem d_Tw_match_32 : decode c_Tw_match 32 = .ok (.iload_n 3, 1) := by decide +kernel
theorem d_Tw_match_33 : decode c_Tw_match 33 = .ok (.aload_n 0, 1) := by decide +kernel
theorem d_Tw_match_34 : decode c_Tw_match 34 = .ok (.getfield 57, 3) := by decide +kernel
theorem d_Tw_match_37 : decode c_Tw_match 37 = .ok (.if_icmp .ge 34, 3) := by decide +kernel
theorem d_Tw_match_40 : decode c_Tw_match 40 = .ok (.aload_n 0, 1) := by decide +kernel
theorem d_Tw_match_41 : decode c_Tw_match 41 = .ok (.getfield 39, 3) := by decide +kernel
theorem d_Tw_match_44 : decode c_Tw_match 44 = .ok (.iload_n 3, 1) := by decide +kernel
theorem d_Tw_match_45 : decode c_Tw_match 45 = .ok (.iconst (-1), 1) := by decide +kernel
theorem d_Tw_match_46 : decode c_Tw_match 46 = .ok (.iastore, 1) := by decide +kernel
theorem d_Tw_match_47 : decode c_Tw_match 47 = .ok (.iload_n 2, 1) := by decide +kernel
theorem d_Tw_match_48 : decode c_Tw_match 48 = .ok (.aload_n 0, 1) := by decide +kernel
theorem d_Tw_match_49 : decode c_Tw_match 49 = .ok (.iload_n 3, 1) := by decide +kernel
theorem d_Tw_match_50 : decode c_Tw_match 50 = .ok (.invokevirtual 82, 3) := by decide +kernel
theorem d_Tw_match_53 : decode c_Tw_match 53 = .ok (.ifCond .eq 9, 3) := by decide +kernel
theorem d_Tw_match_56 : decode c_Tw_match 56 = .ok (.iconst 1, 1) := by decide +kernel
theorem d_Tw_match_57 : decode c_Tw_match 57 = .ok (.iload_n 3, 1) := by decide +kernel
theorem d_Tw_match_58 : decode c_Tw_match 58 = .ok (.ishl, 1) := by decide +kernel
theorem d_Tw_match_59 : decode c_Tw_match 59 = .ok (.goto 4, 3) := by decide +kernel
theorem d_Tw_match_62 : decode c_Tw_match 62 = .ok (.iconst 0, 1) := by decide +kernel
theorem d_Tw_match_63 : decode c_Tw_match 63 = .ok (.ior, 1) := by decide +kernel
theorem d_Tw_match_64 : decode c_Tw_match 64 = .ok (.istore_n 2, 1) := by decide +kernel
theorem d_Tw_match_65 : decode c_Tw_match 65 = .ok (.iinc 3 1, 3) := by decide +kernel
theorem d_Tw_match_68 : decode c_Tw_match 68 = .ok (.goto (-36), 3) := by decide +kernel
theorem d_Tw_match_71 : decode c_Tw_match 71 = .ok (.aload_n 0, 1) := by decide +kernel
theorem d_Tw_match_72 : decode c_Tw_match 72 = .ok (.aload_n 0, 1) := by decide +kernel
theorem d_Tw_match_73 : decode c_Tw_match 73 = .ok (.invokevirtual 96, 3) := by decide +kernel
theorem d_Tw_match_76 : decode c_Tw_match 76 = .ok (.iload_n 1, 1) := by decide +kernel
theorem d_Tw_match_77 : decode c_Tw_match 77 = .ok (.if_icmp .gt 7, 3) := by decide +kernel
theorem d_Tw_match_80 : decode c_Tw_match 80 = .ok (.iconst 1, 1) := by decide +kernel
theorem d_Tw_match_81 : decode c_Tw_match 81 = .ok (.goto 4, 3) := by decide +kernel
theorem d_Tw_match_84 : decode c_Tw_match 84 = .ok (.iconst 0, 1) := by decide +kernel
theorem d_Tw_match_85 : decode c_Tw_match 85 = .ok (.putfield 100, 3) := by decide +kernel
theorem d_Tw_match_88 : decode c_Tw_match 88 = .ok (.aload_n 0, 1) := by decide +kernel
theorem d_Tw_match_89 : decode c_Tw_match 89 = .ok (.getfield 100, 3) := by decide +kernel
theorem d_Tw_match_92 : decode c_Tw_match 92 = .ok (.ifCond .eq 11, 3) := by decide +kernel
theorem d_Tw_match_95 : decode c_Tw_match 95 = .ok (.aload_n 0, 1) := by decide +kernel
theorem d_Tw_match_96 : decode c_Tw_match 96 = .ok (.iload_n 2, 1) := by decide +kernel
theorem d_Tw_match_97 : decode c_Tw_match 97 = .ok (.invokevirtual 104, 3) := by decide +kernel
theorem d_Tw_match_100 : decode c_Tw_match 100 = .ok (.goto 8, 3) := by decide +kernel
theorem d_Tw_match_103 : decode c_Tw_match 103 = .ok (.aload_n 0, 1) := by decide +kernel
theorem d_Tw_match_104 : decode c_Tw_match 104 = .ok (.iload_n 2, 1) := by decide +kernel
theorem d_Tw_match_105 : decode c_Tw_match 105 = .ok (.invokevirtual 108, 3) := by decide +kernel
theorem d_Tw_match_108 : decode c_Tw_match 108 = .ok (.aload_n 0, 1) := by decide +kernel
theorem d_Tw_match_109 : decode c_Tw_match 109 = .ok (.invokevirtual 111, 3) := by decide +kernel
theorem d_Tw_match_112 : decode c_Tw_match 112 = .ok (.ireturn, 1) := by decide +kernel
theorem d_Tw_mayBe_0 : decode c_Tw_mayBe 0 = .ok (.iconst 0, 1) := by decide +kernel
theorem d_Tw_mayBe_1 : decode c_Tw_mayBe 1 = .ok (.istore_n 2, 1) := by decide +kernel
theorem d_Tw_mayBe_2 : decode c_Tw_mayBe 2 = .ok (.iconst 0, 1) := by decide +kernel
theorem d_Tw_mayBe_3 : decode c_Tw_mayBe 3 = .ok (.istore_n 3, 1) := by decide +kernel
theorem d_Tw_mayBe_4 : decode c_Tw_mayBe 4 = .ok (.iconst 0, 1) := by decide +kernel
theorem d_Tw_mayBe_5 : decode c_Tw_mayBe 5 = .ok (.istore 4, 2) := by decide +kernel
theorem d_Tw_mayBe_7 : decode c_Tw_mayBe 7 = .ok (.iload 4, 2) := by decide +kernel
theorem d_Tw_mayBe_9 : decode c_Tw_mayBe 9 = .ok (.aload_n 0, 1) := by decide +kernel
theorem d_Tw_mayBe_10 : decode c_Tw_mayBe 10 = .ok (.getfield 57, 3) := by decide +kernel
theorem d_Tw_mayBe_13 : decode c_Tw_mayBe 13 = .ok (.if_icmp .ge 110, 3) := by decide +kernel
theorem d_Tw_mayBe_16 : decode c_Tw_mayBe 16 = .ok (.iload_n 1, 1) := by decide +kernel
theorem d_Tw_mayBe_17 : decode c_Tw_mayBe 17 = .ok (.iload 4, 2) := by decide +kernel
theorem d_Tw_mayBe_19 : decode c_Tw_mayBe 19 = .ok (.ishr, 1) := by decide +kernel
theorem d_Tw_mayBe_20 : decode c_Tw_mayBe 20 = .ok (.iconst 1, 1) := by decide +kernel
theorem d_Tw_mayBe_21 : decode c_Tw_mayBe 21 = .ok (.iand, 1) := by decide +kernel
theorem d_Tw_mayBe_22 : decode c_Tw_mayBe 22 = .ok (.ifCond .ne 6, 3) := by decide +kernel
theorem d_Tw_mayBe_25 : decode c_Tw_mayBe 25 = .ok (.goto 92, 3) := by decide +kernel
theorem d_Tw_mayBe_28 : decode c_Tw_mayBe 28 = .ok (.iload_n 2, 1) := by decide +kernel
theorem d_Tw_mayBe_29 : decode c_Tw_mayBe 29 = .ok (.aload_n 0, 1) := by decide +kernel
theorem d_Tw_mayBe_30 : decode c_Tw_mayBe 30 = .ok (.getfield 13, 3) := by decide +kernel
theorem d_Tw_mayBe_33 : decode c_Tw_mayBe 33 = .ok (.iload 4, 2) := by decide +kernel
theorem d_Tw_mayBe_35 : decode c_Tw_mayBe 35 = .ok (.iaload, 1) := by decide +kernel
theorem d_Tw_mayBe_36 : decode c_Tw_mayBe 36 = .ok (.iadd, 1) := by decide +kernel
theorem d_Tw_mayBe_37 : decode c_Tw_mayBe 37 = .ok (.istore_n 2, 1) := by decide +kernel
theorem d_Tw_mayBe_38 : decode c_Tw_mayBe 38 = .ok (.iload_n 3, 1) := by decide +kernel
theorem d_Tw_mayBe_39 : decode c_Tw_mayBe 39 = .ok (.aload_n 0, 1) := by decide +kernel
theorem d_Tw_mayBe_40 : decode c_Tw_mayBe 40 = .ok (.getfield 19, 3) := by decide +kernel
theorem d_Tw_mayBe_43 : decode c_Tw_mayBe 43 = .ok (.iload 4, 2) := by decide +kernel
theorem d_Tw_mayBe_45 : decode c_Tw_mayBe 45 = .ok (.iaload, 1) := by decide +kernel
theorem d_Tw_mayBe_46 : decode c_Tw_mayBe 46 = .ok (.iadd, 1) := by decide +kernel
theorem d_Tw_mayBe_47 : decode c_Tw_mayBe 47 = .ok (.istore_n 3, 1) := by decide +kernel
theorem d_Tw_mayBe_48 : decode c_Tw_mayBe 48 = .ok (.iconst 0, 1) := by decide +kernel
theorem d_Tw_mayBe_49 : decode c_Tw_mayBe 49 = .ok (.istore 5, 2) := by decide +kernel
theorem d_Tw_mayBe_51 : decode c_Tw_mayBe 51 = .ok (.iload 5, 2) := by decide +kernel
theorem d_Tw_mayBe_53 : decode c_Tw_mayBe 53 = .ok (.iload 4, 2) := by decide +kernel
theorem d_Tw_mayBe_55 : decode c_Tw_mayBe 55 = .ok (.if_icmp .ge 62, 3) := by decide +kernel
theorem d_Tw_mayBe_58 : decode c_Tw_mayBe 58 = .ok (.iload_n 1, 1) := by decide +kernel
theorem d_Tw_mayBe_59 : decode c_Tw_mayBe 59 = .ok (.iload 5, 2) := by decide +kernel
theorem d_Tw_mayBe_61 : decode c_Tw_mayBe 61 = .ok (.ishr, 1) := by decide +kernel
theorem d_Tw_mayBe_62 : decode c_Tw_mayBe 62 = .ok (.iconst 1, 1) := by decide +kernel
theorem d_Tw_mayBe_63 : decode c_Tw_mayBe 63 = .ok (.iand, 1) := by decide +kernel
theorem d_Tw_mayBe_64 : decode c_Tw_mayBe 64 = .ok (.iconst 1, 1) := by decide +kernel
theorem d_Tw_mayBe_65 : decode c_Tw_mayBe 65 = .ok (.if_icmp .ne 46, 3) := by decide +kernel
theorem d_Tw_mayBe_68 : decode c_Tw_mayBe 68 = .ok (.aload_n 0, 1) := by decide +kernel
theorem d_Tw_mayBe_69 : decode c_Tw_mayBe 69 = .ok (.getfield 25, 3) := by decide +kernel
theorem d_Tw_mayBe_72 : decode c_Tw_mayBe 72 = .ok (.bipush 10, 2) := by decide +kernel
theorem d_Tw_mayBe_74 : decode c_Tw_mayBe 74 = .ok (.iload 4, 2) := by decide +kernel
theorem d_Tw_mayBe_76 : decode c_Tw_mayBe 76 = .ok (.imul, 1) := by decide +kernel
theorem d_Tw_mayBe_77 : decode c_Tw_mayBe 77 = .ok (.iload 5, 2) := by decide +kernel
theorem d_Tw_mayBe_79 : decode c_Tw_mayBe 79 = .ok (.iadd, 1) := by decide +kernel
theorem d_Tw_mayBe_80 : decode c_Tw_mayBe 80 = .ok (.baload, 1) := by decide +kernel
theorem d_Tw_mayBe_81 : decode c_Tw_mayBe 81 = .ok (.ifCond .ne 28, 3) := by decide +kernel
theorem d_Tw_mayBe_84 : decode c_Tw_mayBe 84 = .ok (.aload_n 0, 1) := by decide +kernel
theorem d_Tw_mayBe_85 : decode c_Tw_mayBe 85 = .ok (.getfield 29, 3) := by decide +kernel
theorem d_Tw_mayBe_88 : decode c_Tw_mayBe 88 = .ok (.iconst 4, 1) := by decide +kernel
theorem d_Tw_mayBe_89 : decode c_Tw_mayBe 89 = .ok (.aload_n 0, 1) := by decide +kernel
theorem d_Tw_mayBe_90 : decode c_Tw_mayBe 90 = .ok (.getfield 16, 3) := by decide +kernel
theorem d_Tw_mayBe_93 : decode c_Tw_mayBe 93 = .ok (.iload 4, 2) := by decide +kernel
theorem d_Tw_mayBe_95 : decode c_Tw_mayBe 95 = .ok (.iaload, 1) := by decide +kernel
theorem d_Tw_mayBe_96 : decode c_Tw_mayBe 96 = .ok (.imul, 1) := by decide +kernel
theorem d_Tw_mayBe_97 : decode c_Tw_mayBe 97 = .ok (.aload_n 0, 1) := by decide +kernel
theorem d_Tw_mayBe_98 : decode c_Tw_mayBe 98 = .ok (.getfield 16, 3) := by decide +kernel
theorem d_Tw_mayBe_101 : decode c_Tw_mayBe 101 = .ok (.iload 5, 2) := by decide +kernel
theorem d_Tw_mayBe_103 : decode c_Tw_mayBe 103 = .ok (.iaload, 1) := by decide +kernel
theorem d_Tw_mayBe_104 : decode c_Tw_mayBe 104 = .ok (.iadd, 1) := by decide +kernel
theorem d_Tw_mayBe_105 : decode c_Tw_mayBe 105 = .ok (.baload, 1) := by decide +kernel
theorem d_Tw_mayBe_106 : decode c_Tw_mayBe 106 = .ok (.ifCond .ne 5, 3) := by decide +kernel
theorem d_Tw_mayBe_109 : decode c_Tw_mayBe 109 = .ok (.iconst 0, 1) := by decide +kernel
theorem d_Tw_mayBe_110 : decode c_Tw_mayBe 110 = .ok (.ireturn, 1) := by decide +kernel
theorem d_Tw_mayBe_111 : decode c_Tw_mayBe 111 = .ok (.iinc 5 1, 3) := by decide +kernel
theorem d_Tw_mayBe_114 : decode c_Tw_mayBe 114 = .ok (.goto (-63), 3) := by decide +kernel
theorem d_Tw_mayBe_117 : decode c_Tw_mayBe 117 = .ok (.iinc 4 1, 3) := by decide +kernel
theorem d_Tw_mayBe_120 : decode c_Tw_mayBe 120 = .ok (.goto (-113), 3) := by decide +kernel
theorem d_Tw_mayBe_123 : decode c_Tw_mayBe 123 = .ok (.iload_n 2, 1) := by decide +kernel
theorem d_Tw_mayBe_124 : decode c_Tw_mayBe 124 = .ok (.aload_n 0, 1) := by decide +kernel
theorem d_Tw_mayBe_125 : decode c_Tw_mayBe 125 = .ok (.getfield 36, 3) := by decide +kernel
theorem d_Tw_mayBe_128 : decode c_Tw_mayBe 128 = .ok (.if_icmp .gt 15, 3) := by decide +kernel
theorem d_Tw_mayBe_131 : decode c_Tw_mayBe 131 = .ok (.iload_n 3, 1) := by decide +kernel
theorem d_Tw_mayBe_132 : decode c_Tw_mayBe 132 = .ok (.aload_n 0, 1) := by decide +kernel
theorem d_Tw_mayBe_133 : decode c_Tw_mayBe 133 = .ok (.getfield 32, 3) := by decide +kernel
theorem d_Tw_mayBe_136 : decode c_Tw_mayBe 136 = .ok (.if_icmp .gt 7, 3) := by decide +kernel
theorem d_Tw_mayBe_139 : decode c_Tw_mayBe 139 = .ok (.iconst 1, 1) := by decide +kernel
theorem d_Tw_mayBe_140 : decode c_Tw_mayBe 140 = .ok (.goto 4, 3) := by decide +kernel
theorem d_Tw_mayBe_143 : decode c_Tw_mayBe 143 = .ok (.iconst 0, 1) := by decide +kernel
theorem d_Tw_mayBe_144 : decode c_Tw_mayBe 144 = .ok (.ireturn, 1) := by decide +kernel
theorem d_Tw_mayCome_0 : decode c_Tw_mayCome 0 = .ok (.aload_n 0, 1) := by decide +kernel
theorem d_Tw_mayCome_1 : decode c_Tw_mayCome 1 = .ok (.aload_n 0, 1) := by decide +kernel
theorem d_Tw_mayCome_2 : decode c_Tw_mayCome 2 = .ok (.iload_n 2, 1) := by decide +kernel
theorem d_Tw_mayCome_3 : decode c_Tw_mayCome 3 = .ok (.invokevirtual 120, 3) := by decide +kernel
theorem d_Tw_mayCome_6 : decode c_Tw_mayCome 6 = .ok (.iconst 1, 1) := by decide +kernel
theorem d_Tw_mayCome_7 : decode c_Tw_mayCome 7 = .ok (.iload_n 1, 1) := by decide +kernel
theorem d_Tw_mayCome_8 : decode c_Tw_mayCome 8 = .ok (.ishl, 1) := by decide +kernel
theorem d_Tw_mayCome_9 : decode c_Tw_mayCome 9 = .ok (.ior, 1) := by decide +kernel
theorem d_Tw_mayCome_10 : decode c_Tw_mayCome 10 = .ok (.invokevirtual 75, 3) := by decide +kernel
theorem d_Tw_mayCome_13 : decode c_Tw_mayCome 13 = .ok (.ifCond .eq 16, 3) := by decide +kernel
theorem d_Tw_mayCome_16 : decode c_Tw_mayCome 16 = .ok (.aload_n 0, 1) := by decide +kernel
theorem d_Tw_mayCome_17 : decode c_Tw_mayCome 17 = .ok (.iload_n 1, 1) := by decide +kernel
theorem d_Tw_mayCome_18 : decode c_Tw_mayCome 18 = .ok (.iload_n 2, 1) := by decide +kernel
theorem d_Tw_mayCome_19 : decode c_Tw_mayCome 19 = .ok (.invokevirtual 123, 3) := by decide +kernel
theorem d_Tw_mayCome_22 : decode c_Tw_mayCome 22 = .ok (.ifCond .lt 7, 3) := by decide +kernel
theorem d_Tw_mayCome_25 : decode c_Tw_mayCome 25 = .ok (.iconst 1, 1) := by decide +kernel
theorem d_Tw_mayCome_26 : decode c_Tw_mayCome 26 = .ok (.goto 4, 3) := by decide +kernel
theorem d_Tw_mayCome_29 : decode c_Tw_mayCome 29 = .ok (.iconst 0, 1) := by decide +kernel
theorem d_Tw_mayCome_30 : decode c_Tw_mayCome 30 = .ok (.ireturn, 1) := by decide +kernel
theorem d_Tw_mayMatch_0 : decode c_Tw_mayMatch 0 = .ok (.aload_n 0, 1) := by decide +kernel
theorem d_Tw_mayMatch_1 : decode c_Tw_mayMatch 1 = .ok (.iload_n 1, 1) := by decide +kernel
theorem d_Tw_mayMatch_2 : decode c_Tw_mayMatch 2 = .ok (.iload_n 2, 1) := by decide +kernel
theorem d_Tw_mayMatch_3 : decode c_Tw_mayMatch 3 = .ok (.invokevirtual 71, 3) := by decide +kernel
theorem d_Tw_mayMatch_6 : decode c_Tw_mayMatch 6 = .ok (.ifCond .le 16, 3) := by decide +kernel
theorem d_Tw_mayMatch_9 : decode c_Tw_mayMatch 9 = .ok (.aload_n 0, 1) := by decide +kernel
theorem d_Tw_mayMatch_10 : decode c_Tw_mayMatch 10 = .ok (.iload_n 1, 1) := by decide +kernel
theorem d_Tw_mayMatch_11 : decode c_Tw_mayMatch 11 = .ok (.iload_n 2, 1) := by decide +kernel
theorem d_Tw_mayMatch_12 : decode c_Tw_mayMatch 12 = .ok (.invokevirtual 78, 3) := by decide +kernel
theorem d_Tw_mayMatch_15 : decode c_Tw_mayMatch 15 = .ok (.ifCond .eq 7, 3) := by decide +kernel
theorem d_Tw_mayMatch_18 : decode c_Tw_mayMatch 18 = .ok (.iconst 1, 1) := by decide +kernel
theorem d_Tw_mayMatch_19 : decode c_Tw_mayMatch 19 = .ok (.goto 4, 3) := by decide +kernel
theorem d_Tw_mayMatch_22 : decode c_Tw_mayMatch 22 = .ok (.iconst 0, 1) := by decide +kernel
theorem d_Tw_mayMatch_23 : decode c_Tw_mayMatch 23 = .ok (.ireturn, 1) := by decide +kernel
theorem d_Tw_mayPair_0 : decode c_Tw_mayPair 0 = .ok (.aload_n 0, 1) := by decide +kernel
theorem d_Tw_mayPair_1 : decode c_Tw_mayPair 1 = .ok (.iconst 1, 1) := by decide +kernel
theorem d_Tw_mayPair_2 : decode c_Tw_mayPair 2 = .ok (.iload_n 1, 1) := by decide +kernel
theorem d_Tw_mayPair_3 : decode c_Tw_mayPair 3 = .ok (.ishl, 1) := by decide +kernel
theorem d_Tw_mayPair_4 : decode c_Tw_mayPair 4 = .ok (.iconst 1, 1) := by decide +kernel
theorem d_Tw_mayPair_5 : decode c_Tw_mayPair 5 = .ok (.iload_n 2, 1) := by decide +kernel
theorem d_Tw_mayPair_6 : decode c_Tw_mayPair 6 = .ok (.ishl, 1) := by decide +kernel
theorem d_Tw_mayPair_7 : decode c_Tw_mayPair 7 = .ok (.ior, 1) := by decide +kernel
theorem d_Tw_mayPair_8 : decode c_Tw_mayPair 8 = .ok (.invokevirtual 75, 3) := by decide +kernel
theorem d_Tw_mayPair_11 : decode c_Tw_mayPair 11 = .ok (.ireturn, 1) := by decide +kernel
theorem d_Tw_mean_0 : decode c_Tw_mean 0 = .ok (.aload_n 0, 1) := by decide +kernel
theorem d_Tw_mean_1 : decode c_Tw_mean 1 = .ok (.aload_n 0, 1) := by decide +kernel
theorem d_Tw_mean_2 : decode c_Tw_mean 2 = .ok (.getfield 57, 3) := by decide +kernel
theorem d_Tw_mean_5 : decode c_Tw_mean 5 = .ok (.ifCond .ne 7, 3) := by decide +kernel
theorem d_Tw_mean_8 : decode c_Tw_mean 8 = .ok (.iconst 1, 1) := by decide +kernel
theorem d_Tw_mean_9 : decode c_Tw_mean 9 = .ok (.goto 4, 3) := by decide +kernel
theorem d_Tw_mean_12 : decode c_Tw_mean 12 = .ok (.iconst 0, 1) := by decide +kernel
theorem d_Tw_mean_13 : decode c_Tw_mean 13 = .ok (.putfield 54, 3) := by decide +kernel
theorem d_Tw_mean_16 : decode c_Tw_mean 16 = .ok (.aload_n 0, 1) := by decide +kernel
theorem d_Tw_mean_17 : decode c_Tw_mean 17 = .ok (.getfield 54, 3) := by decide +kernel
theorem d_Tw_mean_20 : decode c_Tw_mean 20 = .ok (.ifCond .le 5, 3) := by decide +kernel
theorem d_Tw_mean_23 : decode c_Tw_mean 23 = .ok (.iconst 0, 1) := by decide +kernel
theorem d_Tw_mean_24 : decode c_Tw_mean 24 = .ok (.ireturn, 1) := by decide +kernel
theorem d_Tw_mean_25 : decode c_Tw_mean 25 = .ok (.aload_n 0, 1) := by decide +kernel
theorem d_Tw_mean_26 : decode c_Tw_mean 26 = .ok (.invokevirtual 111, 3) := by decide +kernel
theorem d_Tw_mean_29 : decode c_Tw_mean 29 = .ok (.istore_n 1, 1) := by decide +kernel
theorem d_Tw_mean_30 : decode c_Tw_mean 30 = .ok (.iconst 0, 1) := by decide +kernel
theorem d_Tw_mean_31 : decode c_Tw_mean 31 = .ok (.istore_n 2, 1) := by decide +kernel
theorem d_Tw_mean_32 : decode c_Tw_mean 32 = .ok (.iload_n 2, 1) := by decide +kernel
theorem d_Tw_mean_33 : decode c_Tw_mean 33 = .ok (.aload_n 0, 1) := by decide +kernel
theorem d_Tw_mean_34 : decode c_Tw_mean 34 = .ok (.getfield 64, 3) := by decide +kernel
theorem d_Tw_mean_37 : decode c_Tw_mean 37 = .ok (.if_icmp .ge 23, 3) := by decide +kernel
theorem d_Tw_mean_40 : decode c_Tw_mean 40 = .ok (.iload_n 1, 1) := by decide +kernel
theorem d_Tw_mean_41 : decode c_Tw_mean 41 = .ok (.aload_n 0, 1) := by decide +kernel
theorem d_Tw_mean_42 : decode c_Tw_mean 42 = .ok (.iload_n 2, 1) := by decide +kernel
theorem d_Tw_mean_43 : decode c_Tw_mean 43 = .ok (.invokevirtual 135, 3) := by decide +kernel
theorem d_Tw_mean_46 : decode c_Tw_mean 46 = .ok (.aload_n 0, 1) := by decide +kernel
theorem d_Tw_mean_47 : decode c_Tw_mean 47 = .ok (.iload_n 2, 1) := by decide +kernel
theorem d_Tw_mean_48 : decode c_Tw_mean 48 = .ok (.invokevirtual 132, 3) := by decide +kernel
theorem d_Tw_mean_51 : decode c_Tw_mean 51 = .ok (.isub, 1) := by decide +kernel
theorem d_Tw_mean_52 : decode c_Tw_mean 52 = .ok (.iadd, 1) := by decide +kernel
theorem d_Tw_mean_53 : decode c_Tw_mean 53 = .ok (.istore_n 1, 1) := by decide +kernel
theorem d_Tw_mean_54 : decode c_Tw_mean 54 = .ok (.iinc 2 1, 3) := by decide +kernel
theorem d_Tw_mean_57 : decode c_Tw_mean 57 = .ok (.goto (-25), 3) := by decide +kernel
theorem d_Tw_mean_60 : decode c_Tw_mean 60 = .ok (.iload_n 1, 1) := by decide +kernel
theorem d_Tw_mean_61 : decode c_Tw_mean 61 = .ok (.aload_n 0, 1) := by decide +kernel
theorem d_Tw_mean_62 : decode c_Tw_mean 62 = .ok (.getfield 57, 3) := by decide +kernel
theorem d_Tw_mean_65 : decode c_Tw_mean 65 = .ok (.idiv, 1) := by decide +kernel
theorem d_Tw_mean_66 : decode c_Tw_mean 66 = .ok (.ireturn, 1) := by decide +kernel
theorem d_Tw_near_0 : decode c_Tw_near 0 = .ok (.aload_n 0, 1) := by decide +kernel
theorem d_Tw_near_1 : decode c_Tw_near 1 = .ok (.iload_n 1, 1) := by decide +kernel
theorem d_Tw_near_2 : decode c_Tw_near 2 = .ok (.iconst 0, 1) := by decide +kernel
theorem d_Tw_near_3 : decode c_Tw_near 3 = .ok (.iconst 3, 1) := by decide +kernel
theorem d_Tw_near_4 : decode c_Tw_near 4 = .ok (.invokestatic 60, 3) := by decide +kernel
theorem d_Tw_near_7 : decode c_Tw_near 7 = .ok (.ifCond .eq 17, 3) := by decide +kernel
theorem d_Tw_near_10 : decode c_Tw_near 10 = .ok (.iload_n 2, 1) := by decide +kernel
theorem d_Tw_near_11 : decode c_Tw_near 11 = .ok (.iconst 0, 1) := by decide +kernel
theorem d_Tw_near_12 : decode c_Tw_near 12 = .ok (.iconst 3, 1) := by decide +kernel
theorem d_Tw_near_13 : decode c_Tw_near 13 = .ok (.invokestatic 60, 3) := by decide +kernel
theorem d_Tw_near_16 : decode c_Tw_near 16 = .ok (.ifCond .eq 8, 3) := by decide +kernel
theorem d_Tw_near_19 : decode c_Tw_near 19 = .ok (.iload_n 1, 1) := by decide +kernel
theorem d_Tw_near_20 : decode c_Tw_near 20 = .ok (.iload_n 2, 1) := by decide +kernel
theorem d_Tw_near_21 : decode c_Tw_near 21 = .ok (.if_icmp .ne 7, 3) := by decide +kernel
theorem d_Tw_near_24 : decode c_Tw_near 24 = .ok (.iconst 1, 1) := by decide +kernel
theorem d_Tw_near_25 : decode c_Tw_near 25 = .ok (.goto 4, 3) := by decide +kernel
theorem d_Tw_near_28 : decode c_Tw_near 28 = .ok (.iconst 0, 1) := by decide +kernel
theorem d_Tw_near_29 : decode c_Tw_near 29 = .ok (.putfield 54, 3) := by decide +kernel
theorem d_Tw_near_32 : decode c_Tw_near 32 = .ok (.aload_n 0, 1) := by decide +kernel
theorem d_Tw_near_33 : decode c_Tw_near 33 = .ok (.getfield 54, 3) := by decide +kernel
theorem d_Tw_near_36 : decode c_Tw_near 36 = .ok (.ifCond .le 4, 3) := by decide +kernel
theorem d_Tw_near_39 : decode c_Tw_near 39 = .ok (.return_, 1) := by decide +kernel
theorem d_Tw_near_40 : decode c_Tw_near 40 = .ok (.aload_n 0, 1) := by decide +kernel
theorem d_Tw_near_41 : decode c_Tw_near 41 = .ok (.getfield 29, 3) := by decide +kernel
theorem d_Tw_near_44 : decode c_Tw_near 44 = .ok (.iconst 4, 1) := by decide +kernel
theorem d_Tw_near_45 : decode c_Tw_near 45 = .ok (.iload_n 1, 1) := by decide +kernel
theorem d_Tw_near_46 : decode c_Tw_near 46 = .ok (.imul, 1) := by decide +kernel
theorem d_Tw_near_47 : decode c_Tw_near 47 = .ok (.iload_n 2, 1) := by decide +kernel
theorem d_Tw_near_48 : decode c_Tw_near 48 = .ok (.iadd, 1) := by decide +kernel
theorem d_Tw_near_49 : decode c_Tw_near 49 = .ok (.iload_n 3, 1) := by decide +kernel
theorem d_Tw_near_50 : decode c_Tw_near 50 = .ok (.bastore, 1) := by decide +kernel
theorem d_Tw_near_51 : decode c_Tw_near 51 = .ok (.aload_n 0, 1) := by decide +kernel
theorem d_Tw_near_52 : decode c_Tw_near 52 = .ok (.getfield 29, 3) := by decide +kernel
theorem d_Tw_near_55 : decode c_Tw_near 55 = .ok (.iconst 4, 1) := by decide +kernel
theorem d_Tw_near_56 : decode c_Tw_near 56 = .ok (.iload_n 2, 1) := by decide +kernel
theorem d_Tw_near_57 : decode c_Tw_near 57 = .ok (.imul, 1) := by decide +kernel
theorem d_Tw_near_58 : decode c_Tw_near 58 = .ok (.iload_n 1, 1) := by decide +kernel
theorem d_Tw_near_59 : decode c_Tw_near 59 = .ok (.iadd, 1) := by decide +kernel
theorem d_Tw_near_60 : decode c_Tw_near 60 = .ok (.iload_n 3, 1) := by decide +kernel
theorem d_Tw_near_61 : decode c_Tw_near 61 = .ok (.bastore, 1) := by decide +kernel
theorem d_Tw_near_62 : decode c_Tw_near 62 = .ok (.return_, 1) := by decide +kernel
theorem d_Tw_open_0 : decode c_Tw_open 0 = .ok (.aload_n 0, 1) := by decide +kernel
theorem d_Tw_open_1 : decode c_Tw_open 1 = .ok (.aload_n 0, 1) := by decide +kernel
theorem d_Tw_open_2 : decode c_Tw_open 2 = .ok (.iload_n 1, 1) := by decide +kernel
theorem d_Tw_open_3 : decode c_Tw_open 3 = .ok (.invokevirtual 67, 3) := by decide +kernel
theorem d_Tw_open_6 : decode c_Tw_open 6 = .ok (.ifCond .ne 7, 3) := by decide +kernel
theorem d_Tw_open_9 : decode c_Tw_open 9 = .ok (.iconst 1, 1) := by decide +kernel
theorem d_Tw_open_10 : decode c_Tw_open 10 = .ok (.goto 4, 3) := by decide +kernel
theorem d_Tw_open_13 : decode c_Tw_open 13 = .ok (.iconst 0, 1) := by decide +kernel
theorem d_Tw_open_14 : decode c_Tw_open 14 = .ok (.putfield 54, 3) := by decide +kernel
theorem d_Tw_open_17 : decode c_Tw_open 17 = .ok (.aload_n 0, 1) := by decide +kernel
theorem d_Tw_open_18 : decode c_Tw_open 18 = .ok (.getfield 54, 3) := by decide +kernel
theorem d_Tw_open_21 : decode c_Tw_open 21 = .ok (.ifCond .ne 33, 3) := by decide +kernel
theorem d_Tw_open_24 : decode c_Tw_open 24 = .ok (.aload_n 0, 1) := by decide +kernel
theorem d_Tw_open_25 : decode c_Tw_open 25 = .ok (.aload_n 0, 1) := by decide +kernel
theorem d_Tw_open_26 : decode c_Tw_open 26 = .ok (.iload_n 1, 1) := by decide +kernel
theorem d_Tw_open_27 : decode c_Tw_open 27 = .ok (.invokevirtual 82, 3) := by decide +kernel
theorem d_Tw_open_30 : decode c_Tw_open 30 = .ok (.ifCond .ne 7, 3) := by decide +kernel
theorem d_Tw_open_33 : decode c_Tw_open 33 = .ok (.iconst 2, 1) := by decide +kernel
theorem d_Tw_open_34 : decode c_Tw_open 34 = .ok (.goto 17, 3) := by decide +kernel
theorem d_Tw_open_37 : decode c_Tw_open 37 = .ok (.aload_n 0, 1) := by decide +kernel
theorem d_Tw_open_38 : decode c_Tw_open 38 = .ok (.getfield 64, 3) := by decide +kernel
theorem d_Tw_open_41 : decode c_Tw_open 41 = .ok (.bipush 10, 2) := by decide +kernel
theorem d_Tw_open_43 : decode c_Tw_open 43 = .ok (.if_icmp .ne 7, 3) := by decide +kernel
theorem d_Tw_open_46 : decode c_Tw_open 46 = .ok (.iconst 3, 1) := by decide +kernel
theorem d_Tw_open_47 : decode c_Tw_open 47 = .ok (.goto 4, 3) := by decide +kernel
theorem d_Tw_open_50 : decode c_Tw_open 50 = .ok (.iconst 0, 1) := by decide +kernel
theorem d_Tw_open_51 : decode c_Tw_open 51 = .ok (.putfield 54, 3) := by decide +kernel
theorem d_Tw_open_54 : decode c_Tw_open 54 = .ok (.aload_n 0, 1) := by decide +kernel
theorem d_Tw_open_55 : decode c_Tw_open 55 = .ok (.getfield 54, 3) := by decide +kernel
theorem d_Tw_open_58 : decode c_Tw_open 58 = .ok (.ifCond .le 5, 3) := by decide +kernel
theorem d_Tw_open_61 : decode c_Tw_open 61 = .ok (.iconst 0, 1) := by decide +kernel
theorem d_Tw_open_62 : decode c_Tw_open 62 = .ok (.ireturn, 1) := by decide +kernel
theorem d_Tw_open_63 : decode c_Tw_open 63 = .ok (.aload_n 0, 1) := by decide +kernel
theorem d_Tw_open_64 : decode c_Tw_open 64 = .ok (.getfield 39, 3) := by decide +kernel
theorem d_Tw_open_67 : decode c_Tw_open 67 = .ok (.iload_n 1, 1) := by decide +kernel
theorem d_Tw_open_68 : decode c_Tw_open 68 = .ok (.iaload, 1) := by decide +kernel
theorem d_Tw_open_69 : decode c_Tw_open 69 = .ok (.istore_n 2, 1) := by decide +kernel
theorem d_Tw_open_70 : decode c_Tw_open 70 = .ok (.aload_n 0, 1) := by decide +kernel
theorem d_Tw_open_71 : decode c_Tw_open 71 = .ok (.dup, 1) := by decide +kernel
theorem d_Tw_open_72 : decode c_Tw_open 72 = .ok (.getfield 64, 3) := by decide +kernel
theorem d_Tw_open_75 : decode c_Tw_open 75 = .ok (.iconst 1, 1) := by decide +kernel
theorem d_Tw_open_76 : decode c_Tw_open 76 = .ok (.iadd, 1) := by decide +kernel
theorem d_Tw_open_77 : decode c_Tw_open 77 = .ok (.putfield 64, 3) := by decide +kernel
theorem d_Tw_open_80 : decode c_Tw_open 80 = .ok (.aload_n 0, 1) := by decide +kernel
theorem d_Tw_open_81 : decode c_Tw_open 81 = .ok (.iload_n 1, 1) := by decide +kernel
theorem d_Tw_open_82 : decode c_Tw_open 82 = .ok (.aload_n 0, 1) := by decide +kernel
theorem d_Tw_open_83 : decode c_Tw_open 83 = .ok (.getfield 64, 3) := by decide +kernel
theorem d_Tw_open_86 : decode c_Tw_open 86 = .ok (.iconst 1, 1) := by decide +kernel
theorem d_Tw_open_87 : decode c_Tw_open 87 = .ok (.isub, 1) := by decide +kernel
theorem d_Tw_open_88 : decode c_Tw_open 88 = .ok (.invokevirtual 117, 3) := by decide +kernel
theorem d_Tw_open_91 : decode c_Tw_open 91 = .ok (.iload_n 2, 1) := by decide +kernel
theorem d_Tw_open_92 : decode c_Tw_open 92 = .ok (.iconst (-1), 1) := by decide +kernel
theorem d_Tw_open_93 : decode c_Tw_open 93 = .ok (.if_icmp .eq 14, 3) := by decide +kernel
theorem d_Tw_open_96 : decode c_Tw_open 96 = .ok (.aload_n 0, 1) := by decide +kernel
theorem d_Tw_open_97 : decode c_Tw_open 97 = .ok (.iload_n 2, 1) := by decide +kernel
theorem d_Tw_open_98 : decode c_Tw_open 98 = .ok (.aload_n 0, 1) := by decide +kernel
theorem d_Tw_open_99 : decode c_Tw_open 99 = .ok (.getfield 64, 3) := by decide +kernel
theorem d_Tw_open_102 : decode c_Tw_open 102 = .ok (.iconst 1, 1) := by decide +kernel
theorem d_Tw_open_103 : decode c_Tw_open 103 = .ok (.isub, 1) := by decide +kernel
theorem d_Tw_open_104 : decode c_Tw_open 104 = .ok (.invokevirtual 117, 3) := by decide +kernel
theorem d_Tw_open_107 : decode c_Tw_open 107 = .ok (.aload_n 0, 1) := by decide +kernel
theorem d_Tw_open_108 : decode c_Tw_open 108 = .ok (.getfield 64, 3) := by decide +kernel
theorem d_Tw_open_111 : decode c_Tw_open 111 = .ok (.iconst 1, 1) := by decide +kernel
theorem d_Tw_open_112 : decode c_Tw_open 112 = .ok (.isub, 1) := by decide +kernel
theorem d_Tw_open_113 : decode c_Tw_open 113 = .ok (.ireturn, 1) := by decide +kernel
theorem d_Tw_order_0 : decode c_Tw_order 0 = .ok (.aload_n 0, 1) := by decide +kernel
theorem d_Tw_order_1 : decode c_Tw_order 1 = .ok (.iload_n 1, 1) := by decide +kernel
theorem d_Tw_order_2 : decode c_Tw_order 2 = .ok (.iconst 1, 1) := by decide +kernel
theorem d_Tw_order_3 : decode c_Tw_order 3 = .ok (.sipush 10000, 3) := by decide +kernel
theorem d_Tw_order_6 : decode c_Tw_order 6 = .ok (.invokestatic 60, 3) := by decide +kernel
theorem d_Tw_order_9 : decode c_Tw_order 9 = .ok (.ifCond .eq 22, 3) := by decide +kernel
theorem d_Tw_order_12 : decode c_Tw_order 12 = .ok (.iload_n 2, 1) := by decide +kernel
theorem d_Tw_order_13 : decode c_Tw_order 13 = .ok (.iconst 1, 1) := by decide +kernel
theorem d_Tw_order_14 : decode c_Tw_order 14 = .ok (.bipush 100, 2) := by decide +kernel
theorem d_Tw_order_16 : decode c_Tw_order 16 = .ok (.invokestatic 60, 3) := by decide +kernel
theorem d_Tw_order_19 : decode c_Tw_order 19 = .ok (.ifCond .eq 12, 3) := by decide +kernel
theorem d_Tw_order_22 : decode c_Tw_order 22 = .ok (.iload_n 3, 1) := by decide +kernel
theorem d_Tw_order_23 : decode c_Tw_order 23 = .ok (.iconst 0, 1) := by decide +kernel
theorem d_Tw_order_24 : decode c_Tw_order 24 = .ok (.iconst 3, 1) := by decide +kernel
theorem d_Tw_order_25 : decode c_Tw_order 25 = .ok (.invokestatic 60, 3) := by decide +kernel
theorem d_Tw_order_28 : decode c_Tw_order 28 = .ok (.ifCond .ne 7, 3) := by decide +kernel
theorem d_Tw_order_31 : decode c_Tw_order 31 = .ok (.iconst 1, 1) := by decide +kernel
theorem d_Tw_order_32 : decode c_Tw_order 32 = .ok (.goto 17, 3) := by decide +kernel
theorem d_Tw_order_35 : decode c_Tw_order 35 = .ok (.aload_n 0, 1) := by decide +kernel
theorem d_Tw_order_36 : decode c_Tw_order 36 = .ok (.getfield 57, 3) := by decide +kernel
theorem d_Tw_order_39 : decode c_Tw_order 39 = .ok (.bipush 10, 2) := by decide +kernel
theorem d_Tw_order_41 : decode c_Tw_order 41 = .ok (.if_icmp .ne 7, 3) := by decide +kernel
theorem d_Tw_order_44 : decode c_Tw_order 44 = .ok (.iconst 2, 1) := by decide +kernel
theorem d_Tw_order_45 : decode c_Tw_order 45 = .ok (.goto 4, 3) := by decide +kernel
theorem d_Tw_order_48 : decode c_Tw_order 48 = .ok (.iconst 0, 1) := by decide +kernel
theorem d_Tw_order_49 : decode c_Tw_order 49 = .ok (.putfield 54, 3) := by decide +kernel
theorem d_Tw_order_52 : decode c_Tw_order 52 = .ok (.aload_n 0, 1) := by decide +kernel
theorem d_Tw_order_53 : decode c_Tw_order 53 = .ok (.getfield 54, 3) := by decide +kernel
theorem d_Tw_order_56 : decode c_Tw_order 56 = .ok (.ifCond .le 5, 3) := by decide +kernel
theorem d_Tw_order_59 : decode c_Tw_order 59 = .ok (.iconst 0, 1) := by decide +kernel
theorem d_Tw_order_60 : decode c_Tw_order 60 = .ok (.ireturn, 1) := by decide +kernel
theorem d_Tw_order_61 : decode c_Tw_order 61 = .ok (.aload_n 0, 1) := by decide +kernel
theorem d_Tw_order_62 : decode c_Tw_order 62 = .ok (.getfield 7, 3) := by decide +kernel
theorem d_Tw_order_65 : decode c_Tw_order 65 = .ok (.aload_n 0, 1) := by decide +kernel
theorem d_Tw_order_66 : decode c_Tw_order 66 = .ok (.getfield 57, 3) := by decide +kernel
theorem d_Tw_order_69 : decode c_Tw_order 69 = .ok (.iload_n 1, 1) := by decide +kernel
theorem d_Tw_order_70 : decode c_Tw_order 70 = .ok (.iastore, 1) := by decide +kernel
theorem d_Tw_order_71 : decode c_Tw_order 71 = .ok (.aload_n 0, 1) := by decide +kernel
theorem d_Tw_order_72 : decode c_Tw_order 72 = .ok (.getfield 13, 3) := by decide +kernel
theorem d_Tw_order_75 : decode c_Tw_order 75 = .ok (.aload_n 0, 1) := by decide +kernel
theorem d_Tw_order_76 : decode c_Tw_order 76 = .ok (.getfield 57, 3) := by decide +kernel
theorem d_Tw_order_79 : decode c_Tw_order 79 = .ok (.iload_n 2, 1) := by decide +kernel
theorem d_Tw_order_80 : decode c_Tw_order 80 = .ok (.iastore, 1) := by decide +kernel
theorem d_Tw_order_81 : decode c_Tw_order 81 = .ok (.aload_n 0, 1) := by decide +kernel
theorem d_Tw_order_82 : decode c_Tw_order 82 = .ok (.getfield 16, 3) := by decide +kernel
theorem d_Tw_order_85 : decode c_Tw_order 85 = .ok (.aload_n 0, 1) := by decide +kernel
theorem d_Tw_order_86 : decode c_Tw_order 86 = .ok (.getfield 57, 3) := by decide +kernel
theorem d_Tw_order_89 : decode c_Tw_order 89 = .ok (.iload_n 3, 1) := by decide +kernel
theorem d_Tw_order_90 : decode c_Tw_order 90 = .ok (.iastore, 1) := by decide +kernel
theorem d_Tw_order_91 : decode c_Tw_order 91 = .ok (.aload_n 0, 1) := by decide +kernel
theorem d_Tw_order_92 : decode c_Tw_order 92 = .ok (.dup, 1) := by decide +kernel
theorem d_Tw_order_93 : decode c_Tw_order 93 = .ok (.getfield 57, 3) := by decide +kernel
theorem d_Tw_order_96 : decode c_Tw_order 96 = .ok (.iconst 1, 1) := by decide +kernel
theorem d_Tw_order_97 : decode c_Tw_order 97 = .ok (.iadd, 1) := by decide +kernel
theorem d_Tw_order_98 : decode c_Tw_order 98 = .ok (.putfield 57, 3) := by decide +kernel
theorem d_Tw_order_101 : decode c_Tw_order 101 = .ok (.aload_n 0, 1) := by decide +kernel
theorem d_Tw_order_102 : decode c_Tw_order 102 = .ok (.getfield 57, 3) := by decide +kernel
theorem d_Tw_order_105 : decode c_Tw_order 105 = .ok (.iconst 1, 1) := by decide +kernel
theorem d_Tw_order_106 : decode c_Tw_order 106 = .ok (.isub, 1) := by decide +kernel
theorem d_Tw_order_107 : decode c_Tw_order 107 = .ok (.ireturn, 1) := by decide +kernel
theorem d_Tw_pair_0 : decode c_Tw_pair 0 = .ok (.aload_n 0, 1) := by decide +kernel
theorem d_Tw_pair_1 : decode c_Tw_pair 1 = .ok (.getfield 39, 3) := by decide +kernel
theorem d_Tw_pair_4 : decode c_Tw_pair 4 = .ok (.iload_n 1, 1) := by decide +kernel
theorem d_Tw_pair_5 : decode c_Tw_pair 5 = .ok (.iload_n 2, 1) := by decide +kernel
theorem d_Tw_pair_6 : decode c_Tw_pair 6 = .ok (.iastore, 1) := by decide +kernel
theorem d_Tw_pair_7 : decode c_Tw_pair 7 = .ok (.aload_n 0, 1) := by decide +kernel
theorem d_Tw_pair_8 : decode c_Tw_pair 8 = .ok (.getfield 39, 3) := by decide +kernel
theorem d_Tw_pair_11 : decode c_Tw_pair 11 = .ok (.iload_n 2, 1) := by decide +kernel
theorem d_Tw_pair_12 : decode c_Tw_pair 12 = .ok (.iload_n 1, 1) := by decide +kernel
theorem d_Tw_pair_13 : decode c_Tw_pair 13 = .ok (.iastore, 1) := by decide +kernel
theorem d_Tw_pair_14 : decode c_Tw_pair 14 = .ok (.return_, 1) := by decide +kernel
theorem d_Tw_pairSavings_0 : decode c_Tw_pairSavings 0 = .ok (.iconst 0, 1) := by decide +kernel
theorem d_Tw_pairSavings_1 : decode c_Tw_pairSavings 1 = .ok (.istore_n 1, 1) := by decide +kernel
theorem d_Tw_pairSavings_2 : decode c_Tw_pairSavings 2 = .ok (.iconst 0, 1) := by decide +kernel
theorem d_Tw_pairSavings_3 : decode c_Tw_pairSavings 3 = .ok (.istore_n 2, 1) := by decide +kernel
theorem d_Tw_pairSavings_4 : decode c_Tw_pairSavings 4 = .ok (.iload_n 2, 1) := by decide +kernel
theorem d_Tw_pairSavings_5 : decode c_Tw_pairSavings 5 = .ok (.aload_n 0, 1) := by decide +kernel
theorem d_Tw_pairSavings_6 : decode c_Tw_pairSavings 6 = .ok (.getfield 57, 3) := by decide +kernel
theorem d_Tw_pairSavings_9 : decode c_Tw_pairSavings 9 = .ok (.if_icmp .ge 37, 3) := by decide +kernel
theorem d_Tw_pairSavings_12 : decode c_Tw_pairSavings 12 = .ok (.iload_n 1, 1) := by decide +kernel
theorem d_Tw_pairSavings_13 : decode c_Tw_pairSavings 13 = .ok (.aload_n 0, 1) := by decide +kernel
theorem d_Tw_pairSavings_14 : decode c_Tw_pairSavings 14 = .ok (.getfield 39, 3) := by decide +kernel
theorem d_Tw_pairSavings_17 : decode c_Tw_pairSavings 17 = .ok (.iload_n 2, 1) := by decide +kernel
theorem d_Tw_pairSavings_18 : decode c_Tw_pairSavings 18 = .ok (.iaload, 1) := by decide +kernel
theorem d_Tw_pairSavings_19 : decode c_Tw_pairSavings 19 = .ok (.iload_n 2, 1) := by decide +kernel
theorem d_Tw_pairSavings_20 : decode c_Tw_pairSavings 20 = .ok (.if_icmp .le 17, 3) := by decide +kernel
theorem d_Tw_pairSavings_23 : decode c_Tw_pairSavings 23 = .ok (.aload_n 0, 1) := by decide +kernel
theorem d_Tw_pairSavings_24 : decode c_Tw_pairSavings 24 = .ok (.iload_n 2, 1) := by decide +kernel
theorem d_Tw_pairSavings_25 : decode c_Tw_pairSavings 25 = .ok (.aload_n 0, 1) := by decide +kernel
theorem d_Tw_pairSavings_26 : decode c_Tw_pairSavings 26 = .ok (.getfield 39, 3) := by decide +kernel
theorem d_Tw_pairSavings_29 : decode c_Tw_pairSavings 29 = .ok (.iload_n 2, 1) := by decide +kernel
theorem d_Tw_pairSavings_30 : decode c_Tw_pairSavings 30 = .ok (.iaload, 1) := by decide +kernel
theorem d_Tw_pairSavings_31 : decode c_Tw_pairSavings 31 = .ok (.invokevirtual 71, 3) := by decide +kernel
theorem d_Tw_pairSavings_34 : decode c_Tw_pairSavings 34 = .ok (.goto 4, 3) := by decide +kernel
theorem d_Tw_pairSavings_37 : decode c_Tw_pairSavings 37 = .ok (.iconst 0, 1) := by decide +kernel
theorem d_Tw_pairSavings_38 : decode c_Tw_pairSavings 38 = .ok (.iadd, 1) := by decide +kernel
theorem d_Tw_pairSavings_39 : decode c_Tw_pairSavings 39 = .ok (.istore_n 1, 1) := by decide +kernel
theorem d_Tw_pairSavings_40 : decode c_Tw_pairSavings 40 = .ok (.iinc 2 1, 3) := by decide +kernel
theorem d_Tw_pairSavings_43 : decode c_Tw_pairSavings 43 = .ok (.goto (-39), 3) := by decide +kernel
theorem d_Tw_pairSavings_46 : decode c_Tw_pairSavings 46 = .ok (.iload_n 1, 1) := by decide +kernel
theorem d_Tw_pairSavings_47 : decode c_Tw_pairSavings 47 = .ok (.ireturn, 1) := by decide +kernel
theorem d_Tw_pairs_0 : decode c_Tw_pairs 0 = .ok (.iconst 0, 1) := by decide +kernel
theorem d_Tw_pairs_1 : decode c_Tw_pairs 1 = .ok (.istore_n 1, 1) := by decide +kernel
theorem d_Tw_pairs_2 : decode c_Tw_pairs 2 = .ok (.iconst 0, 1) := by decide +kernel
theorem d_Tw_pairs_3 : decode c_Tw_pairs 3 = .ok (.istore_n 2, 1) := by decide +kernel
theorem d_Tw_pairs_4 : decode c_Tw_pairs 4 = .ok (.iload_n 2, 1) := by decide +kernel
theorem d_Tw_pairs_5 : decode c_Tw_pairs 5 = .ok (.aload_n 0, 1) := by decide +kernel
theorem d_Tw_pairs_6 : decode c_Tw_pairs 6 = .ok (.getfield 57, 3) := by decide +kernel
theorem d_Tw_pairs_9 : decode c_Tw_pairs 9 = .ok (.if_icmp .ge 27, 3) := by decide +kernel
theorem d_Tw_pairs_12 : decode c_Tw_pairs 12 = .ok (.iload_n 1, 1) := by decide +kernel
theorem d_Tw_pairs_13 : decode c_Tw_pairs 13 = .ok (.aload_n 0, 1) := by decide +kernel
theorem d_Tw_pairs_14 : decode c_Tw_pairs 14 = .ok (.getfield 39, 3) := by decide +kernel
theorem d_Tw_pairs_17 : decode c_Tw_pairs 17 = .ok (.iload_n 2, 1) := by decide +kernel
theorem d_Tw_pairs_18 : decode c_Tw_pairs 18 = .ok (.iaload, 1) := by decide +kernel
theorem d_Tw_pairs_19 : decode c_Tw_pairs 19 = .ok (.iload_n 2, 1) := by decide +kernel
theorem d_Tw_pairs_20 : decode c_Tw_pairs 20 = .ok (.if_icmp .le 7, 3) := by decide +kernel
theorem d_Tw_pairs_23 : decode c_Tw_pairs 23 = .ok (.iconst 1, 1) := by decide +kernel
theorem d_Tw_pairs_24 : decode c_Tw_pairs 24 = .ok (.goto 4, 3) := by decide +kernel
theorem d_Tw_pairs_27 : decode c_Tw_pairs 27 = .ok (.iconst 0, 1) := by decide +kernel
theorem d_Tw_pairs_28 : decode c_Tw_pairs 28 = .ok (.iadd, 1) := by decide +kernel
theorem d_Tw_pairs_29 : decode c_Tw_pairs 29 = .ok (.istore_n 1, 1) := by decide +kernel
theorem d_Tw_pairs_30 : decode c_Tw_pairs 30 = .ok (.iinc 2 1, 3) := by decide +kernel
theorem d_Tw_pairs_33 : decode c_Tw_pairs 33 = .ok (.goto (-29), 3) := by decide +kernel
theorem d_Tw_pairs_36 : decode c_Tw_pairs 36 = .ok (.iload_n 1, 1) := by decide +kernel
theorem d_Tw_pairs_37 : decode c_Tw_pairs 37 = .ok (.ireturn, 1) := by decide +kernel
theorem d_Tw_put_0 : decode c_Tw_put 0 = .ok (.aload_n 0, 1) := by decide +kernel
theorem d_Tw_put_1 : decode c_Tw_put 1 = .ok (.iload_n 1, 1) := by decide +kernel
theorem d_Tw_put_2 : decode c_Tw_put 2 = .ok (.invokevirtual 114, 3) := by decide +kernel
theorem d_Tw_put_5 : decode c_Tw_put 5 = .ok (.aload_n 0, 1) := by decide +kernel
theorem d_Tw_put_6 : decode c_Tw_put 6 = .ok (.getfield 45, 3) := by decide +kernel
theorem d_Tw_put_9 : decode c_Tw_put 9 = .ok (.iconst 4, 1) := by decide +kernel
theorem d_Tw_put_10 : decode c_Tw_put 10 = .ok (.iload_n 2, 1) := by decide +kernel
theorem d_Tw_put_11 : decode c_Tw_put 11 = .ok (.imul, 1) := by decide +kernel
theorem d_Tw_put_12 : decode c_Tw_put 12 = .ok (.aload_n 0, 1) := by decide +kernel
theorem d_Tw_put_13 : decode c_Tw_put 13 = .ok (.getfield 42, 3) := by decide +kernel
theorem d_Tw_put_16 : decode c_Tw_put 16 = .ok (.iload_n 2, 1) := by decide +kernel
theorem d_Tw_put_17 : decode c_Tw_put 17 = .ok (.iaload, 1) := by decide +kernel
theorem d_Tw_put_18 : decode c_Tw_put 18 = .ok (.iadd, 1) := by decide +kernel
theorem d_Tw_put_19 : decode c_Tw_put 19 = .ok (.iload_n 1, 1) := by decide +kernel
theorem d_Tw_put_20 : decode c_Tw_put 20 = .ok (.iastore, 1) := by decide +kernel
theorem d_Tw_put_21 : decode c_Tw_put 21 = .ok (.aload_n 0, 1) := by decide +kernel
theorem d_Tw_put_22 : decode c_Tw_put 22 = .ok (.getfield 42, 3) := by decide +kernel
theorem d_Tw_put_25 : decode c_Tw_put 25 = .ok (.iload_n 2, 1) := by decide +kernel
theorem d_Tw_put_26 : decode c_Tw_put 26 = .ok (.dup2, 1) := by decide +kernel
theorem d_Tw_put_27 : decode c_Tw_put 27 = .ok (.iaload, 1) := by decide +kernel
theorem d_Tw_put_28 : decode c_Tw_put 28 = .ok (.iconst 1, 1) := by decide +kernel
theorem d_Tw_put_29 : decode c_Tw_put 29 = .ok (.iadd, 1) := by decide +kernel
theorem d_Tw_put_30 : decode c_Tw_put 30 = .ok (.iastore, 1) := by decide +kernel
theorem d_Tw_put_31 : decode c_Tw_put 31 = .ok (.aload_n 0, 1) := by decide +kernel
theorem d_Tw_put_32 : decode c_Tw_put 32 = .ok (.getfield 48, 3) := by decide +kernel
theorem d_Tw_put_35 : decode c_Tw_put 35 = .ok (.iload_n 1, 1) := by decide +kernel
theorem d_Tw_put_36 : decode c_Tw_put 36 = .ok (.iload_n 2, 1) := by decide +kernel
theorem d_Tw_put_37 : decode c_Tw_put 37 = .ok (.iastore, 1) := by decide +kernel
theorem d_Tw_put_38 : decode c_Tw_put 38 = .ok (.return_, 1) := by decide +kernel
theorem d_Tw_rule_0 : decode c_Tw_rule 0 = .ok (.aload_n 0, 1) := by decide +kernel
theorem d_Tw_rule_1 : decode c_Tw_rule 1 = .ok (.aload_n 0, 1) := by decide +kernel
theorem d_Tw_rule_2 : decode c_Tw_rule 2 = .ok (.iload_n 1, 1) := by decide +kernel
theorem d_Tw_rule_3 : decode c_Tw_rule 3 = .ok (.invokevirtual 67, 3) := by decide +kernel
theorem d_Tw_rule_6 : decode c_Tw_rule 6 = .ok (.ifCond .eq 11, 3) := by decide +kernel
theorem d_Tw_rule_9 : decode c_Tw_rule 9 = .ok (.aload_n 0, 1) := by decide +kernel
theorem d_Tw_rule_10 : decode c_Tw_rule 10 = .ok (.iload_n 2, 1) := by decide +kernel
theorem d_Tw_rule_11 : decode c_Tw_rule 11 = .ok (.invokevirtual 67, 3) := by decide +kernel
theorem d_Tw_rule_14 : decode c_Tw_rule 14 = .ok (.ifCond .ne 7, 3) := by decide +kernel
theorem d_Tw_rule_17 : decode c_Tw_rule 17 = .ok (.iconst 1, 1) := by decide +kernel
theorem d_Tw_rule_18 : decode c_Tw_rule 18 = .ok (.goto 13, 3) := by decide +kernel
theorem d_Tw_rule_21 : decode c_Tw_rule 21 = .ok (.iload_n 1, 1) := by decide +kernel
theorem d_Tw_rule_22 : decode c_Tw_rule 22 = .ok (.iload_n 2, 1) := by decide +kernel
theorem d_Tw_rule_23 : decode c_Tw_rule 23 = .ok (.if_icmp .ne 7, 3) := by decide +kernel
theorem d_Tw_rule_26 : decode c_Tw_rule 26 = .ok (.iconst 2, 1) := by decide +kernel
theorem d_Tw_rule_27 : decode c_Tw_rule 27 = .ok (.goto 4, 3) := by decide +kernel
theorem d_Tw_rule_30 : decode c_Tw_rule 30 = .ok (.iconst 0, 1) := by decide +kernel
theorem d_Tw_rule_31 : decode c_Tw_rule 31 = .ok (.putfield 54, 3) := by decide +kernel
theorem d_Tw_rule_34 : decode c_Tw_rule 34 = .ok (.aload_n 0, 1) := by decide +kernel
theorem d_Tw_rule_35 : decode c_Tw_rule 35 = .ok (.getfield 54, 3) := by decide +kernel
theorem d_Tw_rule_38 : decode c_Tw_rule 38 = .ok (.ifCond .le 5, 3) := by decide +kernel
theorem d_Tw_rule_41 : decode c_Tw_rule 41 = .ok (.iconst 0, 1) := by decide +kernel
theorem d_Tw_rule_42 : decode c_Tw_rule 42 = .ok (.ireturn, 1) := by decide +kernel
theorem d_Tw_rule_43 : decode c_Tw_rule 43 = .ok (.aload_n 0, 1) := by decide +kernel
theorem d_Tw_rule_44 : decode c_Tw_rule 44 = .ok (.getfield 25, 3) := by decide +kernel
theorem d_Tw_rule_47 : decode c_Tw_rule 47 = .ok (.bipush 10, 2) := by decide +kernel
theorem d_Tw_rule_49 : decode c_Tw_rule 49 = .ok (.iload_n 1, 1) := by decide +kernel
theorem d_Tw_rule_50 : decode c_Tw_rule 50 = .ok (.imul, 1) := by decide +kernel
theorem d_Tw_rule_51 : decode c_Tw_rule 51 = .ok (.iload_n 2, 1) := by decide +kernel
theorem d_Tw_rule_52 : decode c_Tw_rule 52 = .ok (.iadd, 1) := by decide +kernel
theorem d_Tw_rule_53 : decode c_Tw_rule 53 = .ok (.iload_n 3, 1) := by decide +kernel
theorem d_Tw_rule_54 : decode c_Tw_rule 54 = .ok (.bastore, 1) := by decide +kernel
theorem d_Tw_rule_55 : decode c_Tw_rule 55 = .ok (.aload_n 0, 1) := by decide +kernel
theorem d_Tw_rule_56 : decode c_Tw_rule 56 = .ok (.getfield 25, 3) := by decide +kernel
theorem d_Tw_rule_59 : decode c_Tw_rule 59 = .ok (.bipush 10, 2) := by decide +kernel
theorem d_Tw_rule_61 : decode c_Tw_rule 61 = .ok (.iload_n 2, 1) := by decide +kernel
theorem d_Tw_rule_62 : decode c_Tw_rule 62 = .ok (.imul, 1) := by decide +kernel
theorem d_Tw_rule_63 : decode c_Tw_rule 63 = .ok (.iload_n 1, 1) := by decide +kernel
theorem d_Tw_rule_64 : decode c_Tw_rule 64 = .ok (.iadd, 1) := by decide +kernel
theorem d_Tw_rule_65 : decode c_Tw_rule 65 = .ok (.iload_n 3, 1) := by decide +kernel
theorem d_Tw_rule_66 : decode c_Tw_rule 66 = .ok (.bastore, 1) := by decide +kernel
theorem d_Tw_rule_67 : decode c_Tw_rule 67 = .ok (.aload_n 0, 1) := by decide +kernel
theorem d_Tw_rule_68 : decode c_Tw_rule 68 = .ok (.iload_n 1, 1) := by decide +kernel
theorem d_Tw_rule_69 : decode c_Tw_rule 69 = .ok (.iload_n 2, 1) := by decide +kernel
theorem d_Tw_rule_70 : decode c_Tw_rule 70 = .ok (.invokevirtual 78, 3) := by decide +kernel
theorem d_Tw_rule_73 : decode c_Tw_rule 73 = .ok (.ireturn, 1) := by decide +kernel
theorem d_Tw_save_0 : decode c_Tw_save 0 = .ok (.aload_n 0, 1) := by decide +kernel
theorem d_Tw_save_1 : decode c_Tw_save 1 = .ok (.getfield 22, 3) := by decide +kernel
theorem d_Tw_save_4 : decode c_Tw_save 4 = .ok (.bipush 10, 2) := by decide +kernel
theorem d_Tw_save_6 : decode c_Tw_save 6 = .ok (.iload_n 1, 1) := by decide +kernel
theorem d_Tw_save_7 : decode c_Tw_save 7 = .ok (.imul, 1) := by decide +kernel
theorem d_Tw_save_8 : decode c_Tw_save 8 = .ok (.iload_n 2, 1) := by decide +kernel
theorem d_Tw_save_9 : decode c_Tw_save 9 = .ok (.iadd, 1) := by decide +kernel
theorem d_Tw_save_10 : decode c_Tw_save 10 = .ok (.iaload, 1) := by decide +kernel
theorem d_Tw_save_11 : decode c_Tw_save 11 = .ok (.istore_n 3, 1) := by decide +kernel
theorem d_Tw_save_12 : decode c_Tw_save 12 = .ok (.iload_n 3, 1) := by decide +kernel
theorem d_Tw_save_13 : decode c_Tw_save 13 = .ok (.iconst (-1), 1) := by decide +kernel
theorem d_Tw_save_14 : decode c_Tw_save 14 = .ok (.if_icmp .ne 7, 3) := by decide +kernel
theorem d_Tw_save_17 : decode c_Tw_save 17 = .ok (.iconst 0, 1) := by decide +kernel
theorem d_Tw_save_18 : decode c_Tw_save 18 = .ok (.goto 18, 3) := by decide +kernel
theorem d_Tw_save_21 : decode c_Tw_save 21 = .ok (.aload_n 0, 1) := by decide +kernel
theorem d_Tw_save_22 : decode c_Tw_save 22 = .ok (.getfield 7, 3) := by decide +kernel
theorem d_Tw_save_25 : decode c_Tw_save 25 = .ok (.iload_n 1, 1) := by decide +kernel
theorem d_Tw_save_26 : decode c_Tw_save 26 = .ok (.iaload, 1) := by decide +kernel
theorem d_Tw_save_27 : decode c_Tw_save 27 = .ok (.aload_n 0, 1) := by decide +kernel
theorem d_Tw_save_28 : decode c_Tw_save 28 = .ok (.getfield 7, 3) := by decide +kernel
theorem d_Tw_save_31 : decode c_Tw_save 31 = .ok (.iload_n 2, 1) := by decide +kernel
theorem d_Tw_save_32 : decode c_Tw_save 32 = .ok (.iaload, 1) := by decide +kernel
theorem d_Tw_save_33 : decode c_Tw_save 33 = .ok (.iadd, 1) := by decide +kernel
theorem d_Tw_save_34 : decode c_Tw_save 34 = .ok (.iload_n 3, 1) := by decide +kernel
theorem d_Tw_save_35 : decode c_Tw_save 35 = .ok (.isub, 1) := by decide +kernel
theorem d_Tw_save_36 : decode c_Tw_save 36 = .ok (.ireturn, 1) := by decide +kernel
theorem d_Tw_saving_0 : decode c_Tw_saving 0 = .ok (.aload_n 0, 1) := by decide +kernel
theorem d_Tw_saving_1 : decode c_Tw_saving 1 = .ok (.aload_n 0, 1) := by decide +kernel
theorem d_Tw_saving_2 : decode c_Tw_saving 2 = .ok (.iload_n 1, 1) := by decide +kernel
theorem d_Tw_saving_3 : decode c_Tw_saving 3 = .ok (.invokevirtual 67, 3) := by decide +kernel
theorem d_Tw_saving_6 : decode c_Tw_saving 6 = .ok (.ifCond .eq 11, 3) := by decide +kernel
theorem d_Tw_saving_9 : decode c_Tw_saving 9 = .ok (.aload_n 0, 1) := by decide +kernel
theorem d_Tw_saving_10 : decode c_Tw_saving 10 = .ok (.iload_n 2, 1) := by decide +kernel
theorem d_Tw_saving_11 : decode c_Tw_saving 11 = .ok (.invokevirtual 67, 3) := by decide +kernel
theorem d_Tw_saving_14 : decode c_Tw_saving 14 = .ok (.ifCond .ne 7, 3) := by decide +kernel
theorem d_Tw_saving_17 : decode c_Tw_saving 17 = .ok (.iconst 1, 1) := by decide +kernel
theorem d_Tw_saving_18 : decode c_Tw_saving 18 = .ok (.goto 13, 3) := by decide +kernel
theorem d_Tw_saving_21 : decode c_Tw_saving 21 = .ok (.iload_n 1, 1) := by decide +kernel
theorem d_Tw_saving_22 : decode c_Tw_saving 22 = .ok (.iload_n 2, 1) := by decide +kernel
theorem d_Tw_saving_23 : decode c_Tw_saving 23 = .ok (.if_icmp .ne 7, 3) := by decide +kernel
theorem d_Tw_saving_26 : decode c_Tw_saving 26 = .ok (.iconst 2, 1) := by decide +kernel
theorem d_Tw_saving_27 : decode c_Tw_saving 27 = .ok (.goto 4, 3) := by decide +kernel
theorem d_Tw_saving_30 : decode c_Tw_saving 30 = .ok (.iconst 0, 1) := by decide +kernel
theorem d_Tw_saving_31 : decode c_Tw_saving 31 = .ok (.putfield 54, 3) := by decide +kernel
theorem d_Tw_saving_34 : decode c_Tw_saving 34 = .ok (.aload_n 0, 1) := by decide +kernel
theorem d_Tw_saving_35 : decode c_Tw_saving 35 = .ok (.getfield 54, 3) := by decide +kernel
theorem d_Tw_saving_38 : decode c_Tw_saving 38 = .ok (.ifCond .le 7, 3) := by decide +kernel
theorem d_Tw_saving_41 : decode c_Tw_saving 41 = .ok (.iconst 0, 1) := by decide +kernel
theorem d_Tw_saving_42 : decode c_Tw_saving 42 = .ok (.goto 9, 3) := by decide +kernel
theorem d_Tw_saving_45 : decode c_Tw_saving 45 = .ok (.aload_n 0, 1) := by decide +kernel
theorem d_Tw_saving_46 : decode c_Tw_saving 46 = .ok (.iload_n 1, 1) := by decide +kernel
theorem d_Tw_saving_47 : decode c_Tw_saving 47 = .ok (.iload_n 2, 1) := by decide +kernel
theorem d_Tw_saving_48 : decode c_Tw_saving 48 = .ok (.invokevirtual 71, 3) := by decide +kernel
theorem d_Tw_saving_51 : decode c_Tw_saving 51 = .ok (.ireturn, 1) := by decide +kernel
theorem d_Tw_savingWithLast_0 : decode c_Tw_savingWithLast 0 = .ok (.aload_n 0, 1) := by decide +kernel
theorem d_Tw_savingWithLast_1 : decode c_Tw_savingWithLast 1 = .ok (.getfield 42, 3) := by decide +kernel
theorem d_Tw_savingWithLast_4 : decode c_Tw_savingWithLast 4 = .ok (.iload_n 2, 1) := by decide +kernel
theorem d_Tw_savingWithLast_5 : decode c_Tw_savingWithLast 5 = .ok (.iaload, 1) := by decide +kernel
theorem d_Tw_savingWithLast_6 : decode c_Tw_savingWithLast 6 = .ok (.ifCond .ne 7, 3) := by decide +kernel
theorem d_Tw_savingWithLast_9 : decode c_Tw_savingWithLast 9 = .ok (.iconst 0, 1) := by decide +kernel
theorem d_Tw_savingWithLast_10 : decode c_Tw_savingWithLast 10 = .ok (.goto 25, 3) := by decide +kernel
theorem d_Tw_savingWithLast_13 : decode c_Tw_savingWithLast 13 = .ok (.aload_n 0, 1) := by decide +kernel
theorem d_Tw_savingWithLast_14 : decode c_Tw_savingWithLast 14 = .ok (.aload_n 0, 1) := by decide +kernel
theorem d_Tw_savingWithLast_15 : decode c_Tw_savingWithLast 15 = .ok (.getfield 45, 3) := by decide +kernel
theorem d_Tw_savingWithLast_18 : decode c_Tw_savingWithLast 18 = .ok (.iconst 4, 1) := by decide +kernel
theorem d_Tw_savingWithLast_19 : decode c_Tw_savingWithLast 19 = .ok (.iload_n 2, 1) := by decide +kernel
theorem d_Tw_savingWithLast_20 : decode c_Tw_savingWithLast 20 = .ok (.imul, 1) := by decide +kernel
theorem d_Tw_savingWithLast_21 : decode c_Tw_savingWithLast 21 = .ok (.aload_n 0, 1) := by decide +kernel
theorem d_Tw_savingWithLast_22 : decode c_Tw_savingWithLast 22 = .ok (.getfield 42, 3) := by decide +kernel
theorem d_Tw_savingWithLast_25 : decode c_Tw_savingWithLast 25 = .ok (.iload_n 2, 1) := by decide +kernel
theorem d_Tw_savingWithLast_26 : decode c_Tw_savingWithLast 26 = .ok (.iaload, 1) := by decide +kernel
theorem d_Tw_savingWithLast_27 : decode c_Tw_savingWithLast 27 = .ok (.iadd, 1) := by decide +kernel
theorem d_Tw_savingWithLast_28 : decode c_Tw_savingWithLast 28 = .ok (.iconst 1, 1) := by decide +kernel
theorem d_Tw_savingWithLast_29 : decode c_Tw_savingWithLast 29 = .ok (.isub, 1) := by decide +kernel
theorem d_Tw_savingWithLast_30 : decode c_Tw_savingWithLast 30 = .ok (.iaload, 1) := by decide +kernel
theorem d_Tw_savingWithLast_31 : decode c_Tw_savingWithLast 31 = .ok (.iload_n 1, 1) := by decide +kernel
theorem d_Tw_savingWithLast_32 : decode c_Tw_savingWithLast 32 = .ok (.invokevirtual 71, 3) := by decide +kernel
theorem d_Tw_savingWithLast_35 : decode c_Tw_savingWithLast 35 = .ok (.ireturn, 1) := by decide +kernel
theorem d_Tw_setOf_0 : decode c_Tw_setOf 0 = .ok (.iconst 0, 1) := by decide +kernel
theorem d_Tw_setOf_1 : decode c_Tw_setOf 1 = .ok (.istore_n 2, 1) := by decide +kernel
theorem d_Tw_setOf_2 : decode c_Tw_setOf 2 = .ok (.iconst 0, 1) := by decide +kernel
theorem d_Tw_setOf_3 : decode c_Tw_setOf 3 = .ok (.istore_n 3, 1) := by decide +kernel
theorem d_Tw_setOf_4 : decode c_Tw_setOf 4 = .ok (.iload_n 3, 1) := by decide +kernel
theorem d_Tw_setOf_5 : decode c_Tw_setOf 5 = .ok (.aload_n 0, 1) := by decide +kernel
theorem d_Tw_setOf_6 : decode c_Tw_setOf 6 = .ok (.getfield 42, 3) := by decide +kernel
theorem d_Tw_setOf_9 : decode c_Tw_setOf 9 = .ok (.iload_n 1, 1) := by decide +kernel
theorem d_Tw_setOf_10 : decode c_Tw_setOf 10 = .ok (.iaload, 1) := by decide +kernel
theorem d_Tw_setOf_11 : decode c_Tw_setOf 11 = .ok (.if_icmp .ge 24, 3) := by decide +kernel
theorem d_Tw_setOf_14 : decode c_Tw_setOf 14 = .ok (.iload_n 2, 1) := by decide +kernel
theorem d_Tw_setOf_15 : decode c_Tw_setOf 15 = .ok (.iconst 1, 1) := by decide +kernel
theorem d_Tw_setOf_16 : decode c_Tw_setOf 16 = .ok (.aload_n 0, 1) := by decide +kernel
theorem d_Tw_setOf_17 : decode c_Tw_setOf 17 = .ok (.getfield 45, 3) := by decide +kernel
theorem d_Tw_setOf_20 : decode c_Tw_setOf 20 = .ok (.iconst 4, 1) := by decide +kernel
theorem d_Tw_setOf_21 : decode c_Tw_setOf 21 = .ok (.iload_n 1, 1) := by decide +kernel
theorem d_Tw_setOf_22 : decode c_Tw_setOf 22 = .ok (.imul, 1) := by decide +kernel
theorem d_Tw_setOf_23 : decode c_Tw_setOf 23 = .ok (.iload_n 3, 1) := by decide +kernel
theorem d_Tw_setOf_24 : decode c_Tw_setOf 24 = .ok (.iadd, 1) := by decide +kernel
theorem d_Tw_setOf_25 : decode c_Tw_setOf 25 = .ok (.iaload, 1) := by decide +kernel
theorem d_Tw_setOf_26 : decode c_Tw_setOf 26 = .ok (.ishl, 1) := by decide +kernel
theorem d_Tw_setOf_27 : decode c_Tw_setOf 27 = .ok (.ior, 1) := by decide +kernel
theorem d_Tw_setOf_28 : decode c_Tw_setOf 28 = .ok (.istore_n 2, 1) := by decide +kernel
theorem d_Tw_setOf_29 : decode c_Tw_setOf 29 = .ok (.iinc 3 1, 3) := by decide +kernel
theorem d_Tw_setOf_32 : decode c_Tw_setOf 32 = .ok (.goto (-28), 3) := by decide +kernel
theorem d_Tw_setOf_35 : decode c_Tw_setOf 35 = .ok (.iload_n 2, 1) := by decide +kernel
theorem d_Tw_setOf_36 : decode c_Tw_setOf 36 = .ok (.ireturn, 1) := by decide +kernel
theorem d_Tw_share_0 : decode c_Tw_share 0 = .ok (.aload_n 0, 1) := by decide +kernel
theorem d_Tw_share_1 : decode c_Tw_share 1 = .ok (.iload_n 1, 1) := by decide +kernel
theorem d_Tw_share_2 : decode c_Tw_share 2 = .ok (.iconst 0, 1) := by decide +kernel
theorem d_Tw_share_3 : decode c_Tw_share 3 = .ok (.ldc 138, 2) := by decide +kernel
theorem d_Tw_share_5 : decode c_Tw_share 5 = .ok (.invokestatic 60, 3) := by decide +kernel
theorem d_Tw_share_8 : decode c_Tw_share 8 = .ok (.ifCond .eq 7, 3) := by decide +kernel
theorem d_Tw_share_11 : decode c_Tw_share 11 = .ok (.iload_n 2, 1) := by decide +kernel
theorem d_Tw_share_12 : decode c_Tw_share 12 = .ok (.ifCond .ge 7, 3) := by decide +kernel
theorem d_Tw_share_15 : decode c_Tw_share 15 = .ok (.iconst 1, 1) := by decide +kernel
theorem d_Tw_share_16 : decode c_Tw_share 16 = .ok (.goto 12, 3) := by decide +kernel
theorem d_Tw_share_19 : decode c_Tw_share 19 = .ok (.iload_n 2, 1) := by decide +kernel
theorem d_Tw_share_20 : decode c_Tw_share 20 = .ok (.ifCond .ne 7, 3) := by decide +kernel
theorem d_Tw_share_23 : decode c_Tw_share 23 = .ok (.iconst 2, 1) := by decide +kernel
theorem d_Tw_share_24 : decode c_Tw_share 24 = .ok (.goto 4, 3) := by decide +kernel
theorem d_Tw_share_27 : decode c_Tw_share 27 = .ok (.iconst 0, 1) := by decide +kernel
theorem d_Tw_share_28 : decode c_Tw_share 28 = .ok (.putfield 54, 3) := by decide +kernel
theorem d_Tw_share_31 : decode c_Tw_share 31 = .ok (.aload_n 0, 1) := by decide +kernel
theorem d_Tw_share_32 : decode c_Tw_share 32 = .ok (.getfield 54, 3) := by decide +kernel
theorem d_Tw_share_35 : decode c_Tw_share 35 = .ok (.ifCond .le 7, 3) := by decide +kernel
theorem d_Tw_share_38 : decode c_Tw_share 38 = .ok (.iconst 0, 1) := by decide +kernel
theorem d_Tw_share_39 : decode c_Tw_share 39 = .ok (.goto 9, 3) := by decide +kernel
theorem d_Tw_share_42 : decode c_Tw_share 42 = .ok (.bipush 100, 2) := by decide +kernel
theorem d_Tw_share_44 : decode c_Tw_share 44 = .ok (.iload_n 1, 1) := by decide +kernel
theorem d_Tw_share_45 : decode c_Tw_share 45 = .ok (.imul, 1) := by decide +kernel
theorem d_Tw_share_46 : decode c_Tw_share 46 = .ok (.iload_n 2, 1) := by decide +kernel
theorem d_Tw_share_47 : decode c_Tw_share 47 = .ok (.idiv, 1) := by decide +kernel
theorem d_Tw_share_48 : decode c_Tw_share 48 = .ok (.ireturn, 1) := by decide +kernel
theorem d_Tw_thrown_0 : decode c_Tw_thrown 0 = .ok (.aload_n 0, 1) := by decide +kernel
theorem d_Tw_thrown_1 : decode c_Tw_thrown 1 = .ok (.getfield 54, 3) := by decide +kernel
theorem d_Tw_thrown_4 : decode c_Tw_thrown 4 = .ok (.ireturn, 1) := by decide +kernel
theorem d_Tw_told_0 : decode c_Tw_told 0 = .ok (.aload_n 0, 1) := by decide +kernel
theorem d_Tw_told_1 : decode c_Tw_told 1 = .ok (.aload_n 0, 1) := by decide +kernel
theorem d_Tw_told_2 : decode c_Tw_told 2 = .ok (.iload_n 1, 1) := by decide +kernel
theorem d_Tw_told_3 : decode c_Tw_told 3 = .ok (.invokevirtual 126, 3) := by decide +kernel
theorem d_Tw_told_6 : decode c_Tw_told 6 = .ok (.ifCond .ne 7, 3) := by decide +kernel
theorem d_Tw_told_9 : decode c_Tw_told 9 = .ok (.iconst 1, 1) := by decide +kernel
theorem d_Tw_told_10 : decode c_Tw_told 10 = .ok (.goto 4, 3) := by decide +kernel
theorem d_Tw_told_13 : decode c_Tw_told 13 = .ok (.iconst 0, 1) := by decide +kernel
theorem d_Tw_told_14 : decode c_Tw_told 14 = .ok (.putfield 54, 3) := by decide +kernel
theorem d_Tw_told_17 : decode c_Tw_told 17 = .ok (.aload_n 0, 1) := by decide +kernel
theorem d_Tw_told_18 : decode c_Tw_told 18 = .ok (.getfield 54, 3) := by decide +kernel
theorem d_Tw_told_21 : decode c_Tw_told 21 = .ok (.ifCond .ne 41, 3) := by decide +kernel
theorem d_Tw_told_24 : decode c_Tw_told 24 = .ok (.aload_n 0, 1) := by decide +kernel
theorem d_Tw_told_25 : decode c_Tw_told 25 = .ok (.iload_n 3, 1) := by decide +kernel
theorem d_Tw_told_26 : decode c_Tw_told 26 = .ok (.iconst 0, 1) := by decide +kernel
theorem d_Tw_told_27 : decode c_Tw_told 27 = .ok (.iconst 4, 1) := by decide +kernel
theorem d_Tw_told_28 : decode c_Tw_told 28 = .ok (.invokestatic 60, 3) := by decide +kernel
theorem d_Tw_told_31 : decode c_Tw_told 31 = .ok (.ifCond .eq 23, 3) := by decide +kernel
theorem d_Tw_told_34 : decode c_Tw_told 34 = .ok (.iload_n 3, 1) := by decide +kernel
theorem d_Tw_told_35 : decode c_Tw_told 35 = .ok (.ifCond .ne 23, 3) := by decide +kernel
theorem d_Tw_told_38 : decode c_Tw_told 38 = .ok (.iload_n 2, 1) := by decide +kernel
theorem d_Tw_told_39 : decode c_Tw_told 39 = .ok (.iconst 0, 1) := by decide +kernel
theorem d_Tw_told_40 : decode c_Tw_told 40 = .ok (.aload_n 0, 1) := by decide +kernel
theorem d_Tw_told_41 : decode c_Tw_told 41 = .ok (.getfield 42, 3) := by decide +kernel
theorem d_Tw_told_44 : decode c_Tw_told 44 = .ok (.iload_n 1, 1) := by decide +kernel
theorem d_Tw_told_45 : decode c_Tw_told 45 = .ok (.iaload, 1) := by decide +kernel
theorem d_Tw_told_46 : decode c_Tw_told 46 = .ok (.iconst 1, 1) := by decide +kernel
theorem d_Tw_told_47 : decode c_Tw_told 47 = .ok (.isub, 1) := by decide +kernel
theorem d_Tw_told_48 : decode c_Tw_told 48 = .ok (.invokestatic 60, 3) := by decide +kernel
theorem d_Tw_told_51 : decode c_Tw_told 51 = .ok (.ifCond .ne 7, 3) := by decide +kernel
theorem d_Tw_told_54 : decode c_Tw_told 54 = .ok (.iconst 2, 1) := by decide +kernel
theorem d_Tw_told_55 : decode c_Tw_told 55 = .ok (.goto 4, 3) := by decide +kernel
theorem d_Tw_told_58 : decode c_Tw_told 58 = .ok (.iconst 0, 1) := by decide +kernel
theorem d_Tw_told_59 : decode c_Tw_told 59 = .ok (.putfield 54, 3) := by decide +kernel
theorem d_Tw_told_62 : decode c_Tw_told 62 = .ok (.aload_n 0, 1) := by decide +kernel
theorem d_Tw_told_63 : decode c_Tw_told 63 = .ok (.getfield 54, 3) := by decide +kernel
theorem d_Tw_told_66 : decode c_Tw_told 66 = .ok (.ifCond .le 5, 3) := by decide +kernel
theorem d_Tw_told_69 : decode c_Tw_told 69 = .ok (.iconst 0, 1) := by decide +kernel
theorem d_Tw_told_70 : decode c_Tw_told 70 = .ok (.ireturn, 1) := by decide +kernel
theorem d_Tw_told_71 : decode c_Tw_told 71 = .ok (.iload_n 3, 1) := by decide +kernel
theorem d_Tw_told_72 : decode c_Tw_told 72 = .ok (.ifCond .ne 14, 3) := by decide +kernel
theorem d_Tw_told_75 : decode c_Tw_told 75 = .ok (.aload_n 0, 1) := by decide +kernel
theorem d_Tw_told_76 : decode c_Tw_told 76 = .ok (.getfield 45, 3) := by decide +kernel
theorem d_Tw_told_79 : decode c_Tw_told 79 = .ok (.iconst 4, 1) := by decide +kernel
theorem d_Tw_told_80 : decode c_Tw_told 80 = .ok (.iload_n 1, 1) := by decide +kernel
theorem d_Tw_told_81 : decode c_Tw_told 81 = .ok (.imul, 1) := by decide +kernel
theorem d_Tw_told_82 : decode c_Tw_told 82 = .ok (.iload_n 2, 1) := by decide +kernel
theorem d_Tw_told_83 : decode c_Tw_told 83 = .ok (.iadd, 1) := by decide +kernel
theorem d_Tw_told_84 : decode c_Tw_told 84 = .ok (.iaload, 1) := by decide +kernel
theorem d_Tw_told_85 : decode c_Tw_told 85 = .ok (.ireturn, 1) := by decide +kernel
theorem d_Tw_told_86 : decode c_Tw_told 86 = .ok (.iload_n 3, 1) := by decide +kernel
theorem d_Tw_told_87 : decode c_Tw_told 87 = .ok (.iconst 1, 1) := by decide +kernel
theorem d_Tw_told_88 : decode c_Tw_told 88 = .ok (.if_icmp .ne 9, 3) := by decide +kernel
theorem d_Tw_told_91 : decode c_Tw_told 91 = .ok (.aload_n 0, 1) := by decide +kernel
theorem d_Tw_told_92 : decode c_Tw_told 92 = .ok (.iload_n 1, 1) := by decide +kernel
theorem d_Tw_told_93 : decode c_Tw_told 93 = .ok (.invokevirtual 132, 3) := by decide +kernel
theorem d_Tw_told_96 : decode c_Tw_told 96 = .ok (.ireturn, 1) := by decide +kernel
theorem d_Tw_told_97 : decode c_Tw_told 97 = .ok (.iload_n 3, 1) := by decide +kernel
theorem d_Tw_told_98 : decode c_Tw_told 98 = .ok (.iconst 2, 1) := by decide +kernel
theorem d_Tw_told_99 : decode c_Tw_told 99 = .ok (.if_icmp .ne 15, 3) := by decide +kernel
theorem d_Tw_told_102 : decode c_Tw_told 102 = .ok (.aload_n 0, 1) := by decide +kernel
theorem d_Tw_told_103 : decode c_Tw_told 103 = .ok (.iload_n 1, 1) := by decide +kernel
theorem d_Tw_told_104 : decode c_Tw_told 104 = .ok (.invokevirtual 135, 3) := by decide +kernel
theorem d_Tw_told_107 : decode c_Tw_told 107 = .ok (.aload_n 0, 1) := by decide +kernel
theorem d_Tw_told_108 : decode c_Tw_told 108 = .ok (.iload_n 1, 1) := by decide +kernel
theorem d_Tw_told_109 : decode c_Tw_told 109 = .ok (.invokevirtual 132, 3) := by decide +kernel
theorem d_Tw_told_112 : decode c_Tw_told 112 = .ok (.isub, 1) := by decide +kernel
theorem d_Tw_told_113 : decode c_Tw_told 113 = .ok (.ireturn, 1) := by decide +kernel
theorem d_Tw_told_114 : decode c_Tw_told 114 = .ok (.iconst 0, 1) := by decide +kernel
theorem d_Tw_told_115 : decode c_Tw_told 115 = .ok (.istore 4, 2) := by decide +kernel
theorem d_Tw_told_117 : decode c_Tw_told 117 = .ok (.iconst 0, 1) := by decide +kernel
theorem d_Tw_told_118 : decode c_Tw_told 118 = .ok (.istore 5, 2) := by decide +kernel
theorem d_Tw_told_120 : decode c_Tw_told 120 = .ok (.iload 5, 2) := by decide +kernel
theorem d_Tw_told_122 : decode c_Tw_told 122 = .ok (.aload_n 0, 1) := by decide +kernel
theorem d_Tw_told_123 : decode c_Tw_told 123 = .ok (.getfield 42, 3) := by decide +kernel
theorem d_Tw_told_126 : decode c_Tw_told 126 = .ok (.iload_n 1, 1) := by decide +kernel
theorem d_Tw_told_127 : decode c_Tw_told 127 = .ok (.iaload, 1) := by decide +kernel
theorem d_Tw_told_128 : decode c_Tw_told 128 = .ok (.if_icmp .ge 54, 3) := by decide +kernel
theorem d_Tw_told_131 : decode c_Tw_told 131 = .ok (.iload 4, 2) := by decide +kernel
theorem d_Tw_told_133 : decode c_Tw_told 133 = .ok (.iload_n 3, 1) := by decide +kernel
theorem d_Tw_told_134 : decode c_Tw_told 134 = .ok (.iconst 3, 1) := by decide +kernel
theorem d_Tw_told_135 : decode c_Tw_told 135 = .ok (.if_icmp .ne 22, 3) := by decide +kernel
theorem d_Tw_told_138 : decode c_Tw_told 138 = .ok (.aload_n 0, 1) := by decide +kernel
theorem d_Tw_told_139 : decode c_Tw_told 139 = .ok (.getfield 13, 3) := by decide +kernel
theorem d_Tw_told_142 : decode c_Tw_told 142 = .ok (.aload_n 0, 1) := by decide +kernel
theorem d_Tw_told_143 : decode c_Tw_told 143 = .ok (.getfield 45, 3) := by decide +kernel
theorem d_Tw_told_146 : decode c_Tw_told 146 = .ok (.iconst 4, 1) := by decide +kernel
theorem d_Tw_told_147 : decode c_Tw_told 147 = .ok (.iload_n 1, 1) := by decide +kernel
theorem d_Tw_told_148 : decode c_Tw_told 148 = .ok (.imul, 1) := by decide +kernel
theorem d_Tw_told_149 : decode c_Tw_told 149 = .ok (.iload 5, 2) := by decide +kernel
theorem d_Tw_told_151 : decode c_Tw_told 151 = .ok (.iadd, 1) := by decide +kernel
theorem d_Tw_told_152 : decode c_Tw_told 152 = .ok (.iaload, 1) := by decide +kernel
theorem d_Tw_told_153 : decode c_Tw_told 153 = .ok (.iaload, 1) := by decide +kernel
theorem d_Tw_told_154 : decode c_Tw_told 154 = .ok (.goto 19, 3) := by decide +kernel
theorem d_Tw_told_157 : decode c_Tw_told 157 = .ok (.aload_n 0, 1) := by decide +kernel
theorem d_Tw_told_158 : decode c_Tw_told 158 = .ok (.getfield 19, 3) := by decide +kernel
theorem d_Tw_told_161 : decode c_Tw_told 161 = .ok (.aload_n 0, 1) := by decide +kernel
theorem d_Tw_told_162 : decode c_Tw_told 162 = .ok (.getfield 45, 3) := by decide +kernel
theorem d_Tw_told_165 : decode c_Tw_told 165 = .ok (.iconst 4, 1) := by decide +kernel
theorem d_Tw_told_166 : decode c_Tw_told 166 = .ok (.iload_n 1, 1) := by decide +kernel
theorem d_Tw_told_167 : decode c_Tw_told 167 = .ok (.imul, 1) := by decide +kernel
theorem d_Tw_told_168 : decode c_Tw_told 168 = .ok (.iload 5, 2) := by decide +kernel
theorem d_Tw_told_170 : decode c_Tw_told 170 = .ok (.iadd, 1) := by decide +kernel
theorem d_Tw_told_171 : decode c_Tw_told 171 = .ok (.iaload, 1) := by decide +kernel
theorem d_Tw_told_172 : decode c_Tw_told 172 = .ok (.iaload, 1) := by decide +kernel
theorem d_Tw_told_173 : decode c_Tw_told 173 = .ok (.iadd, 1) := by decide +kernel
theorem d_Tw_told_174 : decode c_Tw_told 174 = .ok (.istore 4, 2) := by decide +kernel
theorem d_Tw_told_176 : decode c_Tw_told 176 = .ok (.iinc 5 1, 3) := by decide +kernel
theorem d_Tw_told_179 : decode c_Tw_told 179 = .ok (.goto (-59), 3) := by decide +kernel
theorem d_Tw_told_182 : decode c_Tw_told 182 = .ok (.iload 4, 2) := by decide +kernel
theorem d_Tw_told_184 : decode c_Tw_told 184 = .ok (.ireturn, 1) := by decide +kernel
theorem d_Tw_unpair_0 : decode c_Tw_unpair 0 = .ok (.aload_n 0, 1) := by decide +kernel
theorem d_Tw_unpair_1 : decode c_Tw_unpair 1 = .ok (.getfield 39, 3) := by decide +kernel
theorem d_Tw_unpair_4 : decode c_Tw_unpair 4 = .ok (.iload_n 1, 1) := by decide +kernel
theorem d_Tw_unpair_5 : decode c_Tw_unpair 5 = .ok (.iaload, 1) := by decide +kernel
theorem d_Tw_unpair_6 : decode c_Tw_unpair 6 = .ok (.iconst (-1), 1) := by decide +kernel
theorem d_Tw_unpair_7 : decode c_Tw_unpair 7 = .ok (.if_icmp .eq 15, 3) := by decide +kernel
theorem d_Tw_unpair_10 : decode c_Tw_unpair 10 = .ok (.aload_n 0, 1) := by decide +kernel
theorem d_Tw_unpair_11 : decode c_Tw_unpair 11 = .ok (.getfield 39, 3) := by decide +kernel
theorem d_Tw_unpair_14 : decode c_Tw_unpair 14 = .ok (.aload_n 0, 1) := by decide +kernel
theorem d_Tw_unpair_15 : decode c_Tw_unpair 15 = .ok (.getfield 39, 3) := by decide +kernel
theorem d_Tw_unpair_18 : decode c_Tw_unpair 18 = .ok (.iload_n 1, 1) := by decide +kernel
theorem d_Tw_unpair_19 : decode c_Tw_unpair 19 = .ok (.iaload, 1) := by decide +kernel
theorem d_Tw_unpair_20 : decode c_Tw_unpair 20 = .ok (.iconst (-1), 1) := by decide +kernel
theorem d_Tw_unpair_21 : decode c_Tw_unpair 21 = .ok (.iastore, 1) := by decide +kernel
theorem d_Tw_unpair_22 : decode c_Tw_unpair 22 = .ok (.aload_n 0, 1) := by decide +kernel
theorem d_Tw_unpair_23 : decode c_Tw_unpair 23 = .ok (.getfield 39, 3) := by decide +kernel
theorem d_Tw_unpair_26 : decode c_Tw_unpair 26 = .ok (.iload_n 1, 1) := by decide +kernel
theorem d_Tw_unpair_27 : decode c_Tw_unpair 27 = .ok (.iconst (-1), 1) := by decide +kernel
theorem d_Tw_unpair_28 : decode c_Tw_unpair 28 = .ok (.iastore, 1) := by decide +kernel
theorem d_Tw_unpair_29 : decode c_Tw_unpair 29 = .ok (.return_, 1) := by decide +kernel
theorem d_Tw_way_0 : decode c_Tw_way 0 = .ok (.iconst 0, 1) := by decide +kernel
theorem d_Tw_way_1 : decode c_Tw_way 1 = .ok (.istore_n 2, 1) := by decide +kernel
theorem d_Tw_way_2 : decode c_Tw_way 2 = .ok (.iconst 0, 1) := by decide +kernel
theorem d_Tw_way_3 : decode c_Tw_way 3 = .ok (.istore_n 3, 1) := by decide +kernel
theorem d_Tw_way_4 : decode c_Tw_way 4 = .ok (.iload_n 3, 1) := by decide +kernel
theorem d_Tw_way_5 : decode c_Tw_way 5 = .ok (.aload_n 0, 1) := by decide +kernel
theorem d_Tw_way_6 : decode c_Tw_way 6 = .ok (.getfield 42, 3) := by decide +kernel
theorem d_Tw_way_9 : decode c_Tw_way 9 = .ok (.iload_n 1, 1) := by decide +kernel
theorem d_Tw_way_10 : decode c_Tw_way 10 = .ok (.iaload, 1) := by decide +kernel
theorem d_Tw_way_11 : decode c_Tw_way 11 = .ok (.if_icmp .ge 58, 3) := by decide +kernel
theorem d_Tw_way_14 : decode c_Tw_way 14 = .ok (.aload_n 0, 1) := by decide +kernel
theorem d_Tw_way_15 : decode c_Tw_way 15 = .ok (.getfield 45, 3) := by decide +kernel
theorem d_Tw_way_18 : decode c_Tw_way 18 = .ok (.iconst 4, 1) := by decide +kernel
theorem d_Tw_way_19 : decode c_Tw_way 19 = .ok (.iload_n 1, 1) := by decide +kernel
theorem d_Tw_way_20 : decode c_Tw_way 20 = .ok (.imul, 1) := by decide +kernel
theorem d_Tw_way_21 : decode c_Tw_way 21 = .ok (.iload_n 3, 1) := by decide +kernel
theorem d_Tw_way_22 : decode c_Tw_way 22 = .ok (.iadd, 1) := by decide +kernel
theorem d_Tw_way_23 : decode c_Tw_way 23 = .ok (.iaload, 1) := by decide +kernel
theorem d_Tw_way_24 : decode c_Tw_way 24 = .ok (.istore 4, 2) := by decide +kernel
theorem d_Tw_way_26 : decode c_Tw_way 26 = .ok (.iload_n 2, 1) := by decide +kernel
theorem d_Tw_way_27 : decode c_Tw_way 27 = .ok (.aload_n 0, 1) := by decide +kernel
theorem d_Tw_way_28 : decode c_Tw_way 28 = .ok (.getfield 7, 3) := by decide +kernel
theorem d_Tw_way_31 : decode c_Tw_way 31 = .ok (.iload 4, 2) := by decide +kernel
theorem d_Tw_way_33 : decode c_Tw_way 33 = .ok (.iaload, 1) := by decide +kernel
theorem d_Tw_way_34 : decode c_Tw_way 34 = .ok (.iload_n 3, 1) := by decide +kernel
theorem d_Tw_way_35 : decode c_Tw_way 35 = .ok (.ifCond .ne 7, 3) := by decide +kernel
theorem d_Tw_way_38 : decode c_Tw_way 38 = .ok (.iconst 0, 1) := by decide +kernel
theorem d_Tw_way_39 : decode c_Tw_way 39 = .ok (.goto 21, 3) := by decide +kernel
theorem d_Tw_way_42 : decode c_Tw_way 42 = .ok (.aload_n 0, 1) := by decide +kernel
theorem d_Tw_way_43 : decode c_Tw_way 43 = .ok (.aload_n 0, 1) := by decide +kernel
theorem d_Tw_way_44 : decode c_Tw_way 44 = .ok (.getfield 45, 3) := by decide +kernel
theorem d_Tw_way_47 : decode c_Tw_way 47 = .ok (.iconst 4, 1) := by decide +kernel
theorem d_Tw_way_48 : decode c_Tw_way 48 = .ok (.iload_n 1, 1) := by decide +kernel
theorem d_Tw_way_49 : decode c_Tw_way 49 = .ok (.imul, 1) := by decide +kernel
theorem d_Tw_way_50 : decode c_Tw_way 50 = .ok (.iload_n 3, 1) := by decide +kernel
theorem d_Tw_way_51 : decode c_Tw_way 51 = .ok (.iadd, 1) := by decide +kernel
theorem d_Tw_way_52 : decode c_Tw_way 52 = .ok (.iconst 1, 1) := by decide +kernel
theorem d_Tw_way_53 : decode c_Tw_way 53 = .ok (.isub, 1) := by decide +kernel
theorem d_Tw_way_54 : decode c_Tw_way 54 = .ok (.iaload, 1) := by decide +kernel
theorem d_Tw_way_55 : decode c_Tw_way 55 = .ok (.iload 4, 2) := by decide +kernel
theorem d_Tw_way_57 : decode c_Tw_way 57 = .ok (.invokevirtual 71, 3) := by decide +kernel
theorem d_Tw_way_60 : decode c_Tw_way 60 = .ok (.isub, 1) := by decide +kernel
theorem d_Tw_way_61 : decode c_Tw_way 61 = .ok (.iadd, 1) := by decide +kernel
theorem d_Tw_way_62 : decode c_Tw_way 62 = .ok (.istore_n 2, 1) := by decide +kernel
theorem d_Tw_way_63 : decode c_Tw_way 63 = .ok (.iinc 3 1, 3) := by decide +kernel
theorem d_Tw_way_66 : decode c_Tw_way 66 = .ok (.goto (-62), 3) := by decide +kernel
theorem d_Tw_way_69 : decode c_Tw_way 69 = .ok (.iload_n 2, 1) := by decide +kernel
theorem d_Tw_way_70 : decode c_Tw_way 70 = .ok (.ireturn, 1) := by decide +kernel
theorem d_Tw_weight_0 : decode c_Tw_weight 0 = .ok (.aload_n 0, 1) := by decide +kernel
theorem d_Tw_weight_1 : decode c_Tw_weight 1 = .ok (.aload_n 0, 1) := by decide +kernel
theorem d_Tw_weight_2 : decode c_Tw_weight 2 = .ok (.iload_n 1, 1) := by decide +kernel
theorem d_Tw_weight_3 : decode c_Tw_weight 3 = .ok (.invokevirtual 67, 3) := by decide +kernel
theorem d_Tw_weight_6 : decode c_Tw_weight 6 = .ok (.ifCond .ne 7, 3) := by decide +kernel
theorem d_Tw_weight_9 : decode c_Tw_weight 9 = .ok (.iconst 1, 1) := by decide +kernel
theorem d_Tw_weight_10 : decode c_Tw_weight 10 = .ok (.goto 19, 3) := by decide +kernel
theorem d_Tw_weight_13 : decode c_Tw_weight 13 = .ok (.iload_n 2, 1) := by decide +kernel
theorem d_Tw_weight_14 : decode c_Tw_weight 14 = .ok (.iconst 0, 1) := by decide +kernel
theorem d_Tw_weight_15 : decode c_Tw_weight 15 = .ok (.sipush 1000, 3) := by decide +kernel
theorem d_Tw_weight_18 : decode c_Tw_weight 18 = .ok (.invokestatic 60, 3) := by decide +kernel
theorem d_Tw_weight_21 : decode c_Tw_weight 21 = .ok (.ifCond .ne 7, 3) := by decide +kernel
theorem d_Tw_weight_24 : decode c_Tw_weight 24 = .ok (.iconst 2, 1) := by decide +kernel
theorem d_Tw_weight_25 : decode c_Tw_weight 25 = .ok (.goto 4, 3) := by decide +kernel
theorem d_Tw_weight_28 : decode c_Tw_weight 28 = .ok (.iconst 0, 1) := by decide +kernel
theorem d_Tw_weight_29 : decode c_Tw_weight 29 = .ok (.putfield 54, 3) := by decide +kernel
theorem d_Tw_weight_32 : decode c_Tw_weight 32 = .ok (.aload_n 0, 1) := by decide +kernel
theorem d_Tw_weight_33 : decode c_Tw_weight 33 = .ok (.getfield 54, 3) := by decide +kernel
theorem d_Tw_weight_36 : decode c_Tw_weight 36 = .ok (.ifCond .ne 20, 3) := by decide +kernel
theorem d_Tw_weight_39 : decode c_Tw_weight 39 = .ok (.aload_n 0, 1) := by decide +kernel
theorem d_Tw_weight_40 : decode c_Tw_weight 40 = .ok (.aload_n 0, 1) := by decide +kernel
theorem d_Tw_weight_41 : decode c_Tw_weight 41 = .ok (.iload_n 1, 1) := by decide +kernel
theorem d_Tw_weight_42 : decode c_Tw_weight 42 = .ok (.invokevirtual 82, 3) := by decide +kernel
theorem d_Tw_weight_45 : decode c_Tw_weight 45 = .ok (.ifCond .ne 7, 3) := by decide +kernel
theorem d_Tw_weight_48 : decode c_Tw_weight 48 = .ok (.iconst 3, 1) := by decide +kernel
theorem d_Tw_weight_49 : decode c_Tw_weight 49 = .ok (.goto 4, 3) := by decide +kernel
theorem d_Tw_weight_52 : decode c_Tw_weight 52 = .ok (.iconst 0, 1) := by decide +kernel
theorem d_Tw_weight_53 : decode c_Tw_weight 53 = .ok (.putfield 54, 3) := by decide +kernel
theorem d_Tw_weight_56 : decode c_Tw_weight 56 = .ok (.aload_n 0, 1) := by decide +kernel
theorem d_Tw_weight_57 : decode c_Tw_weight 57 = .ok (.getfield 54, 3) := by decide +kernel
theorem d_Tw_weight_60 : decode c_Tw_weight 60 = .ok (.ifCond .gt 11, 3) := by decide +kernel
theorem d_Tw_weight_63 : decode c_Tw_weight 63 = .ok (.iload_n 2, 1) := by decide +kernel
theorem d_Tw_weight_64 : decode c_Tw_weight 64 = .ok (.aload_n 0, 1) := by decide +kernel
theorem d_Tw_weight_65 : decode c_Tw_weight 65 = .ok (.getfield 32, 3) := by decide +kernel
theorem d_Tw_weight_68 : decode c_Tw_weight 68 = .ok (.if_icmp .le 5, 3) := by decide +kernel
theorem d_Tw_weight_71 : decode c_Tw_weight 71 = .ok (.iconst 0, 1) := by decide +kernel
theorem d_Tw_weight_72 : decode c_Tw_weight 72 = .ok (.ireturn, 1) := by decide +kernel
theorem d_Tw_weight_73 : decode c_Tw_weight 73 = .ok (.aload_n 0, 1) := by decide +kernel
theorem d_Tw_weight_74 : decode c_Tw_weight 74 = .ok (.getfield 19, 3) := by decide +kernel
theorem d_Tw_weight_77 : decode c_Tw_weight 77 = .ok (.iload_n 1, 1) := by decide +kernel
theorem d_Tw_weight_78 : decode c_Tw_weight 78 = .ok (.iload_n 2, 1) := by decide +kernel
theorem d_Tw_weight_79 : decode c_Tw_weight 79 = .ok (.iastore, 1) := by decide +kernel
theorem d_Tw_weight_80 : decode c_Tw_weight 80 = .ok (.iconst 1, 1) := by decide +kernel
theorem d_Tw_weight_81 : decode c_Tw_weight 81 = .ok (.ireturn, 1) := by decide +kernel
theorem d_Tw_with_0 : decode c_Tw_with 0 = .ok (.aload_n 0, 1) := by decide +kernel
theorem d_Tw_with_1 : decode c_Tw_with 1 = .ok (.aload_n 0, 1) := by decide +kernel
theorem d_Tw_with_2 : decode c_Tw_with 2 = .ok (.iload_n 1, 1) := by decide +kernel
theorem d_Tw_with_3 : decode c_Tw_with 3 = .ok (.invokevirtual 67, 3) := by decide +kernel
theorem d_Tw_with_6 : decode c_Tw_with 6 = .ok (.ifCond .eq 7, 3) := by decide +kernel
theorem d_Tw_with_9 : decode c_Tw_with 9 = .ok (.iconst 0, 1) := by decide +kernel
theorem d_Tw_with_10 : decode c_Tw_with 10 = .ok (.goto 4, 3) := by decide +kernel
theorem d_Tw_with_13 : decode c_Tw_with 13 = .ok (.iconst 1, 1) := by decide +kernel
theorem d_Tw_with_14 : decode c_Tw_with 14 = .ok (.putfield 54, 3) := by decide +kernel
theorem d_Tw_with_17 : decode c_Tw_with 17 = .ok (.aload_n 0, 1) := by decide +kernel
theorem d_Tw_with_18 : decode c_Tw_with 18 = .ok (.getfield 54, 3) := by decide +kernel
theorem d_Tw_with_21 : decode c_Tw_with 21 = .ok (.ifCond .le 7, 3) := by decide +kernel
theorem d_Tw_with_24 : decode c_Tw_with 24 = .ok (.iconst 0, 1) := by decide +kernel
theorem d_Tw_with_25 : decode c_Tw_with 25 = .ok (.goto 9, 3) := by decide +kernel
theorem d_Tw_with_28 : decode c_Tw_with 28 = .ok (.aload_n 0, 1) := by decide +kernel
theorem d_Tw_with_29 : decode c_Tw_with 29 = .ok (.getfield 39, 3) := by decide +kernel
theorem d_Tw_with_32 : decode c_Tw_with 32 = .ok (.iload_n 1, 1) := by decide +kernel
theorem d_Tw_with_33 : decode c_Tw_with 33 = .ok (.iaload, 1) := by decide +kernel
theorem d_Tw_with_34 : decode c_Tw_with 34 = .ok (.ireturn, 1) := by decide +kernel
