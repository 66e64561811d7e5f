theorem dX10_init_0 : decode cX10_init 0 = .ok (.aload_n 0, 1) := by decide +kernel
theorem dX10_init_1 : decode cX10_init 1 = .ok (.invokespecial 1, 3) := by decide +kernel
theorem dX10_init_4 : decode cX10_init 4 = .ok (.aload_n 0, 1) := by decide +kernel
theorem dX10_init_5 : decode cX10_init 5 = .ok (.new 7, 3) := by decide +kernel
theorem dX10_init_8 : decode cX10_init 8 = .ok (.dup, 1) := by decide +kernel
theorem dX10_init_9 : decode cX10_init 9 = .ok (.invokespecial 9, 3) := by decide +kernel
theorem dX10_init_12 : decode cX10_init 12 = .ok (.putfield 10, 3) := by decide +kernel
theorem dX10_init_15 : decode cX10_init 15 = .ok (.aload_n 0, 1) := by decide +kernel
theorem dX10_init_16 : decode cX10_init 16 = .ok (.new 7, 3) := by decide +kernel
theorem dX10_init_19 : decode cX10_init 19 = .ok (.dup, 1) := by decide +kernel
theorem dX10_init_20 : decode cX10_init 20 = .ok (.invokespecial 9, 3) := by decide +kernel
theorem dX10_init_23 : decode cX10_init 23 = .ok (.putfield 16, 3) := by decide +kernel
theorem dX10_init_26 : decode cX10_init 26 = .ok (.aload_n 0, 1) := by decide +kernel
theorem dX10_init_27 : decode cX10_init 27 = .ok (.iconst 3, 1) := by decide +kernel
theorem dX10_init_28 : decode cX10_init 28 = .ok (.anewarray 19, 3) := by decide +kernel
theorem dX10_init_31 : decode cX10_init 31 = .ok (.putfield 21, 3) := by decide +kernel
theorem dX10_init_34 : decode cX10_init 34 = .ok (.aload_n 0, 1) := by decide +kernel
theorem dX10_init_35 : decode cX10_init 35 = .ok (.iconst 3, 1) := by decide +kernel
theorem dX10_init_36 : decode cX10_init 36 = .ok (.newarray .boolean, 2) := by decide +kernel
theorem dX10_init_38 : decode cX10_init 38 = .ok (.putfield 25, 3) := by decide +kernel
theorem dX10_init_41 : decode cX10_init 41 = .ok (.aload_n 0, 1) := by decide +kernel
theorem dX10_init_42 : decode cX10_init 42 = .ok (.new 29, 3) := by decide +kernel
theorem dX10_init_45 : decode cX10_init 45 = .ok (.dup, 1) := by decide +kernel
theorem dX10_init_46 : decode cX10_init 46 = .ok (.invokespecial 31, 3) := by decide +kernel
theorem dX10_init_49 : decode cX10_init 49 = .ok (.putfield 32, 3) := by decide +kernel
theorem dX10_init_52 : decode cX10_init 52 = .ok (.aload_n 0, 1) := by decide +kernel
theorem dX10_init_53 : decode cX10_init 53 = .ok (.new 36, 3) := by decide +kernel
theorem dX10_init_56 : decode cX10_init 56 = .ok (.dup, 1) := by decide +kernel
theorem dX10_init_57 : decode cX10_init 57 = .ok (.invokespecial 38, 3) := by decide +kernel
theorem dX10_init_60 : decode cX10_init 60 = .ok (.putfield 39, 3) := by decide +kernel
theorem dX10_init_63 : decode cX10_init 63 = .ok (.aload_n 0, 1) := by decide +kernel
theorem dX10_init_64 : decode cX10_init 64 = .ok (.new 43, 3) := by decide +kernel
theorem dX10_init_67 : decode cX10_init 67 = .ok (.dup, 1) := by decide +kernel
theorem dX10_init_68 : decode cX10_init 68 = .ok (.invokespecial 45, 3) := by decide +kernel
theorem dX10_init_71 : decode cX10_init 71 = .ok (.putfield 46, 3) := by decide +kernel
theorem dX10_init_74 : decode cX10_init 74 = .ok (.aload_n 0, 1) := by decide +kernel
theorem dX10_init_75 : decode cX10_init 75 = .ok (.new 50, 3) := by decide +kernel
theorem dX10_init_78 : decode cX10_init 78 = .ok (.dup, 1) := by decide +kernel
theorem dX10_init_79 : decode cX10_init 79 = .ok (.invokespecial 52, 3) := by decide +kernel
theorem dX10_init_82 : decode cX10_init 82 = .ok (.putfield 53, 3) := by decide +kernel
theorem dX10_init_85 : decode cX10_init 85 = .ok (.aload_n 0, 1) := by decide +kernel
theorem dX10_init_86 : decode cX10_init 86 = .ok (.new 57, 3) := by decide +kernel
theorem dX10_init_89 : decode cX10_init 89 = .ok (.dup, 1) := by decide +kernel
theorem dX10_init_90 : decode cX10_init 90 = .ok (.invokespecial 59, 3) := by decide +kernel
theorem dX10_init_93 : decode cX10_init 93 = .ok (.putfield 60, 3) := by decide +kernel
theorem dX10_init_96 : decode cX10_init 96 = .ok (.aload_n 0, 1) := by decide +kernel
theorem dX10_init_97 : decode cX10_init 97 = .ok (.new 57, 3) := by decide +kernel
theorem dX10_init_100 : decode cX10_init 100 = .ok (.dup, 1) := by decide +kernel
theorem dX10_init_101 : decode cX10_init 101 = .ok (.invokespecial 59, 3) := by decide +kernel
theorem dX10_init_104 : decode cX10_init 104 = .ok (.putfield 64, 3) := by decide +kernel
theorem dX10_init_107 : decode cX10_init 107 = .ok (.aload_n 0, 1) := by decide +kernel
theorem dX10_init_108 : decode cX10_init 108 = .ok (.iconst 4, 1) := by decide +kernel
theorem dX10_init_109 : decode cX10_init 109 = .ok (.putfield 67, 3) := by decide +kernel
theorem dX10_init_112 : decode cX10_init 112 = .ok (.aload_n 0, 1) := by decide +kernel
theorem dX10_init_113 : decode cX10_init 113 = .ok (.iconst 1, 1) := by decide +kernel
theorem dX10_init_114 : decode cX10_init 114 = .ok (.putfield 71, 3) := by decide +kernel
theorem dX10_init_117 : decode cX10_init 117 = .ok (.iconst 0, 1) := by decide +kernel
theorem dX10_init_118 : decode cX10_init 118 = .ok (.istore_n 1, 1) := by decide +kernel
theorem dX10_init_119 : decode cX10_init 119 = .ok (.iload_n 1, 1) := by decide +kernel
theorem dX10_init_120 : decode cX10_init 120 = .ok (.iconst 3, 1) := by decide +kernel
theorem dX10_init_121 : decode cX10_init 121 = .ok (.if_icmp .ge 22, 3) := by decide +kernel
theorem dX10_init_124 : decode cX10_init 124 = .ok (.aload_n 0, 1) := by decide +kernel
theorem dX10_init_125 : decode cX10_init 125 = .ok (.getfield 21, 3) := by decide +kernel
theorem dX10_init_128 : decode cX10_init 128 = .ok (.iload_n 1, 1) := by decide +kernel
theorem dX10_init_129 : decode cX10_init 129 = .ok (.new 19, 3) := by decide +kernel
theorem dX10_init_132 : decode cX10_init 132 = .ok (.dup, 1) := by decide +kernel
theorem dX10_init_133 : decode cX10_init 133 = .ok (.invokespecial 75, 3) := by decide +kernel
theorem dX10_init_136 : decode cX10_init 136 = .ok (.aastore, 1) := by decide +kernel
theorem dX10_init_137 : decode cX10_init 137 = .ok (.iinc 1 1, 3) := by decide +kernel
theorem dX10_init_140 : decode cX10_init 140 = .ok (.goto (-21), 3) := by decide +kernel
theorem dX10_init_143 : decode cX10_init 143 = .ok (.return_, 1) := by decide +kernel
theorem dX10_feed_0 : decode cX10_feed 0 = .ok (.aload_n 0, 1) := by decide +kernel
theorem dX10_feed_1 : decode cX10_feed 1 = .ok (.getfield 32, 3) := by decide +kernel
theorem dX10_feed_4 : decode cX10_feed 4 = .ok (.getfield 76, 3) := by decide +kernel
theorem dX10_feed_7 : decode cX10_feed 7 = .ok (.bipush 20, 2) := by decide +kernel
theorem dX10_feed_9 : decode cX10_feed 9 = .ok (.iadd, 1) := by decide +kernel
theorem dX10_feed_10 : decode cX10_feed 10 = .ok (.sipush 200, 3) := by decide +kernel
theorem dX10_feed_13 : decode cX10_feed 13 = .ok (.if_icmp .le 5, 3) := by decide +kernel
theorem dX10_feed_16 : decode cX10_feed 16 = .ok (.iconst (-1), 1) := by decide +kernel
theorem dX10_feed_17 : decode cX10_feed 17 = .ok (.ireturn, 1) := by decide +kernel
theorem dX10_feed_18 : decode cX10_feed 18 = .ok (.aload_n 0, 1) := by decide +kernel
theorem dX10_feed_19 : decode cX10_feed 19 = .ok (.getfield 32, 3) := by decide +kernel
theorem dX10_feed_22 : decode cX10_feed 22 = .ok (.iload_n 1, 1) := by decide +kernel
theorem dX10_feed_23 : decode cX10_feed 23 = .ok (.invokevirtual 79, 3) := by decide +kernel
theorem dX10_feed_26 : decode cX10_feed 26 = .ok (.aload_n 0, 1) := by decide +kernel
theorem dX10_feed_27 : decode cX10_feed 27 = .ok (.getfield 32, 3) := by decide +kernel
theorem dX10_feed_30 : decode cX10_feed 30 = .ok (.iload_n 2, 1) := by decide +kernel
theorem dX10_feed_31 : decode cX10_feed 31 = .ok (.invokevirtual 79, 3) := by decide +kernel
theorem dX10_feed_34 : decode cX10_feed 34 = .ok (.aload_n 0, 1) := by decide +kernel
theorem dX10_feed_35 : decode cX10_feed 35 = .ok (.getfield 32, 3) := by decide +kernel
theorem dX10_feed_38 : decode cX10_feed 38 = .ok (.iload_n 3, 1) := by decide +kernel
theorem dX10_feed_39 : decode cX10_feed 39 = .ok (.invokevirtual 79, 3) := by decide +kernel
theorem dX10_feed_42 : decode cX10_feed 42 = .ok (.aload_n 0, 1) := by decide +kernel
theorem dX10_feed_43 : decode cX10_feed 43 = .ok (.getfield 32, 3) := by decide +kernel
theorem dX10_feed_46 : decode cX10_feed 46 = .ok (.iload 4, 2) := by decide +kernel
theorem dX10_feed_48 : decode cX10_feed 48 = .ok (.invokevirtual 79, 3) := by decide +kernel
theorem dX10_feed_51 : decode cX10_feed 51 = .ok (.aload_n 0, 1) := by decide +kernel
theorem dX10_feed_52 : decode cX10_feed 52 = .ok (.getfield 32, 3) := by decide +kernel
theorem dX10_feed_55 : decode cX10_feed 55 = .ok (.iload 5, 2) := by decide +kernel
theorem dX10_feed_57 : decode cX10_feed 57 = .ok (.invokevirtual 79, 3) := by decide +kernel
theorem dX10_feed_60 : decode cX10_feed 60 = .ok (.aload_n 0, 1) := by decide +kernel
theorem dX10_feed_61 : decode cX10_feed 61 = .ok (.getfield 32, 3) := by decide +kernel
theorem dX10_feed_64 : decode cX10_feed 64 = .ok (.getfield 76, 3) := by decide +kernel
theorem dX10_feed_67 : decode cX10_feed 67 = .ok (.ireturn, 1) := by decide +kernel
theorem dX10_batch_0 : decode cX10_batch 0 = .ok (.iload_n 1, 1) := by decide +kernel
theorem dX10_batch_1 : decode cX10_batch 1 = .ok (.ifCond .lt 20, 3) := by decide +kernel
theorem dX10_batch_4 : decode cX10_batch 4 = .ok (.iload_n 1, 1) := by decide +kernel
theorem dX10_batch_5 : decode cX10_batch 5 = .ok (.iconst 2, 1) := by decide +kernel
theorem dX10_batch_6 : decode cX10_batch 6 = .ok (.irem, 1) := by decide +kernel
theorem dX10_batch_7 : decode cX10_batch 7 = .ok (.ifCond .ne 14, 3) := by decide +kernel
theorem dX10_batch_10 : decode cX10_batch 10 = .ok (.iload_n 1, 1) := by decide +kernel
theorem dX10_batch_11 : decode cX10_batch 11 = .ok (.aload_n 0, 1) := by decide +kernel
theorem dX10_batch_12 : decode cX10_batch 12 = .ok (.getfield 32, 3) := by decide +kernel
theorem dX10_batch_15 : decode cX10_batch 15 = .ok (.getfield 76, 3) := by decide +kernel
theorem dX10_batch_18 : decode cX10_batch 18 = .ok (.if_icmp .le 5, 3) := by decide +kernel
theorem dX10_batch_21 : decode cX10_batch 21 = .ok (.iconst (-1), 1) := by decide +kernel
theorem dX10_batch_22 : decode cX10_batch 22 = .ok (.ireturn, 1) := by decide +kernel
theorem dX10_batch_23 : decode cX10_batch 23 = .ok (.iconst 0, 1) := by decide +kernel
theorem dX10_batch_24 : decode cX10_batch 24 = .ok (.istore_n 2, 1) := by decide +kernel
theorem dX10_batch_25 : decode cX10_batch 25 = .ok (.iconst 0, 1) := by decide +kernel
theorem dX10_batch_26 : decode cX10_batch 26 = .ok (.istore_n 3, 1) := by decide +kernel
theorem dX10_batch_27 : decode cX10_batch 27 = .ok (.iload_n 3, 1) := by decide +kernel
theorem dX10_batch_28 : decode cX10_batch 28 = .ok (.iconst 1, 1) := by decide +kernel
theorem dX10_batch_29 : decode cX10_batch 29 = .ok (.iadd, 1) := by decide +kernel
theorem dX10_batch_30 : decode cX10_batch 30 = .ok (.iload_n 1, 1) := by decide +kernel
theorem dX10_batch_31 : decode cX10_batch 31 = .ok (.if_icmp .ge 63, 3) := by decide +kernel
theorem dX10_batch_34 : decode cX10_batch 34 = .ok (.aload_n 0, 1) := by decide +kernel
theorem dX10_batch_35 : decode cX10_batch 35 = .ok (.getfield 32, 3) := by decide +kernel
theorem dX10_batch_38 : decode cX10_batch 38 = .ok (.iload_n 3, 1) := by decide +kernel
theorem dX10_batch_39 : decode cX10_batch 39 = .ok (.invokevirtual 83, 3) := by decide +kernel
theorem dX10_batch_42 : decode cX10_batch 42 = .ok (.istore 4, 2) := by decide +kernel
theorem dX10_batch_44 : decode cX10_batch 44 = .ok (.aload_n 0, 1) := by decide +kernel
theorem dX10_batch_45 : decode cX10_batch 45 = .ok (.getfield 32, 3) := by decide +kernel
theorem dX10_batch_48 : decode cX10_batch 48 = .ok (.iload_n 3, 1) := by decide +kernel
theorem dX10_batch_49 : decode cX10_batch 49 = .ok (.iconst 1, 1) := by decide +kernel
theorem dX10_batch_50 : decode cX10_batch 50 = .ok (.iadd, 1) := by decide +kernel
theorem dX10_batch_51 : decode cX10_batch 51 = .ok (.invokevirtual 83, 3) := by decide +kernel
theorem dX10_batch_54 : decode cX10_batch 54 = .ok (.istore 5, 2) := by decide +kernel
theorem dX10_batch_56 : decode cX10_batch 56 = .ok (.iload 4, 2) := by decide +kernel
theorem dX10_batch_58 : decode cX10_batch 58 = .ok (.invokestatic 87, 3) := by decide +kernel
theorem dX10_batch_61 : decode cX10_batch 61 = .ok (.ifCond .eq 27, 3) := by decide +kernel
theorem dX10_batch_64 : decode cX10_batch 64 = .ok (.aload_n 0, 1) := by decide +kernel
theorem dX10_batch_65 : decode cX10_batch 65 = .ok (.iload 4, 2) := by decide +kernel
theorem dX10_batch_67 : decode cX10_batch 67 = .ok (.iload 5, 2) := by decide +kernel
theorem dX10_batch_69 : decode cX10_batch 69 = .ok (.sipush 255, 3) := by decide +kernel
theorem dX10_batch_72 : decode cX10_batch 72 = .ok (.if_icmp .ne 7, 3) := by decide +kernel
theorem dX10_batch_75 : decode cX10_batch 75 = .ok (.iconst (-1), 1) := by decide +kernel
theorem dX10_batch_76 : decode cX10_batch 76 = .ok (.goto 5, 3) := by decide +kernel
theorem dX10_batch_79 : decode cX10_batch 79 = .ok (.iload 5, 2) := by decide +kernel
theorem dX10_batch_81 : decode cX10_batch 81 = .ok (.invokevirtual 91, 3) := by decide +kernel
theorem dX10_batch_84 : decode cX10_batch 84 = .ok (.pop, 1) := by decide +kernel
theorem dX10_batch_85 : decode cX10_batch 85 = .ok (.iinc 2 1, 3) := by decide +kernel
theorem dX10_batch_88 : decode cX10_batch 88 = .ok (.iinc 3 2, 3) := by decide +kernel
theorem dX10_batch_91 : decode cX10_batch 91 = .ok (.goto (-64), 3) := by decide +kernel
theorem dX10_batch_94 : decode cX10_batch 94 = .ok (.aload_n 0, 1) := by decide +kernel
theorem dX10_batch_95 : decode cX10_batch 95 = .ok (.getfield 32, 3) := by decide +kernel
theorem dX10_batch_98 : decode cX10_batch 98 = .ok (.invokevirtual 95, 3) := by decide +kernel
theorem dX10_batch_101 : decode cX10_batch 101 = .ok (.iload_n 2, 1) := by decide +kernel
theorem dX10_batch_102 : decode cX10_batch 102 = .ok (.ireturn, 1) := by decide +kernel
theorem dX10_put_0 : decode cX10_put 0 = .ok (.iload_n 1, 1) := by decide +kernel
theorem dX10_put_1 : decode cX10_put 1 = .ok (.invokestatic 87, 3) := by decide +kernel
theorem dX10_put_4 : decode cX10_put 4 = .ok (.ifCond .eq 14, 3) := by decide +kernel
theorem dX10_put_7 : decode cX10_put 7 = .ok (.iload_n 2, 1) := by decide +kernel
theorem dX10_put_8 : decode cX10_put 8 = .ok (.ifCond .lt 10, 3) := by decide +kernel
theorem dX10_put_11 : decode cX10_put 11 = .ok (.iload_n 2, 1) := by decide +kernel
theorem dX10_put_12 : decode cX10_put 12 = .ok (.sipush 1000, 3) := by decide +kernel
theorem dX10_put_15 : decode cX10_put 15 = .ok (.if_icmp .lt 5, 3) := by decide +kernel
theorem dX10_put_18 : decode cX10_put 18 = .ok (.iconst (-1), 1) := by decide +kernel
theorem dX10_put_19 : decode cX10_put 19 = .ok (.ireturn, 1) := by decide +kernel
theorem dX10_put_20 : decode cX10_put 20 = .ok (.aload_n 0, 1) := by decide +kernel
theorem dX10_put_21 : decode cX10_put 21 = .ok (.iload_n 1, 1) := by decide +kernel
theorem dX10_put_22 : decode cX10_put 22 = .ok (.iload_n 2, 1) := by decide +kernel
theorem dX10_put_23 : decode cX10_put 23 = .ok (.invokevirtual 91, 3) := by decide +kernel
theorem dX10_put_26 : decode cX10_put 26 = .ok (.ireturn, 1) := by decide +kernel
theorem dX10_drop_0 : decode cX10_drop 0 = .ok (.iload_n 1, 1) := by decide +kernel
theorem dX10_drop_1 : decode cX10_drop 1 = .ok (.invokestatic 87, 3) := by decide +kernel
theorem dX10_drop_4 : decode cX10_drop 4 = .ok (.ifCond .eq 12, 3) := by decide +kernel
theorem dX10_drop_7 : decode cX10_drop 7 = .ok (.aload_n 0, 1) := by decide +kernel
theorem dX10_drop_8 : decode cX10_drop 8 = .ok (.iload_n 1, 1) := by decide +kernel
theorem dX10_drop_9 : decode cX10_drop 9 = .ok (.iconst (-1), 1) := by decide +kernel
theorem dX10_drop_10 : decode cX10_drop 10 = .ok (.invokevirtual 91, 3) := by decide +kernel
theorem dX10_drop_13 : decode cX10_drop 13 = .ok (.goto 4, 3) := by decide +kernel
theorem dX10_drop_16 : decode cX10_drop 16 = .ok (.iconst (-1), 1) := by decide +kernel
theorem dX10_drop_17 : decode cX10_drop 17 = .ok (.ireturn, 1) := by decide +kernel
theorem dX10_steps_0 : decode cX10_steps 0 = .ok (.iload_n 1, 1) := by decide +kernel
theorem dX10_steps_1 : decode cX10_steps 1 = .ok (.ifCond .lt 10, 3) := by decide +kernel
theorem dX10_steps_4 : decode cX10_steps 4 = .ok (.iload_n 1, 1) := by decide +kernel
theorem dX10_steps_5 : decode cX10_steps 5 = .ok (.sipush 1000, 3) := by decide +kernel
theorem dX10_steps_8 : decode cX10_steps 8 = .ok (.if_icmp .le 5, 3) := by decide +kernel
theorem dX10_steps_11 : decode cX10_steps 11 = .ok (.iconst (-1), 1) := by decide +kernel
theorem dX10_steps_12 : decode cX10_steps 12 = .ok (.ireturn, 1) := by decide +kernel
theorem dX10_steps_13 : decode cX10_steps 13 = .ok (.aload_n 0, 1) := by decide +kernel
theorem dX10_steps_14 : decode cX10_steps 14 = .ok (.iconst 1, 1) := by decide +kernel
theorem dX10_steps_15 : decode cX10_steps 15 = .ok (.putfield 71, 3) := by decide +kernel
theorem dX10_steps_18 : decode cX10_steps 18 = .ok (.aload_n 0, 1) := by decide +kernel
theorem dX10_steps_19 : decode cX10_steps 19 = .ok (.getfield 10, 3) := by decide +kernel
theorem dX10_steps_22 : decode cX10_steps 22 = .ok (.iload_n 1, 1) := by decide +kernel
theorem dX10_steps_23 : decode cX10_steps 23 = .ok (.invokevirtual 98, 3) := by decide +kernel
theorem dX10_steps_26 : decode cX10_steps 26 = .ok (.ireturn, 1) := by decide +kernel
theorem dX10_budget_0 : decode cX10_budget 0 = .ok (.iload_n 1, 1) := by decide +kernel
theorem dX10_budget_1 : decode cX10_budget 1 = .ok (.ifCond .lt 9, 3) := by decide +kernel
theorem dX10_budget_4 : decode cX10_budget 4 = .ok (.iload_n 1, 1) := by decide +kernel
theorem dX10_budget_5 : decode cX10_budget 5 = .ok (.bipush 40, 2) := by decide +kernel
theorem dX10_budget_7 : decode cX10_budget 7 = .ok (.if_icmp .le 5, 3) := by decide +kernel
theorem dX10_budget_10 : decode cX10_budget 10 = .ok (.iconst (-1), 1) := by decide +kernel
theorem dX10_budget_11 : decode cX10_budget 11 = .ok (.ireturn, 1) := by decide +kernel
theorem dX10_budget_12 : decode cX10_budget 12 = .ok (.aload_n 0, 1) := by decide +kernel
theorem dX10_budget_13 : decode cX10_budget 13 = .ok (.getfield 10, 3) := by decide +kernel
theorem dX10_budget_16 : decode cX10_budget 16 = .ok (.getfield 101, 3) := by decide +kernel
theorem dX10_budget_19 : decode cX10_budget 19 = .ok (.istore_n 2, 1) := by decide +kernel
theorem dX10_budget_20 : decode cX10_budget 20 = .ok (.aload_n 0, 1) := by decide +kernel
theorem dX10_budget_21 : decode cX10_budget 21 = .ok (.getfield 10, 3) := by decide +kernel
theorem dX10_budget_24 : decode cX10_budget 24 = .ok (.iload_n 1, 1) := by decide +kernel
theorem dX10_budget_25 : decode cX10_budget 25 = .ok (.putfield 101, 3) := by decide +kernel
theorem dX10_budget_28 : decode cX10_budget 28 = .ok (.iload_n 2, 1) := by decide +kernel
theorem dX10_budget_29 : decode cX10_budget 29 = .ok (.ireturn, 1) := by decide +kernel
theorem dX10_stride_0 : decode cX10_stride 0 = .ok (.iload_n 1, 1) := by decide +kernel
theorem dX10_stride_1 : decode cX10_stride 1 = .ok (.iconst 2, 1) := by decide +kernel
theorem dX10_stride_2 : decode cX10_stride 2 = .ok (.if_icmp .lt 9, 3) := by decide +kernel
theorem dX10_stride_5 : decode cX10_stride 5 = .ok (.iload_n 1, 1) := by decide +kernel
theorem dX10_stride_6 : decode cX10_stride 6 = .ok (.bipush 8, 2) := by decide +kernel
theorem dX10_stride_8 : decode cX10_stride 8 = .ok (.if_icmp .le 5, 3) := by decide +kernel
theorem dX10_stride_11 : decode cX10_stride 11 = .ok (.iconst (-1), 1) := by decide +kernel
theorem dX10_stride_12 : decode cX10_stride 12 = .ok (.ireturn, 1) := by decide +kernel
theorem dX10_stride_13 : decode cX10_stride 13 = .ok (.aload_n 0, 1) := by decide +kernel
theorem dX10_stride_14 : decode cX10_stride 14 = .ok (.getfield 67, 3) := by decide +kernel
theorem dX10_stride_17 : decode cX10_stride 17 = .ok (.istore_n 2, 1) := by decide +kernel
theorem dX10_stride_18 : decode cX10_stride 18 = .ok (.aload_n 0, 1) := by decide +kernel
theorem dX10_stride_19 : decode cX10_stride 19 = .ok (.iload_n 1, 1) := by decide +kernel
theorem dX10_stride_20 : decode cX10_stride 20 = .ok (.putfield 67, 3) := by decide +kernel
theorem dX10_stride_23 : decode cX10_stride 23 = .ok (.aload_n 0, 1) := by decide +kernel
theorem dX10_stride_24 : decode cX10_stride 24 = .ok (.iconst 1, 1) := by decide +kernel
theorem dX10_stride_25 : decode cX10_stride 25 = .ok (.putfield 71, 3) := by decide +kernel
theorem dX10_stride_28 : decode cX10_stride 28 = .ok (.iload_n 2, 1) := by decide +kernel
theorem dX10_stride_29 : decode cX10_stride 29 = .ok (.ireturn, 1) := by decide +kernel
theorem dX10_find_0 : decode cX10_find 0 = .ok (.iload_n 1, 1) := by decide +kernel
theorem dX10_find_1 : decode cX10_find 1 = .ok (.invokestatic 87, 3) := by decide +kernel
theorem dX10_find_4 : decode cX10_find 4 = .ok (.ifCond .ne 5, 3) := by decide +kernel
theorem dX10_find_7 : decode cX10_find 7 = .ok (.iconst (-1), 1) := by decide +kernel
theorem dX10_find_8 : decode cX10_find 8 = .ok (.ireturn, 1) := by decide +kernel
theorem dX10_find_9 : decode cX10_find 9 = .ok (.aload_n 0, 1) := by decide +kernel
theorem dX10_find_10 : decode cX10_find 10 = .ok (.getfield 10, 3) := by decide +kernel
theorem dX10_find_13 : decode cX10_find 13 = .ok (.getfield 104, 3) := by decide +kernel
theorem dX10_find_16 : decode cX10_find 16 = .ok (.invokevirtual 108, 3) := by decide +kernel
theorem dX10_find_19 : decode cX10_find 19 = .ok (.pop, 1) := by decide +kernel
theorem dX10_find_20 : decode cX10_find 20 = .ok (.aload_n 0, 1) := by decide +kernel
theorem dX10_find_21 : decode cX10_find 21 = .ok (.getfield 10, 3) := by decide +kernel
theorem dX10_find_24 : decode cX10_find 24 = .ok (.getfield 104, 3) := by decide +kernel
theorem dX10_find_27 : decode cX10_find 27 = .ok (.iload_n 1, 1) := by decide +kernel
theorem dX10_find_28 : decode cX10_find 28 = .ok (.invokevirtual 112, 3) := by decide +kernel
theorem dX10_find_31 : decode cX10_find 31 = .ok (.ireturn, 1) := by decide +kernel
theorem dX10_looks_0 : decode cX10_looks 0 = .ok (.iload_n 1, 1) := by decide +kernel
theorem dX10_looks_1 : decode cX10_looks 1 = .ok (.invokestatic 115, 3) := by decide +kernel
theorem dX10_looks_4 : decode cX10_looks 4 = .ok (.aload_n 0, 1) := by decide +kernel
theorem dX10_looks_5 : decode cX10_looks 5 = .ok (.invokevirtual 118, 3) := by decide +kernel
theorem dX10_looks_8 : decode cX10_looks 8 = .ok (.aload_n 0, 1) := by decide +kernel
theorem dX10_looks_9 : decode cX10_looks 9 = .ok (.iload_n 1, 1) := by decide +kernel
theorem dX10_looks_10 : decode cX10_looks 10 = .ok (.iload_n 2, 1) := by decide +kernel
theorem dX10_looks_11 : decode cX10_looks 11 = .ok (.invokevirtual 121, 3) := by decide +kernel
theorem dX10_looks_14 : decode cX10_looks 14 = .ok (.ireturn, 1) := by decide +kernel
theorem dX10_falls_0 : decode cX10_falls 0 = .ok (.iload_n 1, 1) := by decide +kernel
theorem dX10_falls_1 : decode cX10_falls 1 = .ok (.invokestatic 115, 3) := by decide +kernel
theorem dX10_falls_4 : decode cX10_falls 4 = .ok (.aload_n 0, 1) := by decide +kernel
theorem dX10_falls_5 : decode cX10_falls 5 = .ok (.iload_n 2, 1) := by decide +kernel
theorem dX10_falls_6 : decode cX10_falls 6 = .ok (.iload_n 3, 1) := by decide +kernel
theorem dX10_falls_7 : decode cX10_falls 7 = .ok (.invokevirtual 125, 3) := by decide +kernel
theorem dX10_falls_10 : decode cX10_falls 10 = .ok (.aload_n 0, 1) := by decide +kernel
theorem dX10_falls_11 : decode cX10_falls 11 = .ok (.invokevirtual 118, 3) := by decide +kernel
theorem dX10_falls_14 : decode cX10_falls 14 = .ok (.aload_n 0, 1) := by decide +kernel
theorem dX10_falls_15 : decode cX10_falls 15 = .ok (.getfield 53, 3) := by decide +kernel
theorem dX10_falls_18 : decode cX10_falls 18 = .ok (.aload_n 0, 1) := by decide +kernel
theorem dX10_falls_19 : decode cX10_falls 19 = .ok (.getfield 10, 3) := by decide +kernel
theorem dX10_falls_22 : decode cX10_falls 22 = .ok (.getfield 104, 3) := by decide +kernel
theorem dX10_falls_25 : decode cX10_falls 25 = .ok (.aload_n 0, 1) := by decide +kernel
theorem dX10_falls_26 : decode cX10_falls 26 = .ok (.getfield 46, 3) := by decide +kernel
theorem dX10_falls_29 : decode cX10_falls 29 = .ok (.iload_n 1, 1) := by decide +kernel
theorem dX10_falls_30 : decode cX10_falls 30 = .ok (.invokevirtual 129, 3) := by decide +kernel
theorem dX10_falls_33 : decode cX10_falls 33 = .ok (.aload_n 0, 1) := by decide +kernel
theorem dX10_falls_34 : decode cX10_falls 34 = .ok (.getfield 53, 3) := by decide +kernel
theorem dX10_falls_37 : decode cX10_falls 37 = .ok (.getfield 133, 3) := by decide +kernel
theorem dX10_falls_40 : decode cX10_falls 40 = .ok (.iload_n 2, 1) := by decide +kernel
theorem dX10_falls_41 : decode cX10_falls 41 = .ok (.iload_n 3, 1) := by decide +kernel
theorem dX10_falls_42 : decode cX10_falls 42 = .ok (.invokestatic 137, 3) := by decide +kernel
theorem dX10_falls_45 : decode cX10_falls 45 = .ok (.iaload, 1) := by decide +kernel
theorem dX10_falls_46 : decode cX10_falls 46 = .ok (.ireturn, 1) := by decide +kernel
theorem dX10_bounds_0 : decode cX10_bounds 0 = .ok (.iload_n 1, 1) := by decide +kernel
theorem dX10_bounds_1 : decode cX10_bounds 1 = .ok (.invokestatic 115, 3) := by decide +kernel
theorem dX10_bounds_4 : decode cX10_bounds 4 = .ok (.aload_n 0, 1) := by decide +kernel
theorem dX10_bounds_5 : decode cX10_bounds 5 = .ok (.iload_n 2, 1) := by decide +kernel
theorem dX10_bounds_6 : decode cX10_bounds 6 = .ok (.iload_n 3, 1) := by decide +kernel
theorem dX10_bounds_7 : decode cX10_bounds 7 = .ok (.invokevirtual 125, 3) := by decide +kernel
theorem dX10_bounds_10 : decode cX10_bounds 10 = .ok (.aload_n 0, 1) := by decide +kernel
theorem dX10_bounds_11 : decode cX10_bounds 11 = .ok (.invokevirtual 118, 3) := by decide +kernel
theorem dX10_bounds_14 : decode cX10_bounds 14 = .ok (.aload_n 0, 1) := by decide +kernel
theorem dX10_bounds_15 : decode cX10_bounds 15 = .ok (.getfield 53, 3) := by decide +kernel
theorem dX10_bounds_18 : decode cX10_bounds 18 = .ok (.aload_n 0, 1) := by decide +kernel
theorem dX10_bounds_19 : decode cX10_bounds 19 = .ok (.getfield 10, 3) := by decide +kernel
theorem dX10_bounds_22 : decode cX10_bounds 22 = .ok (.getfield 104, 3) := by decide +kernel
theorem dX10_bounds_25 : decode cX10_bounds 25 = .ok (.aload_n 0, 1) := by decide +kernel
theorem dX10_bounds_26 : decode cX10_bounds 26 = .ok (.getfield 46, 3) := by decide +kernel
theorem dX10_bounds_29 : decode cX10_bounds 29 = .ok (.iload_n 1, 1) := by decide +kernel
theorem dX10_bounds_30 : decode cX10_bounds 30 = .ok (.invokevirtual 129, 3) := by decide +kernel
theorem dX10_bounds_33 : decode cX10_bounds 33 = .ok (.iload_n 2, 1) := by decide +kernel
theorem dX10_bounds_34 : decode cX10_bounds 34 = .ok (.iload_n 3, 1) := by decide +kernel
theorem dX10_bounds_35 : decode cX10_bounds 35 = .ok (.invokestatic 137, 3) := by decide +kernel
theorem dX10_bounds_38 : decode cX10_bounds 38 = .ok (.istore 5, 2) := by decide +kernel
theorem dX10_bounds_40 : decode cX10_bounds 40 = .ok (.iload 4, 2) := by decide +kernel
theorem dX10_bounds_42 : decode cX10_bounds 42 = .ok (.ifCond .eq 16, 3) := by decide +kernel
theorem dX10_bounds_45 : decode cX10_bounds 45 = .ok (.aload_n 0, 1) := by decide +kernel
theorem dX10_bounds_46 : decode cX10_bounds 46 = .ok (.getfield 53, 3) := by decide +kernel
theorem dX10_bounds_49 : decode cX10_bounds 49 = .ok (.getfield 140, 3) := by decide +kernel
theorem dX10_bounds_52 : decode cX10_bounds 52 = .ok (.iload 5, 2) := by decide +kernel
theorem dX10_bounds_54 : decode cX10_bounds 54 = .ok (.iaload, 1) := by decide +kernel
theorem dX10_bounds_55 : decode cX10_bounds 55 = .ok (.goto 13, 3) := by decide +kernel
theorem dX10_bounds_58 : decode cX10_bounds 58 = .ok (.aload_n 0, 1) := by decide +kernel
theorem dX10_bounds_59 : decode cX10_bounds 59 = .ok (.getfield 53, 3) := by decide +kernel
theorem dX10_bounds_62 : decode cX10_bounds 62 = .ok (.getfield 143, 3) := by decide +kernel
theorem dX10_bounds_65 : decode cX10_bounds 65 = .ok (.iload 5, 2) := by decide +kernel
theorem dX10_bounds_67 : decode cX10_bounds 67 = .ok (.iaload, 1) := by decide +kernel
theorem dX10_bounds_68 : decode cX10_bounds 68 = .ok (.ireturn, 1) := by decide +kernel
theorem dX10_route_0 : decode cX10_route 0 = .ok (.iload_n 1, 1) := by decide +kernel
theorem dX10_route_1 : decode cX10_route 1 = .ok (.invokestatic 115, 3) := by decide +kernel
theorem dX10_route_4 : decode cX10_route 4 = .ok (.iload_n 3, 1) := by decide +kernel
theorem dX10_route_5 : decode cX10_route 5 = .ok (.bipush 6, 2) := by decide +kernel
theorem dX10_route_7 : decode cX10_route 7 = .ok (.invokestatic 146, 3) := by decide +kernel
theorem dX10_route_10 : decode cX10_route 10 = .ok (.aload_n 0, 1) := by decide +kernel
theorem dX10_route_11 : decode cX10_route 11 = .ok (.invokevirtual 118, 3) := by decide +kernel
theorem dX10_route_14 : decode cX10_route 14 = .ok (.aload_n 0, 1) := by decide +kernel
theorem dX10_route_15 : decode cX10_route 15 = .ok (.getfield 53, 3) := by decide +kernel
theorem dX10_route_18 : decode cX10_route 18 = .ok (.aload_n 0, 1) := by decide +kernel
theorem dX10_route_19 : decode cX10_route 19 = .ok (.getfield 10, 3) := by decide +kernel
theorem dX10_route_22 : decode cX10_route 22 = .ok (.getfield 104, 3) := by decide +kernel
theorem dX10_route_25 : decode cX10_route 25 = .ok (.aload_n 0, 1) := by decide +kernel
theorem dX10_route_26 : decode cX10_route 26 = .ok (.getfield 46, 3) := by decide +kernel
theorem dX10_route_29 : decode cX10_route 29 = .ok (.iload_n 1, 1) := by decide +kernel
theorem dX10_route_30 : decode cX10_route 30 = .ok (.invokevirtual 149, 3) := by decide +kernel
theorem dX10_route_33 : decode cX10_route 33 = .ok (.iload_n 2, 1) := by decide +kernel
theorem dX10_route_34 : decode cX10_route 34 = .ok (.iconst (-1), 1) := by decide +kernel
theorem dX10_route_35 : decode cX10_route 35 = .ok (.if_icmp .ne 11, 3) := by decide +kernel
theorem dX10_route_38 : decode cX10_route 38 = .ok (.aload_n 0, 1) := by decide +kernel
theorem dX10_route_39 : decode cX10_route 39 = .ok (.getfield 53, 3) := by decide +kernel
theorem dX10_route_42 : decode cX10_route 42 = .ok (.getfield 152, 3) := by decide +kernel
theorem dX10_route_45 : decode cX10_route 45 = .ok (.ireturn, 1) := by decide +kernel
theorem dX10_route_46 : decode cX10_route 46 = .ok (.iload_n 2, 1) := by decide +kernel
theorem dX10_route_47 : decode cX10_route 47 = .ok (.ifCond .lt 14, 3) := by decide +kernel
theorem dX10_route_50 : decode cX10_route 50 = .ok (.iload_n 2, 1) := by decide +kernel
theorem dX10_route_51 : decode cX10_route 51 = .ok (.aload_n 0, 1) := by decide +kernel
theorem dX10_route_52 : decode cX10_route 52 = .ok (.getfield 53, 3) := by decide +kernel
theorem dX10_route_55 : decode cX10_route 55 = .ok (.getfield 152, 3) := by decide +kernel
theorem dX10_route_58 : decode cX10_route 58 = .ok (.if_icmp .lt 13, 3) := by decide +kernel
theorem dX10_route_61 : decode cX10_route 61 = .ok (.new 155, 3) := by decide +kernel
theorem dX10_route_64 : decode cX10_route 64 = .ok (.dup, 1) := by decide +kernel
theorem dX10_route_65 : decode cX10_route 65 = .ok (.ldc 157, 2) := by decide +kernel
theorem dX10_route_67 : decode cX10_route 67 = .ok (.invokespecial 159, 3) := by decide +kernel
theorem dX10_route_70 : decode cX10_route 70 = .ok (.athrow, 1) := by decide +kernel
theorem dX10_route_71 : decode cX10_route 71 = .ok (.aload_n 0, 1) := by decide +kernel
theorem dX10_route_72 : decode cX10_route 72 = .ok (.getfield 10, 3) := by decide +kernel
theorem dX10_route_75 : decode cX10_route 75 = .ok (.getfield 104, 3) := by decide +kernel
theorem dX10_route_78 : decode cX10_route 78 = .ok (.getfield 162, 3) := by decide +kernel
theorem dX10_route_81 : decode cX10_route 81 = .ok (.iload_n 2, 1) := by decide +kernel
theorem dX10_route_82 : decode cX10_route 82 = .ok (.iaload, 1) := by decide +kernel
theorem dX10_route_83 : decode cX10_route 83 = .ok (.istore 4, 2) := by decide +kernel
theorem dX10_route_85 : decode cX10_route 85 = .ok (.iload_n 3, 1) := by decide +kernel
theorem dX10_route_86 : decode cX10_route 86 = .ok (.tableswitch 80 0 4 #[34, 41, 47, 58, 69], 34) := by decide +kernel
theorem dX10_route_120 : decode cX10_route 120 = .ok (.getstatic 165, 3) := by decide +kernel
theorem dX10_route_123 : decode cX10_route 123 = .ok (.iload 4, 2) := by decide +kernel
theorem dX10_route_125 : decode cX10_route 125 = .ok (.iaload, 1) := by decide +kernel
theorem dX10_route_126 : decode cX10_route 126 = .ok (.ireturn, 1) := by decide +kernel
theorem dX10_route_127 : decode cX10_route 127 = .ok (.iload 4, 2) := by decide +kernel
theorem dX10_route_129 : decode cX10_route 129 = .ok (.invokestatic 168, 3) := by decide +kernel
theorem dX10_route_132 : decode cX10_route 132 = .ok (.ireturn, 1) := by decide +kernel
theorem dX10_route_133 : decode cX10_route 133 = .ok (.aload_n 0, 1) := by decide +kernel
theorem dX10_route_134 : decode cX10_route 134 = .ok (.getfield 53, 3) := by decide +kernel
theorem dX10_route_137 : decode cX10_route 137 = .ok (.getfield 143, 3) := by decide +kernel
theorem dX10_route_140 : decode cX10_route 140 = .ok (.iload 4, 2) := by decide +kernel
theorem dX10_route_142 : decode cX10_route 142 = .ok (.iaload, 1) := by decide +kernel
theorem dX10_route_143 : decode cX10_route 143 = .ok (.ireturn, 1) := by decide +kernel
theorem dX10_route_144 : decode cX10_route 144 = .ok (.aload_n 0, 1) := by decide +kernel
theorem dX10_route_145 : decode cX10_route 145 = .ok (.getfield 53, 3) := by decide +kernel
theorem dX10_route_148 : decode cX10_route 148 = .ok (.getfield 140, 3) := by decide +kernel
theorem dX10_route_151 : decode cX10_route 151 = .ok (.iload 4, 2) := by decide +kernel
theorem dX10_route_153 : decode cX10_route 153 = .ok (.iaload, 1) := by decide +kernel
theorem dX10_route_154 : decode cX10_route 154 = .ok (.ireturn, 1) := by decide +kernel
theorem dX10_route_155 : decode cX10_route 155 = .ok (.aload_n 0, 1) := by decide +kernel
theorem dX10_route_156 : decode cX10_route 156 = .ok (.getfield 53, 3) := by decide +kernel
theorem dX10_route_159 : decode cX10_route 159 = .ok (.getfield 133, 3) := by decide +kernel
theorem dX10_route_162 : decode cX10_route 162 = .ok (.iload 4, 2) := by decide +kernel
theorem dX10_route_164 : decode cX10_route 164 = .ok (.iaload, 1) := by decide +kernel
theorem dX10_route_165 : decode cX10_route 165 = .ok (.ireturn, 1) := by decide +kernel
theorem dX10_route_166 : decode cX10_route 166 = .ok (.aload_n 0, 1) := by decide +kernel
theorem dX10_route_167 : decode cX10_route 167 = .ok (.getfield 53, 3) := by decide +kernel
theorem dX10_route_170 : decode cX10_route 170 = .ok (.getfield 171, 3) := by decide +kernel
theorem dX10_route_173 : decode cX10_route 173 = .ok (.iload 4, 2) := by decide +kernel
theorem dX10_route_175 : decode cX10_route 175 = .ok (.iaload, 1) := by decide +kernel
theorem dX10_route_176 : decode cX10_route 176 = .ok (.ireturn, 1) := by decide +kernel
theorem dX10_next_0 : decode cX10_next 0 = .ok (.iload_n 1, 1) := by decide +kernel
theorem dX10_next_1 : decode cX10_next 1 = .ok (.iconst (-1), 1) := by decide +kernel
theorem dX10_next_2 : decode cX10_next 2 = .ok (.if_icmp .eq 7, 3) := by decide +kernel
theorem dX10_next_5 : decode cX10_next 5 = .ok (.iload_n 1, 1) := by decide +kernel
theorem dX10_next_6 : decode cX10_next 6 = .ok (.invokestatic 115, 3) := by decide +kernel
theorem dX10_next_9 : decode cX10_next 9 = .ok (.aload_n 0, 1) := by decide +kernel
theorem dX10_next_10 : decode cX10_next 10 = .ok (.getfield 60, 3) := by decide +kernel
theorem dX10_next_13 : decode cX10_next 13 = .ok (.aload_n 0, 1) := by decide +kernel
theorem dX10_next_14 : decode cX10_next 14 = .ok (.getfield 10, 3) := by decide +kernel
theorem dX10_next_17 : decode cX10_next 17 = .ok (.getfield 104, 3) := by decide +kernel
theorem dX10_next_20 : decode cX10_next 20 = .ok (.invokevirtual 174, 3) := by decide +kernel
theorem dX10_next_23 : decode cX10_next 23 = .ok (.iload_n 1, 1) := by decide +kernel
theorem dX10_next_24 : decode cX10_next 24 = .ok (.iconst 1, 1) := by decide +kernel
theorem dX10_next_25 : decode cX10_next 25 = .ok (.iadd, 1) := by decide +kernel
theorem dX10_next_26 : decode cX10_next 26 = .ok (.istore_n 2, 1) := by decide +kernel
theorem dX10_next_27 : decode cX10_next 27 = .ok (.iload_n 2, 1) := by decide +kernel
theorem dX10_next_28 : decode cX10_next 28 = .ok (.sipush 200, 3) := by decide +kernel
theorem dX10_next_31 : decode cX10_next 31 = .ok (.if_icmp .ge 22, 3) := by decide +kernel
theorem dX10_next_34 : decode cX10_next 34 = .ok (.aload_n 0, 1) := by decide +kernel
theorem dX10_next_35 : decode cX10_next 35 = .ok (.getfield 60, 3) := by decide +kernel
theorem dX10_next_38 : decode cX10_next 38 = .ok (.iload_n 2, 1) := by decide +kernel
theorem dX10_next_39 : decode cX10_next 39 = .ok (.invokevirtual 178, 3) := by decide +kernel
theorem dX10_next_42 : decode cX10_next 42 = .ok (.ifCond .eq 5, 3) := by decide +kernel
theorem dX10_next_45 : decode cX10_next 45 = .ok (.iload_n 2, 1) := by decide +kernel
theorem dX10_next_46 : decode cX10_next 46 = .ok (.ireturn, 1) := by decide +kernel
theorem dX10_next_47 : decode cX10_next 47 = .ok (.iinc 2 1, 3) := by decide +kernel
theorem dX10_next_50 : decode cX10_next 50 = .ok (.goto (-23), 3) := by decide +kernel
theorem dX10_next_53 : decode cX10_next 53 = .ok (.iconst (-1), 1) := by decide +kernel
theorem dX10_next_54 : decode cX10_next 54 = .ok (.ireturn, 1) := by decide +kernel
theorem dX10_nth_0 : decode cX10_nth 0 = .ok (.aload_n 0, 1) := by decide +kernel
theorem dX10_nth_1 : decode cX10_nth 1 = .ok (.getfield 60, 3) := by decide +kernel
theorem dX10_nth_4 : decode cX10_nth 4 = .ok (.aload_n 0, 1) := by decide +kernel
theorem dX10_nth_5 : decode cX10_nth 5 = .ok (.getfield 10, 3) := by decide +kernel
theorem dX10_nth_8 : decode cX10_nth 8 = .ok (.getfield 104, 3) := by decide +kernel
theorem dX10_nth_11 : decode cX10_nth 11 = .ok (.invokevirtual 174, 3) := by decide +kernel
theorem dX10_nth_14 : decode cX10_nth 14 = .ok (.iload_n 1, 1) := by decide +kernel
theorem dX10_nth_15 : decode cX10_nth 15 = .ok (.istore_n 2, 1) := by decide +kernel
theorem dX10_nth_16 : decode cX10_nth 16 = .ok (.iconst 0, 1) := by decide +kernel
theorem dX10_nth_17 : decode cX10_nth 17 = .ok (.istore_n 3, 1) := by decide +kernel
theorem dX10_nth_18 : decode cX10_nth 18 = .ok (.iload_n 3, 1) := by decide +kernel
theorem dX10_nth_19 : decode cX10_nth 19 = .ok (.sipush 200, 3) := by decide +kernel
theorem dX10_nth_22 : decode cX10_nth 22 = .ok (.if_icmp .ge 33, 3) := by decide +kernel
theorem dX10_nth_25 : decode cX10_nth 25 = .ok (.iload_n 2, 1) := by decide +kernel
theorem dX10_nth_26 : decode cX10_nth 26 = .ok (.ifCond .lt 29, 3) := by decide +kernel
theorem dX10_nth_29 : decode cX10_nth 29 = .ok (.aload_n 0, 1) := by decide +kernel
theorem dX10_nth_30 : decode cX10_nth 30 = .ok (.getfield 60, 3) := by decide +kernel
theorem dX10_nth_33 : decode cX10_nth 33 = .ok (.iload_n 3, 1) := by decide +kernel
theorem dX10_nth_34 : decode cX10_nth 34 = .ok (.invokevirtual 178, 3) := by decide +kernel
theorem dX10_nth_37 : decode cX10_nth 37 = .ok (.ifCond .eq 12, 3) := by decide +kernel
theorem dX10_nth_40 : decode cX10_nth 40 = .ok (.iload_n 2, 1) := by decide +kernel
theorem dX10_nth_41 : decode cX10_nth 41 = .ok (.ifCond .ne 5, 3) := by decide +kernel
theorem dX10_nth_44 : decode cX10_nth 44 = .ok (.iload_n 3, 1) := by decide +kernel
theorem dX10_nth_45 : decode cX10_nth 45 = .ok (.ireturn, 1) := by decide +kernel
theorem dX10_nth_46 : decode cX10_nth 46 = .ok (.iinc 2 (-1), 3) := by decide +kernel
theorem dX10_nth_49 : decode cX10_nth 49 = .ok (.iinc 3 1, 3) := by decide +kernel
theorem dX10_nth_52 : decode cX10_nth 52 = .ok (.goto (-34), 3) := by decide +kernel
theorem dX10_nth_55 : decode cX10_nth 55 = .ok (.new 155, 3) := by decide +kernel
theorem dX10_nth_58 : decode cX10_nth 58 = .ok (.dup, 1) := by decide +kernel
theorem dX10_nth_59 : decode cX10_nth 59 = .ok (.ldc 181, 2) := by decide +kernel
theorem dX10_nth_61 : decode cX10_nth 61 = .ok (.invokespecial 159, 3) := by decide +kernel
theorem dX10_nth_64 : decode cX10_nth 64 = .ok (.athrow, 1) := by decide +kernel
theorem dX10_waste_0 : decode cX10_waste 0 = .ok (.iload_n 1, 1) := by decide +kernel
theorem dX10_waste_1 : decode cX10_waste 1 = .ok (.iconst 3, 1) := by decide +kernel
theorem dX10_waste_2 : decode cX10_waste 2 = .ok (.invokestatic 146, 3) := by decide +kernel
theorem dX10_waste_5 : decode cX10_waste 5 = .ok (.aload_n 0, 1) := by decide +kernel
theorem dX10_waste_6 : decode cX10_waste 6 = .ok (.getfield 60, 3) := by decide +kernel
theorem dX10_waste_9 : decode cX10_waste 9 = .ok (.aload_n 0, 1) := by decide +kernel
theorem dX10_waste_10 : decode cX10_waste 10 = .ok (.getfield 10, 3) := by decide +kernel
theorem dX10_waste_13 : decode cX10_waste 13 = .ok (.getfield 104, 3) := by decide +kernel
theorem dX10_waste_16 : decode cX10_waste 16 = .ok (.invokevirtual 174, 3) := by decide +kernel
theorem dX10_waste_19 : decode cX10_waste 19 = .ok (.iload_n 1, 1) := by decide +kernel
theorem dX10_waste_20 : decode cX10_waste 20 = .ok (.lookupswitch 52 #[(0, 28), (1, 44)], 28) := by decide +kernel
theorem dX10_waste_48 : decode cX10_waste 48 = .ok (.aload_n 0, 1) := by decide +kernel
theorem dX10_waste_49 : decode cX10_waste 49 = .ok (.getfield 60, 3) := by decide +kernel
theorem dX10_waste_52 : decode cX10_waste 52 = .ok (.getfield 183, 3) := by decide +kernel
theorem dX10_waste_55 : decode cX10_waste 55 = .ok (.aload_n 0, 1) := by decide +kernel
theorem dX10_waste_56 : decode cX10_waste 56 = .ok (.getfield 60, 3) := by decide +kernel
theorem dX10_waste_59 : decode cX10_waste 59 = .ok (.invokevirtual 186, 3) := by decide +kernel
theorem dX10_waste_62 : decode cX10_waste 62 = .ok (.isub, 1) := by decide +kernel
theorem dX10_waste_63 : decode cX10_waste 63 = .ok (.ireturn, 1) := by decide +kernel
theorem dX10_waste_64 : decode cX10_waste 64 = .ok (.aload_n 0, 1) := by decide +kernel
theorem dX10_waste_65 : decode cX10_waste 65 = .ok (.getfield 60, 3) := by decide +kernel
theorem dX10_waste_68 : decode cX10_waste 68 = .ok (.invokevirtual 189, 3) := by decide +kernel
theorem dX10_waste_71 : decode cX10_waste 71 = .ok (.ireturn, 1) := by decide +kernel
theorem dX10_waste_72 : decode cX10_waste 72 = .ok (.aload_n 0, 1) := by decide +kernel
theorem dX10_waste_73 : decode cX10_waste 73 = .ok (.getfield 60, 3) := by decide +kernel
theorem dX10_waste_76 : decode cX10_waste 76 = .ok (.getfield 183, 3) := by decide +kernel
theorem dX10_waste_79 : decode cX10_waste 79 = .ok (.aload_n 0, 1) := by decide +kernel
theorem dX10_waste_80 : decode cX10_waste 80 = .ok (.getfield 60, 3) := by decide +kernel
theorem dX10_waste_83 : decode cX10_waste 83 = .ok (.iconst 0, 1) := by decide +kernel
theorem dX10_waste_84 : decode cX10_waste 84 = .ok (.sipush 199, 3) := by decide +kernel
theorem dX10_waste_87 : decode cX10_waste 87 = .ok (.invokevirtual 192, 3) := by decide +kernel
theorem dX10_waste_90 : decode cX10_waste 90 = .ok (.isub, 1) := by decide +kernel
theorem dX10_waste_91 : decode cX10_waste 91 = .ok (.ireturn, 1) := by decide +kernel
theorem dX10_many_0 : decode cX10_many 0 = .ok (.iload_n 1, 1) := by decide +kernel
theorem dX10_many_1 : decode cX10_many 1 = .ok (.invokestatic 115, 3) := by decide +kernel
theorem dX10_many_4 : decode cX10_many 4 = .ok (.iload_n 2, 1) := by decide +kernel
theorem dX10_many_5 : decode cX10_many 5 = .ok (.invokestatic 115, 3) := by decide +kernel
theorem dX10_many_8 : decode cX10_many 8 = .ok (.aload_n 0, 1) := by decide +kernel
theorem dX10_many_9 : decode cX10_many 9 = .ok (.getfield 60, 3) := by decide +kernel
theorem dX10_many_12 : decode cX10_many 12 = .ok (.aload_n 0, 1) := by decide +kernel
theorem dX10_many_13 : decode cX10_many 13 = .ok (.getfield 10, 3) := by decide +kernel
theorem dX10_many_16 : decode cX10_many 16 = .ok (.getfield 104, 3) := by decide +kernel
theorem dX10_many_19 : decode cX10_many 19 = .ok (.invokevirtual 174, 3) := by decide +kernel
theorem dX10_many_22 : decode cX10_many 22 = .ok (.aload_n 0, 1) := by decide +kernel
theorem dX10_many_23 : decode cX10_many 23 = .ok (.getfield 60, 3) := by decide +kernel
theorem dX10_many_26 : decode cX10_many 26 = .ok (.iload_n 1, 1) := by decide +kernel
theorem dX10_many_27 : decode cX10_many 27 = .ok (.iload_n 2, 1) := by decide +kernel
theorem dX10_many_28 : decode cX10_many 28 = .ok (.invokevirtual 192, 3) := by decide +kernel
theorem dX10_many_31 : decode cX10_many 31 = .ok (.ireturn, 1) := by decide +kernel
theorem dX10_trace_0 : decode cX10_trace 0 = .ok (.iload_n 1, 1) := by decide +kernel
theorem dX10_trace_1 : decode cX10_trace 1 = .ok (.invokestatic 115, 3) := by decide +kernel
theorem dX10_trace_4 : decode cX10_trace 4 = .ok (.iload_n 2, 1) := by decide +kernel
theorem dX10_trace_5 : decode cX10_trace 5 = .ok (.iconst 3, 1) := by decide +kernel
theorem dX10_trace_6 : decode cX10_trace 6 = .ok (.invokestatic 146, 3) := by decide +kernel
theorem dX10_trace_9 : decode cX10_trace 9 = .ok (.aload_n 0, 1) := by decide +kernel
theorem dX10_trace_10 : decode cX10_trace 10 = .ok (.getfield 10, 3) := by decide +kernel
theorem dX10_trace_13 : decode cX10_trace 13 = .ok (.getfield 104, 3) := by decide +kernel
theorem dX10_trace_16 : decode cX10_trace 16 = .ok (.astore_n 3, 1) := by decide +kernel
theorem dX10_trace_17 : decode cX10_trace 17 = .ok (.aload_n 3, 1) := by decide +kernel
theorem dX10_trace_18 : decode cX10_trace 18 = .ok (.invokevirtual 108, 3) := by decide +kernel
theorem dX10_trace_21 : decode cX10_trace 21 = .ok (.pop, 1) := by decide +kernel
theorem dX10_trace_22 : decode cX10_trace 22 = .ok (.iload_n 2, 1) := by decide +kernel
theorem dX10_trace_23 : decode cX10_trace 23 = .ok (.ifCond .ne 9, 3) := by decide +kernel
theorem dX10_trace_26 : decode cX10_trace 26 = .ok (.aload_n 3, 1) := by decide +kernel
theorem dX10_trace_27 : decode cX10_trace 27 = .ok (.iload_n 1, 1) := by decide +kernel
theorem dX10_trace_28 : decode cX10_trace 28 = .ok (.invokevirtual 195, 3) := by decide +kernel
theorem dX10_trace_31 : decode cX10_trace 31 = .ok (.ireturn, 1) := by decide +kernel
theorem dX10_trace_32 : decode cX10_trace 32 = .ok (.aload_n 3, 1) := by decide +kernel
theorem dX10_trace_33 : decode cX10_trace 33 = .ok (.iload_n 1, 1) := by decide +kernel
theorem dX10_trace_34 : decode cX10_trace 34 = .ok (.invokevirtual 198, 3) := by decide +kernel
theorem dX10_trace_37 : decode cX10_trace 37 = .ok (.istore 4, 2) := by decide +kernel
theorem dX10_trace_39 : decode cX10_trace 39 = .ok (.iload 4, 2) := by decide +kernel
theorem dX10_trace_41 : decode cX10_trace 41 = .ok (.iconst (-1), 1) := by decide +kernel
theorem dX10_trace_42 : decode cX10_trace 42 = .ok (.if_icmp .ne 5, 3) := by decide +kernel
theorem dX10_trace_45 : decode cX10_trace 45 = .ok (.iconst (-1), 1) := by decide +kernel
theorem dX10_trace_46 : decode cX10_trace 46 = .ok (.ireturn, 1) := by decide +kernel
theorem dX10_trace_47 : decode cX10_trace 47 = .ok (.iload_n 2, 1) := by decide +kernel
theorem dX10_trace_48 : decode cX10_trace 48 = .ok (.iconst 1, 1) := by decide +kernel
theorem dX10_trace_49 : decode cX10_trace 49 = .ok (.if_icmp .ne 12, 3) := by decide +kernel
theorem dX10_trace_52 : decode cX10_trace 52 = .ok (.getstatic 165, 3) := by decide +kernel
theorem dX10_trace_55 : decode cX10_trace 55 = .ok (.iload 4, 2) := by decide +kernel
theorem dX10_trace_57 : decode cX10_trace 57 = .ok (.iaload, 1) := by decide +kernel
theorem dX10_trace_58 : decode cX10_trace 58 = .ok (.goto 8, 3) := by decide +kernel
theorem dX10_trace_61 : decode cX10_trace 61 = .ok (.iload 4, 2) := by decide +kernel
theorem dX10_trace_63 : decode cX10_trace 63 = .ok (.invokestatic 168, 3) := by decide +kernel
theorem dX10_trace_66 : decode cX10_trace 66 = .ok (.ireturn, 1) := by decide +kernel
theorem dX10_level_0 : decode cX10_level 0 = .ok (.iload_n 1, 1) := by decide +kernel
theorem dX10_level_1 : decode cX10_level 1 = .ok (.invokestatic 201, 3) := by decide +kernel
theorem dX10_level_4 : decode cX10_level 4 = .ok (.iload_n 2, 1) := by decide +kernel
theorem dX10_level_5 : decode cX10_level 5 = .ok (.bipush 9, 2) := by decide +kernel
theorem dX10_level_7 : decode cX10_level 7 = .ok (.invokestatic 146, 3) := by decide +kernel
theorem dX10_level_10 : decode cX10_level 10 = .ok (.aload_n 0, 1) := by decide +kernel
theorem dX10_level_11 : decode cX10_level 11 = .ok (.getfield 10, 3) := by decide +kernel
theorem dX10_level_14 : decode cX10_level 14 = .ok (.getfield 204, 3) := by decide +kernel
theorem dX10_level_17 : decode cX10_level 17 = .ok (.iload_n 1, 1) := by decide +kernel
theorem dX10_level_18 : decode cX10_level 18 = .ok (.aaload, 1) := by decide +kernel
theorem dX10_level_19 : decode cX10_level 19 = .ok (.astore_n 3, 1) := by decide +kernel
theorem dX10_level_20 : decode cX10_level 20 = .ok (.aload_n 0, 1) := by decide +kernel
theorem dX10_level_21 : decode cX10_level 21 = .ok (.getfield 10, 3) := by decide +kernel
theorem dX10_level_24 : decode cX10_level 24 = .ok (.getfield 104, 3) := by decide +kernel
theorem dX10_level_27 : decode cX10_level 27 = .ok (.iload_n 1, 1) := by decide +kernel
theorem dX10_level_28 : decode cX10_level 28 = .ok (.invokevirtual 208, 3) := by decide +kernel
theorem dX10_level_31 : decode cX10_level 31 = .ok (.istore 4, 2) := by decide +kernel
theorem dX10_level_33 : decode cX10_level 33 = .ok (.iload_n 2, 1) := by decide +kernel
theorem dX10_level_34 : decode cX10_level 34 = .ok (.tableswitch 138 0 7 #[46, 58, 71, 83, 88, 93, 102, 122], 46) := by decide +kernel
theorem dX10_level_80 : decode cX10_level 80 = .ok (.aload_n 0, 1) := by decide +kernel
theorem dX10_level_81 : decode cX10_level 81 = .ok (.getfield 10, 3) := by decide +kernel
theorem dX10_level_84 : decode cX10_level 84 = .ok (.getfield 104, 3) := by decide +kernel
theorem dX10_level_87 : decode cX10_level 87 = .ok (.iload_n 1, 1) := by decide +kernel
theorem dX10_level_88 : decode cX10_level 88 = .ok (.invokevirtual 211, 3) := by decide +kernel
theorem dX10_level_91 : decode cX10_level 91 = .ok (.ireturn, 1) := by decide +kernel
theorem dX10_level_92 : decode cX10_level 92 = .ok (.aload_n 3, 1) := by decide +kernel
theorem dX10_level_93 : decode cX10_level 93 = .ok (.getfield 214, 3) := by decide +kernel
theorem dX10_level_96 : decode cX10_level 96 = .ok (.ifCond .eq 7, 3) := by decide +kernel
theorem dX10_level_99 : decode cX10_level 99 = .ok (.iconst 1, 1) := by decide +kernel
theorem dX10_level_100 : decode cX10_level 100 = .ok (.goto 4, 3) := by decide +kernel
theorem dX10_level_103 : decode cX10_level 103 = .ok (.iconst 0, 1) := by decide +kernel
theorem dX10_level_104 : decode cX10_level 104 = .ok (.ireturn, 1) := by decide +kernel
theorem dX10_level_105 : decode cX10_level 105 = .ok (.aload_n 0, 1) := by decide +kernel
theorem dX10_level_106 : decode cX10_level 106 = .ok (.getfield 10, 3) := by decide +kernel
theorem dX10_level_109 : decode cX10_level 109 = .ok (.getfield 104, 3) := by decide +kernel
theorem dX10_level_112 : decode cX10_level 112 = .ok (.iload_n 1, 1) := by decide +kernel
theorem dX10_level_113 : decode cX10_level 113 = .ok (.invokevirtual 219, 3) := by decide +kernel
theorem dX10_level_116 : decode cX10_level 116 = .ok (.ireturn, 1) := by decide +kernel
theorem dX10_level_117 : decode cX10_level 117 = .ok (.aload_n 3, 1) := by decide +kernel
theorem dX10_level_118 : decode cX10_level 118 = .ok (.getfield 222, 3) := by decide +kernel
theorem dX10_level_121 : decode cX10_level 121 = .ok (.ireturn, 1) := by decide +kernel
theorem dX10_level_122 : decode cX10_level 122 = .ok (.aload_n 3, 1) := by decide +kernel
theorem dX10_level_123 : decode cX10_level 123 = .ok (.getfield 225, 3) := by decide +kernel
theorem dX10_level_126 : decode cX10_level 126 = .ok (.ireturn, 1) := by decide +kernel
theorem dX10_level_127 : decode cX10_level 127 = .ok (.aload_n 0, 1) := by decide +kernel
theorem dX10_level_128 : decode cX10_level 128 = .ok (.getfield 10, 3) := by decide +kernel
theorem dX10_level_131 : decode cX10_level 131 = .ok (.iload_n 1, 1) := by decide +kernel
theorem dX10_level_132 : decode cX10_level 132 = .ok (.invokevirtual 228, 3) := by decide +kernel
theorem dX10_level_135 : decode cX10_level 135 = .ok (.ireturn, 1) := by decide +kernel
theorem dX10_level_136 : decode cX10_level 136 = .ok (.aload_n 3, 1) := by decide +kernel
theorem dX10_level_137 : decode cX10_level 137 = .ok (.getfield 214, 3) := by decide +kernel
theorem dX10_level_140 : decode cX10_level 140 = .ok (.ifCond .eq 14, 3) := by decide +kernel
theorem dX10_level_143 : decode cX10_level 143 = .ok (.aload_n 3, 1) := by decide +kernel
theorem dX10_level_144 : decode cX10_level 144 = .ok (.getfield 231, 3) := by decide +kernel
theorem dX10_level_147 : decode cX10_level 147 = .ok (.ifCond .eq 7, 3) := by decide +kernel
theorem dX10_level_150 : decode cX10_level 150 = .ok (.iconst 1, 1) := by decide +kernel
theorem dX10_level_151 : decode cX10_level 151 = .ok (.goto 4, 3) := by decide +kernel
theorem dX10_level_154 : decode cX10_level 154 = .ok (.iconst 0, 1) := by decide +kernel
theorem dX10_level_155 : decode cX10_level 155 = .ok (.ireturn, 1) := by decide +kernel
theorem dX10_level_156 : decode cX10_level 156 = .ok (.iload 4, 2) := by decide +kernel
theorem dX10_level_158 : decode cX10_level 158 = .ok (.iconst (-1), 1) := by decide +kernel
theorem dX10_level_159 : decode cX10_level 159 = .ok (.if_icmp .ne 7, 3) := by decide +kernel
theorem dX10_level_162 : decode cX10_level 162 = .ok (.iconst (-1), 1) := by decide +kernel
theorem dX10_level_163 : decode cX10_level 163 = .ok (.goto 8, 3) := by decide +kernel
theorem dX10_level_166 : decode cX10_level 166 = .ok (.iload 4, 2) := by decide +kernel
theorem dX10_level_168 : decode cX10_level 168 = .ok (.invokestatic 168, 3) := by decide +kernel
theorem dX10_level_171 : decode cX10_level 171 = .ok (.ireturn, 1) := by decide +kernel
theorem dX10_level_172 : decode cX10_level 172 = .ok (.iload 4, 2) := by decide +kernel
theorem dX10_level_174 : decode cX10_level 174 = .ok (.iconst (-1), 1) := by decide +kernel
theorem dX10_level_175 : decode cX10_level 175 = .ok (.if_icmp .ne 7, 3) := by decide +kernel
theorem dX10_level_178 : decode cX10_level 178 = .ok (.iconst 0, 1) := by decide +kernel
theorem dX10_level_179 : decode cX10_level 179 = .ok (.goto 9, 3) := by decide +kernel
theorem dX10_level_182 : decode cX10_level 182 = .ok (.aload_n 0, 1) := by decide +kernel
theorem dX10_level_183 : decode cX10_level 183 = .ok (.iload 4, 2) := by decide +kernel
theorem dX10_level_185 : decode cX10_level 185 = .ok (.invokevirtual 234, 3) := by decide +kernel
theorem dX10_level_188 : decode cX10_level 188 = .ok (.ireturn, 1) := by decide +kernel
theorem dX10_row_0 : decode cX10_row 0 = .ok (.iload_n 1, 1) := by decide +kernel
theorem dX10_row_1 : decode cX10_row 1 = .ok (.iload_n 2, 1) := by decide +kernel
theorem dX10_row_2 : decode cX10_row 2 = .ok (.invokestatic 237, 3) := by decide +kernel
theorem dX10_row_5 : decode cX10_row 5 = .ok (.iload_n 3, 1) := by decide +kernel
theorem dX10_row_6 : decode cX10_row 6 = .ok (.bipush 6, 2) := by decide +kernel
theorem dX10_row_8 : decode cX10_row 8 = .ok (.invokestatic 146, 3) := by decide +kernel
theorem dX10_row_11 : decode cX10_row 11 = .ok (.iload_n 1, 1) := by decide +kernel
theorem dX10_row_12 : decode cX10_row 12 = .ok (.iload_n 2, 1) := by decide +kernel
theorem dX10_row_13 : decode cX10_row 13 = .ok (.invokestatic 137, 3) := by decide +kernel
theorem dX10_row_16 : decode cX10_row 16 = .ok (.istore 4, 2) := by decide +kernel
theorem dX10_row_18 : decode cX10_row 18 = .ok (.aload_n 0, 1) := by decide +kernel
theorem dX10_row_19 : decode cX10_row 19 = .ok (.getfield 10, 3) := by decide +kernel
theorem dX10_row_22 : decode cX10_row 22 = .ok (.getfield 104, 3) := by decide +kernel
theorem dX10_row_25 : decode cX10_row 25 = .ok (.getfield 240, 3) := by decide +kernel
theorem dX10_row_28 : decode cX10_row 28 = .ok (.iload 4, 2) := by decide +kernel
theorem dX10_row_30 : decode cX10_row 30 = .ok (.aaload, 1) := by decide +kernel
theorem dX10_row_31 : decode cX10_row 31 = .ok (.astore 5, 2) := by decide +kernel
theorem dX10_row_33 : decode cX10_row 33 = .ok (.iload_n 3, 1) := by decide +kernel
theorem dX10_row_34 : decode cX10_row 34 = .ok (.tableswitch 66 0 4 #[34, 40, 46, 53, 60], 34) := by decide +kernel
theorem dX10_row_68 : decode cX10_row 68 = .ok (.aload 5, 2) := by decide +kernel
theorem dX10_row_70 : decode cX10_row 70 = .ok (.getfield 244, 3) := by decide +kernel
theorem dX10_row_73 : decode cX10_row 73 = .ok (.ireturn, 1) := by decide +kernel
theorem dX10_row_74 : decode cX10_row 74 = .ok (.aload 5, 2) := by decide +kernel
theorem dX10_row_76 : decode cX10_row 76 = .ok (.getfield 249, 3) := by decide +kernel
theorem dX10_row_79 : decode cX10_row 79 = .ok (.ireturn, 1) := by decide +kernel
theorem dX10_row_80 : decode cX10_row 80 = .ok (.aload_n 0, 1) := by decide +kernel
theorem dX10_row_81 : decode cX10_row 81 = .ok (.iload 4, 2) := by decide +kernel
theorem dX10_row_83 : decode cX10_row 83 = .ok (.invokevirtual 250, 3) := by decide +kernel
theorem dX10_row_86 : decode cX10_row 86 = .ok (.ireturn, 1) := by decide +kernel
theorem dX10_row_87 : decode cX10_row 87 = .ok (.aload_n 0, 1) := by decide +kernel
theorem dX10_row_88 : decode cX10_row 88 = .ok (.iload 4, 2) := by decide +kernel
theorem dX10_row_90 : decode cX10_row 90 = .ok (.invokevirtual 234, 3) := by decide +kernel
theorem dX10_row_93 : decode cX10_row 93 = .ok (.ireturn, 1) := by decide +kernel
theorem dX10_row_94 : decode cX10_row 94 = .ok (.aload 5, 2) := by decide +kernel
theorem dX10_row_96 : decode cX10_row 96 = .ok (.getfield 253, 3) := by decide +kernel
theorem dX10_row_99 : decode cX10_row 99 = .ok (.ireturn, 1) := by decide +kernel
theorem dX10_row_100 : decode cX10_row 100 = .ok (.aload_n 0, 1) := by decide +kernel
theorem dX10_row_101 : decode cX10_row 101 = .ok (.iload 4, 2) := by decide +kernel
theorem dX10_row_103 : decode cX10_row 103 = .ok (.invokevirtual 256, 3) := by decide +kernel
theorem dX10_row_106 : decode cX10_row 106 = .ok (.ireturn, 1) := by decide +kernel
theorem dX10_thing_0 : decode cX10_thing 0 = .ok (.iload_n 1, 1) := by decide +kernel
theorem dX10_thing_1 : decode cX10_thing 1 = .ok (.iload_n 2, 1) := by decide +kernel
theorem dX10_thing_2 : decode cX10_thing 2 = .ok (.invokestatic 237, 3) := by decide +kernel
theorem dX10_thing_5 : decode cX10_thing 5 = .ok (.iload 4, 2) := by decide +kernel
theorem dX10_thing_7 : decode cX10_thing 7 = .ok (.iconst 2, 1) := by decide +kernel
theorem dX10_thing_8 : decode cX10_thing 8 = .ok (.invokestatic 146, 3) := by decide +kernel
theorem dX10_thing_11 : decode cX10_thing 11 = .ok (.aload_n 0, 1) := by decide +kernel
theorem dX10_thing_12 : decode cX10_thing 12 = .ok (.getfield 10, 3) := by decide +kernel
theorem dX10_thing_15 : decode cX10_thing 15 = .ok (.getfield 104, 3) := by decide +kernel
theorem dX10_thing_18 : decode cX10_thing 18 = .ok (.getfield 240, 3) := by decide +kernel
theorem dX10_thing_21 : decode cX10_thing 21 = .ok (.iload_n 1, 1) := by decide +kernel
theorem dX10_thing_22 : decode cX10_thing 22 = .ok (.iload_n 2, 1) := by decide +kernel
theorem dX10_thing_23 : decode cX10_thing 23 = .ok (.invokestatic 137, 3) := by decide +kernel
theorem dX10_thing_26 : decode cX10_thing 26 = .ok (.aaload, 1) := by decide +kernel
theorem dX10_thing_27 : decode cX10_thing 27 = .ok (.astore 5, 2) := by decide +kernel
theorem dX10_thing_29 : decode cX10_thing 29 = .ok (.iload_n 3, 1) := by decide +kernel
theorem dX10_thing_30 : decode cX10_thing 30 = .ok (.ifCond .lt 12, 3) := by decide +kernel
theorem dX10_thing_33 : decode cX10_thing 33 = .ok (.iload_n 3, 1) := by decide +kernel
theorem dX10_thing_34 : decode cX10_thing 34 = .ok (.aload 5, 2) := by decide +kernel
theorem dX10_thing_36 : decode cX10_thing 36 = .ok (.getfield 249, 3) := by decide +kernel
theorem dX10_thing_39 : decode cX10_thing 39 = .ok (.if_icmp .lt 14, 3) := by decide +kernel
theorem dX10_thing_42 : decode cX10_thing 42 = .ok (.new 155, 3) := by decide +kernel
theorem dX10_thing_45 : decode cX10_thing 45 = .ok (.dup, 1) := by decide +kernel
theorem dX10_thing_46 : decode cX10_thing 46 = .ok (.ldc_w 259, 3) := by decide +kernel
theorem dX10_thing_49 : decode cX10_thing 49 = .ok (.invokespecial 159, 3) := by decide +kernel
theorem dX10_thing_52 : decode cX10_thing 52 = .ok (.athrow, 1) := by decide +kernel
theorem dX10_thing_53 : decode cX10_thing 53 = .ok (.iload 4, 2) := by decide +kernel
theorem dX10_thing_55 : decode cX10_thing 55 = .ok (.ifCond .ne 12, 3) := by decide +kernel
theorem dX10_thing_58 : decode cX10_thing 58 = .ok (.aload 5, 2) := by decide +kernel
theorem dX10_thing_60 : decode cX10_thing 60 = .ok (.iload_n 3, 1) := by decide +kernel
theorem dX10_thing_61 : decode cX10_thing 61 = .ok (.invokevirtual 261, 3) := by decide +kernel
theorem dX10_thing_64 : decode cX10_thing 64 = .ok (.goto 9, 3) := by decide +kernel
theorem dX10_thing_67 : decode cX10_thing 67 = .ok (.aload 5, 2) := by decide +kernel
theorem dX10_thing_69 : decode cX10_thing 69 = .ok (.iload_n 3, 1) := by decide +kernel
theorem dX10_thing_70 : decode cX10_thing 70 = .ok (.invokevirtual 264, 3) := by decide +kernel
theorem dX10_thing_73 : decode cX10_thing 73 = .ok (.ireturn, 1) := by decide +kernel
theorem dX10_entry_0 : decode cX10_entry 0 = .ok (.aload_n 0, 1) := by decide +kernel
theorem dX10_entry_1 : decode cX10_entry 1 = .ok (.iload_n 1, 1) := by decide +kernel
theorem dX10_entry_2 : decode cX10_entry 2 = .ok (.iload_n 2, 1) := by decide +kernel
theorem dX10_entry_3 : decode cX10_entry 3 = .ok (.invokevirtual 125, 3) := by decide +kernel
theorem dX10_entry_6 : decode cX10_entry 6 = .ok (.iload 4, 2) := by decide +kernel
theorem dX10_entry_8 : decode cX10_entry 8 = .ok (.iconst 4, 1) := by decide +kernel
theorem dX10_entry_9 : decode cX10_entry 9 = .ok (.invokestatic 146, 3) := by decide +kernel
theorem dX10_entry_12 : decode cX10_entry 12 = .ok (.aload_n 0, 1) := by decide +kernel
theorem dX10_entry_13 : decode cX10_entry 13 = .ok (.invokevirtual 118, 3) := by decide +kernel
theorem dX10_entry_16 : decode cX10_entry 16 = .ok (.aload_n 0, 1) := by decide +kernel
theorem dX10_entry_17 : decode cX10_entry 17 = .ok (.getfield 46, 3) := by decide +kernel
theorem dX10_entry_20 : decode cX10_entry 20 = .ok (.getfield 267, 3) := by decide +kernel
theorem dX10_entry_23 : decode cX10_entry 23 = .ok (.iload_n 1, 1) := by decide +kernel
theorem dX10_entry_24 : decode cX10_entry 24 = .ok (.iload_n 2, 1) := by decide +kernel
theorem dX10_entry_25 : decode cX10_entry 25 = .ok (.invokestatic 137, 3) := by decide +kernel
theorem dX10_entry_28 : decode cX10_entry 28 = .ok (.aaload, 1) := by decide +kernel
theorem dX10_entry_29 : decode cX10_entry 29 = .ok (.astore 5, 2) := by decide +kernel
theorem dX10_entry_31 : decode cX10_entry 31 = .ok (.iload_n 3, 1) := by decide +kernel
theorem dX10_entry_32 : decode cX10_entry 32 = .ok (.ifCond .lt 12, 3) := by decide +kernel
theorem dX10_entry_35 : decode cX10_entry 35 = .ok (.iload_n 3, 1) := by decide +kernel
theorem dX10_entry_36 : decode cX10_entry 36 = .ok (.aload 5, 2) := by decide +kernel
theorem dX10_entry_38 : decode cX10_entry 38 = .ok (.getfield 271, 3) := by decide +kernel
theorem dX10_entry_41 : decode cX10_entry 41 = .ok (.if_icmp .lt 14, 3) := by decide +kernel
theorem dX10_entry_44 : decode cX10_entry 44 = .ok (.new 155, 3) := by decide +kernel
theorem dX10_entry_47 : decode cX10_entry 47 = .ok (.dup, 1) := by decide +kernel
theorem dX10_entry_48 : decode cX10_entry 48 = .ok (.ldc_w 274, 3) := by decide +kernel
theorem dX10_entry_51 : decode cX10_entry 51 = .ok (.invokespecial 159, 3) := by decide +kernel
theorem dX10_entry_54 : decode cX10_entry 54 = .ok (.athrow, 1) := by decide +kernel
theorem dX10_entry_55 : decode cX10_entry 55 = .ok (.iload 4, 2) := by decide +kernel
theorem dX10_entry_57 : decode cX10_entry 57 = .ok (.tableswitch 48 0 2 #[27, 34, 41], 27) := by decide +kernel
theorem dX10_entry_84 : decode cX10_entry 84 = .ok (.aload 5, 2) := by decide +kernel
theorem dX10_entry_86 : decode cX10_entry 86 = .ok (.iload_n 3, 1) := by decide +kernel
theorem dX10_entry_87 : decode cX10_entry 87 = .ok (.invokevirtual 276, 3) := by decide +kernel
theorem dX10_entry_90 : decode cX10_entry 90 = .ok (.ireturn, 1) := by decide +kernel
theorem dX10_entry_91 : decode cX10_entry 91 = .ok (.aload 5, 2) := by decide +kernel
theorem dX10_entry_93 : decode cX10_entry 93 = .ok (.iload_n 3, 1) := by decide +kernel
theorem dX10_entry_94 : decode cX10_entry 94 = .ok (.invokevirtual 277, 3) := by decide +kernel
theorem dX10_entry_97 : decode cX10_entry 97 = .ok (.ireturn, 1) := by decide +kernel
theorem dX10_entry_98 : decode cX10_entry 98 = .ok (.aload 5, 2) := by decide +kernel
theorem dX10_entry_100 : decode cX10_entry 100 = .ok (.iload_n 3, 1) := by decide +kernel
theorem dX10_entry_101 : decode cX10_entry 101 = .ok (.invokevirtual 280, 3) := by decide +kernel
theorem dX10_entry_104 : decode cX10_entry 104 = .ok (.ireturn, 1) := by decide +kernel
theorem dX10_entry_105 : decode cX10_entry 105 = .ok (.aload 5, 2) := by decide +kernel
theorem dX10_entry_107 : decode cX10_entry 107 = .ok (.iload_n 3, 1) := by decide +kernel
theorem dX10_entry_108 : decode cX10_entry 108 = .ok (.invokevirtual 281, 3) := by decide +kernel
theorem dX10_entry_111 : decode cX10_entry 111 = .ok (.ireturn, 1) := by decide +kernel
theorem dX10_count_0 : decode cX10_count 0 = .ok (.iload_n 1, 1) := by decide +kernel
theorem dX10_count_1 : decode cX10_count 1 = .ok (.bipush 16, 2) := by decide +kernel
theorem dX10_count_3 : decode cX10_count 3 = .ok (.invokestatic 146, 3) := by decide +kernel
theorem dX10_count_6 : decode cX10_count 6 = .ok (.iload_n 1, 1) := by decide +kernel
theorem dX10_count_7 : decode cX10_count 7 = .ok (.tableswitch 201 0 14 #[73, 81, 89, 97, 105, 113, 121, 133, 144, 155, 166, 174, 179, 187, 195], 73) := by decide +kernel
theorem dX10_count_80 : decode cX10_count 80 = .ok (.aload_n 0, 1) := by decide +kernel
theorem dX10_count_81 : decode cX10_count 81 = .ok (.getfield 10, 3) := by decide +kernel
theorem dX10_count_84 : decode cX10_count 84 = .ok (.getfield 284, 3) := by decide +kernel
theorem dX10_count_87 : decode cX10_count 87 = .ok (.ireturn, 1) := by decide +kernel
theorem dX10_count_88 : decode cX10_count 88 = .ok (.aload_n 0, 1) := by decide +kernel
theorem dX10_count_89 : decode cX10_count 89 = .ok (.getfield 10, 3) := by decide +kernel
theorem dX10_count_92 : decode cX10_count 92 = .ok (.getfield 287, 3) := by decide +kernel
theorem dX10_count_95 : decode cX10_count 95 = .ok (.ireturn, 1) := by decide +kernel
theorem dX10_count_96 : decode cX10_count 96 = .ok (.aload_n 0, 1) := by decide +kernel
theorem dX10_count_97 : decode cX10_count 97 = .ok (.getfield 10, 3) := by decide +kernel
theorem dX10_count_100 : decode cX10_count 100 = .ok (.getfield 290, 3) := by decide +kernel
theorem dX10_count_103 : decode cX10_count 103 = .ok (.ireturn, 1) := by decide +kernel
theorem dX10_count_104 : decode cX10_count 104 = .ok (.aload_n 0, 1) := by decide +kernel
theorem dX10_count_105 : decode cX10_count 105 = .ok (.getfield 10, 3) := by decide +kernel
theorem dX10_count_108 : decode cX10_count 108 = .ok (.getfield 293, 3) := by decide +kernel
theorem dX10_count_111 : decode cX10_count 111 = .ok (.ireturn, 1) := by decide +kernel
theorem dX10_count_112 : decode cX10_count 112 = .ok (.aload_n 0, 1) := by decide +kernel
theorem dX10_count_113 : decode cX10_count 113 = .ok (.getfield 10, 3) := by decide +kernel
theorem dX10_count_116 : decode cX10_count 116 = .ok (.getfield 296, 3) := by decide +kernel
theorem dX10_count_119 : decode cX10_count 119 = .ok (.ireturn, 1) := by decide +kernel
theorem dX10_count_120 : decode cX10_count 120 = .ok (.aload_n 0, 1) := by decide +kernel
theorem dX10_count_121 : decode cX10_count 121 = .ok (.getfield 10, 3) := by decide +kernel
theorem dX10_count_124 : decode cX10_count 124 = .ok (.getfield 299, 3) := by decide +kernel
theorem dX10_count_127 : decode cX10_count 127 = .ok (.ireturn, 1) := by decide +kernel
theorem dX10_count_128 : decode cX10_count 128 = .ok (.aload_n 0, 1) := by decide +kernel
theorem dX10_count_129 : decode cX10_count 129 = .ok (.aload_n 0, 1) := by decide +kernel
theorem dX10_count_130 : decode cX10_count 130 = .ok (.getfield 10, 3) := by decide +kernel
theorem dX10_count_133 : decode cX10_count 133 = .ok (.getfield 104, 3) := by decide +kernel
theorem dX10_count_136 : decode cX10_count 136 = .ok (.invokevirtual 302, 3) := by decide +kernel
theorem dX10_count_139 : decode cX10_count 139 = .ok (.ireturn, 1) := by decide +kernel
theorem dX10_count_140 : decode cX10_count 140 = .ok (.aload_n 0, 1) := by decide +kernel
theorem dX10_count_141 : decode cX10_count 141 = .ok (.getfield 10, 3) := by decide +kernel
theorem dX10_count_144 : decode cX10_count 144 = .ok (.getfield 104, 3) := by decide +kernel
theorem dX10_count_147 : decode cX10_count 147 = .ok (.invokevirtual 108, 3) := by decide +kernel
theorem dX10_count_150 : decode cX10_count 150 = .ok (.ireturn, 1) := by decide +kernel
theorem dX10_count_151 : decode cX10_count 151 = .ok (.aload_n 0, 1) := by decide +kernel
theorem dX10_count_152 : decode cX10_count 152 = .ok (.getfield 10, 3) := by decide +kernel
theorem dX10_count_155 : decode cX10_count 155 = .ok (.getfield 104, 3) := by decide +kernel
theorem dX10_count_158 : decode cX10_count 158 = .ok (.invokevirtual 306, 3) := by decide +kernel
theorem dX10_count_161 : decode cX10_count 161 = .ok (.ireturn, 1) := by decide +kernel
theorem dX10_count_162 : decode cX10_count 162 = .ok (.aload_n 0, 1) := by decide +kernel
theorem dX10_count_163 : decode cX10_count 163 = .ok (.getfield 10, 3) := by decide +kernel
theorem dX10_count_166 : decode cX10_count 166 = .ok (.getfield 104, 3) := by decide +kernel
theorem dX10_count_169 : decode cX10_count 169 = .ok (.invokevirtual 308, 3) := by decide +kernel
theorem dX10_count_172 : decode cX10_count 172 = .ok (.ireturn, 1) := by decide +kernel
theorem dX10_count_173 : decode cX10_count 173 = .ok (.aload_n 0, 1) := by decide +kernel
theorem dX10_count_174 : decode cX10_count 174 = .ok (.getfield 10, 3) := by decide +kernel
theorem dX10_count_177 : decode cX10_count 177 = .ok (.getfield 101, 3) := by decide +kernel
theorem dX10_count_180 : decode cX10_count 180 = .ok (.ireturn, 1) := by decide +kernel
theorem dX10_count_181 : decode cX10_count 181 = .ok (.aload_n 0, 1) := by decide +kernel
theorem dX10_count_182 : decode cX10_count 182 = .ok (.getfield 67, 3) := by decide +kernel
theorem dX10_count_185 : decode cX10_count 185 = .ok (.ireturn, 1) := by decide +kernel
theorem dX10_count_186 : decode cX10_count 186 = .ok (.aload_n 0, 1) := by decide +kernel
theorem dX10_count_187 : decode cX10_count 187 = .ok (.getfield 10, 3) := by decide +kernel
theorem dX10_count_190 : decode cX10_count 190 = .ok (.invokevirtual 311, 3) := by decide +kernel
theorem dX10_count_193 : decode cX10_count 193 = .ok (.ireturn, 1) := by decide +kernel
theorem dX10_count_194 : decode cX10_count 194 = .ok (.aload_n 0, 1) := by decide +kernel
theorem dX10_count_195 : decode cX10_count 195 = .ok (.getfield 32, 3) := by decide +kernel
theorem dX10_count_198 : decode cX10_count 198 = .ok (.getfield 76, 3) := by decide +kernel
theorem dX10_count_201 : decode cX10_count 201 = .ok (.ireturn, 1) := by decide +kernel
theorem dX10_count_202 : decode cX10_count 202 = .ok (.aload_n 0, 1) := by decide +kernel
theorem dX10_count_203 : decode cX10_count 203 = .ok (.iconst 0, 1) := by decide +kernel
theorem dX10_count_204 : decode cX10_count 204 = .ok (.invokevirtual 314, 3) := by decide +kernel
theorem dX10_count_207 : decode cX10_count 207 = .ok (.ireturn, 1) := by decide +kernel
theorem dX10_count_208 : decode cX10_count 208 = .ok (.aload_n 0, 1) := by decide +kernel
theorem dX10_count_209 : decode cX10_count 209 = .ok (.iconst 1, 1) := by decide +kernel
theorem dX10_count_210 : decode cX10_count 210 = .ok (.invokevirtual 314, 3) := by decide +kernel
theorem dX10_count_213 : decode cX10_count 213 = .ok (.ireturn, 1) := by decide +kernel
theorem dX10_toll_0 : decode cX10_toll 0 = .ok (.iload_n 1, 1) := by decide +kernel
theorem dX10_toll_1 : decode cX10_toll 1 = .ok (.ifCond .lt 14, 3) := by decide +kernel
theorem dX10_toll_4 : decode cX10_toll 4 = .ok (.iload_n 1, 1) := by decide +kernel
theorem dX10_toll_5 : decode cX10_toll 5 = .ok (.aload_n 0, 1) := by decide +kernel
theorem dX10_toll_6 : decode cX10_toll 6 = .ok (.getfield 39, 3) := by decide +kernel
theorem dX10_toll_9 : decode cX10_toll 9 = .ok (.getfield 318, 3) := by decide +kernel
theorem dX10_toll_12 : decode cX10_toll 12 = .ok (.if_icmp .lt 14, 3) := by decide +kernel
theorem dX10_toll_15 : decode cX10_toll 15 = .ok (.new 155, 3) := by decide +kernel
theorem dX10_toll_18 : decode cX10_toll 18 = .ok (.dup, 1) := by decide +kernel
theorem dX10_toll_19 : decode cX10_toll 19 = .ok (.ldc_w 319, 3) := by decide +kernel
theorem dX10_toll_22 : decode cX10_toll 22 = .ok (.invokespecial 159, 3) := by decide +kernel
theorem dX10_toll_25 : decode cX10_toll 25 = .ok (.athrow, 1) := by decide +kernel
theorem dX10_toll_26 : decode cX10_toll 26 = .ok (.aload_n 0, 1) := by decide +kernel
theorem dX10_toll_27 : decode cX10_toll 27 = .ok (.getfield 39, 3) := by decide +kernel
theorem dX10_toll_30 : decode cX10_toll 30 = .ok (.iload_n 1, 1) := by decide +kernel
theorem dX10_toll_31 : decode cX10_toll 31 = .ok (.invokevirtual 321, 3) := by decide +kernel
theorem dX10_toll_34 : decode cX10_toll 34 = .ok (.ireturn, 1) := by decide +kernel
theorem dX10_ahead_0 : decode cX10_ahead 0 = .ok (.iload_n 2, 1) := by decide +kernel
theorem dX10_ahead_1 : decode cX10_ahead 1 = .ok (.iconst 5, 1) := by decide +kernel
theorem dX10_ahead_2 : decode cX10_ahead 2 = .ok (.invokestatic 146, 3) := by decide +kernel
theorem dX10_ahead_5 : decode cX10_ahead 5 = .ok (.iload_n 1, 1) := by decide +kernel
theorem dX10_ahead_6 : decode cX10_ahead 6 = .ok (.invokestatic 324, 3) := by decide +kernel
theorem dX10_ahead_9 : decode cX10_ahead 9 = .ok (.aload_n 0, 1) := by decide +kernel
theorem dX10_ahead_10 : decode cX10_ahead 10 = .ok (.getfield 16, 3) := by decide +kernel
theorem dX10_ahead_13 : decode cX10_ahead 13 = .ok (.aload_n 0, 1) := by decide +kernel
theorem dX10_ahead_14 : decode cX10_ahead 14 = .ok (.getfield 10, 3) := by decide +kernel
theorem dX10_ahead_17 : decode cX10_ahead 17 = .ok (.invokevirtual 327, 3) := by decide +kernel
theorem dX10_ahead_20 : decode cX10_ahead 20 = .ok (.iconst 0, 1) := by decide +kernel
theorem dX10_ahead_21 : decode cX10_ahead 21 = .ok (.istore_n 3, 1) := by decide +kernel
theorem dX10_ahead_22 : decode cX10_ahead 22 = .ok (.iconst 0, 1) := by decide +kernel
theorem dX10_ahead_23 : decode cX10_ahead 23 = .ok (.istore 4, 2) := by decide +kernel
theorem dX10_ahead_25 : decode cX10_ahead 25 = .ok (.iload 4, 2) := by decide +kernel
theorem dX10_ahead_27 : decode cX10_ahead 27 = .ok (.iload_n 1, 1) := by decide +kernel
theorem dX10_ahead_28 : decode cX10_ahead 28 = .ok (.if_icmp .ge 27, 3) := by decide +kernel
theorem dX10_ahead_31 : decode cX10_ahead 31 = .ok (.iload_n 3, 1) := by decide +kernel
theorem dX10_ahead_32 : decode cX10_ahead 32 = .ok (.aload_n 0, 1) := by decide +kernel
theorem dX10_ahead_33 : decode cX10_ahead 33 = .ok (.getfield 16, 3) := by decide +kernel
theorem dX10_ahead_36 : decode cX10_ahead 36 = .ok (.iload 4, 2) := by decide +kernel
theorem dX10_ahead_38 : decode cX10_ahead 38 = .ok (.invokestatic 331, 3) := by decide +kernel
theorem dX10_ahead_41 : decode cX10_ahead 41 = .ok (.iconst 0, 1) := by decide +kernel
theorem dX10_ahead_42 : decode cX10_ahead 42 = .ok (.invokevirtual 334, 3) := by decide +kernel
theorem dX10_ahead_45 : decode cX10_ahead 45 = .ok (.invokestatic 337, 3) := by decide +kernel
theorem dX10_ahead_48 : decode cX10_ahead 48 = .ok (.istore_n 3, 1) := by decide +kernel
theorem dX10_ahead_49 : decode cX10_ahead 49 = .ok (.iinc 4 1, 3) := by decide +kernel
theorem dX10_ahead_52 : decode cX10_ahead 52 = .ok (.goto (-27), 3) := by decide +kernel
theorem dX10_ahead_55 : decode cX10_ahead 55 = .ok (.iload_n 2, 1) := by decide +kernel
theorem dX10_ahead_56 : decode cX10_ahead 56 = .ok (.tableswitch 77 0 3 #[32, 48, 64, 66], 32) := by decide +kernel
theorem dX10_ahead_88 : decode cX10_ahead 88 = .ok (.aload_n 0, 1) := by decide +kernel
theorem dX10_ahead_89 : decode cX10_ahead 89 = .ok (.getfield 16, 3) := by decide +kernel
theorem dX10_ahead_92 : decode cX10_ahead 92 = .ok (.getfield 287, 3) := by decide +kernel
theorem dX10_ahead_95 : decode cX10_ahead 95 = .ok (.aload_n 0, 1) := by decide +kernel
theorem dX10_ahead_96 : decode cX10_ahead 96 = .ok (.getfield 10, 3) := by decide +kernel
theorem dX10_ahead_99 : decode cX10_ahead 99 = .ok (.getfield 287, 3) := by decide +kernel
theorem dX10_ahead_102 : decode cX10_ahead 102 = .ok (.isub, 1) := by decide +kernel
theorem dX10_ahead_103 : decode cX10_ahead 103 = .ok (.ireturn, 1) := by decide +kernel
theorem dX10_ahead_104 : decode cX10_ahead 104 = .ok (.aload_n 0, 1) := by decide +kernel
theorem dX10_ahead_105 : decode cX10_ahead 105 = .ok (.getfield 16, 3) := by decide +kernel
theorem dX10_ahead_108 : decode cX10_ahead 108 = .ok (.getfield 290, 3) := by decide +kernel
theorem dX10_ahead_111 : decode cX10_ahead 111 = .ok (.aload_n 0, 1) := by decide +kernel
theorem dX10_ahead_112 : decode cX10_ahead 112 = .ok (.getfield 10, 3) := by decide +kernel
theorem dX10_ahead_115 : decode cX10_ahead 115 = .ok (.getfield 290, 3) := by decide +kernel
theorem dX10_ahead_118 : decode cX10_ahead 118 = .ok (.isub, 1) := by decide +kernel
theorem dX10_ahead_119 : decode cX10_ahead 119 = .ok (.ireturn, 1) := by decide +kernel
theorem dX10_ahead_120 : decode cX10_ahead 120 = .ok (.iload_n 3, 1) := by decide +kernel
theorem dX10_ahead_121 : decode cX10_ahead 121 = .ok (.ireturn, 1) := by decide +kernel
theorem dX10_ahead_122 : decode cX10_ahead 122 = .ok (.aload_n 0, 1) := by decide +kernel
theorem dX10_ahead_123 : decode cX10_ahead 123 = .ok (.getfield 16, 3) := by decide +kernel
theorem dX10_ahead_126 : decode cX10_ahead 126 = .ok (.getfield 104, 3) := by decide +kernel
theorem dX10_ahead_129 : decode cX10_ahead 129 = .ok (.invokevirtual 108, 3) := by decide +kernel
theorem dX10_ahead_132 : decode cX10_ahead 132 = .ok (.ireturn, 1) := by decide +kernel
theorem dX10_ahead_133 : decode cX10_ahead 133 = .ok (.aload_n 0, 1) := by decide +kernel
theorem dX10_ahead_134 : decode cX10_ahead 134 = .ok (.aload_n 0, 1) := by decide +kernel
theorem dX10_ahead_135 : decode cX10_ahead 135 = .ok (.getfield 16, 3) := by decide +kernel
theorem dX10_ahead_138 : decode cX10_ahead 138 = .ok (.getfield 104, 3) := by decide +kernel
theorem dX10_ahead_141 : decode cX10_ahead 141 = .ok (.invokevirtual 302, 3) := by decide +kernel
theorem dX10_ahead_144 : decode cX10_ahead 144 = .ok (.ireturn, 1) := by decide +kernel
theorem dX10_calm_0 : decode cX10_calm 0 = .ok (.iload_n 1, 1) := by decide +kernel
theorem dX10_calm_1 : decode cX10_calm 1 = .ok (.invokestatic 324, 3) := by decide +kernel
theorem dX10_calm_4 : decode cX10_calm 4 = .ok (.iconst 0, 1) := by decide +kernel
theorem dX10_calm_5 : decode cX10_calm 5 = .ok (.istore_n 2, 1) := by decide +kernel
theorem dX10_calm_6 : decode cX10_calm 6 = .ok (.iload_n 2, 1) := by decide +kernel
theorem dX10_calm_7 : decode cX10_calm 7 = .ok (.bipush 40, 2) := by decide +kernel
theorem dX10_calm_9 : decode cX10_calm 9 = .ok (.if_icmp .gt 20, 3) := by decide +kernel
theorem dX10_calm_12 : decode cX10_calm 12 = .ok (.aload_n 0, 1) := by decide +kernel
theorem dX10_calm_13 : decode cX10_calm 13 = .ok (.iload_n 1, 1) := by decide +kernel
theorem dX10_calm_14 : decode cX10_calm 14 = .ok (.iload_n 2, 1) := by decide +kernel
theorem dX10_calm_15 : decode cX10_calm 15 = .ok (.invokevirtual 342, 3) := by decide +kernel
theorem dX10_calm_18 : decode cX10_calm 18 = .ok (.ifCond .eq 5, 3) := by decide +kernel
theorem dX10_calm_21 : decode cX10_calm 21 = .ok (.iload_n 2, 1) := by decide +kernel
theorem dX10_calm_22 : decode cX10_calm 22 = .ok (.ireturn, 1) := by decide +kernel
theorem dX10_calm_23 : decode cX10_calm 23 = .ok (.iinc 2 1, 3) := by decide +kernel
theorem dX10_calm_26 : decode cX10_calm 26 = .ok (.goto (-20), 3) := by decide +kernel
theorem dX10_calm_29 : decode cX10_calm 29 = .ok (.iconst (-1), 1) := by decide +kernel
theorem dX10_calm_30 : decode cX10_calm 30 = .ok (.ireturn, 1) := by decide +kernel
theorem dX10_due_0 : decode cX10_due 0 = .ok (.iload_n 1, 1) := by decide +kernel
theorem dX10_due_1 : decode cX10_due 1 = .ok (.invokestatic 201, 3) := by decide +kernel
theorem dX10_due_4 : decode cX10_due 4 = .ok (.aload_n 0, 1) := by decide +kernel
theorem dX10_due_5 : decode cX10_due 5 = .ok (.getfield 16, 3) := by decide +kernel
theorem dX10_due_8 : decode cX10_due 8 = .ok (.aload_n 0, 1) := by decide +kernel
theorem dX10_due_9 : decode cX10_due 9 = .ok (.getfield 10, 3) := by decide +kernel
theorem dX10_due_12 : decode cX10_due 12 = .ok (.invokevirtual 327, 3) := by decide +kernel
theorem dX10_due_15 : decode cX10_due 15 = .ok (.iconst 0, 1) := by decide +kernel
theorem dX10_due_16 : decode cX10_due 16 = .ok (.istore_n 2, 1) := by decide +kernel
theorem dX10_due_17 : decode cX10_due 17 = .ok (.iload_n 2, 1) := by decide +kernel
theorem dX10_due_18 : decode cX10_due 18 = .ok (.bipush 64, 2) := by decide +kernel
theorem dX10_due_20 : decode cX10_due 20 = .ok (.if_icmp .ge 53, 3) := by decide +kernel
theorem dX10_due_23 : decode cX10_due 23 = .ok (.aload_n 0, 1) := by decide +kernel
theorem dX10_due_24 : decode cX10_due 24 = .ok (.getfield 16, 3) := by decide +kernel
theorem dX10_due_27 : decode cX10_due 27 = .ok (.iload_n 2, 1) := by decide +kernel
theorem dX10_due_28 : decode cX10_due 28 = .ok (.invokestatic 331, 3) := by decide +kernel
theorem dX10_due_31 : decode cX10_due 31 = .ok (.iconst 0, 1) := by decide +kernel
theorem dX10_due_32 : decode cX10_due 32 = .ok (.invokevirtual 334, 3) := by decide +kernel
theorem dX10_due_35 : decode cX10_due 35 = .ok (.pop, 1) := by decide +kernel
theorem dX10_due_36 : decode cX10_due 36 = .ok (.aload_n 0, 1) := by decide +kernel
theorem dX10_due_37 : decode cX10_due 37 = .ok (.getfield 16, 3) := by decide +kernel
theorem dX10_due_40 : decode cX10_due 40 = .ok (.getfield 204, 3) := by decide +kernel
theorem dX10_due_43 : decode cX10_due 43 = .ok (.iload_n 1, 1) := by decide +kernel
theorem dX10_due_44 : decode cX10_due 44 = .ok (.aaload, 1) := by decide +kernel
theorem dX10_due_45 : decode cX10_due 45 = .ok (.getfield 222, 3) := by decide +kernel
theorem dX10_due_48 : decode cX10_due 48 = .ok (.aload_n 0, 1) := by decide +kernel
theorem dX10_due_49 : decode cX10_due 49 = .ok (.getfield 10, 3) := by decide +kernel
theorem dX10_due_52 : decode cX10_due 52 = .ok (.getfield 204, 3) := by decide +kernel
theorem dX10_due_55 : decode cX10_due 55 = .ok (.iload_n 1, 1) := by decide +kernel
theorem dX10_due_56 : decode cX10_due 56 = .ok (.aaload, 1) := by decide +kernel
theorem dX10_due_57 : decode cX10_due 57 = .ok (.getfield 222, 3) := by decide +kernel
theorem dX10_due_60 : decode cX10_due 60 = .ok (.if_icmp .eq 7, 3) := by decide +kernel
theorem dX10_due_63 : decode cX10_due 63 = .ok (.iload_n 2, 1) := by decide +kernel
theorem dX10_due_64 : decode cX10_due 64 = .ok (.iconst 1, 1) := by decide +kernel
theorem dX10_due_65 : decode cX10_due 65 = .ok (.iadd, 1) := by decide +kernel
theorem dX10_due_66 : decode cX10_due 66 = .ok (.ireturn, 1) := by decide +kernel
theorem dX10_due_67 : decode cX10_due 67 = .ok (.iinc 2 1, 3) := by decide +kernel
theorem dX10_due_70 : decode cX10_due 70 = .ok (.goto (-53), 3) := by decide +kernel
theorem dX10_due_73 : decode cX10_due 73 = .ok (.iconst (-1), 1) := by decide +kernel
theorem dX10_due_74 : decode cX10_due 74 = .ok (.ireturn, 1) := by decide +kernel
theorem dX10_pack_0 : decode cX10_pack 0 = .ok (.aload_n 0, 1) := by decide +kernel
theorem dX10_pack_1 : decode cX10_pack 1 = .ok (.getfield 60, 3) := by decide +kernel
theorem dX10_pack_4 : decode cX10_pack 4 = .ok (.aload_n 0, 1) := by decide +kernel
theorem dX10_pack_5 : decode cX10_pack 5 = .ok (.getfield 10, 3) := by decide +kernel
theorem dX10_pack_8 : decode cX10_pack 8 = .ok (.getfield 104, 3) := by decide +kernel
theorem dX10_pack_11 : decode cX10_pack 11 = .ok (.invokevirtual 174, 3) := by decide +kernel
theorem dX10_pack_14 : decode cX10_pack 14 = .ok (.aload_n 0, 1) := by decide +kernel
theorem dX10_pack_15 : decode cX10_pack 15 = .ok (.getfield 10, 3) := by decide +kernel
theorem dX10_pack_18 : decode cX10_pack 18 = .ok (.invokevirtual 346, 3) := by decide +kernel
theorem dX10_pack_21 : decode cX10_pack 21 = .ok (.aload_n 0, 1) := by decide +kernel
theorem dX10_pack_22 : decode cX10_pack 22 = .ok (.iconst 1, 1) := by decide +kernel
theorem dX10_pack_23 : decode cX10_pack 23 = .ok (.putfield 71, 3) := by decide +kernel
theorem dX10_pack_26 : decode cX10_pack 26 = .ok (.aload_n 0, 1) := by decide +kernel
theorem dX10_pack_27 : decode cX10_pack 27 = .ok (.getfield 60, 3) := by decide +kernel
theorem dX10_pack_30 : decode cX10_pack 30 = .ok (.iconst 0, 1) := by decide +kernel
theorem dX10_pack_31 : decode cX10_pack 31 = .ok (.sipush 199, 3) := by decide +kernel
theorem dX10_pack_34 : decode cX10_pack 34 = .ok (.invokevirtual 192, 3) := by decide +kernel
theorem dX10_pack_37 : decode cX10_pack 37 = .ok (.istore_n 1, 1) := by decide +kernel
theorem dX10_pack_38 : decode cX10_pack 38 = .ok (.iload_n 1, 1) := by decide +kernel
theorem dX10_pack_39 : decode cX10_pack 39 = .ok (.ifCond .ne 5, 3) := by decide +kernel
theorem dX10_pack_42 : decode cX10_pack 42 = .ok (.iconst 0, 1) := by decide +kernel
theorem dX10_pack_43 : decode cX10_pack 43 = .ok (.ireturn, 1) := by decide +kernel
theorem dX10_pack_44 : decode cX10_pack 44 = .ok (.aload_n 0, 1) := by decide +kernel
theorem dX10_pack_45 : decode cX10_pack 45 = .ok (.getfield 10, 3) := by decide +kernel
theorem dX10_pack_48 : decode cX10_pack 48 = .ok (.getfield 104, 3) := by decide +kernel
theorem dX10_pack_51 : decode cX10_pack 51 = .ok (.getfield 240, 3) := by decide +kernel
theorem dX10_pack_54 : decode cX10_pack 54 = .ok (.iload_n 1, 1) := by decide +kernel
theorem dX10_pack_55 : decode cX10_pack 55 = .ok (.invokestatic 349, 3) := by decide +kernel
theorem dX10_pack_58 : decode cX10_pack 58 = .ok (.iconst 0, 1) := by decide +kernel
theorem dX10_pack_59 : decode cX10_pack 59 = .ok (.invokestatic 137, 3) := by decide +kernel
theorem dX10_pack_62 : decode cX10_pack 62 = .ok (.aaload, 1) := by decide +kernel
theorem dX10_pack_63 : decode cX10_pack 63 = .ok (.astore_n 2, 1) := by decide +kernel
theorem dX10_pack_64 : decode cX10_pack 64 = .ok (.iconst 0, 1) := by decide +kernel
theorem dX10_pack_65 : decode cX10_pack 65 = .ok (.istore_n 3, 1) := by decide +kernel
theorem dX10_pack_66 : decode cX10_pack 66 = .ok (.iload_n 3, 1) := by decide +kernel
theorem dX10_pack_67 : decode cX10_pack 67 = .ok (.sipush 200, 3) := by decide +kernel
theorem dX10_pack_70 : decode cX10_pack 70 = .ok (.if_icmp .ge 34, 3) := by decide +kernel
theorem dX10_pack_73 : decode cX10_pack 73 = .ok (.aload_n 0, 1) := by decide +kernel
theorem dX10_pack_74 : decode cX10_pack 74 = .ok (.getfield 60, 3) := by decide +kernel
theorem dX10_pack_77 : decode cX10_pack 77 = .ok (.iload_n 3, 1) := by decide +kernel
theorem dX10_pack_78 : decode cX10_pack 78 = .ok (.invokevirtual 178, 3) := by decide +kernel
theorem dX10_pack_81 : decode cX10_pack 81 = .ok (.ifCond .eq 17, 3) := by decide +kernel
theorem dX10_pack_84 : decode cX10_pack 84 = .ok (.aload_n 2, 1) := by decide +kernel
theorem dX10_pack_85 : decode cX10_pack 85 = .ok (.iload_n 3, 1) := by decide +kernel
theorem dX10_pack_86 : decode cX10_pack 86 = .ok (.aload_n 0, 1) := by decide +kernel
theorem dX10_pack_87 : decode cX10_pack 87 = .ok (.getfield 60, 3) := by decide +kernel
theorem dX10_pack_90 : decode cX10_pack 90 = .ok (.getfield 352, 3) := by decide +kernel
theorem dX10_pack_93 : decode cX10_pack 93 = .ok (.iload_n 3, 1) := by decide +kernel
theorem dX10_pack_94 : decode cX10_pack 94 = .ok (.iaload, 1) := by decide +kernel
theorem dX10_pack_95 : decode cX10_pack 95 = .ok (.invokevirtual 355, 3) := by decide +kernel
theorem dX10_pack_98 : decode cX10_pack 98 = .ok (.iinc 3 1, 3) := by decide +kernel
theorem dX10_pack_101 : decode cX10_pack 101 = .ok (.goto (-35), 3) := by decide +kernel
theorem dX10_pack_104 : decode cX10_pack 104 = .ok (.aload_n 0, 1) := by decide +kernel
theorem dX10_pack_105 : decode cX10_pack 105 = .ok (.getfield 10, 3) := by decide +kernel
theorem dX10_pack_108 : decode cX10_pack 108 = .ok (.aload_n 2, 1) := by decide +kernel
theorem dX10_pack_109 : decode cX10_pack 109 = .ok (.invokevirtual 358, 3) := by decide +kernel
theorem dX10_pack_112 : decode cX10_pack 112 = .ok (.iload_n 1, 1) := by decide +kernel
theorem dX10_pack_113 : decode cX10_pack 113 = .ok (.ireturn, 1) := by decide +kernel
theorem dX10_view_0 : decode cX10_view 0 = .ok (.iload_n 1, 1) := by decide +kernel
theorem dX10_view_1 : decode cX10_view 1 = .ok (.invokestatic 362, 3) := by decide +kernel
theorem dX10_view_4 : decode cX10_view 4 = .ok (.ifCond .ne 5, 3) := by decide +kernel
theorem dX10_view_7 : decode cX10_view 7 = .ok (.iconst (-1), 1) := by decide +kernel
theorem dX10_view_8 : decode cX10_view 8 = .ok (.ireturn, 1) := by decide +kernel
theorem dX10_view_9 : decode cX10_view 9 = .ok (.aload_n 0, 1) := by decide +kernel
theorem dX10_view_10 : decode cX10_view 10 = .ok (.getfield 21, 3) := by decide +kernel
theorem dX10_view_13 : decode cX10_view 13 = .ok (.iload_n 1, 1) := by decide +kernel
theorem dX10_view_14 : decode cX10_view 14 = .ok (.aaload, 1) := by decide +kernel
theorem dX10_view_15 : decode cX10_view 15 = .ok (.aload_n 0, 1) := by decide +kernel
theorem dX10_view_16 : decode cX10_view 16 = .ok (.getfield 10, 3) := by decide +kernel
theorem dX10_view_19 : decode cX10_view 19 = .ok (.getfield 104, 3) := by decide +kernel
theorem dX10_view_22 : decode cX10_view 22 = .ok (.invokevirtual 365, 3) := by decide +kernel
theorem dX10_view_25 : decode cX10_view 25 = .ok (.aload_n 0, 1) := by decide +kernel
theorem dX10_view_26 : decode cX10_view 26 = .ok (.getfield 25, 3) := by decide +kernel
theorem dX10_view_29 : decode cX10_view 29 = .ok (.iload_n 1, 1) := by decide +kernel
theorem dX10_view_30 : decode cX10_view 30 = .ok (.iconst 1, 1) := by decide +kernel
theorem dX10_view_31 : decode cX10_view 31 = .ok (.bastore, 1) := by decide +kernel
theorem dX10_view_32 : decode cX10_view 32 = .ok (.aload_n 0, 1) := by decide +kernel
theorem dX10_view_33 : decode cX10_view 33 = .ok (.getfield 21, 3) := by decide +kernel
theorem dX10_view_36 : decode cX10_view 36 = .ok (.iload_n 1, 1) := by decide +kernel
theorem dX10_view_37 : decode cX10_view 37 = .ok (.aaload, 1) := by decide +kernel
theorem dX10_view_38 : decode cX10_view 38 = .ok (.invokevirtual 108, 3) := by decide +kernel
theorem dX10_view_41 : decode cX10_view 41 = .ok (.ireturn, 1) := by decide +kernel
theorem dX10_leave_0 : decode cX10_leave 0 = .ok (.aload_n 0, 1) := by decide +kernel
theorem dX10_leave_1 : decode cX10_leave 1 = .ok (.iload_n 1, 1) := by decide +kernel
theorem dX10_leave_2 : decode cX10_leave 2 = .ok (.invokevirtual 368, 3) := by decide +kernel
theorem dX10_leave_5 : decode cX10_leave 5 = .ok (.ifCond .ne 5, 3) := by decide +kernel
theorem dX10_leave_8 : decode cX10_leave 8 = .ok (.iconst (-1), 1) := by decide +kernel
theorem dX10_leave_9 : decode cX10_leave 9 = .ok (.ireturn, 1) := by decide +kernel
theorem dX10_leave_10 : decode cX10_leave 10 = .ok (.aload_n 0, 1) := by decide +kernel
theorem dX10_leave_11 : decode cX10_leave 11 = .ok (.getfield 25, 3) := by decide +kernel
theorem dX10_leave_14 : decode cX10_leave 14 = .ok (.iload_n 1, 1) := by decide +kernel
theorem dX10_leave_15 : decode cX10_leave 15 = .ok (.iconst 0, 1) := by decide +kernel
theorem dX10_leave_16 : decode cX10_leave 16 = .ok (.bastore, 1) := by decide +kernel
theorem dX10_leave_17 : decode cX10_leave 17 = .ok (.aload_n 0, 1) := by decide +kernel
theorem dX10_leave_18 : decode cX10_leave 18 = .ok (.getfield 21, 3) := by decide +kernel
theorem dX10_leave_21 : decode cX10_leave 21 = .ok (.iload_n 1, 1) := by decide +kernel
theorem dX10_leave_22 : decode cX10_leave 22 = .ok (.aaload, 1) := by decide +kernel
theorem dX10_leave_23 : decode cX10_leave 23 = .ok (.invokevirtual 108, 3) := by decide +kernel
theorem dX10_leave_26 : decode cX10_leave 26 = .ok (.ireturn, 1) := by decide +kernel
theorem dX10_seen_0 : decode cX10_seen 0 = .ok (.aload_n 0, 1) := by decide +kernel
theorem dX10_seen_1 : decode cX10_seen 1 = .ok (.iload_n 1, 1) := by decide +kernel
theorem dX10_seen_2 : decode cX10_seen 2 = .ok (.invokevirtual 371, 3) := by decide +kernel
theorem dX10_seen_5 : decode cX10_seen 5 = .ok (.iload_n 2, 1) := by decide +kernel
theorem dX10_seen_6 : decode cX10_seen 6 = .ok (.invokestatic 115, 3) := by decide +kernel
theorem dX10_seen_9 : decode cX10_seen 9 = .ok (.aload_n 0, 1) := by decide +kernel
theorem dX10_seen_10 : decode cX10_seen 10 = .ok (.getfield 21, 3) := by decide +kernel
theorem dX10_seen_13 : decode cX10_seen 13 = .ok (.iload_n 1, 1) := by decide +kernel
theorem dX10_seen_14 : decode cX10_seen 14 = .ok (.aaload, 1) := by decide +kernel
theorem dX10_seen_15 : decode cX10_seen 15 = .ok (.invokevirtual 108, 3) := by decide +kernel
theorem dX10_seen_18 : decode cX10_seen 18 = .ok (.pop, 1) := by decide +kernel
theorem dX10_seen_19 : decode cX10_seen 19 = .ok (.aload_n 0, 1) := by decide +kernel
theorem dX10_seen_20 : decode cX10_seen 20 = .ok (.getfield 21, 3) := by decide +kernel
theorem dX10_seen_23 : decode cX10_seen 23 = .ok (.iload_n 1, 1) := by decide +kernel
theorem dX10_seen_24 : decode cX10_seen 24 = .ok (.aaload, 1) := by decide +kernel
theorem dX10_seen_25 : decode cX10_seen 25 = .ok (.iload_n 2, 1) := by decide +kernel
theorem dX10_seen_26 : decode cX10_seen 26 = .ok (.invokevirtual 112, 3) := by decide +kernel
theorem dX10_seen_29 : decode cX10_seen 29 = .ok (.ireturn, 1) := by decide +kernel
theorem dX10_against_0 : decode cX10_against 0 = .ok (.aload_n 0, 1) := by decide +kernel
theorem dX10_against_1 : decode cX10_against 1 = .ok (.iload_n 1, 1) := by decide +kernel
theorem dX10_against_2 : decode cX10_against 2 = .ok (.invokevirtual 371, 3) := by decide +kernel
theorem dX10_against_5 : decode cX10_against 5 = .ok (.iload_n 2, 1) := by decide +kernel
theorem dX10_against_6 : decode cX10_against 6 = .ok (.iconst 4, 1) := by decide +kernel
theorem dX10_against_7 : decode cX10_against 7 = .ok (.invokestatic 146, 3) := by decide +kernel
theorem dX10_against_10 : decode cX10_against 10 = .ok (.aload_n 0, 1) := by decide +kernel
theorem dX10_against_11 : decode cX10_against 11 = .ok (.getfield 60, 3) := by decide +kernel
theorem dX10_against_14 : decode cX10_against 14 = .ok (.aload_n 0, 1) := by decide +kernel
theorem dX10_against_15 : decode cX10_against 15 = .ok (.getfield 10, 3) := by decide +kernel
theorem dX10_against_18 : decode cX10_against 18 = .ok (.getfield 104, 3) := by decide +kernel
theorem dX10_against_21 : decode cX10_against 21 = .ok (.invokevirtual 174, 3) := by decide +kernel
theorem dX10_against_24 : decode cX10_against 24 = .ok (.aload_n 0, 1) := by decide +kernel
theorem dX10_against_25 : decode cX10_against 25 = .ok (.getfield 64, 3) := by decide +kernel
theorem dX10_against_28 : decode cX10_against 28 = .ok (.aload_n 0, 1) := by decide +kernel
theorem dX10_against_29 : decode cX10_against 29 = .ok (.getfield 21, 3) := by decide +kernel
theorem dX10_against_32 : decode cX10_against 32 = .ok (.iload_n 1, 1) := by decide +kernel
theorem dX10_against_33 : decode cX10_against 33 = .ok (.aaload, 1) := by decide +kernel
theorem dX10_against_34 : decode cX10_against 34 = .ok (.invokevirtual 174, 3) := by decide +kernel
theorem dX10_against_37 : decode cX10_against 37 = .ok (.iload_n 2, 1) := by decide +kernel
theorem dX10_against_38 : decode cX10_against 38 = .ok (.tableswitch 62 0 2 #[26, 38, 50], 26) := by decide +kernel
theorem dX10_against_64 : decode cX10_against 64 = .ok (.aload_n 0, 1) := by decide +kernel
theorem dX10_against_65 : decode cX10_against 65 = .ok (.getfield 64, 3) := by decide +kernel
theorem dX10_against_68 : decode cX10_against 68 = .ok (.iconst 0, 1) := by decide +kernel
theorem dX10_against_69 : decode cX10_against 69 = .ok (.sipush 199, 3) := by decide +kernel
theorem dX10_against_72 : decode cX10_against 72 = .ok (.invokevirtual 192, 3) := by decide +kernel
theorem dX10_against_75 : decode cX10_against 75 = .ok (.ireturn, 1) := by decide +kernel
theorem dX10_against_76 : decode cX10_against 76 = .ok (.aload_n 0, 1) := by decide +kernel
theorem dX10_against_77 : decode cX10_against 77 = .ok (.getfield 64, 3) := by decide +kernel
theorem dX10_against_80 : decode cX10_against 80 = .ok (.aload_n 0, 1) := by decide +kernel
theorem dX10_against_81 : decode cX10_against 81 = .ok (.getfield 60, 3) := by decide +kernel
theorem dX10_against_84 : decode cX10_against 84 = .ok (.invokevirtual 374, 3) := by decide +kernel
theorem dX10_against_87 : decode cX10_against 87 = .ok (.ireturn, 1) := by decide +kernel
theorem dX10_against_88 : decode cX10_against 88 = .ok (.aload_n 0, 1) := by decide +kernel
theorem dX10_against_89 : decode cX10_against 89 = .ok (.getfield 60, 3) := by decide +kernel
theorem dX10_against_92 : decode cX10_against 92 = .ok (.aload_n 0, 1) := by decide +kernel
theorem dX10_against_93 : decode cX10_against 93 = .ok (.getfield 64, 3) := by decide +kernel
theorem dX10_against_96 : decode cX10_against 96 = .ok (.invokevirtual 378, 3) := by decide +kernel
theorem dX10_against_99 : decode cX10_against 99 = .ok (.ireturn, 1) := by decide +kernel
theorem dX10_against_100 : decode cX10_against 100 = .ok (.aload_n 0, 1) := by decide +kernel
theorem dX10_against_101 : decode cX10_against 101 = .ok (.getfield 21, 3) := by decide +kernel
theorem dX10_against_104 : decode cX10_against 104 = .ok (.iload_n 1, 1) := by decide +kernel
theorem dX10_against_105 : decode cX10_against 105 = .ok (.aaload, 1) := by decide +kernel
theorem dX10_against_106 : decode cX10_against 106 = .ok (.aload_n 0, 1) := by decide +kernel
theorem dX10_against_107 : decode cX10_against 107 = .ok (.getfield 10, 3) := by decide +kernel
theorem dX10_against_110 : decode cX10_against 110 = .ok (.getfield 104, 3) := by decide +kernel
theorem dX10_against_113 : decode cX10_against 113 = .ok (.invokevirtual 381, 3) := by decide +kernel
theorem dX10_against_116 : decode cX10_against 116 = .ok (.ireturn, 1) := by decide +kernel
theorem dX10_between_0 : decode cX10_between 0 = .ok (.aload_n 0, 1) := by decide +kernel
theorem dX10_between_1 : decode cX10_between 1 = .ok (.iload_n 1, 1) := by decide +kernel
theorem dX10_between_2 : decode cX10_between 2 = .ok (.invokevirtual 371, 3) := by decide +kernel
theorem dX10_between_5 : decode cX10_between 5 = .ok (.aload_n 0, 1) := by decide +kernel
theorem dX10_between_6 : decode cX10_between 6 = .ok (.iload_n 2, 1) := by decide +kernel
theorem dX10_between_7 : decode cX10_between 7 = .ok (.invokevirtual 371, 3) := by decide +kernel
theorem dX10_between_10 : decode cX10_between 10 = .ok (.aload_n 0, 1) := by decide +kernel
theorem dX10_between_11 : decode cX10_between 11 = .ok (.getfield 60, 3) := by decide +kernel
theorem dX10_between_14 : decode cX10_between 14 = .ok (.aload_n 0, 1) := by decide +kernel
theorem dX10_between_15 : decode cX10_between 15 = .ok (.getfield 21, 3) := by decide +kernel
theorem dX10_between_18 : decode cX10_between 18 = .ok (.iload_n 1, 1) := by decide +kernel
theorem dX10_between_19 : decode cX10_between 19 = .ok (.aaload, 1) := by decide +kernel
theorem dX10_between_20 : decode cX10_between 20 = .ok (.invokevirtual 174, 3) := by decide +kernel
theorem dX10_between_23 : decode cX10_between 23 = .ok (.aload_n 0, 1) := by decide +kernel
theorem dX10_between_24 : decode cX10_between 24 = .ok (.getfield 64, 3) := by decide +kernel
theorem dX10_between_27 : decode cX10_between 27 = .ok (.aload_n 0, 1) := by decide +kernel
theorem dX10_between_28 : decode cX10_between 28 = .ok (.getfield 21, 3) := by decide +kernel
theorem dX10_between_31 : decode cX10_between 31 = .ok (.iload_n 2, 1) := by decide +kernel
theorem dX10_between_32 : decode cX10_between 32 = .ok (.aaload, 1) := by decide +kernel
theorem dX10_between_33 : decode cX10_between 33 = .ok (.invokevirtual 174, 3) := by decide +kernel
theorem dX10_between_36 : decode cX10_between 36 = .ok (.aload_n 0, 1) := by decide +kernel
theorem dX10_between_37 : decode cX10_between 37 = .ok (.getfield 60, 3) := by decide +kernel
theorem dX10_between_40 : decode cX10_between 40 = .ok (.aload_n 0, 1) := by decide +kernel
theorem dX10_between_41 : decode cX10_between 41 = .ok (.getfield 64, 3) := by decide +kernel
theorem dX10_between_44 : decode cX10_between 44 = .ok (.invokevirtual 374, 3) := by decide +kernel
theorem dX10_between_47 : decode cX10_between 47 = .ok (.aload_n 0, 1) := by decide +kernel
theorem dX10_between_48 : decode cX10_between 48 = .ok (.getfield 64, 3) := by decide +kernel
theorem dX10_between_51 : decode cX10_between 51 = .ok (.aload_n 0, 1) := by decide +kernel
theorem dX10_between_52 : decode cX10_between 52 = .ok (.getfield 60, 3) := by decide +kernel
theorem dX10_between_55 : decode cX10_between 55 = .ok (.invokevirtual 378, 3) := by decide +kernel
theorem dX10_between_58 : decode cX10_between 58 = .ok (.iadd, 1) := by decide +kernel
theorem dX10_between_59 : decode cX10_between 59 = .ok (.ireturn, 1) := by decide +kernel
theorem dX10_restore_0 : decode cX10_restore 0 = .ok (.aload_n 0, 1) := by decide +kernel
theorem dX10_restore_1 : decode cX10_restore 1 = .ok (.iload_n 1, 1) := by decide +kernel
theorem dX10_restore_2 : decode cX10_restore 2 = .ok (.invokevirtual 368, 3) := by decide +kernel
theorem dX10_restore_5 : decode cX10_restore 5 = .ok (.ifCond .ne 5, 3) := by decide +kernel
theorem dX10_restore_8 : decode cX10_restore 8 = .ok (.iconst (-1), 1) := by decide +kernel
theorem dX10_restore_9 : decode cX10_restore 9 = .ok (.ireturn, 1) := by decide +kernel
theorem dX10_restore_10 : decode cX10_restore 10 = .ok (.aload_n 0, 1) := by decide +kernel
theorem dX10_restore_11 : decode cX10_restore 11 = .ok (.getfield 10, 3) := by decide +kernel
theorem dX10_restore_14 : decode cX10_restore 14 = .ok (.invokevirtual 346, 3) := by decide +kernel
theorem dX10_restore_17 : decode cX10_restore 17 = .ok (.aload_n 0, 1) := by decide +kernel
theorem dX10_restore_18 : decode cX10_restore 18 = .ok (.getfield 10, 3) := by decide +kernel
theorem dX10_restore_21 : decode cX10_restore 21 = .ok (.getfield 104, 3) := by decide +kernel
theorem dX10_restore_24 : decode cX10_restore 24 = .ok (.aload_n 0, 1) := by decide +kernel
theorem dX10_restore_25 : decode cX10_restore 25 = .ok (.getfield 21, 3) := by decide +kernel
theorem dX10_restore_28 : decode cX10_restore 28 = .ok (.iload_n 1, 1) := by decide +kernel
theorem dX10_restore_29 : decode cX10_restore 29 = .ok (.aaload, 1) := by decide +kernel
theorem dX10_restore_30 : decode cX10_restore 30 = .ok (.invokevirtual 365, 3) := by decide +kernel
theorem dX10_restore_33 : decode cX10_restore 33 = .ok (.aload_n 0, 1) := by decide +kernel
theorem dX10_restore_34 : decode cX10_restore 34 = .ok (.getfield 10, 3) := by decide +kernel
theorem dX10_restore_37 : decode cX10_restore 37 = .ok (.invokevirtual 384, 3) := by decide +kernel
theorem dX10_restore_40 : decode cX10_restore 40 = .ok (.aload_n 0, 1) := by decide +kernel
theorem dX10_restore_41 : decode cX10_restore 41 = .ok (.iconst 1, 1) := by decide +kernel
theorem dX10_restore_42 : decode cX10_restore 42 = .ok (.putfield 71, 3) := by decide +kernel
theorem dX10_restore_45 : decode cX10_restore 45 = .ok (.aload_n 0, 1) := by decide +kernel
theorem dX10_restore_46 : decode cX10_restore 46 = .ok (.getfield 10, 3) := by decide +kernel
theorem dX10_restore_49 : decode cX10_restore 49 = .ok (.getfield 104, 3) := by decide +kernel
theorem dX10_restore_52 : decode cX10_restore 52 = .ok (.invokevirtual 108, 3) := by decide +kernel
theorem dX10_restore_55 : decode cX10_restore 55 = .ok (.ireturn, 1) := by decide +kernel
theorem dX10_takeAct_0 : decode cX10_takeAct 0 = .ok (.aload_n 0, 1) := by decide +kernel
theorem dX10_takeAct_1 : decode cX10_takeAct 1 = .ok (.getfield 10, 3) := by decide +kernel
theorem dX10_takeAct_4 : decode cX10_takeAct 4 = .ok (.iload_n 1, 1) := by decide +kernel
theorem dX10_takeAct_5 : decode cX10_takeAct 5 = .ok (.iload_n 2, 1) := by decide +kernel
theorem dX10_takeAct_6 : decode cX10_takeAct 6 = .ok (.invokevirtual 334, 3) := by decide +kernel
theorem dX10_takeAct_9 : decode cX10_takeAct 9 = .ok (.istore_n 3, 1) := by decide +kernel
theorem dX10_takeAct_10 : decode cX10_takeAct 10 = .ok (.aload_n 0, 1) := by decide +kernel
theorem dX10_takeAct_11 : decode cX10_takeAct 11 = .ok (.getfield 39, 3) := by decide +kernel
theorem dX10_takeAct_14 : decode cX10_takeAct 14 = .ok (.iload_n 3, 1) := by decide +kernel
theorem dX10_takeAct_15 : decode cX10_takeAct 15 = .ok (.invokevirtual 387, 3) := by decide +kernel
theorem dX10_takeAct_18 : decode cX10_takeAct 18 = .ok (.aload_n 0, 1) := by decide +kernel
theorem dX10_takeAct_19 : decode cX10_takeAct 19 = .ok (.iconst 1, 1) := by decide +kernel
theorem dX10_takeAct_20 : decode cX10_takeAct 20 = .ok (.putfield 71, 3) := by decide +kernel
theorem dX10_takeAct_23 : decode cX10_takeAct 23 = .ok (.iload_n 3, 1) := by decide +kernel
theorem dX10_takeAct_24 : decode cX10_takeAct 24 = .ok (.ireturn, 1) := by decide +kernel
theorem dX10_refresh_0 : decode cX10_refresh 0 = .ok (.aload_n 0, 1) := by decide +kernel
theorem dX10_refresh_1 : decode cX10_refresh 1 = .ok (.getfield 71, 3) := by decide +kernel
theorem dX10_refresh_4 : decode cX10_refresh 4 = .ok (.ifCond .eq 37, 3) := by decide +kernel
theorem dX10_refresh_7 : decode cX10_refresh 7 = .ok (.aload_n 0, 1) := by decide +kernel
theorem dX10_refresh_8 : decode cX10_refresh 8 = .ok (.getfield 10, 3) := by decide +kernel
theorem dX10_refresh_11 : decode cX10_refresh 11 = .ok (.getfield 104, 3) := by decide +kernel
theorem dX10_refresh_14 : decode cX10_refresh 14 = .ok (.invokevirtual 108, 3) := by decide +kernel
theorem dX10_refresh_17 : decode cX10_refresh 17 = .ok (.pop, 1) := by decide +kernel
theorem dX10_refresh_18 : decode cX10_refresh 18 = .ok (.aload_n 0, 1) := by decide +kernel
theorem dX10_refresh_19 : decode cX10_refresh 19 = .ok (.getfield 46, 3) := by decide +kernel
theorem dX10_refresh_22 : decode cX10_refresh 22 = .ok (.aload_n 0, 1) := by decide +kernel
theorem dX10_refresh_23 : decode cX10_refresh 23 = .ok (.getfield 10, 3) := by decide +kernel
theorem dX10_refresh_26 : decode cX10_refresh 26 = .ok (.getfield 104, 3) := by decide +kernel
theorem dX10_refresh_29 : decode cX10_refresh 29 = .ok (.aload_n 0, 1) := by decide +kernel
theorem dX10_refresh_30 : decode cX10_refresh 30 = .ok (.getfield 67, 3) := by decide +kernel
theorem dX10_refresh_33 : decode cX10_refresh 33 = .ok (.invokevirtual 390, 3) := by decide +kernel
theorem dX10_refresh_36 : decode cX10_refresh 36 = .ok (.aload_n 0, 1) := by decide +kernel
theorem dX10_refresh_37 : decode cX10_refresh 37 = .ok (.iconst 0, 1) := by decide +kernel
theorem dX10_refresh_38 : decode cX10_refresh 38 = .ok (.putfield 71, 3) := by decide +kernel
theorem dX10_refresh_41 : decode cX10_refresh 41 = .ok (.return_, 1) := by decide +kernel
theorem dX10_looksFor_0 : decode cX10_looksFor 0 = .ok (.iload_n 2, 1) := by decide +kernel
theorem dX10_looksFor_1 : decode cX10_looksFor 1 = .ok (.ifCond .eq 21, 3) := by decide +kernel
theorem dX10_looksFor_4 : decode cX10_looksFor 4 = .ok (.aload_n 0, 1) := by decide +kernel
theorem dX10_looksFor_5 : decode cX10_looksFor 5 = .ok (.getfield 53, 3) := by decide +kernel
theorem dX10_looksFor_8 : decode cX10_looksFor 8 = .ok (.aload_n 0, 1) := by decide +kernel
theorem dX10_looksFor_9 : decode cX10_looksFor 9 = .ok (.getfield 10, 3) := by decide +kernel
theorem dX10_looksFor_12 : decode cX10_looksFor 12 = .ok (.getfield 104, 3) := by decide +kernel
theorem dX10_looksFor_15 : decode cX10_looksFor 15 = .ok (.iload_n 1, 1) := by decide +kernel
theorem dX10_looksFor_16 : decode cX10_looksFor 16 = .ok (.invokevirtual 394, 3) := by decide +kernel
theorem dX10_looksFor_19 : decode cX10_looksFor 19 = .ok (.goto 22, 3) := by decide +kernel
theorem dX10_looksFor_22 : decode cX10_looksFor 22 = .ok (.aload_n 0, 1) := by decide +kernel
theorem dX10_looksFor_23 : decode cX10_looksFor 23 = .ok (.getfield 53, 3) := by decide +kernel
theorem dX10_looksFor_26 : decode cX10_looksFor 26 = .ok (.aload_n 0, 1) := by decide +kernel
theorem dX10_looksFor_27 : decode cX10_looksFor 27 = .ok (.getfield 10, 3) := by decide +kernel
theorem dX10_looksFor_30 : decode cX10_looksFor 30 = .ok (.getfield 104, 3) := by decide +kernel
theorem dX10_looksFor_33 : decode cX10_looksFor 33 = .ok (.aload_n 0, 1) := by decide +kernel
theorem dX10_looksFor_34 : decode cX10_looksFor 34 = .ok (.getfield 46, 3) := by decide +kernel
theorem dX10_looksFor_37 : decode cX10_looksFor 37 = .ok (.iload_n 1, 1) := by decide +kernel
theorem dX10_looksFor_38 : decode cX10_looksFor 38 = .ok (.invokevirtual 149, 3) := by decide +kernel
theorem dX10_looksFor_41 : decode cX10_looksFor 41 = .ok (.aload_n 0, 1) := by decide +kernel
theorem dX10_looksFor_42 : decode cX10_looksFor 42 = .ok (.getfield 53, 3) := by decide +kernel
theorem dX10_looksFor_45 : decode cX10_looksFor 45 = .ok (.getfield 397, 3) := by decide +kernel
theorem dX10_looksFor_48 : decode cX10_looksFor 48 = .ok (.ireturn, 1) := by decide +kernel
theorem dX10_mostLooks_0 : decode cX10_mostLooks 0 = .ok (.aload_n 0, 1) := by decide +kernel
theorem dX10_mostLooks_1 : decode cX10_mostLooks 1 = .ok (.invokevirtual 118, 3) := by decide +kernel
theorem dX10_mostLooks_4 : decode cX10_mostLooks 4 = .ok (.iconst 0, 1) := by decide +kernel
theorem dX10_mostLooks_5 : decode cX10_mostLooks 5 = .ok (.istore_n 2, 1) := by decide +kernel
theorem dX10_mostLooks_6 : decode cX10_mostLooks 6 = .ok (.iconst 0, 1) := by decide +kernel
theorem dX10_mostLooks_7 : decode cX10_mostLooks 7 = .ok (.istore_n 3, 1) := by decide +kernel
theorem dX10_mostLooks_8 : decode cX10_mostLooks 8 = .ok (.iload_n 3, 1) := by decide +kernel
theorem dX10_mostLooks_9 : decode cX10_mostLooks 9 = .ok (.sipush 200, 3) := by decide +kernel
theorem dX10_mostLooks_12 : decode cX10_mostLooks 12 = .ok (.if_icmp .ge 20, 3) := by decide +kernel
theorem dX10_mostLooks_15 : decode cX10_mostLooks 15 = .ok (.iload_n 2, 1) := by decide +kernel
theorem dX10_mostLooks_16 : decode cX10_mostLooks 16 = .ok (.aload_n 0, 1) := by decide +kernel
theorem dX10_mostLooks_17 : decode cX10_mostLooks 17 = .ok (.iload_n 3, 1) := by decide +kernel
theorem dX10_mostLooks_18 : decode cX10_mostLooks 18 = .ok (.iload_n 1, 1) := by decide +kernel
theorem dX10_mostLooks_19 : decode cX10_mostLooks 19 = .ok (.invokevirtual 121, 3) := by decide +kernel
theorem dX10_mostLooks_22 : decode cX10_mostLooks 22 = .ok (.invokestatic 337, 3) := by decide +kernel
theorem dX10_mostLooks_25 : decode cX10_mostLooks 25 = .ok (.istore_n 2, 1) := by decide +kernel
theorem dX10_mostLooks_26 : decode cX10_mostLooks 26 = .ok (.iinc 3 1, 3) := by decide +kernel
theorem dX10_mostLooks_29 : decode cX10_mostLooks 29 = .ok (.goto (-21), 3) := by decide +kernel
theorem dX10_mostLooks_32 : decode cX10_mostLooks 32 = .ok (.iload_n 2, 1) := by decide +kernel
theorem dX10_mostLooks_33 : decode cX10_mostLooks 33 = .ok (.ireturn, 1) := by decide +kernel
theorem dX10_entriesOf_0 : decode cX10_entriesOf 0 = .ok (.aload_n 0, 1) := by decide +kernel
theorem dX10_entriesOf_1 : decode cX10_entriesOf 1 = .ok (.invokevirtual 118, 3) := by decide +kernel
theorem dX10_entriesOf_4 : decode cX10_entriesOf 4 = .ok (.aload_n 0, 1) := by decide +kernel
theorem dX10_entriesOf_5 : decode cX10_entriesOf 5 = .ok (.getfield 46, 3) := by decide +kernel
theorem dX10_entriesOf_8 : decode cX10_entriesOf 8 = .ok (.getfield 267, 3) := by decide +kernel
theorem dX10_entriesOf_11 : decode cX10_entriesOf 11 = .ok (.iload_n 1, 1) := by decide +kernel
theorem dX10_entriesOf_12 : decode cX10_entriesOf 12 = .ok (.aaload, 1) := by decide +kernel
theorem dX10_entriesOf_13 : decode cX10_entriesOf 13 = .ok (.getfield 271, 3) := by decide +kernel
theorem dX10_entriesOf_16 : decode cX10_entriesOf 16 = .ok (.ireturn, 1) := by decide +kernel
theorem dX10_marksOf_0 : decode cX10_marksOf 0 = .ok (.aload_n 0, 1) := by decide +kernel
theorem dX10_marksOf_1 : decode cX10_marksOf 1 = .ok (.invokevirtual 118, 3) := by decide +kernel
theorem dX10_marksOf_4 : decode cX10_marksOf 4 = .ok (.aload_n 0, 1) := by decide +kernel
theorem dX10_marksOf_5 : decode cX10_marksOf 5 = .ok (.getfield 46, 3) := by decide +kernel
theorem dX10_marksOf_8 : decode cX10_marksOf 8 = .ok (.getfield 267, 3) := by decide +kernel
theorem dX10_marksOf_11 : decode cX10_marksOf 11 = .ok (.iload_n 1, 1) := by decide +kernel
theorem dX10_marksOf_12 : decode cX10_marksOf 12 = .ok (.aaload, 1) := by decide +kernel
theorem dX10_marksOf_13 : decode cX10_marksOf 13 = .ok (.getfield 400, 3) := by decide +kernel
theorem dX10_marksOf_16 : decode cX10_marksOf 16 = .ok (.ireturn, 1) := by decide +kernel
theorem dX10_aheadOf_0 : decode cX10_aheadOf 0 = .ok (.aload_n 0, 1) := by decide +kernel
theorem dX10_aheadOf_1 : decode cX10_aheadOf 1 = .ok (.getfield 10, 3) := by decide +kernel
theorem dX10_aheadOf_4 : decode cX10_aheadOf 4 = .ok (.getfield 104, 3) := by decide +kernel
theorem dX10_aheadOf_7 : decode cX10_aheadOf 7 = .ok (.invokevirtual 108, 3) := by decide +kernel
theorem dX10_aheadOf_10 : decode cX10_aheadOf 10 = .ok (.istore_n 2, 1) := by decide +kernel
theorem dX10_aheadOf_11 : decode cX10_aheadOf 11 = .ok (.iconst 0, 1) := by decide +kernel
theorem dX10_aheadOf_12 : decode cX10_aheadOf 12 = .ok (.istore_n 3, 1) := by decide +kernel
theorem dX10_aheadOf_13 : decode cX10_aheadOf 13 = .ok (.iload_n 3, 1) := by decide +kernel
theorem dX10_aheadOf_14 : decode cX10_aheadOf 14 = .ok (.iload_n 2, 1) := by decide +kernel
theorem dX10_aheadOf_15 : decode cX10_aheadOf 15 = .ok (.if_icmp .ge 27, 3) := by decide +kernel
theorem dX10_aheadOf_18 : decode cX10_aheadOf 18 = .ok (.aload_n 0, 1) := by decide +kernel
theorem dX10_aheadOf_19 : decode cX10_aheadOf 19 = .ok (.getfield 10, 3) := by decide +kernel
theorem dX10_aheadOf_22 : decode cX10_aheadOf 22 = .ok (.getfield 104, 3) := by decide +kernel
theorem dX10_aheadOf_25 : decode cX10_aheadOf 25 = .ok (.getfield 162, 3) := by decide +kernel
theorem dX10_aheadOf_28 : decode cX10_aheadOf 28 = .ok (.iload_n 3, 1) := by decide +kernel
theorem dX10_aheadOf_29 : decode cX10_aheadOf 29 = .ok (.iaload, 1) := by decide +kernel
theorem dX10_aheadOf_30 : decode cX10_aheadOf 30 = .ok (.iload_n 1, 1) := by decide +kernel
theorem dX10_aheadOf_31 : decode cX10_aheadOf 31 = .ok (.if_icmp .ne 5, 3) := by decide +kernel
theorem dX10_aheadOf_34 : decode cX10_aheadOf 34 = .ok (.iload_n 3, 1) := by decide +kernel
theorem dX10_aheadOf_35 : decode cX10_aheadOf 35 = .ok (.ireturn, 1) := by decide +kernel
theorem dX10_aheadOf_36 : decode cX10_aheadOf 36 = .ok (.iinc 3 1, 3) := by decide +kernel
theorem dX10_aheadOf_39 : decode cX10_aheadOf 39 = .ok (.goto (-26), 3) := by decide +kernel
theorem dX10_aheadOf_42 : decode cX10_aheadOf 42 = .ok (.iconst (-1), 1) := by decide +kernel
theorem dX10_aheadOf_43 : decode cX10_aheadOf 43 = .ok (.ireturn, 1) := by decide +kernel
theorem dX10_keysNow_0 : decode cX10_keysNow 0 = .ok (.aload_n 0, 1) := by decide +kernel
theorem dX10_keysNow_1 : decode cX10_keysNow 1 = .ok (.getfield 60, 3) := by decide +kernel
theorem dX10_keysNow_4 : decode cX10_keysNow 4 = .ok (.aload_n 1, 1) := by decide +kernel
theorem dX10_keysNow_5 : decode cX10_keysNow 5 = .ok (.invokevirtual 174, 3) := by decide +kernel
theorem dX10_keysNow_8 : decode cX10_keysNow 8 = .ok (.aload_n 0, 1) := by decide +kernel
theorem dX10_keysNow_9 : decode cX10_keysNow 9 = .ok (.getfield 60, 3) := by decide +kernel
theorem dX10_keysNow_12 : decode cX10_keysNow 12 = .ok (.iconst 0, 1) := by decide +kernel
theorem dX10_keysNow_13 : decode cX10_keysNow 13 = .ok (.sipush 199, 3) := by decide +kernel
theorem dX10_keysNow_16 : decode cX10_keysNow 16 = .ok (.invokevirtual 192, 3) := by decide +kernel
theorem dX10_keysNow_19 : decode cX10_keysNow 19 = .ok (.ireturn, 1) := by decide +kernel
theorem dX10_isCalm_0 : decode cX10_isCalm 0 = .ok (.aload_n 0, 1) := by decide +kernel
theorem dX10_isCalm_1 : decode cX10_isCalm 1 = .ok (.getfield 16, 3) := by decide +kernel
theorem dX10_isCalm_4 : decode cX10_isCalm 4 = .ok (.aload_n 0, 1) := by decide +kernel
theorem dX10_isCalm_5 : decode cX10_isCalm 5 = .ok (.getfield 10, 3) := by decide +kernel
theorem dX10_isCalm_8 : decode cX10_isCalm 8 = .ok (.invokevirtual 327, 3) := by decide +kernel
theorem dX10_isCalm_11 : decode cX10_isCalm 11 = .ok (.aload_n 0, 1) := by decide +kernel
theorem dX10_isCalm_12 : decode cX10_isCalm 12 = .ok (.getfield 16, 3) := by decide +kernel
theorem dX10_isCalm_15 : decode cX10_isCalm 15 = .ok (.iload_n 2, 1) := by decide +kernel
theorem dX10_isCalm_16 : decode cX10_isCalm 16 = .ok (.putfield 101, 3) := by decide +kernel
theorem dX10_isCalm_19 : decode cX10_isCalm 19 = .ok (.iconst 0, 1) := by decide +kernel
theorem dX10_isCalm_20 : decode cX10_isCalm 20 = .ok (.istore_n 3, 1) := by decide +kernel
theorem dX10_isCalm_21 : decode cX10_isCalm 21 = .ok (.iload_n 3, 1) := by decide +kernel
theorem dX10_isCalm_22 : decode cX10_isCalm 22 = .ok (.iload_n 1, 1) := by decide +kernel
theorem dX10_isCalm_23 : decode cX10_isCalm 23 = .ok (.if_icmp .ge 41, 3) := by decide +kernel
theorem dX10_isCalm_26 : decode cX10_isCalm 26 = .ok (.aload_n 0, 1) := by decide +kernel
theorem dX10_isCalm_27 : decode cX10_isCalm 27 = .ok (.getfield 16, 3) := by decide +kernel
theorem dX10_isCalm_30 : decode cX10_isCalm 30 = .ok (.iload_n 3, 1) := by decide +kernel
theorem dX10_isCalm_31 : decode cX10_isCalm 31 = .ok (.invokestatic 331, 3) := by decide +kernel
theorem dX10_isCalm_34 : decode cX10_isCalm 34 = .ok (.iconst 0, 1) := by decide +kernel
theorem dX10_isCalm_35 : decode cX10_isCalm 35 = .ok (.invokevirtual 334, 3) := by decide +kernel
theorem dX10_isCalm_38 : decode cX10_isCalm 38 = .ok (.pop, 1) := by decide +kernel
theorem dX10_isCalm_39 : decode cX10_isCalm 39 = .ok (.aload_n 0, 1) := by decide +kernel
theorem dX10_isCalm_40 : decode cX10_isCalm 40 = .ok (.getfield 16, 3) := by decide +kernel
theorem dX10_isCalm_43 : decode cX10_isCalm 43 = .ok (.getfield 290, 3) := by decide +kernel
theorem dX10_isCalm_46 : decode cX10_isCalm 46 = .ok (.aload_n 0, 1) := by decide +kernel
theorem dX10_isCalm_47 : decode cX10_isCalm 47 = .ok (.getfield 10, 3) := by decide +kernel
theorem dX10_isCalm_50 : decode cX10_isCalm 50 = .ok (.getfield 290, 3) := by decide +kernel
theorem dX10_isCalm_53 : decode cX10_isCalm 53 = .ok (.if_icmp .eq 5, 3) := by decide +kernel
theorem dX10_isCalm_56 : decode cX10_isCalm 56 = .ok (.iconst 0, 1) := by decide +kernel
theorem dX10_isCalm_57 : decode cX10_isCalm 57 = .ok (.ireturn, 1) := by decide +kernel
theorem dX10_isCalm_58 : decode cX10_isCalm 58 = .ok (.iinc 3 1, 3) := by decide +kernel
theorem dX10_isCalm_61 : decode cX10_isCalm 61 = .ok (.goto (-40), 3) := by decide +kernel
theorem dX10_isCalm_64 : decode cX10_isCalm 64 = .ok (.iconst 1, 1) := by decide +kernel
theorem dX10_isCalm_65 : decode cX10_isCalm 65 = .ok (.ireturn, 1) := by decide +kernel
theorem dX10_isTaken_0 : decode cX10_isTaken 0 = .ok (.iload_n 1, 1) := by decide +kernel
theorem dX10_isTaken_1 : decode cX10_isTaken 1 = .ok (.invokestatic 362, 3) := by decide +kernel
theorem dX10_isTaken_4 : decode cX10_isTaken 4 = .ok (.ifCond .eq 16, 3) := by decide +kernel
theorem dX10_isTaken_7 : decode cX10_isTaken 7 = .ok (.aload_n 0, 1) := by decide +kernel
theorem dX10_isTaken_8 : decode cX10_isTaken 8 = .ok (.getfield 25, 3) := by decide +kernel
theorem dX10_isTaken_11 : decode cX10_isTaken 11 = .ok (.iload_n 1, 1) := by decide +kernel
theorem dX10_isTaken_12 : decode cX10_isTaken 12 = .ok (.baload, 1) := by decide +kernel
theorem dX10_isTaken_13 : decode cX10_isTaken 13 = .ok (.ifCond .eq 7, 3) := by decide +kernel
theorem dX10_isTaken_16 : decode cX10_isTaken 16 = .ok (.iconst 1, 1) := by decide +kernel
theorem dX10_isTaken_17 : decode cX10_isTaken 17 = .ok (.goto 4, 3) := by decide +kernel
theorem dX10_isTaken_20 : decode cX10_isTaken 20 = .ok (.iconst 0, 1) := by decide +kernel
theorem dX10_isTaken_21 : decode cX10_isTaken 21 = .ok (.ireturn, 1) := by decide +kernel
theorem dX10_needTaken_0 : decode cX10_needTaken 0 = .ok (.aload_n 0, 1) := by decide +kernel
theorem dX10_needTaken_1 : decode cX10_needTaken 1 = .ok (.iload_n 1, 1) := by decide +kernel
theorem dX10_needTaken_2 : decode cX10_needTaken 2 = .ok (.invokevirtual 368, 3) := by decide +kernel
theorem dX10_needTaken_5 : decode cX10_needTaken 5 = .ok (.ifCond .ne 14, 3) := by decide +kernel
theorem dX10_needTaken_8 : decode cX10_needTaken 8 = .ok (.new 155, 3) := by decide +kernel
theorem dX10_needTaken_11 : decode cX10_needTaken 11 = .ok (.dup, 1) := by decide +kernel
theorem dX10_needTaken_12 : decode cX10_needTaken 12 = .ok (.ldc_w 403, 3) := by decide +kernel
theorem dX10_needTaken_15 : decode cX10_needTaken 15 = .ok (.invokespecial 159, 3) := by decide +kernel
theorem dX10_needTaken_18 : decode cX10_needTaken 18 = .ok (.athrow, 1) := by decide +kernel
theorem dX10_needTaken_19 : decode cX10_needTaken 19 = .ok (.return_, 1) := by decide +kernel
theorem dX10_needShut_0 : decode cX10_needShut 0 = .ok (.iload_n 1, 1) := by decide +kernel
theorem dX10_needShut_1 : decode cX10_needShut 1 = .ok (.iload_n 2, 1) := by decide +kernel
theorem dX10_needShut_2 : decode cX10_needShut 2 = .ok (.invokestatic 237, 3) := by decide +kernel
theorem dX10_needShut_5 : decode cX10_needShut 5 = .ok (.aload_n 0, 1) := by decide +kernel
theorem dX10_needShut_6 : decode cX10_needShut 6 = .ok (.getfield 10, 3) := by decide +kernel
theorem dX10_needShut_9 : decode cX10_needShut 9 = .ok (.getfield 104, 3) := by decide +kernel
theorem dX10_needShut_12 : decode cX10_needShut 12 = .ok (.getfield 240, 3) := by decide +kernel
theorem dX10_needShut_15 : decode cX10_needShut 15 = .ok (.iload_n 1, 1) := by decide +kernel
theorem dX10_needShut_16 : decode cX10_needShut 16 = .ok (.iload_n 2, 1) := by decide +kernel
theorem dX10_needShut_17 : decode cX10_needShut 17 = .ok (.invokestatic 137, 3) := by decide +kernel
theorem dX10_needShut_20 : decode cX10_needShut 20 = .ok (.aaload, 1) := by decide +kernel
theorem dX10_needShut_21 : decode cX10_needShut 21 = .ok (.invokevirtual 405, 3) := by decide +kernel
theorem dX10_needShut_24 : decode cX10_needShut 24 = .ok (.ifCond .ne 14, 3) := by decide +kernel
theorem dX10_needShut_27 : decode cX10_needShut 27 = .ok (.new 155, 3) := by decide +kernel
theorem dX10_needShut_30 : decode cX10_needShut 30 = .ok (.dup, 1) := by decide +kernel
theorem dX10_needShut_31 : decode cX10_needShut 31 = .ok (.ldc_w 409, 3) := by decide +kernel
theorem dX10_needShut_34 : decode cX10_needShut 34 = .ok (.invokespecial 159, 3) := by decide +kernel
theorem dX10_needShut_37 : decode cX10_needShut 37 = .ok (.athrow, 1) := by decide +kernel
theorem dX10_needShut_38 : decode cX10_needShut 38 = .ok (.return_, 1) := by decide +kernel
theorem dX10_needKey_0 : decode cX10_needKey 0 = .ok (.iload_n 0, 1) := by decide +kernel
theorem dX10_needKey_1 : decode cX10_needKey 1 = .ok (.invokestatic 87, 3) := by decide +kernel
theorem dX10_needKey_4 : decode cX10_needKey 4 = .ok (.ifCond .ne 14, 3) := by decide +kernel
theorem dX10_needKey_7 : decode cX10_needKey 7 = .ok (.new 155, 3) := by decide +kernel
theorem dX10_needKey_10 : decode cX10_needKey 10 = .ok (.dup, 1) := by decide +kernel
theorem dX10_needKey_11 : decode cX10_needKey 11 = .ok (.ldc_w 411, 3) := by decide +kernel
theorem dX10_needKey_14 : decode cX10_needKey 14 = .ok (.invokespecial 159, 3) := by decide +kernel
theorem dX10_needKey_17 : decode cX10_needKey 17 = .ok (.athrow, 1) := by decide +kernel
theorem dX10_needKey_18 : decode cX10_needKey 18 = .ok (.return_, 1) := by decide +kernel
theorem dX10_needLevel_0 : decode cX10_needLevel 0 = .ok (.iload_n 0, 1) := by decide +kernel
theorem dX10_needLevel_1 : decode cX10_needLevel 1 = .ok (.ifCond .lt 9, 3) := by decide +kernel
theorem dX10_needLevel_4 : decode cX10_needLevel 4 = .ok (.iload_n 0, 1) := by decide +kernel
theorem dX10_needLevel_5 : decode cX10_needLevel 5 = .ok (.bipush 9, 2) := by decide +kernel
theorem dX10_needLevel_7 : decode cX10_needLevel 7 = .ok (.if_icmp .lt 14, 3) := by decide +kernel
theorem dX10_needLevel_10 : decode cX10_needLevel 10 = .ok (.new 155, 3) := by decide +kernel
theorem dX10_needLevel_13 : decode cX10_needLevel 13 = .ok (.dup, 1) := by decide +kernel
theorem dX10_needLevel_14 : decode cX10_needLevel 14 = .ok (.ldc_w 413, 3) := by decide +kernel
theorem dX10_needLevel_17 : decode cX10_needLevel 17 = .ok (.invokespecial 159, 3) := by decide +kernel
theorem dX10_needLevel_20 : decode cX10_needLevel 20 = .ok (.athrow, 1) := by decide +kernel
theorem dX10_needLevel_21 : decode cX10_needLevel 21 = .ok (.return_, 1) := by decide +kernel
theorem dX10_needRow_0 : decode cX10_needRow 0 = .ok (.iload_n 0, 1) := by decide +kernel
theorem dX10_needRow_1 : decode cX10_needRow 1 = .ok (.invokestatic 201, 3) := by decide +kernel
theorem dX10_needRow_4 : decode cX10_needRow 4 = .ok (.iload_n 1, 1) := by decide +kernel
theorem dX10_needRow_5 : decode cX10_needRow 5 = .ok (.ifCond .lt 18, 3) := by decide +kernel
theorem dX10_needRow_8 : decode cX10_needRow 8 = .ok (.iload_n 1, 1) := by decide +kernel
theorem dX10_needRow_9 : decode cX10_needRow 9 = .ok (.getstatic 415, 3) := by decide +kernel
theorem dX10_needRow_12 : decode cX10_needRow 12 = .ok (.iload_n 0, 1) := by decide +kernel
theorem dX10_needRow_13 : decode cX10_needRow 13 = .ok (.iaload, 1) := by decide +kernel
theorem dX10_needRow_14 : decode cX10_needRow 14 = .ok (.getstatic 418, 3) := by decide +kernel
theorem dX10_needRow_17 : decode cX10_needRow 17 = .ok (.iload_n 0, 1) := by decide +kernel
theorem dX10_needRow_18 : decode cX10_needRow 18 = .ok (.iaload, 1) := by decide +kernel
theorem dX10_needRow_19 : decode cX10_needRow 19 = .ok (.isub, 1) := by decide +kernel
theorem dX10_needRow_20 : decode cX10_needRow 20 = .ok (.if_icmp .lt 14, 3) := by decide +kernel
theorem dX10_needRow_23 : decode cX10_needRow 23 = .ok (.new 155, 3) := by decide +kernel
theorem dX10_needRow_26 : decode cX10_needRow 26 = .ok (.dup, 1) := by decide +kernel
theorem dX10_needRow_27 : decode cX10_needRow 27 = .ok (.ldc_w 421, 3) := by decide +kernel
theorem dX10_needRow_30 : decode cX10_needRow 30 = .ok (.invokespecial 159, 3) := by decide +kernel
theorem dX10_needRow_33 : decode cX10_needRow 33 = .ok (.athrow, 1) := by decide +kernel
theorem dX10_needRow_34 : decode cX10_needRow 34 = .ok (.return_, 1) := by decide +kernel
theorem dX10_needWhat_0 : decode cX10_needWhat 0 = .ok (.iload_n 0, 1) := by decide +kernel
theorem dX10_needWhat_1 : decode cX10_needWhat 1 = .ok (.ifCond .lt 8, 3) := by decide +kernel
theorem dX10_needWhat_4 : decode cX10_needWhat 4 = .ok (.iload_n 0, 1) := by decide +kernel
theorem dX10_needWhat_5 : decode cX10_needWhat 5 = .ok (.iload_n 1, 1) := by decide +kernel
theorem dX10_needWhat_6 : decode cX10_needWhat 6 = .ok (.if_icmp .lt 14, 3) := by decide +kernel
theorem dX10_needWhat_9 : decode cX10_needWhat 9 = .ok (.new 155, 3) := by decide +kernel
theorem dX10_needWhat_12 : decode cX10_needWhat 12 = .ok (.dup, 1) := by decide +kernel
theorem dX10_needWhat_13 : decode cX10_needWhat 13 = .ok (.ldc_w 423, 3) := by decide +kernel
theorem dX10_needWhat_16 : decode cX10_needWhat 16 = .ok (.invokespecial 159, 3) := by decide +kernel
theorem dX10_needWhat_19 : decode cX10_needWhat 19 = .ok (.athrow, 1) := by decide +kernel
theorem dX10_needWhat_20 : decode cX10_needWhat 20 = .ok (.return_, 1) := by decide +kernel
theorem dX10_needActs_0 : decode cX10_needActs 0 = .ok (.iload_n 0, 1) := by decide +kernel
theorem dX10_needActs_1 : decode cX10_needActs 1 = .ok (.ifCond .lt 9, 3) := by decide +kernel
theorem dX10_needActs_4 : decode cX10_needActs 4 = .ok (.iload_n 0, 1) := by decide +kernel
theorem dX10_needActs_5 : decode cX10_needActs 5 = .ok (.bipush 64, 2) := by decide +kernel
theorem dX10_needActs_7 : decode cX10_needActs 7 = .ok (.if_icmp .le 14, 3) := by decide +kernel
theorem dX10_needActs_10 : decode cX10_needActs 10 = .ok (.new 425, 3) := by decide +kernel
theorem dX10_needActs_13 : decode cX10_needActs 13 = .ok (.dup, 1) := by decide +kernel
theorem dX10_needActs_14 : decode cX10_needActs 14 = .ok (.ldc_w 427, 3) := by decide +kernel
theorem dX10_needActs_17 : decode cX10_needActs 17 = .ok (.invokespecial 429, 3) := by decide +kernel
theorem dX10_needActs_20 : decode cX10_needActs 20 = .ok (.athrow, 1) := by decide +kernel
theorem dX10_needActs_21 : decode cX10_needActs 21 = .ok (.return_, 1) := by decide +kernel
theorem dX10_isKey_0 : decode cX10_isKey 0 = .ok (.iload_n 0, 1) := by decide +kernel
theorem dX10_isKey_1 : decode cX10_isKey 1 = .ok (.ifCond .lt 14, 3) := by decide +kernel
theorem dX10_isKey_4 : decode cX10_isKey 4 = .ok (.iload_n 0, 1) := by decide +kernel
theorem dX10_isKey_5 : decode cX10_isKey 5 = .ok (.sipush 200, 3) := by decide +kernel
theorem dX10_isKey_8 : decode cX10_isKey 8 = .ok (.if_icmp .ge 7, 3) := by decide +kernel
theorem dX10_isKey_11 : decode cX10_isKey 11 = .ok (.iconst 1, 1) := by decide +kernel
theorem dX10_isKey_12 : decode cX10_isKey 12 = .ok (.goto 4, 3) := by decide +kernel
theorem dX10_isKey_15 : decode cX10_isKey 15 = .ok (.iconst 0, 1) := by decide +kernel
theorem dX10_isKey_16 : decode cX10_isKey 16 = .ok (.ireturn, 1) := by decide +kernel
theorem dX10_isView_0 : decode cX10_isView 0 = .ok (.iload_n 0, 1) := by decide +kernel
theorem dX10_isView_1 : decode cX10_isView 1 = .ok (.ifCond .lt 12, 3) := by decide +kernel
theorem dX10_isView_4 : decode cX10_isView 4 = .ok (.iload_n 0, 1) := by decide +kernel
theorem dX10_isView_5 : decode cX10_isView 5 = .ok (.iconst 3, 1) := by decide +kernel
theorem dX10_isView_6 : decode cX10_isView 6 = .ok (.if_icmp .ge 7, 3) := by decide +kernel
theorem dX10_isView_9 : decode cX10_isView 9 = .ok (.iconst 1, 1) := by decide +kernel
theorem dX10_isView_10 : decode cX10_isView 10 = .ok (.goto 4, 3) := by decide +kernel
theorem dX10_isView_13 : decode cX10_isView 13 = .ok (.iconst 0, 1) := by decide +kernel
theorem dX10_isView_14 : decode cX10_isView 14 = .ok (.ireturn, 1) := by decide +kernel
theorem dX10_keyAhead_0 : decode cX10_keyAhead 0 = .ok (.bipush 37, 2) := by decide +kernel
theorem dX10_keyAhead_2 : decode cX10_keyAhead 2 = .ok (.iload_n 0, 1) := by decide +kernel
theorem dX10_keyAhead_3 : decode cX10_keyAhead 3 = .ok (.imul, 1) := by decide +kernel
theorem dX10_keyAhead_4 : decode cX10_keyAhead 4 = .ok (.bipush 11, 2) := by decide +kernel
theorem dX10_keyAhead_6 : decode cX10_keyAhead 6 = .ok (.iadd, 1) := by decide +kernel
theorem dX10_keyAhead_7 : decode cX10_keyAhead 7 = .ok (.sipush 200, 3) := by decide +kernel
theorem dX10_keyAhead_10 : decode cX10_keyAhead 10 = .ok (.irem, 1) := by decide +kernel
theorem dX10_keyAhead_11 : decode cX10_keyAhead 11 = .ok (.ireturn, 1) := by decide +kernel
theorem dX10_leastLevelFor_0 : decode cX10_leastLevelFor 0 = .ok (.iconst 0, 1) := by decide +kernel
theorem dX10_leastLevelFor_1 : decode cX10_leastLevelFor 1 = .ok (.istore_n 1, 1) := by decide +kernel
theorem dX10_leastLevelFor_2 : decode cX10_leastLevelFor 2 = .ok (.iload_n 1, 1) := by decide +kernel
theorem dX10_leastLevelFor_3 : decode cX10_leastLevelFor 3 = .ok (.bipush 8, 2) := by decide +kernel
theorem dX10_leastLevelFor_5 : decode cX10_leastLevelFor 5 = .ok (.if_icmp .ge 16, 3) := by decide +kernel
theorem dX10_leastLevelFor_8 : decode cX10_leastLevelFor 8 = .ok (.iconst 1, 1) := by decide +kernel
theorem dX10_leastLevelFor_9 : decode cX10_leastLevelFor 9 = .ok (.iload_n 1, 1) := by decide +kernel
theorem dX10_leastLevelFor_10 : decode cX10_leastLevelFor 10 = .ok (.ishl, 1) := by decide +kernel
theorem dX10_leastLevelFor_11 : decode cX10_leastLevelFor 11 = .ok (.iload_n 0, 1) := by decide +kernel
theorem dX10_leastLevelFor_12 : decode cX10_leastLevelFor 12 = .ok (.if_icmp .ge 9, 3) := by decide +kernel
theorem dX10_leastLevelFor_15 : decode cX10_leastLevelFor 15 = .ok (.iinc 1 1, 3) := by decide +kernel
theorem dX10_leastLevelFor_18 : decode cX10_leastLevelFor 18 = .ok (.goto (-16), 3) := by decide +kernel
theorem dX10_leastLevelFor_21 : decode cX10_leastLevelFor 21 = .ok (.iload_n 1, 1) := by decide +kernel
theorem dX10_leastLevelFor_22 : decode cX10_leastLevelFor 22 = .ok (.ireturn, 1) := by decide +kernel
theorem dX10_at_0 : decode cX10_at 0 = .ok (.getstatic 418, 3) := by decide +kernel
theorem dX10_at_3 : decode cX10_at 3 = .ok (.iload_n 0, 1) := by decide +kernel
theorem dX10_at_4 : decode cX10_at 4 = .ok (.iaload, 1) := by decide +kernel
theorem dX10_at_5 : decode cX10_at 5 = .ok (.iload_n 1, 1) := by decide +kernel
theorem dX10_at_6 : decode cX10_at 6 = .ok (.iadd, 1) := by decide +kernel
theorem dX10_at_7 : decode cX10_at 7 = .ok (.ireturn, 1) := by decide +kernel
theorem dX10_numberOf_0 : decode cX10_numberOf 0 = .ok (.iload_n 0, 1) := by decide +kernel
theorem dX10_numberOf_1 : decode cX10_numberOf 1 = .ok (.getstatic 418, 3) := by decide +kernel
theorem dX10_numberOf_4 : decode cX10_numberOf 4 = .ok (.getstatic 165, 3) := by decide +kernel
theorem dX10_numberOf_7 : decode cX10_numberOf 7 = .ok (.iload_n 0, 1) := by decide +kernel
theorem dX10_numberOf_8 : decode cX10_numberOf 8 = .ok (.iaload, 1) := by decide +kernel
theorem dX10_numberOf_9 : decode cX10_numberOf 9 = .ok (.iaload, 1) := by decide +kernel
theorem dX10_numberOf_10 : decode cX10_numberOf 10 = .ok (.isub, 1) := by decide +kernel
theorem dX10_numberOf_11 : decode cX10_numberOf 11 = .ok (.ireturn, 1) := by decide +kernel
theorem dX10_thingRoom_0 : decode cX10_thingRoom 0 = .ok (.iconst 1, 1) := by decide +kernel
theorem dX10_thingRoom_1 : decode cX10_thingRoom 1 = .ok (.iload_n 0, 1) := by decide +kernel
theorem dX10_thingRoom_2 : decode cX10_thingRoom 2 = .ok (.ishl, 1) := by decide +kernel
theorem dX10_thingRoom_3 : decode cX10_thingRoom 3 = .ok (.sipush 200, 3) := by decide +kernel
theorem dX10_thingRoom_6 : decode cX10_thingRoom 6 = .ok (.invokestatic 430, 3) := by decide +kernel
theorem dX10_thingRoom_9 : decode cX10_thingRoom 9 = .ok (.ireturn, 1) := by decide +kernel
