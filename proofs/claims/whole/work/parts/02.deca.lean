theorem dX0_init_0 : decode cX0_init 0 = .ok (.aload_n 0, 1) := by decide +kernel
theorem dX0_init_1 : decode cX0_init 1 = .ok (.invokespecial 3, 3) := by decide +kernel
theorem dX0_init_4 : decode cX0_init 4 = .ok (.aload_n 0, 1) := by decide +kernel
theorem dX0_init_5 : decode cX0_init 5 = .ok (.new 9, 3) := by decide +kernel
theorem dX0_init_8 : decode cX0_init 8 = .ok (.dup, 1) := by decide +kernel
theorem dX0_init_9 : decode cX0_init 9 = .ok (.invokespecial 11, 3) := by decide +kernel
theorem dX0_init_12 : decode cX0_init 12 = .ok (.putfield 12, 3) := by decide +kernel
theorem dX0_init_15 : decode cX0_init 15 = .ok (.aload_n 0, 1) := by decide +kernel
theorem dX0_init_16 : decode cX0_init 16 = .ok (.bipush 9, 2) := by decide +kernel
theorem dX0_init_18 : decode cX0_init 18 = .ok (.anewarray 18, 3) := by decide +kernel
theorem dX0_init_21 : decode cX0_init 21 = .ok (.putfield 20, 3) := by decide +kernel
theorem dX0_init_24 : decode cX0_init 24 = .ok (.aload_n 0, 1) := by decide +kernel
theorem dX0_init_25 : decode cX0_init 25 = .ok (.bipush 6, 2) := by decide +kernel
theorem dX0_init_27 : decode cX0_init 27 = .ok (.putfield 24, 3) := by decide +kernel
theorem dX0_init_30 : decode cX0_init 30 = .ok (.aload_n 0, 1) := by decide +kernel
theorem dX0_init_31 : decode cX0_init 31 = .ok (.iconst 0, 1) := by decide +kernel
theorem dX0_init_32 : decode cX0_init 32 = .ok (.putfield 28, 3) := by decide +kernel
theorem dX0_init_35 : decode cX0_init 35 = .ok (.aload_n 0, 1) := by decide +kernel
theorem dX0_init_36 : decode cX0_init 36 = .ok (.iconst 0, 1) := by decide +kernel
theorem dX0_init_37 : decode cX0_init 37 = .ok (.putfield 31, 3) := by decide +kernel
theorem dX0_init_40 : decode cX0_init 40 = .ok (.aload_n 0, 1) := by decide +kernel
theorem dX0_init_41 : decode cX0_init 41 = .ok (.iconst 0, 1) := by decide +kernel
theorem dX0_init_42 : decode cX0_init 42 = .ok (.putfield 34, 3) := by decide +kernel
theorem dX0_init_45 : decode cX0_init 45 = .ok (.aload_n 0, 1) := by decide +kernel
theorem dX0_init_46 : decode cX0_init 46 = .ok (.iconst 0, 1) := by decide +kernel
theorem dX0_init_47 : decode cX0_init 47 = .ok (.putfield 37, 3) := by decide +kernel
theorem dX0_init_50 : decode cX0_init 50 = .ok (.aload_n 0, 1) := by decide +kernel
theorem dX0_init_51 : decode cX0_init 51 = .ok (.iconst 0, 1) := by decide +kernel
theorem dX0_init_52 : decode cX0_init 52 = .ok (.putfield 40, 3) := by decide +kernel
theorem dX0_init_55 : decode cX0_init 55 = .ok (.aload_n 0, 1) := by decide +kernel
theorem dX0_init_56 : decode cX0_init 56 = .ok (.iconst 0, 1) := by decide +kernel
theorem dX0_init_57 : decode cX0_init 57 = .ok (.putfield 43, 3) := by decide +kernel
theorem dX0_init_60 : decode cX0_init 60 = .ok (.aload_n 0, 1) := by decide +kernel
theorem dX0_init_61 : decode cX0_init 61 = .ok (.iconst 0, 1) := by decide +kernel
theorem dX0_init_62 : decode cX0_init 62 = .ok (.putfield 46, 3) := by decide +kernel
theorem dX0_init_65 : decode cX0_init 65 = .ok (.iconst 0, 1) := by decide +kernel
theorem dX0_init_66 : decode cX0_init 66 = .ok (.istore_n 1, 1) := by decide +kernel
theorem dX0_init_67 : decode cX0_init 67 = .ok (.iload_n 1, 1) := by decide +kernel
theorem dX0_init_68 : decode cX0_init 68 = .ok (.bipush 9, 2) := by decide +kernel
theorem dX0_init_70 : decode cX0_init 70 = .ok (.if_icmp .ge 22, 3) := by decide +kernel
theorem dX0_init_73 : decode cX0_init 73 = .ok (.aload_n 0, 1) := by decide +kernel
theorem dX0_init_74 : decode cX0_init 74 = .ok (.getfield 20, 3) := by decide +kernel
theorem dX0_init_77 : decode cX0_init 77 = .ok (.iload_n 1, 1) := by decide +kernel
theorem dX0_init_78 : decode cX0_init 78 = .ok (.new 18, 3) := by decide +kernel
theorem dX0_init_81 : decode cX0_init 81 = .ok (.dup, 1) := by decide +kernel
theorem dX0_init_82 : decode cX0_init 82 = .ok (.invokespecial 49, 3) := by decide +kernel
theorem dX0_init_85 : decode cX0_init 85 = .ok (.aastore, 1) := by decide +kernel
theorem dX0_init_86 : decode cX0_init 86 = .ok (.iinc 1 1, 3) := by decide +kernel
theorem dX0_init_89 : decode cX0_init 89 = .ok (.goto (-22), 3) := by decide +kernel
theorem dX0_init_92 : decode cX0_init 92 = .ok (.return_, 1) := by decide +kernel
theorem dX0_act_0 : decode cX0_act 0 = .ok (.aload_n 0, 1) := by decide +kernel
theorem dX0_act_1 : decode cX0_act 1 = .ok (.invokevirtual 50, 3) := by decide +kernel
theorem dX0_act_4 : decode cX0_act 4 = .ok (.istore_n 3, 1) := by decide +kernel
theorem dX0_act_5 : decode cX0_act 5 = .ok (.aload_n 0, 1) := by decide +kernel
theorem dX0_act_6 : decode cX0_act 6 = .ok (.iload_n 1, 1) := by decide +kernel
theorem dX0_act_7 : decode cX0_act 7 = .ok (.iload_n 2, 1) := by decide +kernel
theorem dX0_act_8 : decode cX0_act 8 = .ok (.invokevirtual 54, 3) := by decide +kernel
theorem dX0_act_11 : decode cX0_act 11 = .ok (.aload_n 0, 1) := by decide +kernel
theorem dX0_act_12 : decode cX0_act 12 = .ok (.invokevirtual 58, 3) := by decide +kernel
theorem dX0_act_15 : decode cX0_act 15 = .ok (.iload_n 3, 1) := by decide +kernel
theorem dX0_act_16 : decode cX0_act 16 = .ok (.aload_n 0, 1) := by decide +kernel
theorem dX0_act_17 : decode cX0_act 17 = .ok (.aload_n 0, 1) := by decide +kernel
theorem dX0_act_18 : decode cX0_act 18 = .ok (.getfield 24, 3) := by decide +kernel
theorem dX0_act_21 : decode cX0_act 21 = .ok (.invokevirtual 61, 3) := by decide +kernel
theorem dX0_act_24 : decode cX0_act 24 = .ok (.iadd, 1) := by decide +kernel
theorem dX0_act_25 : decode cX0_act 25 = .ok (.istore 4, 2) := by decide +kernel
theorem dX0_act_27 : decode cX0_act 27 = .ok (.aload_n 0, 1) := by decide +kernel
theorem dX0_act_28 : decode cX0_act 28 = .ok (.dup, 1) := by decide +kernel
theorem dX0_act_29 : decode cX0_act 29 = .ok (.getfield 31, 3) := by decide +kernel
theorem dX0_act_32 : decode cX0_act 32 = .ok (.iconst 1, 1) := by decide +kernel
theorem dX0_act_33 : decode cX0_act 33 = .ok (.iadd, 1) := by decide +kernel
theorem dX0_act_34 : decode cX0_act 34 = .ok (.putfield 31, 3) := by decide +kernel
theorem dX0_act_37 : decode cX0_act 37 = .ok (.aload_n 0, 1) := by decide +kernel
theorem dX0_act_38 : decode cX0_act 38 = .ok (.dup, 1) := by decide +kernel
theorem dX0_act_39 : decode cX0_act 39 = .ok (.getfield 37, 3) := by decide +kernel
theorem dX0_act_42 : decode cX0_act 42 = .ok (.iload_n 3, 1) := by decide +kernel
theorem dX0_act_43 : decode cX0_act 43 = .ok (.iadd, 1) := by decide +kernel
theorem dX0_act_44 : decode cX0_act 44 = .ok (.putfield 37, 3) := by decide +kernel
theorem dX0_act_47 : decode cX0_act 47 = .ok (.aload_n 0, 1) := by decide +kernel
theorem dX0_act_48 : decode cX0_act 48 = .ok (.aload_n 0, 1) := by decide +kernel
theorem dX0_act_49 : decode cX0_act 49 = .ok (.getfield 40, 3) := by decide +kernel
theorem dX0_act_52 : decode cX0_act 52 = .ok (.iload 4, 2) := by decide +kernel
theorem dX0_act_54 : decode cX0_act 54 = .ok (.invokestatic 65, 3) := by decide +kernel
theorem dX0_act_57 : decode cX0_act 57 = .ok (.putfield 40, 3) := by decide +kernel
theorem dX0_act_60 : decode cX0_act 60 = .ok (.iload 4, 2) := by decide +kernel
theorem dX0_act_62 : decode cX0_act 62 = .ok (.ireturn, 1) := by decide +kernel
theorem dX0_makeRoom_0 : decode cX0_makeRoom 0 = .ok (.iconst 0, 1) := by decide +kernel
theorem dX0_makeRoom_1 : decode cX0_makeRoom 1 = .ok (.istore_n 1, 1) := by decide +kernel
theorem dX0_makeRoom_2 : decode cX0_makeRoom 2 = .ok (.iload_n 1, 1) := by decide +kernel
theorem dX0_makeRoom_3 : decode cX0_makeRoom 3 = .ok (.ldc 71, 2) := by decide +kernel
theorem dX0_makeRoom_5 : decode cX0_makeRoom 5 = .ok (.if_icmp .ge 28, 3) := by decide +kernel
theorem dX0_makeRoom_8 : decode cX0_makeRoom 8 = .ok (.aload_n 0, 1) := by decide +kernel
theorem dX0_makeRoom_9 : decode cX0_makeRoom 9 = .ok (.getfield 12, 3) := by decide +kernel
theorem dX0_makeRoom_12 : decode cX0_makeRoom 12 = .ok (.iconst 0, 1) := by decide +kernel
theorem dX0_makeRoom_13 : decode cX0_makeRoom 13 = .ok (.invokevirtual 72, 3) := by decide +kernel
theorem dX0_makeRoom_16 : decode cX0_makeRoom 16 = .ok (.iconst (-1), 1) := by decide +kernel
theorem dX0_makeRoom_17 : decode cX0_makeRoom 17 = .ok (.if_icmp .ne 16, 3) := by decide +kernel
theorem dX0_makeRoom_20 : decode cX0_makeRoom 20 = .ok (.aload_n 0, 1) := by decide +kernel
theorem dX0_makeRoom_21 : decode cX0_makeRoom 21 = .ok (.invokevirtual 75, 3) := by decide +kernel
theorem dX0_makeRoom_24 : decode cX0_makeRoom 24 = .ok (.ifCond .eq 9, 3) := by decide +kernel
theorem dX0_makeRoom_27 : decode cX0_makeRoom 27 = .ok (.iinc 1 1, 3) := by decide +kernel
theorem dX0_makeRoom_30 : decode cX0_makeRoom 30 = .ok (.goto (-28), 3) := by decide +kernel
theorem dX0_makeRoom_33 : decode cX0_makeRoom 33 = .ok (.iload_n 1, 1) := by decide +kernel
theorem dX0_makeRoom_34 : decode cX0_makeRoom 34 = .ok (.ireturn, 1) := by decide +kernel
theorem dX0_layFirst_0 : decode cX0_layFirst 0 = .ok (.aload_n 0, 1) := by decide +kernel
theorem dX0_layFirst_1 : decode cX0_layFirst 1 = .ok (.getfield 12, 3) := by decide +kernel
theorem dX0_layFirst_4 : decode cX0_layFirst 4 = .ok (.iconst 0, 1) := by decide +kernel
theorem dX0_layFirst_5 : decode cX0_layFirst 5 = .ok (.invokevirtual 72, 3) := by decide +kernel
theorem dX0_layFirst_8 : decode cX0_layFirst 8 = .ok (.istore_n 3, 1) := by decide +kernel
theorem dX0_layFirst_9 : decode cX0_layFirst 9 = .ok (.iload_n 3, 1) := by decide +kernel
theorem dX0_layFirst_10 : decode cX0_layFirst 10 = .ok (.iconst (-1), 1) := by decide +kernel
theorem dX0_layFirst_11 : decode cX0_layFirst 11 = .ok (.if_icmp .eq 43, 3) := by decide +kernel
theorem dX0_layFirst_14 : decode cX0_layFirst 14 = .ok (.aload_n 0, 1) := by decide +kernel
theorem dX0_layFirst_15 : decode cX0_layFirst 15 = .ok (.getfield 12, 3) := by decide +kernel
theorem dX0_layFirst_18 : decode cX0_layFirst 18 = .ok (.getfield 79, 3) := by decide +kernel
theorem dX0_layFirst_21 : decode cX0_layFirst 21 = .ok (.iload_n 3, 1) := by decide +kernel
theorem dX0_layFirst_22 : decode cX0_layFirst 22 = .ok (.aaload, 1) := by decide +kernel
theorem dX0_layFirst_23 : decode cX0_layFirst 23 = .ok (.iconst 0, 1) := by decide +kernel
theorem dX0_layFirst_24 : decode cX0_layFirst 24 = .ok (.invokevirtual 83, 3) := by decide +kernel
theorem dX0_layFirst_27 : decode cX0_layFirst 27 = .ok (.aload_n 0, 1) := by decide +kernel
theorem dX0_layFirst_28 : decode cX0_layFirst 28 = .ok (.getfield 12, 3) := by decide +kernel
theorem dX0_layFirst_31 : decode cX0_layFirst 31 = .ok (.getfield 79, 3) := by decide +kernel
theorem dX0_layFirst_34 : decode cX0_layFirst 34 = .ok (.iload_n 3, 1) := by decide +kernel
theorem dX0_layFirst_35 : decode cX0_layFirst 35 = .ok (.aaload, 1) := by decide +kernel
theorem dX0_layFirst_36 : decode cX0_layFirst 36 = .ok (.iload_n 1, 1) := by decide +kernel
theorem dX0_layFirst_37 : decode cX0_layFirst 37 = .ok (.iload_n 2, 1) := by decide +kernel
theorem dX0_layFirst_38 : decode cX0_layFirst 38 = .ok (.invokevirtual 89, 3) := by decide +kernel
theorem dX0_layFirst_41 : decode cX0_layFirst 41 = .ok (.aload_n 0, 1) := by decide +kernel
theorem dX0_layFirst_42 : decode cX0_layFirst 42 = .ok (.aload_n 0, 1) := by decide +kernel
theorem dX0_layFirst_43 : decode cX0_layFirst 43 = .ok (.getfield 12, 3) := by decide +kernel
theorem dX0_layFirst_46 : decode cX0_layFirst 46 = .ok (.getfield 79, 3) := by decide +kernel
theorem dX0_layFirst_49 : decode cX0_layFirst 49 = .ok (.iload_n 3, 1) := by decide +kernel
theorem dX0_layFirst_50 : decode cX0_layFirst 50 = .ok (.aaload, 1) := by decide +kernel
theorem dX0_layFirst_51 : decode cX0_layFirst 51 = .ok (.invokevirtual 92, 3) := by decide +kernel
theorem dX0_layFirst_54 : decode cX0_layFirst 54 = .ok (.return_, 1) := by decide +kernel
theorem dX0_shut_0 : decode cX0_shut 0 = .ok (.aload_n 0, 1) := by decide +kernel
theorem dX0_shut_1 : decode cX0_shut 1 = .ok (.dup, 1) := by decide +kernel
theorem dX0_shut_2 : decode cX0_shut 2 = .ok (.getfield 28, 3) := by decide +kernel
theorem dX0_shut_5 : decode cX0_shut 5 = .ok (.iconst 1, 1) := by decide +kernel
theorem dX0_shut_6 : decode cX0_shut 6 = .ok (.iadd, 1) := by decide +kernel
theorem dX0_shut_7 : decode cX0_shut 7 = .ok (.putfield 28, 3) := by decide +kernel
theorem dX0_shut_10 : decode cX0_shut 10 = .ok (.aload_n 1, 1) := by decide +kernel
theorem dX0_shut_11 : decode cX0_shut 11 = .ok (.aload_n 0, 1) := by decide +kernel
theorem dX0_shut_12 : decode cX0_shut 12 = .ok (.getfield 28, 3) := by decide +kernel
theorem dX0_shut_15 : decode cX0_shut 15 = .ok (.putfield 96, 3) := by decide +kernel
theorem dX0_shut_18 : decode cX0_shut 18 = .ok (.aload_n 1, 1) := by decide +kernel
theorem dX0_shut_19 : decode cX0_shut 19 = .ok (.iconst 2, 1) := by decide +kernel
theorem dX0_shut_20 : decode cX0_shut 20 = .ok (.putfield 99, 3) := by decide +kernel
theorem dX0_shut_23 : decode cX0_shut 23 = .ok (.return_, 1) := by decide +kernel
theorem dX0_takeSteps_0 : decode cX0_takeSteps 0 = .ok (.iconst 0, 1) := by decide +kernel
theorem dX0_takeSteps_1 : decode cX0_takeSteps 1 = .ok (.istore_n 2, 1) := by decide +kernel
theorem dX0_takeSteps_2 : decode cX0_takeSteps 2 = .ok (.iload_n 2, 1) := by decide +kernel
theorem dX0_takeSteps_3 : decode cX0_takeSteps 3 = .ok (.iload_n 1, 1) := by decide +kernel
theorem dX0_takeSteps_4 : decode cX0_takeSteps 4 = .ok (.if_icmp .ge 16, 3) := by decide +kernel
theorem dX0_takeSteps_7 : decode cX0_takeSteps 7 = .ok (.aload_n 0, 1) := by decide +kernel
theorem dX0_takeSteps_8 : decode cX0_takeSteps 8 = .ok (.invokevirtual 75, 3) := by decide +kernel
theorem dX0_takeSteps_11 : decode cX0_takeSteps 11 = .ok (.ifCond .eq 9, 3) := by decide +kernel
theorem dX0_takeSteps_14 : decode cX0_takeSteps 14 = .ok (.iinc 2 1, 3) := by decide +kernel
theorem dX0_takeSteps_17 : decode cX0_takeSteps 17 = .ok (.goto (-15), 3) := by decide +kernel
theorem dX0_takeSteps_20 : decode cX0_takeSteps 20 = .ok (.iload_n 2, 1) := by decide +kernel
theorem dX0_takeSteps_21 : decode cX0_takeSteps 21 = .ok (.ireturn, 1) := by decide +kernel
theorem dX0_step_0 : decode cX0_step 0 = .ok (.iconst 0, 1) := by decide +kernel
theorem dX0_step_1 : decode cX0_step 1 = .ok (.istore_n 1, 1) := by decide +kernel
theorem dX0_step_2 : decode cX0_step 2 = .ok (.iload_n 1, 1) := by decide +kernel
theorem dX0_step_3 : decode cX0_step 3 = .ok (.bipush 9, 2) := by decide +kernel
theorem dX0_step_5 : decode cX0_step 5 = .ok (.if_icmp .ge 65, 3) := by decide +kernel
theorem dX0_step_8 : decode cX0_step 8 = .ok (.aload_n 0, 1) := by decide +kernel
theorem dX0_step_9 : decode cX0_step 9 = .ok (.getfield 20, 3) := by decide +kernel
theorem dX0_step_12 : decode cX0_step 12 = .ok (.iload_n 1, 1) := by decide +kernel
theorem dX0_step_13 : decode cX0_step 13 = .ok (.aaload, 1) := by decide +kernel
theorem dX0_step_14 : decode cX0_step 14 = .ok (.getfield 102, 3) := by decide +kernel
theorem dX0_step_17 : decode cX0_step 17 = .ok (.ifCond .eq 47, 3) := by decide +kernel
theorem dX0_step_20 : decode cX0_step 20 = .ok (.aload_n 0, 1) := by decide +kernel
theorem dX0_step_21 : decode cX0_step 21 = .ok (.aload_n 0, 1) := by decide +kernel
theorem dX0_step_22 : decode cX0_step 22 = .ok (.getfield 20, 3) := by decide +kernel
theorem dX0_step_25 : decode cX0_step 25 = .ok (.iload_n 1, 1) := by decide +kernel
theorem dX0_step_26 : decode cX0_step 26 = .ok (.aaload, 1) := by decide +kernel
theorem dX0_step_27 : decode cX0_step 27 = .ok (.invokevirtual 106, 3) := by decide +kernel
theorem dX0_step_30 : decode cX0_step 30 = .ok (.aload_n 0, 1) := by decide +kernel
theorem dX0_step_31 : decode cX0_step 31 = .ok (.dup, 1) := by decide +kernel
theorem dX0_step_32 : decode cX0_step 32 = .ok (.getfield 34, 3) := by decide +kernel
theorem dX0_step_35 : decode cX0_step 35 = .ok (.iconst 1, 1) := by decide +kernel
theorem dX0_step_36 : decode cX0_step 36 = .ok (.iadd, 1) := by decide +kernel
theorem dX0_step_37 : decode cX0_step 37 = .ok (.putfield 34, 3) := by decide +kernel
theorem dX0_step_40 : decode cX0_step 40 = .ok (.aload_n 0, 1) := by decide +kernel
theorem dX0_step_41 : decode cX0_step 41 = .ok (.iload_n 1, 1) := by decide +kernel
theorem dX0_step_42 : decode cX0_step 42 = .ok (.invokevirtual 110, 3) := by decide +kernel
theorem dX0_step_45 : decode cX0_step 45 = .ok (.ifCond .ne 17, 3) := by decide +kernel
theorem dX0_step_48 : decode cX0_step 48 = .ok (.aload_n 0, 1) := by decide +kernel
theorem dX0_step_49 : decode cX0_step 49 = .ok (.aload_n 0, 1) := by decide +kernel
theorem dX0_step_50 : decode cX0_step 50 = .ok (.getfield 20, 3) := by decide +kernel
theorem dX0_step_53 : decode cX0_step 53 = .ok (.iload_n 1, 1) := by decide +kernel
theorem dX0_step_54 : decode cX0_step 54 = .ok (.aaload, 1) := by decide +kernel
theorem dX0_step_55 : decode cX0_step 55 = .ok (.invokevirtual 113, 3) := by decide +kernel
theorem dX0_step_58 : decode cX0_step 58 = .ok (.aload_n 0, 1) := by decide +kernel
theorem dX0_step_59 : decode cX0_step 59 = .ok (.invokevirtual 58, 3) := by decide +kernel
theorem dX0_step_62 : decode cX0_step 62 = .ok (.iconst 1, 1) := by decide +kernel
theorem dX0_step_63 : decode cX0_step 63 = .ok (.ireturn, 1) := by decide +kernel
theorem dX0_step_64 : decode cX0_step 64 = .ok (.iinc 1 1, 3) := by decide +kernel
theorem dX0_step_67 : decode cX0_step 67 = .ok (.goto (-65), 3) := by decide +kernel
theorem dX0_step_70 : decode cX0_step 70 = .ok (.iconst 0, 1) := by decide +kernel
theorem dX0_step_71 : decode cX0_step 71 = .ok (.ireturn, 1) := by decide +kernel
theorem dX0_stepOf_0 : decode cX0_stepOf 0 = .ok (.aload_n 0, 1) := by decide +kernel
theorem dX0_stepOf_1 : decode cX0_stepOf 1 = .ok (.getfield 12, 3) := by decide +kernel
theorem dX0_stepOf_4 : decode cX0_stepOf 4 = .ok (.getfield 79, 3) := by decide +kernel
theorem dX0_stepOf_7 : decode cX0_stepOf 7 = .ok (.aload_n 1, 1) := by decide +kernel
theorem dX0_stepOf_8 : decode cX0_stepOf 8 = .ok (.getfield 116, 3) := by decide +kernel
theorem dX0_stepOf_11 : decode cX0_stepOf 11 = .ok (.aaload, 1) := by decide +kernel
theorem dX0_stepOf_12 : decode cX0_stepOf 12 = .ok (.astore_n 2, 1) := by decide +kernel
theorem dX0_stepOf_13 : decode cX0_stepOf 13 = .ok (.aload_n 0, 1) := by decide +kernel
theorem dX0_stepOf_14 : decode cX0_stepOf 14 = .ok (.getfield 12, 3) := by decide +kernel
theorem dX0_stepOf_17 : decode cX0_stepOf 17 = .ok (.getfield 79, 3) := by decide +kernel
theorem dX0_stepOf_20 : decode cX0_stepOf 20 = .ok (.aload_n 1, 1) := by decide +kernel
theorem dX0_stepOf_21 : decode cX0_stepOf 21 = .ok (.getfield 119, 3) := by decide +kernel
theorem dX0_stepOf_24 : decode cX0_stepOf 24 = .ok (.aaload, 1) := by decide +kernel
theorem dX0_stepOf_25 : decode cX0_stepOf 25 = .ok (.astore_n 3, 1) := by decide +kernel
theorem dX0_stepOf_26 : decode cX0_stepOf 26 = .ok (.aload_n 2, 1) := by decide +kernel
theorem dX0_stepOf_27 : decode cX0_stepOf 27 = .ok (.aload_n 1, 1) := by decide +kernel
theorem dX0_stepOf_28 : decode cX0_stepOf 28 = .ok (.getfield 122, 3) := by decide +kernel
theorem dX0_stepOf_31 : decode cX0_stepOf 31 = .ok (.invokevirtual 125, 3) := by decide +kernel
theorem dX0_stepOf_34 : decode cX0_stepOf 34 = .ok (.istore 4, 2) := by decide +kernel
theorem dX0_stepOf_36 : decode cX0_stepOf 36 = .ok (.aload_n 3, 1) := by decide +kernel
theorem dX0_stepOf_37 : decode cX0_stepOf 37 = .ok (.aload_n 1, 1) := by decide +kernel
theorem dX0_stepOf_38 : decode cX0_stepOf 38 = .ok (.getfield 128, 3) := by decide +kernel
theorem dX0_stepOf_41 : decode cX0_stepOf 41 = .ok (.invokevirtual 125, 3) := by decide +kernel
theorem dX0_stepOf_44 : decode cX0_stepOf 44 = .ok (.istore 5, 2) := by decide +kernel
theorem dX0_stepOf_46 : decode cX0_stepOf 46 = .ok (.iload 4, 2) := by decide +kernel
theorem dX0_stepOf_48 : decode cX0_stepOf 48 = .ok (.iload 5, 2) := by decide +kernel
theorem dX0_stepOf_50 : decode cX0_stepOf 50 = .ok (.if_icmp .gt 31, 3) := by decide +kernel
theorem dX0_stepOf_53 : decode cX0_stepOf 53 = .ok (.aload_n 0, 1) := by decide +kernel
theorem dX0_stepOf_54 : decode cX0_stepOf 54 = .ok (.aload_n 1, 1) := by decide +kernel
theorem dX0_stepOf_55 : decode cX0_stepOf 55 = .ok (.iload 4, 2) := by decide +kernel
theorem dX0_stepOf_57 : decode cX0_stepOf 57 = .ok (.aload_n 2, 1) := by decide +kernel
theorem dX0_stepOf_58 : decode cX0_stepOf 58 = .ok (.aload_n 1, 1) := by decide +kernel
theorem dX0_stepOf_59 : decode cX0_stepOf 59 = .ok (.getfield 122, 3) := by decide +kernel
theorem dX0_stepOf_62 : decode cX0_stepOf 62 = .ok (.invokevirtual 131, 3) := by decide +kernel
theorem dX0_stepOf_65 : decode cX0_stepOf 65 = .ok (.invokevirtual 134, 3) := by decide +kernel
theorem dX0_stepOf_68 : decode cX0_stepOf 68 = .ok (.aload_n 1, 1) := by decide +kernel
theorem dX0_stepOf_69 : decode cX0_stepOf 69 = .ok (.dup, 1) := by decide +kernel
theorem dX0_stepOf_70 : decode cX0_stepOf 70 = .ok (.getfield 122, 3) := by decide +kernel
theorem dX0_stepOf_73 : decode cX0_stepOf 73 = .ok (.iconst 1, 1) := by decide +kernel
theorem dX0_stepOf_74 : decode cX0_stepOf 74 = .ok (.iadd, 1) := by decide +kernel
theorem dX0_stepOf_75 : decode cX0_stepOf 75 = .ok (.putfield 122, 3) := by decide +kernel
theorem dX0_stepOf_78 : decode cX0_stepOf 78 = .ok (.goto 18, 3) := by decide +kernel
theorem dX0_stepOf_81 : decode cX0_stepOf 81 = .ok (.aload_n 0, 1) := by decide +kernel
theorem dX0_stepOf_82 : decode cX0_stepOf 82 = .ok (.aload_n 1, 1) := by decide +kernel
theorem dX0_stepOf_83 : decode cX0_stepOf 83 = .ok (.iload 5, 2) := by decide +kernel
theorem dX0_stepOf_85 : decode cX0_stepOf 85 = .ok (.aload_n 3, 1) := by decide +kernel
theorem dX0_stepOf_86 : decode cX0_stepOf 86 = .ok (.aload_n 1, 1) := by decide +kernel
theorem dX0_stepOf_87 : decode cX0_stepOf 87 = .ok (.getfield 128, 3) := by decide +kernel
theorem dX0_stepOf_90 : decode cX0_stepOf 90 = .ok (.invokevirtual 131, 3) := by decide +kernel
theorem dX0_stepOf_93 : decode cX0_stepOf 93 = .ok (.invokevirtual 134, 3) := by decide +kernel
theorem dX0_stepOf_96 : decode cX0_stepOf 96 = .ok (.iload 5, 2) := by decide +kernel
theorem dX0_stepOf_98 : decode cX0_stepOf 98 = .ok (.iload 4, 2) := by decide +kernel
theorem dX0_stepOf_100 : decode cX0_stepOf 100 = .ok (.if_icmp .gt 13, 3) := by decide +kernel
theorem dX0_stepOf_103 : decode cX0_stepOf 103 = .ok (.aload_n 1, 1) := by decide +kernel
theorem dX0_stepOf_104 : decode cX0_stepOf 104 = .ok (.dup, 1) := by decide +kernel
theorem dX0_stepOf_105 : decode cX0_stepOf 105 = .ok (.getfield 128, 3) := by decide +kernel
theorem dX0_stepOf_108 : decode cX0_stepOf 108 = .ok (.iconst 1, 1) := by decide +kernel
theorem dX0_stepOf_109 : decode cX0_stepOf 109 = .ok (.iadd, 1) := by decide +kernel
theorem dX0_stepOf_110 : decode cX0_stepOf 110 = .ok (.putfield 128, 3) := by decide +kernel
theorem dX0_stepOf_113 : decode cX0_stepOf 113 = .ok (.iload 5, 2) := by decide +kernel
theorem dX0_stepOf_115 : decode cX0_stepOf 115 = .ok (.iload 4, 2) := by decide +kernel
theorem dX0_stepOf_117 : decode cX0_stepOf 117 = .ok (.if_icmp .ne 13, 3) := by decide +kernel
theorem dX0_stepOf_120 : decode cX0_stepOf 120 = .ok (.aload_n 0, 1) := by decide +kernel
theorem dX0_stepOf_121 : decode cX0_stepOf 121 = .ok (.dup, 1) := by decide +kernel
theorem dX0_stepOf_122 : decode cX0_stepOf 122 = .ok (.getfield 43, 3) := by decide +kernel
theorem dX0_stepOf_125 : decode cX0_stepOf 125 = .ok (.iconst 1, 1) := by decide +kernel
theorem dX0_stepOf_126 : decode cX0_stepOf 126 = .ok (.iadd, 1) := by decide +kernel
theorem dX0_stepOf_127 : decode cX0_stepOf 127 = .ok (.putfield 43, 3) := by decide +kernel
theorem dX0_stepOf_130 : decode cX0_stepOf 130 = .ok (.return_, 1) := by decide +kernel
theorem dX0_moveOn_0 : decode cX0_moveOn 0 = .ok (.iload_n 3, 1) := by decide +kernel
theorem dX0_moveOn_1 : decode cX0_moveOn 1 = .ok (.iconst (-1), 1) := by decide +kernel
theorem dX0_moveOn_2 : decode cX0_moveOn 2 = .ok (.if_icmp .ne 23, 3) := by decide +kernel
theorem dX0_moveOn_5 : decode cX0_moveOn 5 = .ok (.aload_n 1, 1) := by decide +kernel
theorem dX0_moveOn_6 : decode cX0_moveOn 6 = .ok (.getfield 138, 3) := by decide +kernel
theorem dX0_moveOn_9 : decode cX0_moveOn 9 = .ok (.ifCond .eq 16, 3) := by decide +kernel
theorem dX0_moveOn_12 : decode cX0_moveOn 12 = .ok (.aload_n 0, 1) := by decide +kernel
theorem dX0_moveOn_13 : decode cX0_moveOn 13 = .ok (.dup, 1) := by decide +kernel
theorem dX0_moveOn_14 : decode cX0_moveOn 14 = .ok (.getfield 46, 3) := by decide +kernel
theorem dX0_moveOn_17 : decode cX0_moveOn 17 = .ok (.iconst 1, 1) := by decide +kernel
theorem dX0_moveOn_18 : decode cX0_moveOn 18 = .ok (.iadd, 1) := by decide +kernel
theorem dX0_moveOn_19 : decode cX0_moveOn 19 = .ok (.putfield 46, 3) := by decide +kernel
theorem dX0_moveOn_22 : decode cX0_moveOn 22 = .ok (.goto 30, 3) := by decide +kernel
theorem dX0_moveOn_25 : decode cX0_moveOn 25 = .ok (.aload_n 0, 1) := by decide +kernel
theorem dX0_moveOn_26 : decode cX0_moveOn 26 = .ok (.getfield 12, 3) := by decide +kernel
theorem dX0_moveOn_29 : decode cX0_moveOn 29 = .ok (.getfield 79, 3) := by decide +kernel
theorem dX0_moveOn_32 : decode cX0_moveOn 32 = .ok (.aload_n 1, 1) := by decide +kernel
theorem dX0_moveOn_33 : decode cX0_moveOn 33 = .ok (.getfield 141, 3) := by decide +kernel
theorem dX0_moveOn_36 : decode cX0_moveOn 36 = .ok (.aaload, 1) := by decide +kernel
theorem dX0_moveOn_37 : decode cX0_moveOn 37 = .ok (.iload_n 2, 1) := by decide +kernel
theorem dX0_moveOn_38 : decode cX0_moveOn 38 = .ok (.iload_n 3, 1) := by decide +kernel
theorem dX0_moveOn_39 : decode cX0_moveOn 39 = .ok (.invokevirtual 89, 3) := by decide +kernel
theorem dX0_moveOn_42 : decode cX0_moveOn 42 = .ok (.aload_n 1, 1) := by decide +kernel
theorem dX0_moveOn_43 : decode cX0_moveOn 43 = .ok (.dup, 1) := by decide +kernel
theorem dX0_moveOn_44 : decode cX0_moveOn 44 = .ok (.getfield 144, 3) := by decide +kernel
theorem dX0_moveOn_47 : decode cX0_moveOn 47 = .ok (.iconst 1, 1) := by decide +kernel
theorem dX0_moveOn_48 : decode cX0_moveOn 48 = .ok (.iadd, 1) := by decide +kernel
theorem dX0_moveOn_49 : decode cX0_moveOn 49 = .ok (.putfield 144, 3) := by decide +kernel
theorem dX0_moveOn_52 : decode cX0_moveOn 52 = .ok (.return_, 1) := by decide +kernel
theorem dX0_end_0 : decode cX0_end 0 = .ok (.aload_n 0, 1) := by decide +kernel
theorem dX0_end_1 : decode cX0_end 1 = .ok (.getfield 12, 3) := by decide +kernel
theorem dX0_end_4 : decode cX0_end 4 = .ok (.getfield 79, 3) := by decide +kernel
theorem dX0_end_7 : decode cX0_end 7 = .ok (.aload_n 1, 1) := by decide +kernel
theorem dX0_end_8 : decode cX0_end 8 = .ok (.getfield 116, 3) := by decide +kernel
theorem dX0_end_11 : decode cX0_end 11 = .ok (.aaload, 1) := by decide +kernel
theorem dX0_end_12 : decode cX0_end 12 = .ok (.iconst 0, 1) := by decide +kernel
theorem dX0_end_13 : decode cX0_end 13 = .ok (.invokevirtual 83, 3) := by decide +kernel
theorem dX0_end_16 : decode cX0_end 16 = .ok (.aload_n 0, 1) := by decide +kernel
theorem dX0_end_17 : decode cX0_end 17 = .ok (.getfield 12, 3) := by decide +kernel
theorem dX0_end_20 : decode cX0_end 20 = .ok (.getfield 79, 3) := by decide +kernel
theorem dX0_end_23 : decode cX0_end 23 = .ok (.aload_n 1, 1) := by decide +kernel
theorem dX0_end_24 : decode cX0_end 24 = .ok (.getfield 119, 3) := by decide +kernel
theorem dX0_end_27 : decode cX0_end 27 = .ok (.aaload, 1) := by decide +kernel
theorem dX0_end_28 : decode cX0_end 28 = .ok (.iconst 0, 1) := by decide +kernel
theorem dX0_end_29 : decode cX0_end 29 = .ok (.invokevirtual 83, 3) := by decide +kernel
theorem dX0_end_32 : decode cX0_end 32 = .ok (.aload_n 0, 1) := by decide +kernel
theorem dX0_end_33 : decode cX0_end 33 = .ok (.getfield 12, 3) := by decide +kernel
theorem dX0_end_36 : decode cX0_end 36 = .ok (.getfield 79, 3) := by decide +kernel
theorem dX0_end_39 : decode cX0_end 39 = .ok (.aload_n 1, 1) := by decide +kernel
theorem dX0_end_40 : decode cX0_end 40 = .ok (.getfield 141, 3) := by decide +kernel
theorem dX0_end_43 : decode cX0_end 43 = .ok (.aaload, 1) := by decide +kernel
theorem dX0_end_44 : decode cX0_end 44 = .ok (.astore_n 2, 1) := by decide +kernel
theorem dX0_end_45 : decode cX0_end 45 = .ok (.aload_n 2, 1) := by decide +kernel
theorem dX0_end_46 : decode cX0_end 46 = .ok (.getfield 147, 3) := by decide +kernel
theorem dX0_end_49 : decode cX0_end 49 = .ok (.ifCond .ne 11, 3) := by decide +kernel
theorem dX0_end_52 : decode cX0_end 52 = .ok (.aload_n 2, 1) := by decide +kernel
theorem dX0_end_53 : decode cX0_end 53 = .ok (.iconst 0, 1) := by decide +kernel
theorem dX0_end_54 : decode cX0_end 54 = .ok (.invokevirtual 83, 3) := by decide +kernel
theorem dX0_end_57 : decode cX0_end 57 = .ok (.goto 8, 3) := by decide +kernel
theorem dX0_end_60 : decode cX0_end 60 = .ok (.aload_n 0, 1) := by decide +kernel
theorem dX0_end_61 : decode cX0_end 61 = .ok (.aload_n 2, 1) := by decide +kernel
theorem dX0_end_62 : decode cX0_end 62 = .ok (.invokevirtual 92, 3) := by decide +kernel
theorem dX0_end_65 : decode cX0_end 65 = .ok (.aload_n 1, 1) := by decide +kernel
theorem dX0_end_66 : decode cX0_end 66 = .ok (.iconst 0, 1) := by decide +kernel
theorem dX0_end_67 : decode cX0_end 67 = .ok (.putfield 102, 3) := by decide +kernel
theorem dX0_end_70 : decode cX0_end 70 = .ok (.aload_n 1, 1) := by decide +kernel
theorem dX0_end_71 : decode cX0_end 71 = .ok (.dup, 1) := by decide +kernel
theorem dX0_end_72 : decode cX0_end 72 = .ok (.getfield 150, 3) := by decide +kernel
theorem dX0_end_75 : decode cX0_end 75 = .ok (.iconst 1, 1) := by decide +kernel
theorem dX0_end_76 : decode cX0_end 76 = .ok (.iadd, 1) := by decide +kernel
theorem dX0_end_77 : decode cX0_end 77 = .ok (.putfield 150, 3) := by decide +kernel
theorem dX0_end_80 : decode cX0_end 80 = .ok (.return_, 1) := by decide +kernel
theorem dX0_askLevels_0 : decode cX0_askLevels 0 = .ok (.bipush 8, 2) := by decide +kernel
theorem dX0_askLevels_2 : decode cX0_askLevels 2 = .ok (.istore_n 1, 1) := by decide +kernel
theorem dX0_askLevels_3 : decode cX0_askLevels 3 = .ok (.iload_n 1, 1) := by decide +kernel
theorem dX0_askLevels_4 : decode cX0_askLevels 4 = .ok (.ifCond .lt 60, 3) := by decide +kernel
theorem dX0_askLevels_7 : decode cX0_askLevels 7 = .ok (.aload_n 0, 1) := by decide +kernel
theorem dX0_askLevels_8 : decode cX0_askLevels 8 = .ok (.getfield 12, 3) := by decide +kernel
theorem dX0_askLevels_11 : decode cX0_askLevels 11 = .ok (.iload_n 1, 1) := by decide +kernel
theorem dX0_askLevels_12 : decode cX0_askLevels 12 = .ok (.iconst 1, 1) := by decide +kernel
theorem dX0_askLevels_13 : decode cX0_askLevels 13 = .ok (.iadd, 1) := by decide +kernel
theorem dX0_askLevels_14 : decode cX0_askLevels 14 = .ok (.bipush 8, 2) := by decide +kernel
theorem dX0_askLevels_16 : decode cX0_askLevels 16 = .ok (.invokestatic 153, 3) := by decide +kernel
theorem dX0_askLevels_19 : decode cX0_askLevels 19 = .ok (.invokevirtual 72, 3) := by decide +kernel
theorem dX0_askLevels_22 : decode cX0_askLevels 22 = .ok (.istore_n 2, 1) := by decide +kernel
theorem dX0_askLevels_23 : decode cX0_askLevels 23 = .ok (.aload_n 0, 1) := by decide +kernel
theorem dX0_askLevels_24 : decode cX0_askLevels 24 = .ok (.getfield 20, 3) := by decide +kernel
theorem dX0_askLevels_27 : decode cX0_askLevels 27 = .ok (.iload_n 1, 1) := by decide +kernel
theorem dX0_askLevels_28 : decode cX0_askLevels 28 = .ok (.aaload, 1) := by decide +kernel
theorem dX0_askLevels_29 : decode cX0_askLevels 29 = .ok (.getfield 102, 3) := by decide +kernel
theorem dX0_askLevels_32 : decode cX0_askLevels 32 = .ok (.ifCond .ne 26, 3) := by decide +kernel
theorem dX0_askLevels_35 : decode cX0_askLevels 35 = .ok (.iload_n 2, 1) := by decide +kernel
theorem dX0_askLevels_36 : decode cX0_askLevels 36 = .ok (.iconst (-1), 1) := by decide +kernel
theorem dX0_askLevels_37 : decode cX0_askLevels 37 = .ok (.if_icmp .eq 21, 3) := by decide +kernel
theorem dX0_askLevels_40 : decode cX0_askLevels 40 = .ok (.aload_n 0, 1) := by decide +kernel
theorem dX0_askLevels_41 : decode cX0_askLevels 41 = .ok (.getfield 12, 3) := by decide +kernel
theorem dX0_askLevels_44 : decode cX0_askLevels 44 = .ok (.iload_n 1, 1) := by decide +kernel
theorem dX0_askLevels_45 : decode cX0_askLevels 45 = .ok (.invokevirtual 156, 3) := by decide +kernel
theorem dX0_askLevels_48 : decode cX0_askLevels 48 = .ok (.iconst 2, 1) := by decide +kernel
theorem dX0_askLevels_49 : decode cX0_askLevels 49 = .ok (.if_icmp .ne 9, 3) := by decide +kernel
theorem dX0_askLevels_52 : decode cX0_askLevels 52 = .ok (.aload_n 0, 1) := by decide +kernel
theorem dX0_askLevels_53 : decode cX0_askLevels 53 = .ok (.iload_n 1, 1) := by decide +kernel
theorem dX0_askLevels_54 : decode cX0_askLevels 54 = .ok (.iload_n 2, 1) := by decide +kernel
theorem dX0_askLevels_55 : decode cX0_askLevels 55 = .ok (.invokevirtual 159, 3) := by decide +kernel
theorem dX0_askLevels_58 : decode cX0_askLevels 58 = .ok (.iinc 1 (-1), 3) := by decide +kernel
theorem dX0_askLevels_61 : decode cX0_askLevels 61 = .ok (.goto (-58), 3) := by decide +kernel
theorem dX0_askLevels_64 : decode cX0_askLevels 64 = .ok (.return_, 1) := by decide +kernel
theorem dX0_begin_0 : decode cX0_begin 0 = .ok (.aload_n 0, 1) := by decide +kernel
theorem dX0_begin_1 : decode cX0_begin 1 = .ok (.getfield 20, 3) := by decide +kernel
theorem dX0_begin_4 : decode cX0_begin 4 = .ok (.iload_n 1, 1) := by decide +kernel
theorem dX0_begin_5 : decode cX0_begin 5 = .ok (.aaload, 1) := by decide +kernel
theorem dX0_begin_6 : decode cX0_begin 6 = .ok (.astore_n 3, 1) := by decide +kernel
theorem dX0_begin_7 : decode cX0_begin 7 = .ok (.aload_n 3, 1) := by decide +kernel
theorem dX0_begin_8 : decode cX0_begin 8 = .ok (.iconst 1, 1) := by decide +kernel
theorem dX0_begin_9 : decode cX0_begin 9 = .ok (.putfield 102, 3) := by decide +kernel
theorem dX0_begin_12 : decode cX0_begin 12 = .ok (.aload_n 3, 1) := by decide +kernel
theorem dX0_begin_13 : decode cX0_begin 13 = .ok (.aload_n 0, 1) := by decide +kernel
theorem dX0_begin_14 : decode cX0_begin 14 = .ok (.getfield 12, 3) := by decide +kernel
theorem dX0_begin_17 : decode cX0_begin 17 = .ok (.iload_n 1, 1) := by decide +kernel
theorem dX0_begin_18 : decode cX0_begin 18 = .ok (.invokevirtual 162, 3) := by decide +kernel
theorem dX0_begin_21 : decode cX0_begin 21 = .ok (.putfield 138, 3) := by decide +kernel
theorem dX0_begin_24 : decode cX0_begin 24 = .ok (.aload_n 3, 1) := by decide +kernel
theorem dX0_begin_25 : decode cX0_begin 25 = .ok (.aload_n 0, 1) := by decide +kernel
theorem dX0_begin_26 : decode cX0_begin 26 = .ok (.getfield 12, 3) := by decide +kernel
theorem dX0_begin_29 : decode cX0_begin 29 = .ok (.iload_n 1, 1) := by decide +kernel
theorem dX0_begin_30 : decode cX0_begin 30 = .ok (.iconst (-1), 1) := by decide +kernel
theorem dX0_begin_31 : decode cX0_begin 31 = .ok (.invokevirtual 166, 3) := by decide +kernel
theorem dX0_begin_34 : decode cX0_begin 34 = .ok (.putfield 116, 3) := by decide +kernel
theorem dX0_begin_37 : decode cX0_begin 37 = .ok (.aload_n 3, 1) := by decide +kernel
theorem dX0_begin_38 : decode cX0_begin 38 = .ok (.aload_n 0, 1) := by decide +kernel
theorem dX0_begin_39 : decode cX0_begin 39 = .ok (.getfield 12, 3) := by decide +kernel
theorem dX0_begin_42 : decode cX0_begin 42 = .ok (.iload_n 1, 1) := by decide +kernel
theorem dX0_begin_43 : decode cX0_begin 43 = .ok (.aload_n 3, 1) := by decide +kernel
theorem dX0_begin_44 : decode cX0_begin 44 = .ok (.getfield 116, 3) := by decide +kernel
theorem dX0_begin_47 : decode cX0_begin 47 = .ok (.invokevirtual 166, 3) := by decide +kernel
theorem dX0_begin_50 : decode cX0_begin 50 = .ok (.putfield 119, 3) := by decide +kernel
theorem dX0_begin_53 : decode cX0_begin 53 = .ok (.aload_n 3, 1) := by decide +kernel
theorem dX0_begin_54 : decode cX0_begin 54 = .ok (.iload_n 2, 1) := by decide +kernel
theorem dX0_begin_55 : decode cX0_begin 55 = .ok (.putfield 141, 3) := by decide +kernel
theorem dX0_begin_58 : decode cX0_begin 58 = .ok (.aload_n 3, 1) := by decide +kernel
theorem dX0_begin_59 : decode cX0_begin 59 = .ok (.iconst 0, 1) := by decide +kernel
theorem dX0_begin_60 : decode cX0_begin 60 = .ok (.putfield 122, 3) := by decide +kernel
theorem dX0_begin_63 : decode cX0_begin 63 = .ok (.aload_n 3, 1) := by decide +kernel
theorem dX0_begin_64 : decode cX0_begin 64 = .ok (.iconst 0, 1) := by decide +kernel
theorem dX0_begin_65 : decode cX0_begin 65 = .ok (.putfield 128, 3) := by decide +kernel
theorem dX0_begin_68 : decode cX0_begin 68 = .ok (.aload_n 0, 1) := by decide +kernel
theorem dX0_begin_69 : decode cX0_begin 69 = .ok (.getfield 12, 3) := by decide +kernel
theorem dX0_begin_72 : decode cX0_begin 72 = .ok (.getfield 79, 3) := by decide +kernel
theorem dX0_begin_75 : decode cX0_begin 75 = .ok (.iload_n 2, 1) := by decide +kernel
theorem dX0_begin_76 : decode cX0_begin 76 = .ok (.aaload, 1) := by decide +kernel
theorem dX0_begin_77 : decode cX0_begin 77 = .ok (.iconst 1, 1) := by decide +kernel
theorem dX0_begin_78 : decode cX0_begin 78 = .ok (.invokevirtual 83, 3) := by decide +kernel
theorem dX0_begin_81 : decode cX0_begin 81 = .ok (.return_, 1) := by decide +kernel
theorem dX0_leftOf_0 : decode cX0_leftOf 0 = .ok (.aload_n 0, 1) := by decide +kernel
theorem dX0_leftOf_1 : decode cX0_leftOf 1 = .ok (.getfield 20, 3) := by decide +kernel
theorem dX0_leftOf_4 : decode cX0_leftOf 4 = .ok (.iload_n 1, 1) := by decide +kernel
theorem dX0_leftOf_5 : decode cX0_leftOf 5 = .ok (.aaload, 1) := by decide +kernel
theorem dX0_leftOf_6 : decode cX0_leftOf 6 = .ok (.astore_n 2, 1) := by decide +kernel
theorem dX0_leftOf_7 : decode cX0_leftOf 7 = .ok (.aload_n 2, 1) := by decide +kernel
theorem dX0_leftOf_8 : decode cX0_leftOf 8 = .ok (.getfield 102, 3) := by decide +kernel
theorem dX0_leftOf_11 : decode cX0_leftOf 11 = .ok (.ifCond .ne 5, 3) := by decide +kernel
theorem dX0_leftOf_14 : decode cX0_leftOf 14 = .ok (.iconst 0, 1) := by decide +kernel
theorem dX0_leftOf_15 : decode cX0_leftOf 15 = .ok (.ireturn, 1) := by decide +kernel
theorem dX0_leftOf_16 : decode cX0_leftOf 16 = .ok (.aload_n 0, 1) := by decide +kernel
theorem dX0_leftOf_17 : decode cX0_leftOf 17 = .ok (.getfield 12, 3) := by decide +kernel
theorem dX0_leftOf_20 : decode cX0_leftOf 20 = .ok (.getfield 79, 3) := by decide +kernel
theorem dX0_leftOf_23 : decode cX0_leftOf 23 = .ok (.aload_n 2, 1) := by decide +kernel
theorem dX0_leftOf_24 : decode cX0_leftOf 24 = .ok (.getfield 116, 3) := by decide +kernel
theorem dX0_leftOf_27 : decode cX0_leftOf 27 = .ok (.aaload, 1) := by decide +kernel
theorem dX0_leftOf_28 : decode cX0_leftOf 28 = .ok (.getfield 147, 3) := by decide +kernel
theorem dX0_leftOf_31 : decode cX0_leftOf 31 = .ok (.aload_n 2, 1) := by decide +kernel
theorem dX0_leftOf_32 : decode cX0_leftOf 32 = .ok (.getfield 122, 3) := by decide +kernel
theorem dX0_leftOf_35 : decode cX0_leftOf 35 = .ok (.isub, 1) := by decide +kernel
theorem dX0_leftOf_36 : decode cX0_leftOf 36 = .ok (.aload_n 0, 1) := by decide +kernel
theorem dX0_leftOf_37 : decode cX0_leftOf 37 = .ok (.getfield 12, 3) := by decide +kernel
theorem dX0_leftOf_40 : decode cX0_leftOf 40 = .ok (.getfield 79, 3) := by decide +kernel
theorem dX0_leftOf_43 : decode cX0_leftOf 43 = .ok (.aload_n 2, 1) := by decide +kernel
theorem dX0_leftOf_44 : decode cX0_leftOf 44 = .ok (.getfield 119, 3) := by decide +kernel
theorem dX0_leftOf_47 : decode cX0_leftOf 47 = .ok (.aaload, 1) := by decide +kernel
theorem dX0_leftOf_48 : decode cX0_leftOf 48 = .ok (.getfield 147, 3) := by decide +kernel
theorem dX0_leftOf_51 : decode cX0_leftOf 51 = .ok (.iadd, 1) := by decide +kernel
theorem dX0_leftOf_52 : decode cX0_leftOf 52 = .ok (.aload_n 2, 1) := by decide +kernel
theorem dX0_leftOf_53 : decode cX0_leftOf 53 = .ok (.getfield 128, 3) := by decide +kernel
theorem dX0_leftOf_56 : decode cX0_leftOf 56 = .ok (.isub, 1) := by decide +kernel
theorem dX0_leftOf_57 : decode cX0_leftOf 57 = .ok (.ireturn, 1) := by decide +kernel
theorem dX0_merging_0 : decode cX0_merging 0 = .ok (.iconst 0, 1) := by decide +kernel
theorem dX0_merging_1 : decode cX0_merging 1 = .ok (.istore_n 1, 1) := by decide +kernel
theorem dX0_merging_2 : decode cX0_merging 2 = .ok (.iconst 0, 1) := by decide +kernel
theorem dX0_merging_3 : decode cX0_merging 3 = .ok (.istore_n 2, 1) := by decide +kernel
theorem dX0_merging_4 : decode cX0_merging 4 = .ok (.iload_n 2, 1) := by decide +kernel
theorem dX0_merging_5 : decode cX0_merging 5 = .ok (.bipush 9, 2) := by decide +kernel
theorem dX0_merging_7 : decode cX0_merging 7 = .ok (.if_icmp .ge 29, 3) := by decide +kernel
theorem dX0_merging_10 : decode cX0_merging 10 = .ok (.iload_n 1, 1) := by decide +kernel
theorem dX0_merging_11 : decode cX0_merging 11 = .ok (.aload_n 0, 1) := by decide +kernel
theorem dX0_merging_12 : decode cX0_merging 12 = .ok (.getfield 20, 3) := by decide +kernel
theorem dX0_merging_15 : decode cX0_merging 15 = .ok (.iload_n 2, 1) := by decide +kernel
theorem dX0_merging_16 : decode cX0_merging 16 = .ok (.aaload, 1) := by decide +kernel
theorem dX0_merging_17 : decode cX0_merging 17 = .ok (.getfield 102, 3) := by decide +kernel
theorem dX0_merging_20 : decode cX0_merging 20 = .ok (.ifCond .eq 7, 3) := by decide +kernel
theorem dX0_merging_23 : decode cX0_merging 23 = .ok (.iconst 1, 1) := by decide +kernel
theorem dX0_merging_24 : decode cX0_merging 24 = .ok (.goto 4, 3) := by decide +kernel
theorem dX0_merging_27 : decode cX0_merging 27 = .ok (.iconst 0, 1) := by decide +kernel
theorem dX0_merging_28 : decode cX0_merging 28 = .ok (.iadd, 1) := by decide +kernel
theorem dX0_merging_29 : decode cX0_merging 29 = .ok (.istore_n 1, 1) := by decide +kernel
theorem dX0_merging_30 : decode cX0_merging 30 = .ok (.iinc 2 1, 3) := by decide +kernel
theorem dX0_merging_33 : decode cX0_merging 33 = .ok (.goto (-29), 3) := by decide +kernel
theorem dX0_merging_36 : decode cX0_merging 36 = .ok (.iload_n 1, 1) := by decide +kernel
theorem dX0_merging_37 : decode cX0_merging 37 = .ok (.ireturn, 1) := by decide +kernel
theorem dX0_freeAll_0 : decode cX0_freeAll 0 = .ok (.aload_n 0, 1) := by decide +kernel
theorem dX0_freeAll_1 : decode cX0_freeAll 1 = .ok (.getfield 12, 3) := by decide +kernel
theorem dX0_freeAll_4 : decode cX0_freeAll 4 = .ok (.invokevirtual 169, 3) := by decide +kernel
theorem dX0_freeAll_7 : decode cX0_freeAll 7 = .ok (.iconst 0, 1) := by decide +kernel
theorem dX0_freeAll_8 : decode cX0_freeAll 8 = .ok (.istore_n 1, 1) := by decide +kernel
theorem dX0_freeAll_9 : decode cX0_freeAll 9 = .ok (.iload_n 1, 1) := by decide +kernel
theorem dX0_freeAll_10 : decode cX0_freeAll 10 = .ok (.bipush 9, 2) := by decide +kernel
theorem dX0_freeAll_12 : decode cX0_freeAll 12 = .ok (.if_icmp .ge 19, 3) := by decide +kernel
theorem dX0_freeAll_15 : decode cX0_freeAll 15 = .ok (.aload_n 0, 1) := by decide +kernel
theorem dX0_freeAll_16 : decode cX0_freeAll 16 = .ok (.getfield 20, 3) := by decide +kernel
theorem dX0_freeAll_19 : decode cX0_freeAll 19 = .ok (.iload_n 1, 1) := by decide +kernel
theorem dX0_freeAll_20 : decode cX0_freeAll 20 = .ok (.aaload, 1) := by decide +kernel
theorem dX0_freeAll_21 : decode cX0_freeAll 21 = .ok (.iconst 0, 1) := by decide +kernel
theorem dX0_freeAll_22 : decode cX0_freeAll 22 = .ok (.putfield 102, 3) := by decide +kernel
theorem dX0_freeAll_25 : decode cX0_freeAll 25 = .ok (.iinc 1 1, 3) := by decide +kernel
theorem dX0_freeAll_28 : decode cX0_freeAll 28 = .ok (.goto (-19), 3) := by decide +kernel
theorem dX0_freeAll_31 : decode cX0_freeAll 31 = .ok (.return_, 1) := by decide +kernel
theorem dX0_copyFrom_0 : decode cX0_copyFrom 0 = .ok (.aload_n 0, 1) := by decide +kernel
theorem dX0_copyFrom_1 : decode cX0_copyFrom 1 = .ok (.getfield 12, 3) := by decide +kernel
theorem dX0_copyFrom_4 : decode cX0_copyFrom 4 = .ok (.aload_n 1, 1) := by decide +kernel
theorem dX0_copyFrom_5 : decode cX0_copyFrom 5 = .ok (.getfield 12, 3) := by decide +kernel
theorem dX0_copyFrom_8 : decode cX0_copyFrom 8 = .ok (.invokevirtual 172, 3) := by decide +kernel
theorem dX0_copyFrom_11 : decode cX0_copyFrom 11 = .ok (.iconst 0, 1) := by decide +kernel
theorem dX0_copyFrom_12 : decode cX0_copyFrom 12 = .ok (.istore_n 2, 1) := by decide +kernel
theorem dX0_copyFrom_13 : decode cX0_copyFrom 13 = .ok (.iload_n 2, 1) := by decide +kernel
theorem dX0_copyFrom_14 : decode cX0_copyFrom 14 = .ok (.bipush 9, 2) := by decide +kernel
theorem dX0_copyFrom_16 : decode cX0_copyFrom 16 = .ok (.if_icmp .ge 24, 3) := by decide +kernel
theorem dX0_copyFrom_19 : decode cX0_copyFrom 19 = .ok (.aload_n 0, 1) := by decide +kernel
theorem dX0_copyFrom_20 : decode cX0_copyFrom 20 = .ok (.getfield 20, 3) := by decide +kernel
theorem dX0_copyFrom_23 : decode cX0_copyFrom 23 = .ok (.iload_n 2, 1) := by decide +kernel
theorem dX0_copyFrom_24 : decode cX0_copyFrom 24 = .ok (.aaload, 1) := by decide +kernel
theorem dX0_copyFrom_25 : decode cX0_copyFrom 25 = .ok (.aload_n 1, 1) := by decide +kernel
theorem dX0_copyFrom_26 : decode cX0_copyFrom 26 = .ok (.getfield 20, 3) := by decide +kernel
theorem dX0_copyFrom_29 : decode cX0_copyFrom 29 = .ok (.iload_n 2, 1) := by decide +kernel
theorem dX0_copyFrom_30 : decode cX0_copyFrom 30 = .ok (.aaload, 1) := by decide +kernel
theorem dX0_copyFrom_31 : decode cX0_copyFrom 31 = .ok (.invokevirtual 176, 3) := by decide +kernel
theorem dX0_copyFrom_34 : decode cX0_copyFrom 34 = .ok (.iinc 2 1, 3) := by decide +kernel
theorem dX0_copyFrom_37 : decode cX0_copyFrom 37 = .ok (.goto (-24), 3) := by decide +kernel
theorem dX0_copyFrom_40 : decode cX0_copyFrom 40 = .ok (.aload_n 0, 1) := by decide +kernel
theorem dX0_copyFrom_41 : decode cX0_copyFrom 41 = .ok (.aload_n 1, 1) := by decide +kernel
theorem dX0_copyFrom_42 : decode cX0_copyFrom 42 = .ok (.getfield 24, 3) := by decide +kernel
theorem dX0_copyFrom_45 : decode cX0_copyFrom 45 = .ok (.putfield 24, 3) := by decide +kernel
theorem dX0_copyFrom_48 : decode cX0_copyFrom 48 = .ok (.aload_n 0, 1) := by decide +kernel
theorem dX0_copyFrom_49 : decode cX0_copyFrom 49 = .ok (.aload_n 1, 1) := by decide +kernel
theorem dX0_copyFrom_50 : decode cX0_copyFrom 50 = .ok (.getfield 28, 3) := by decide +kernel
theorem dX0_copyFrom_53 : decode cX0_copyFrom 53 = .ok (.putfield 28, 3) := by decide +kernel
theorem dX0_copyFrom_56 : decode cX0_copyFrom 56 = .ok (.aload_n 0, 1) := by decide +kernel
theorem dX0_copyFrom_57 : decode cX0_copyFrom 57 = .ok (.aload_n 1, 1) := by decide +kernel
theorem dX0_copyFrom_58 : decode cX0_copyFrom 58 = .ok (.getfield 31, 3) := by decide +kernel
theorem dX0_copyFrom_61 : decode cX0_copyFrom 61 = .ok (.putfield 31, 3) := by decide +kernel
theorem dX0_copyFrom_64 : decode cX0_copyFrom 64 = .ok (.aload_n 0, 1) := by decide +kernel
theorem dX0_copyFrom_65 : decode cX0_copyFrom 65 = .ok (.aload_n 1, 1) := by decide +kernel
theorem dX0_copyFrom_66 : decode cX0_copyFrom 66 = .ok (.getfield 34, 3) := by decide +kernel
theorem dX0_copyFrom_69 : decode cX0_copyFrom 69 = .ok (.putfield 34, 3) := by decide +kernel
theorem dX0_copyFrom_72 : decode cX0_copyFrom 72 = .ok (.aload_n 0, 1) := by decide +kernel
theorem dX0_copyFrom_73 : decode cX0_copyFrom 73 = .ok (.aload_n 1, 1) := by decide +kernel
theorem dX0_copyFrom_74 : decode cX0_copyFrom 74 = .ok (.getfield 37, 3) := by decide +kernel
theorem dX0_copyFrom_77 : decode cX0_copyFrom 77 = .ok (.putfield 37, 3) := by decide +kernel
theorem dX0_copyFrom_80 : decode cX0_copyFrom 80 = .ok (.aload_n 0, 1) := by decide +kernel
theorem dX0_copyFrom_81 : decode cX0_copyFrom 81 = .ok (.aload_n 1, 1) := by decide +kernel
theorem dX0_copyFrom_82 : decode cX0_copyFrom 82 = .ok (.getfield 40, 3) := by decide +kernel
theorem dX0_copyFrom_85 : decode cX0_copyFrom 85 = .ok (.putfield 40, 3) := by decide +kernel
theorem dX0_copyFrom_88 : decode cX0_copyFrom 88 = .ok (.aload_n 0, 1) := by decide +kernel
theorem dX0_copyFrom_89 : decode cX0_copyFrom 89 = .ok (.aload_n 1, 1) := by decide +kernel
theorem dX0_copyFrom_90 : decode cX0_copyFrom 90 = .ok (.getfield 43, 3) := by decide +kernel
theorem dX0_copyFrom_93 : decode cX0_copyFrom 93 = .ok (.putfield 43, 3) := by decide +kernel
theorem dX0_copyFrom_96 : decode cX0_copyFrom 96 = .ok (.aload_n 0, 1) := by decide +kernel
theorem dX0_copyFrom_97 : decode cX0_copyFrom 97 = .ok (.aload_n 1, 1) := by decide +kernel
theorem dX0_copyFrom_98 : decode cX0_copyFrom 98 = .ok (.getfield 46, 3) := by decide +kernel
theorem dX0_copyFrom_101 : decode cX0_copyFrom 101 = .ok (.putfield 46, 3) := by decide +kernel
theorem dX0_copyFrom_104 : decode cX0_copyFrom 104 = .ok (.return_, 1) := by decide +kernel
theorem dX1_init_0 : decode cX1_init 0 = .ok (.aload_n 0, 1) := by decide +kernel
theorem dX1_init_1 : decode cX1_init 1 = .ok (.invokespecial 3, 3) := by decide +kernel
theorem dX1_init_4 : decode cX1_init 4 = .ok (.aload_n 0, 1) := by decide +kernel
theorem dX1_init_5 : decode cX1_init 5 = .ok (.iconst 0, 1) := by decide +kernel
theorem dX1_init_6 : decode cX1_init 6 = .ok (.putfield 9, 3) := by decide +kernel
theorem dX1_init_9 : decode cX1_init 9 = .ok (.aload_n 0, 1) := by decide +kernel
theorem dX1_init_10 : decode cX1_init 10 = .ok (.iconst 0, 1) := by decide +kernel
theorem dX1_init_11 : decode cX1_init 11 = .ok (.putfield 15, 3) := by decide +kernel
theorem dX1_init_14 : decode cX1_init 14 = .ok (.aload_n 0, 1) := by decide +kernel
theorem dX1_init_15 : decode cX1_init 15 = .ok (.iload_n 1, 1) := by decide +kernel
theorem dX1_init_16 : decode cX1_init 16 = .ok (.iconst 0, 1) := by decide +kernel
theorem dX1_init_17 : decode cX1_init 17 = .ok (.invokestatic 18, 3) := by decide +kernel
theorem dX1_init_20 : decode cX1_init 20 = .ok (.newarray .int, 2) := by decide +kernel
theorem dX1_init_22 : decode cX1_init 22 = .ok (.putfield 24, 3) := by decide +kernel
theorem dX1_init_25 : decode cX1_init 25 = .ok (.aload_n 0, 1) := by decide +kernel
theorem dX1_init_26 : decode cX1_init 26 = .ok (.iload_n 1, 1) := by decide +kernel
theorem dX1_init_27 : decode cX1_init 27 = .ok (.iconst 0, 1) := by decide +kernel
theorem dX1_init_28 : decode cX1_init 28 = .ok (.invokestatic 18, 3) := by decide +kernel
theorem dX1_init_31 : decode cX1_init 31 = .ok (.newarray .int, 2) := by decide +kernel
theorem dX1_init_33 : decode cX1_init 33 = .ok (.putfield 28, 3) := by decide +kernel
theorem dX1_init_36 : decode cX1_init 36 = .ok (.aload_n 0, 1) := by decide +kernel
theorem dX1_init_37 : decode cX1_init 37 = .ok (.iload_n 1, 1) := by decide +kernel
theorem dX1_init_38 : decode cX1_init 38 = .ok (.iconst 0, 1) := by decide +kernel
theorem dX1_init_39 : decode cX1_init 39 = .ok (.invokestatic 18, 3) := by decide +kernel
theorem dX1_init_42 : decode cX1_init 42 = .ok (.newarray .int, 2) := by decide +kernel
theorem dX1_init_44 : decode cX1_init 44 = .ok (.putfield 31, 3) := by decide +kernel
theorem dX1_init_47 : decode cX1_init 47 = .ok (.return_, 1) := by decide +kernel
theorem dX1_clear_0 : decode cX1_clear 0 = .ok (.aload_n 0, 1) := by decide +kernel
theorem dX1_clear_1 : decode cX1_clear 1 = .ok (.iconst 0, 1) := by decide +kernel
theorem dX1_clear_2 : decode cX1_clear 2 = .ok (.putfield 9, 3) := by decide +kernel
theorem dX1_clear_5 : decode cX1_clear 5 = .ok (.aload_n 0, 1) := by decide +kernel
theorem dX1_clear_6 : decode cX1_clear 6 = .ok (.iconst 0, 1) := by decide +kernel
theorem dX1_clear_7 : decode cX1_clear 7 = .ok (.putfield 15, 3) := by decide +kernel
theorem dX1_clear_10 : decode cX1_clear 10 = .ok (.return_, 1) := by decide +kernel
theorem dX1_append_0 : decode cX1_append 0 = .ok (.aload_n 0, 1) := by decide +kernel
theorem dX1_append_1 : decode cX1_append 1 = .ok (.getfield 9, 3) := by decide +kernel
theorem dX1_append_4 : decode cX1_append 4 = .ok (.aload_n 0, 1) := by decide +kernel
theorem dX1_append_5 : decode cX1_append 5 = .ok (.getfield 24, 3) := by decide +kernel
theorem dX1_append_8 : decode cX1_append 8 = .ok (.arraylength, 1) := by decide +kernel
theorem dX1_append_9 : decode cX1_append 9 = .ok (.if_icmp .ge 62, 3) := by decide +kernel
theorem dX1_append_12 : decode cX1_append 12 = .ok (.aload_n 0, 1) := by decide +kernel
theorem dX1_append_13 : decode cX1_append 13 = .ok (.getfield 24, 3) := by decide +kernel
theorem dX1_append_16 : decode cX1_append 16 = .ok (.aload_n 0, 1) := by decide +kernel
theorem dX1_append_17 : decode cX1_append 17 = .ok (.getfield 9, 3) := by decide +kernel
theorem dX1_append_20 : decode cX1_append 20 = .ok (.iload_n 1, 1) := by decide +kernel
theorem dX1_append_21 : decode cX1_append 21 = .ok (.iastore, 1) := by decide +kernel
theorem dX1_append_22 : decode cX1_append 22 = .ok (.aload_n 0, 1) := by decide +kernel
theorem dX1_append_23 : decode cX1_append 23 = .ok (.getfield 28, 3) := by decide +kernel
theorem dX1_append_26 : decode cX1_append 26 = .ok (.aload_n 0, 1) := by decide +kernel
theorem dX1_append_27 : decode cX1_append 27 = .ok (.getfield 9, 3) := by decide +kernel
theorem dX1_append_30 : decode cX1_append 30 = .ok (.iload_n 2, 1) := by decide +kernel
theorem dX1_append_31 : decode cX1_append 31 = .ok (.iastore, 1) := by decide +kernel
theorem dX1_append_32 : decode cX1_append 32 = .ok (.aload_n 0, 1) := by decide +kernel
theorem dX1_append_33 : decode cX1_append 33 = .ok (.getfield 31, 3) := by decide +kernel
theorem dX1_append_36 : decode cX1_append 36 = .ok (.aload_n 0, 1) := by decide +kernel
theorem dX1_append_37 : decode cX1_append 37 = .ok (.getfield 9, 3) := by decide +kernel
theorem dX1_append_40 : decode cX1_append 40 = .ok (.iload_n 3, 1) := by decide +kernel
theorem dX1_append_41 : decode cX1_append 41 = .ok (.iastore, 1) := by decide +kernel
theorem dX1_append_42 : decode cX1_append 42 = .ok (.aload_n 0, 1) := by decide +kernel
theorem dX1_append_43 : decode cX1_append 43 = .ok (.dup, 1) := by decide +kernel
theorem dX1_append_44 : decode cX1_append 44 = .ok (.getfield 9, 3) := by decide +kernel
theorem dX1_append_47 : decode cX1_append 47 = .ok (.iconst 1, 1) := by decide +kernel
theorem dX1_append_48 : decode cX1_append 48 = .ok (.iadd, 1) := by decide +kernel
theorem dX1_append_49 : decode cX1_append 49 = .ok (.putfield 9, 3) := by decide +kernel
theorem dX1_append_52 : decode cX1_append 52 = .ok (.aload_n 0, 1) := by decide +kernel
theorem dX1_append_53 : decode cX1_append 53 = .ok (.dup, 1) := by decide +kernel
theorem dX1_append_54 : decode cX1_append 54 = .ok (.getfield 15, 3) := by decide +kernel
theorem dX1_append_57 : decode cX1_append 57 = .ok (.iload_n 3, 1) := by decide +kernel
theorem dX1_append_58 : decode cX1_append 58 = .ok (.iconst (-1), 1) := by decide +kernel
theorem dX1_append_59 : decode cX1_append 59 = .ok (.if_icmp .ne 7, 3) := by decide +kernel
theorem dX1_append_62 : decode cX1_append 62 = .ok (.iconst 0, 1) := by decide +kernel
theorem dX1_append_63 : decode cX1_append 63 = .ok (.goto 4, 3) := by decide +kernel
theorem dX1_append_66 : decode cX1_append 66 = .ok (.iconst 1, 1) := by decide +kernel
theorem dX1_append_67 : decode cX1_append 67 = .ok (.iadd, 1) := by decide +kernel
theorem dX1_append_68 : decode cX1_append 68 = .ok (.putfield 15, 3) := by decide +kernel
theorem dX1_append_71 : decode cX1_append 71 = .ok (.return_, 1) := by decide +kernel
theorem dX1_keyAt_0 : decode cX1_keyAt 0 = .ok (.iload_n 1, 1) := by decide +kernel
theorem dX1_keyAt_1 : decode cX1_keyAt 1 = .ok (.ifCond .lt 20, 3) := by decide +kernel
theorem dX1_keyAt_4 : decode cX1_keyAt 4 = .ok (.iload_n 1, 1) := by decide +kernel
theorem dX1_keyAt_5 : decode cX1_keyAt 5 = .ok (.aload_n 0, 1) := by decide +kernel
theorem dX1_keyAt_6 : decode cX1_keyAt 6 = .ok (.getfield 9, 3) := by decide +kernel
theorem dX1_keyAt_9 : decode cX1_keyAt 9 = .ok (.if_icmp .ge 12, 3) := by decide +kernel
theorem dX1_keyAt_12 : decode cX1_keyAt 12 = .ok (.aload_n 0, 1) := by decide +kernel
theorem dX1_keyAt_13 : decode cX1_keyAt 13 = .ok (.getfield 24, 3) := by decide +kernel
theorem dX1_keyAt_16 : decode cX1_keyAt 16 = .ok (.iload_n 1, 1) := by decide +kernel
theorem dX1_keyAt_17 : decode cX1_keyAt 17 = .ok (.iaload, 1) := by decide +kernel
theorem dX1_keyAt_18 : decode cX1_keyAt 18 = .ok (.goto 6, 3) := by decide +kernel
theorem dX1_keyAt_21 : decode cX1_keyAt 21 = .ok (.sipush 200, 3) := by decide +kernel
theorem dX1_keyAt_24 : decode cX1_keyAt 24 = .ok (.ireturn, 1) := by decide +kernel
theorem dX1_valueAt_0 : decode cX1_valueAt 0 = .ok (.iload_n 1, 1) := by decide +kernel
theorem dX1_valueAt_1 : decode cX1_valueAt 1 = .ok (.ifCond .lt 20, 3) := by decide +kernel
theorem dX1_valueAt_4 : decode cX1_valueAt 4 = .ok (.iload_n 1, 1) := by decide +kernel
theorem dX1_valueAt_5 : decode cX1_valueAt 5 = .ok (.aload_n 0, 1) := by decide +kernel
theorem dX1_valueAt_6 : decode cX1_valueAt 6 = .ok (.getfield 9, 3) := by decide +kernel
theorem dX1_valueAt_9 : decode cX1_valueAt 9 = .ok (.if_icmp .ge 12, 3) := by decide +kernel
theorem dX1_valueAt_12 : decode cX1_valueAt 12 = .ok (.aload_n 0, 1) := by decide +kernel
theorem dX1_valueAt_13 : decode cX1_valueAt 13 = .ok (.getfield 28, 3) := by decide +kernel
theorem dX1_valueAt_16 : decode cX1_valueAt 16 = .ok (.iload_n 1, 1) := by decide +kernel
theorem dX1_valueAt_17 : decode cX1_valueAt 17 = .ok (.iaload, 1) := by decide +kernel
theorem dX1_valueAt_18 : decode cX1_valueAt 18 = .ok (.goto 4, 3) := by decide +kernel
theorem dX1_valueAt_21 : decode cX1_valueAt 21 = .ok (.iconst (-1), 1) := by decide +kernel
theorem dX1_valueAt_22 : decode cX1_valueAt 22 = .ok (.ireturn, 1) := by decide +kernel
theorem dX1_placeAt_0 : decode cX1_placeAt 0 = .ok (.iload_n 1, 1) := by decide +kernel
theorem dX1_placeAt_1 : decode cX1_placeAt 1 = .ok (.ifCond .lt 20, 3) := by decide +kernel
theorem dX1_placeAt_4 : decode cX1_placeAt 4 = .ok (.iload_n 1, 1) := by decide +kernel
theorem dX1_placeAt_5 : decode cX1_placeAt 5 = .ok (.aload_n 0, 1) := by decide +kernel
theorem dX1_placeAt_6 : decode cX1_placeAt 6 = .ok (.getfield 9, 3) := by decide +kernel
theorem dX1_placeAt_9 : decode cX1_placeAt 9 = .ok (.if_icmp .ge 12, 3) := by decide +kernel
theorem dX1_placeAt_12 : decode cX1_placeAt 12 = .ok (.aload_n 0, 1) := by decide +kernel
theorem dX1_placeAt_13 : decode cX1_placeAt 13 = .ok (.getfield 31, 3) := by decide +kernel
theorem dX1_placeAt_16 : decode cX1_placeAt 16 = .ok (.iload_n 1, 1) := by decide +kernel
theorem dX1_placeAt_17 : decode cX1_placeAt 17 = .ok (.iaload, 1) := by decide +kernel
theorem dX1_placeAt_18 : decode cX1_placeAt 18 = .ok (.goto 4, 3) := by decide +kernel
theorem dX1_placeAt_21 : decode cX1_placeAt 21 = .ok (.iconst (-1), 1) := by decide +kernel
theorem dX1_placeAt_22 : decode cX1_placeAt 22 = .ok (.ireturn, 1) := by decide +kernel
theorem dX1_kindAt_0 : decode cX1_kindAt 0 = .ok (.aload_n 0, 1) := by decide +kernel
theorem dX1_kindAt_1 : decode cX1_kindAt 1 = .ok (.iload_n 1, 1) := by decide +kernel
theorem dX1_kindAt_2 : decode cX1_kindAt 2 = .ok (.invokevirtual 34, 3) := by decide +kernel
theorem dX1_kindAt_5 : decode cX1_kindAt 5 = .ok (.iconst (-1), 1) := by decide +kernel
theorem dX1_kindAt_6 : decode cX1_kindAt 6 = .ok (.if_icmp .eq 5, 3) := by decide +kernel
theorem dX1_kindAt_9 : decode cX1_kindAt 9 = .ok (.iconst 2, 1) := by decide +kernel
theorem dX1_kindAt_10 : decode cX1_kindAt 10 = .ok (.ireturn, 1) := by decide +kernel
theorem dX1_kindAt_11 : decode cX1_kindAt 11 = .ok (.aload_n 0, 1) := by decide +kernel
theorem dX1_kindAt_12 : decode cX1_kindAt 12 = .ok (.iload_n 1, 1) := by decide +kernel
theorem dX1_kindAt_13 : decode cX1_kindAt 13 = .ok (.invokevirtual 38, 3) := by decide +kernel
theorem dX1_kindAt_16 : decode cX1_kindAt 16 = .ok (.iconst (-1), 1) := by decide +kernel
theorem dX1_kindAt_17 : decode cX1_kindAt 17 = .ok (.if_icmp .ne 7, 3) := by decide +kernel
theorem dX1_kindAt_20 : decode cX1_kindAt 20 = .ok (.iconst 1, 1) := by decide +kernel
theorem dX1_kindAt_21 : decode cX1_kindAt 21 = .ok (.goto 4, 3) := by decide +kernel
theorem dX1_kindAt_24 : decode cX1_kindAt 24 = .ok (.iconst 0, 1) := by decide +kernel
theorem dX1_kindAt_25 : decode cX1_kindAt 25 = .ok (.ireturn, 1) := by decide +kernel
theorem dX1_lastMark_0 : decode cX1_lastMark 0 = .ok (.iload_n 2, 1) := by decide +kernel
theorem dX1_lastMark_1 : decode cX1_lastMark 1 = .ok (.aload_n 0, 1) := by decide +kernel
theorem dX1_lastMark_2 : decode cX1_lastMark 2 = .ok (.getfield 9, 3) := by decide +kernel
theorem dX1_lastMark_5 : decode cX1_lastMark 5 = .ok (.invokestatic 41, 3) := by decide +kernel
theorem dX1_lastMark_8 : decode cX1_lastMark 8 = .ok (.iconst 1, 1) := by decide +kernel
theorem dX1_lastMark_9 : decode cX1_lastMark 9 = .ok (.isub, 1) := by decide +kernel
theorem dX1_lastMark_10 : decode cX1_lastMark 10 = .ok (.istore_n 3, 1) := by decide +kernel
theorem dX1_lastMark_11 : decode cX1_lastMark 11 = .ok (.iload_n 3, 1) := by decide +kernel
theorem dX1_lastMark_12 : decode cX1_lastMark 12 = .ok (.ifCond .lt 36, 3) := by decide +kernel
theorem dX1_lastMark_15 : decode cX1_lastMark 15 = .ok (.aload_n 0, 1) := by decide +kernel
theorem dX1_lastMark_16 : decode cX1_lastMark 16 = .ok (.getfield 31, 3) := by decide +kernel
theorem dX1_lastMark_19 : decode cX1_lastMark 19 = .ok (.iload_n 3, 1) := by decide +kernel
theorem dX1_lastMark_20 : decode cX1_lastMark 20 = .ok (.iaload, 1) := by decide +kernel
theorem dX1_lastMark_21 : decode cX1_lastMark 21 = .ok (.iconst (-1), 1) := by decide +kernel
theorem dX1_lastMark_22 : decode cX1_lastMark 22 = .ok (.if_icmp .eq 20, 3) := by decide +kernel
theorem dX1_lastMark_25 : decode cX1_lastMark 25 = .ok (.aload_n 0, 1) := by decide +kernel
theorem dX1_lastMark_26 : decode cX1_lastMark 26 = .ok (.getfield 28, 3) := by decide +kernel
theorem dX1_lastMark_29 : decode cX1_lastMark 29 = .ok (.iload_n 3, 1) := by decide +kernel
theorem dX1_lastMark_30 : decode cX1_lastMark 30 = .ok (.iaload, 1) := by decide +kernel
theorem dX1_lastMark_31 : decode cX1_lastMark 31 = .ok (.iload_n 1, 1) := by decide +kernel
theorem dX1_lastMark_32 : decode cX1_lastMark 32 = .ok (.if_icmp .ne 10, 3) := by decide +kernel
theorem dX1_lastMark_35 : decode cX1_lastMark 35 = .ok (.aload_n 0, 1) := by decide +kernel
theorem dX1_lastMark_36 : decode cX1_lastMark 36 = .ok (.getfield 31, 3) := by decide +kernel
theorem dX1_lastMark_39 : decode cX1_lastMark 39 = .ok (.iload_n 3, 1) := by decide +kernel
theorem dX1_lastMark_40 : decode cX1_lastMark 40 = .ok (.iaload, 1) := by decide +kernel
theorem dX1_lastMark_41 : decode cX1_lastMark 41 = .ok (.ireturn, 1) := by decide +kernel
theorem dX1_lastMark_42 : decode cX1_lastMark 42 = .ok (.iinc 3 (-1), 3) := by decide +kernel
theorem dX1_lastMark_45 : decode cX1_lastMark 45 = .ok (.goto (-34), 3) := by decide +kernel
theorem dX1_lastMark_48 : decode cX1_lastMark 48 = .ok (.iconst (-1), 1) := by decide +kernel
theorem dX1_lastMark_49 : decode cX1_lastMark 49 = .ok (.ireturn, 1) := by decide +kernel
theorem dX1_firstMark_0 : decode cX1_firstMark 0 = .ok (.iload_n 2, 1) := by decide +kernel
theorem dX1_firstMark_1 : decode cX1_firstMark 1 = .ok (.iconst 0, 1) := by decide +kernel
theorem dX1_firstMark_2 : decode cX1_firstMark 2 = .ok (.invokestatic 18, 3) := by decide +kernel
theorem dX1_firstMark_5 : decode cX1_firstMark 5 = .ok (.istore_n 3, 1) := by decide +kernel
theorem dX1_firstMark_6 : decode cX1_firstMark 6 = .ok (.iload_n 3, 1) := by decide +kernel
theorem dX1_firstMark_7 : decode cX1_firstMark 7 = .ok (.aload_n 0, 1) := by decide +kernel
theorem dX1_firstMark_8 : decode cX1_firstMark 8 = .ok (.getfield 9, 3) := by decide +kernel
theorem dX1_firstMark_11 : decode cX1_firstMark 11 = .ok (.if_icmp .ge 36, 3) := by decide +kernel
theorem dX1_firstMark_14 : decode cX1_firstMark 14 = .ok (.aload_n 0, 1) := by decide +kernel
theorem dX1_firstMark_15 : decode cX1_firstMark 15 = .ok (.getfield 31, 3) := by decide +kernel
theorem dX1_firstMark_18 : decode cX1_firstMark 18 = .ok (.iload_n 3, 1) := by decide +kernel
theorem dX1_firstMark_19 : decode cX1_firstMark 19 = .ok (.iaload, 1) := by decide +kernel
theorem dX1_firstMark_20 : decode cX1_firstMark 20 = .ok (.iconst (-1), 1) := by decide +kernel
theorem dX1_firstMark_21 : decode cX1_firstMark 21 = .ok (.if_icmp .eq 20, 3) := by decide +kernel
theorem dX1_firstMark_24 : decode cX1_firstMark 24 = .ok (.aload_n 0, 1) := by decide +kernel
theorem dX1_firstMark_25 : decode cX1_firstMark 25 = .ok (.getfield 28, 3) := by decide +kernel
theorem dX1_firstMark_28 : decode cX1_firstMark 28 = .ok (.iload_n 3, 1) := by decide +kernel
theorem dX1_firstMark_29 : decode cX1_firstMark 29 = .ok (.iaload, 1) := by decide +kernel
theorem dX1_firstMark_30 : decode cX1_firstMark 30 = .ok (.iload_n 1, 1) := by decide +kernel
theorem dX1_firstMark_31 : decode cX1_firstMark 31 = .ok (.if_icmp .ne 10, 3) := by decide +kernel
theorem dX1_firstMark_34 : decode cX1_firstMark 34 = .ok (.aload_n 0, 1) := by decide +kernel
theorem dX1_firstMark_35 : decode cX1_firstMark 35 = .ok (.getfield 31, 3) := by decide +kernel
theorem dX1_firstMark_38 : decode cX1_firstMark 38 = .ok (.iload_n 3, 1) := by decide +kernel
theorem dX1_firstMark_39 : decode cX1_firstMark 39 = .ok (.iaload, 1) := by decide +kernel
theorem dX1_firstMark_40 : decode cX1_firstMark 40 = .ok (.ireturn, 1) := by decide +kernel
theorem dX1_firstMark_41 : decode cX1_firstMark 41 = .ok (.iinc 3 1, 3) := by decide +kernel
theorem dX1_firstMark_44 : decode cX1_firstMark 44 = .ok (.goto (-38), 3) := by decide +kernel
theorem dX1_firstMark_47 : decode cX1_firstMark 47 = .ok (.iconst (-1), 1) := by decide +kernel
theorem dX1_firstMark_48 : decode cX1_firstMark 48 = .ok (.ireturn, 1) := by decide +kernel
theorem dX2_init_0 : decode cX2_init 0 = .ok (.aload_n 0, 1) := by decide +kernel
theorem dX2_init_1 : decode cX2_init 1 = .ok (.invokespecial 3, 3) := by decide +kernel
theorem dX2_init_4 : decode cX2_init 4 = .ok (.aload_n 0, 1) := by decide +kernel
theorem dX2_init_5 : decode cX2_init 5 = .ok (.sipush 200, 3) := by decide +kernel
theorem dX2_init_8 : decode cX2_init 8 = .ok (.newarray .int, 2) := by decide +kernel
theorem dX2_init_10 : decode cX2_init 10 = .ok (.putfield 9, 3) := by decide +kernel
theorem dX2_init_13 : decode cX2_init 13 = .ok (.aload_n 0, 1) := by decide +kernel
theorem dX2_init_14 : decode cX2_init 14 = .ok (.sipush 200, 3) := by decide +kernel
theorem dX2_init_17 : decode cX2_init 17 = .ok (.newarray .int, 2) := by decide +kernel
theorem dX2_init_19 : decode cX2_init 19 = .ok (.putfield 15, 3) := by decide +kernel
theorem dX2_init_22 : decode cX2_init 22 = .ok (.aload_n 0, 1) := by decide +kernel
theorem dX2_init_23 : decode cX2_init 23 = .ok (.iconst 0, 1) := by decide +kernel
theorem dX2_init_24 : decode cX2_init 24 = .ok (.putfield 18, 3) := by decide +kernel
theorem dX2_init_27 : decode cX2_init 27 = .ok (.return_, 1) := by decide +kernel
theorem dX2_read_0 : decode cX2_read 0 = .ok (.aload_n 0, 1) := by decide +kernel
theorem dX2_read_1 : decode cX2_read 1 = .ok (.getfield 9, 3) := by decide +kernel
theorem dX2_read_4 : decode cX2_read 4 = .ok (.iconst (-1), 1) := by decide +kernel
theorem dX2_read_5 : decode cX2_read 5 = .ok (.invokestatic 22, 3) := by decide +kernel
theorem dX2_read_8 : decode cX2_read 8 = .ok (.aload_n 0, 1) := by decide +kernel
theorem dX2_read_9 : decode cX2_read 9 = .ok (.getfield 15, 3) := by decide +kernel
theorem dX2_read_12 : decode cX2_read 12 = .ok (.iconst 0, 1) := by decide +kernel
theorem dX2_read_13 : decode cX2_read 13 = .ok (.invokestatic 22, 3) := by decide +kernel
theorem dX2_read_16 : decode cX2_read 16 = .ok (.aload_n 0, 1) := by decide +kernel
theorem dX2_read_17 : decode cX2_read 17 = .ok (.iconst 0, 1) := by decide +kernel
theorem dX2_read_18 : decode cX2_read 18 = .ok (.putfield 18, 3) := by decide +kernel
theorem dX2_read_21 : decode cX2_read 21 = .ok (.aload_n 1, 1) := by decide +kernel
theorem dX2_read_22 : decode cX2_read 22 = .ok (.invokevirtual 28, 3) := by decide +kernel
theorem dX2_read_25 : decode cX2_read 25 = .ok (.iconst 1, 1) := by decide +kernel
theorem dX2_read_26 : decode cX2_read 26 = .ok (.isub, 1) := by decide +kernel
theorem dX2_read_27 : decode cX2_read 27 = .ok (.istore_n 2, 1) := by decide +kernel
theorem dX2_read_28 : decode cX2_read 28 = .ok (.iload_n 2, 1) := by decide +kernel
theorem dX2_read_29 : decode cX2_read 29 = .ok (.ifCond .lt 24, 3) := by decide +kernel
theorem dX2_read_32 : decode cX2_read 32 = .ok (.aload_n 0, 1) := by decide +kernel
theorem dX2_read_33 : decode cX2_read 33 = .ok (.aload_n 1, 1) := by decide +kernel
theorem dX2_read_34 : decode cX2_read 34 = .ok (.getfield 34, 3) := by decide +kernel
theorem dX2_read_37 : decode cX2_read 37 = .ok (.aload_n 1, 1) := by decide +kernel
theorem dX2_read_38 : decode cX2_read 38 = .ok (.getfield 38, 3) := by decide +kernel
theorem dX2_read_41 : decode cX2_read 41 = .ok (.iload_n 2, 1) := by decide +kernel
theorem dX2_read_42 : decode cX2_read 42 = .ok (.iaload, 1) := by decide +kernel
theorem dX2_read_43 : decode cX2_read 43 = .ok (.aaload, 1) := by decide +kernel
theorem dX2_read_44 : decode cX2_read 44 = .ok (.invokevirtual 41, 3) := by decide +kernel
theorem dX2_read_47 : decode cX2_read 47 = .ok (.iinc 2 (-1), 3) := by decide +kernel
theorem dX2_read_50 : decode cX2_read 50 = .ok (.goto (-22), 3) := by decide +kernel
theorem dX2_read_53 : decode cX2_read 53 = .ok (.return_, 1) := by decide +kernel
theorem dX2_readRow_0 : decode cX2_readRow 0 = .ok (.iconst 0, 1) := by decide +kernel
theorem dX2_readRow_1 : decode cX2_readRow 1 = .ok (.istore_n 2, 1) := by decide +kernel
theorem dX2_readRow_2 : decode cX2_readRow 2 = .ok (.iload_n 2, 1) := by decide +kernel
theorem dX2_readRow_3 : decode cX2_readRow 3 = .ok (.aload_n 1, 1) := by decide +kernel
theorem dX2_readRow_4 : decode cX2_readRow 4 = .ok (.getfield 45, 3) := by decide +kernel
theorem dX2_readRow_7 : decode cX2_readRow 7 = .ok (.if_icmp .ge 53, 3) := by decide +kernel
theorem dX2_readRow_10 : decode cX2_readRow 10 = .ok (.aload_n 1, 1) := by decide +kernel
theorem dX2_readRow_11 : decode cX2_readRow 11 = .ok (.iload_n 2, 1) := by decide +kernel
theorem dX2_readRow_12 : decode cX2_readRow 12 = .ok (.invokevirtual 50, 3) := by decide +kernel
theorem dX2_readRow_15 : decode cX2_readRow 15 = .ok (.istore_n 3, 1) := by decide +kernel
theorem dX2_readRow_16 : decode cX2_readRow 16 = .ok (.iload_n 3, 1) := by decide +kernel
theorem dX2_readRow_17 : decode cX2_readRow 17 = .ok (.invokestatic 54, 3) := by decide +kernel
theorem dX2_readRow_20 : decode cX2_readRow 20 = .ok (.ifCond .eq 34, 3) := by decide +kernel
theorem dX2_readRow_23 : decode cX2_readRow 23 = .ok (.aload_n 0, 1) := by decide +kernel
theorem dX2_readRow_24 : decode cX2_readRow 24 = .ok (.getfield 9, 3) := by decide +kernel
theorem dX2_readRow_27 : decode cX2_readRow 27 = .ok (.iload_n 3, 1) := by decide +kernel
theorem dX2_readRow_28 : decode cX2_readRow 28 = .ok (.aload_n 1, 1) := by decide +kernel
theorem dX2_readRow_29 : decode cX2_readRow 29 = .ok (.iload_n 2, 1) := by decide +kernel
theorem dX2_readRow_30 : decode cX2_readRow 30 = .ok (.invokevirtual 58, 3) := by decide +kernel
theorem dX2_readRow_33 : decode cX2_readRow 33 = .ok (.iastore, 1) := by decide +kernel
theorem dX2_readRow_34 : decode cX2_readRow 34 = .ok (.aload_n 0, 1) := by decide +kernel
theorem dX2_readRow_35 : decode cX2_readRow 35 = .ok (.getfield 15, 3) := by decide +kernel
theorem dX2_readRow_38 : decode cX2_readRow 38 = .ok (.iload_n 3, 1) := by decide +kernel
theorem dX2_readRow_39 : decode cX2_readRow 39 = .ok (.dup2, 1) := by decide +kernel
theorem dX2_readRow_40 : decode cX2_readRow 40 = .ok (.iaload, 1) := by decide +kernel
theorem dX2_readRow_41 : decode cX2_readRow 41 = .ok (.iconst 1, 1) := by decide +kernel
theorem dX2_readRow_42 : decode cX2_readRow 42 = .ok (.iadd, 1) := by decide +kernel
theorem dX2_readRow_43 : decode cX2_readRow 43 = .ok (.iastore, 1) := by decide +kernel
theorem dX2_readRow_44 : decode cX2_readRow 44 = .ok (.aload_n 0, 1) := by decide +kernel
theorem dX2_readRow_45 : decode cX2_readRow 45 = .ok (.dup, 1) := by decide +kernel
theorem dX2_readRow_46 : decode cX2_readRow 46 = .ok (.getfield 18, 3) := by decide +kernel
theorem dX2_readRow_49 : decode cX2_readRow 49 = .ok (.iconst 1, 1) := by decide +kernel
theorem dX2_readRow_50 : decode cX2_readRow 50 = .ok (.iadd, 1) := by decide +kernel
theorem dX2_readRow_51 : decode cX2_readRow 51 = .ok (.putfield 18, 3) := by decide +kernel
theorem dX2_readRow_54 : decode cX2_readRow 54 = .ok (.iinc 2 1, 3) := by decide +kernel
theorem dX2_readRow_57 : decode cX2_readRow 57 = .ok (.goto (-55), 3) := by decide +kernel
theorem dX2_readRow_60 : decode cX2_readRow 60 = .ok (.return_, 1) := by decide +kernel
theorem dX2_has_0 : decode cX2_has 0 = .ok (.iload_n 1, 1) := by decide +kernel
theorem dX2_has_1 : decode cX2_has 1 = .ok (.invokestatic 54, 3) := by decide +kernel
theorem dX2_has_4 : decode cX2_has 4 = .ok (.ifCond .eq 17, 3) := by decide +kernel
theorem dX2_has_7 : decode cX2_has 7 = .ok (.aload_n 0, 1) := by decide +kernel
theorem dX2_has_8 : decode cX2_has 8 = .ok (.getfield 9, 3) := by decide +kernel
theorem dX2_has_11 : decode cX2_has 11 = .ok (.iload_n 1, 1) := by decide +kernel
theorem dX2_has_12 : decode cX2_has 12 = .ok (.iaload, 1) := by decide +kernel
theorem dX2_has_13 : decode cX2_has 13 = .ok (.iconst (-1), 1) := by decide +kernel
theorem dX2_has_14 : decode cX2_has 14 = .ok (.if_icmp .eq 7, 3) := by decide +kernel
theorem dX2_has_17 : decode cX2_has 17 = .ok (.iconst 1, 1) := by decide +kernel
theorem dX2_has_18 : decode cX2_has 18 = .ok (.goto 4, 3) := by decide +kernel
theorem dX2_has_21 : decode cX2_has 21 = .ok (.iconst 0, 1) := by decide +kernel
theorem dX2_has_22 : decode cX2_has 22 = .ok (.ireturn, 1) := by decide +kernel
theorem dX2_keysThere_0 : decode cX2_keysThere 0 = .ok (.iconst 0, 1) := by decide +kernel
theorem dX2_keysThere_1 : decode cX2_keysThere 1 = .ok (.istore_n 3, 1) := by decide +kernel
theorem dX2_keysThere_2 : decode cX2_keysThere 2 = .ok (.iload_n 1, 1) := by decide +kernel
theorem dX2_keysThere_3 : decode cX2_keysThere 3 = .ok (.istore 4, 2) := by decide +kernel
theorem dX2_keysThere_5 : decode cX2_keysThere 5 = .ok (.iload 4, 2) := by decide +kernel
theorem dX2_keysThere_7 : decode cX2_keysThere 7 = .ok (.iload_n 2, 1) := by decide +kernel
theorem dX2_keysThere_8 : decode cX2_keysThere 8 = .ok (.if_icmp .gt 26, 3) := by decide +kernel
theorem dX2_keysThere_11 : decode cX2_keysThere 11 = .ok (.iload_n 3, 1) := by decide +kernel
theorem dX2_keysThere_12 : decode cX2_keysThere 12 = .ok (.aload_n 0, 1) := by decide +kernel
theorem dX2_keysThere_13 : decode cX2_keysThere 13 = .ok (.iload 4, 2) := by decide +kernel
theorem dX2_keysThere_15 : decode cX2_keysThere 15 = .ok (.invokevirtual 61, 3) := by decide +kernel
theorem dX2_keysThere_18 : decode cX2_keysThere 18 = .ok (.ifCond .eq 7, 3) := by decide +kernel
theorem dX2_keysThere_21 : decode cX2_keysThere 21 = .ok (.iconst 1, 1) := by decide +kernel
theorem dX2_keysThere_22 : decode cX2_keysThere 22 = .ok (.goto 4, 3) := by decide +kernel
theorem dX2_keysThere_25 : decode cX2_keysThere 25 = .ok (.iconst 0, 1) := by decide +kernel
theorem dX2_keysThere_26 : decode cX2_keysThere 26 = .ok (.iadd, 1) := by decide +kernel
theorem dX2_keysThere_27 : decode cX2_keysThere 27 = .ok (.istore_n 3, 1) := by decide +kernel
theorem dX2_keysThere_28 : decode cX2_keysThere 28 = .ok (.iinc 4 1, 3) := by decide +kernel
theorem dX2_keysThere_31 : decode cX2_keysThere 31 = .ok (.goto (-26), 3) := by decide +kernel
theorem dX2_keysThere_34 : decode cX2_keysThere 34 = .ok (.iload_n 3, 1) := by decide +kernel
theorem dX2_keysThere_35 : decode cX2_keysThere 35 = .ok (.ireturn, 1) := by decide +kernel
theorem dX2_heldKeys_0 : decode cX2_heldKeys 0 = .ok (.iconst 0, 1) := by decide +kernel
theorem dX2_heldKeys_1 : decode cX2_heldKeys 1 = .ok (.istore_n 1, 1) := by decide +kernel
theorem dX2_heldKeys_2 : decode cX2_heldKeys 2 = .ok (.iconst 0, 1) := by decide +kernel
theorem dX2_heldKeys_3 : decode cX2_heldKeys 3 = .ok (.istore_n 2, 1) := by decide +kernel
theorem dX2_heldKeys_4 : decode cX2_heldKeys 4 = .ok (.iload_n 2, 1) := by decide +kernel
theorem dX2_heldKeys_5 : decode cX2_heldKeys 5 = .ok (.sipush 200, 3) := by decide +kernel
theorem dX2_heldKeys_8 : decode cX2_heldKeys 8 = .ok (.if_icmp .ge 26, 3) := by decide +kernel
theorem dX2_heldKeys_11 : decode cX2_heldKeys 11 = .ok (.iload_n 1, 1) := by decide +kernel
theorem dX2_heldKeys_12 : decode cX2_heldKeys 12 = .ok (.aload_n 0, 1) := by decide +kernel
theorem dX2_heldKeys_13 : decode cX2_heldKeys 13 = .ok (.getfield 15, 3) := by decide +kernel
theorem dX2_heldKeys_16 : decode cX2_heldKeys 16 = .ok (.iload_n 2, 1) := by decide +kernel
theorem dX2_heldKeys_17 : decode cX2_heldKeys 17 = .ok (.iaload, 1) := by decide +kernel
theorem dX2_heldKeys_18 : decode cX2_heldKeys 18 = .ok (.ifCond .le 7, 3) := by decide +kernel
theorem dX2_heldKeys_21 : decode cX2_heldKeys 21 = .ok (.iconst 1, 1) := by decide +kernel
theorem dX2_heldKeys_22 : decode cX2_heldKeys 22 = .ok (.goto 4, 3) := by decide +kernel
theorem dX2_heldKeys_25 : decode cX2_heldKeys 25 = .ok (.iconst 0, 1) := by decide +kernel
theorem dX2_heldKeys_26 : decode cX2_heldKeys 26 = .ok (.iadd, 1) := by decide +kernel
theorem dX2_heldKeys_27 : decode cX2_heldKeys 27 = .ok (.istore_n 1, 1) := by decide +kernel
theorem dX2_heldKeys_28 : decode cX2_heldKeys 28 = .ok (.iinc 2 1, 3) := by decide +kernel
theorem dX2_heldKeys_31 : decode cX2_heldKeys 31 = .ok (.goto (-27), 3) := by decide +kernel
theorem dX2_heldKeys_34 : decode cX2_heldKeys 34 = .ok (.iload_n 1, 1) := by decide +kernel
theorem dX2_heldKeys_35 : decode cX2_heldKeys 35 = .ok (.ireturn, 1) := by decide +kernel
theorem dX2_loneSigns_0 : decode cX2_loneSigns 0 = .ok (.iconst 0, 1) := by decide +kernel
theorem dX2_loneSigns_1 : decode cX2_loneSigns 1 = .ok (.istore_n 1, 1) := by decide +kernel
theorem dX2_loneSigns_2 : decode cX2_loneSigns 2 = .ok (.iconst 0, 1) := by decide +kernel
theorem dX2_loneSigns_3 : decode cX2_loneSigns 3 = .ok (.istore_n 2, 1) := by decide +kernel
theorem dX2_loneSigns_4 : decode cX2_loneSigns 4 = .ok (.iload_n 2, 1) := by decide +kernel
theorem dX2_loneSigns_5 : decode cX2_loneSigns 5 = .ok (.sipush 200, 3) := by decide +kernel
theorem dX2_loneSigns_8 : decode cX2_loneSigns 8 = .ok (.if_icmp .ge 35, 3) := by decide +kernel
theorem dX2_loneSigns_11 : decode cX2_loneSigns 11 = .ok (.iload_n 1, 1) := by decide +kernel
theorem dX2_loneSigns_12 : decode cX2_loneSigns 12 = .ok (.aload_n 0, 1) := by decide +kernel
theorem dX2_loneSigns_13 : decode cX2_loneSigns 13 = .ok (.getfield 15, 3) := by decide +kernel
theorem dX2_loneSigns_16 : decode cX2_loneSigns 16 = .ok (.iload_n 2, 1) := by decide +kernel
theorem dX2_loneSigns_17 : decode cX2_loneSigns 17 = .ok (.iaload, 1) := by decide +kernel
theorem dX2_loneSigns_18 : decode cX2_loneSigns 18 = .ok (.iconst 1, 1) := by decide +kernel
theorem dX2_loneSigns_19 : decode cX2_loneSigns 19 = .ok (.if_icmp .ne 15, 3) := by decide +kernel
theorem dX2_loneSigns_22 : decode cX2_loneSigns 22 = .ok (.aload_n 0, 1) := by decide +kernel
theorem dX2_loneSigns_23 : decode cX2_loneSigns 23 = .ok (.iload_n 2, 1) := by decide +kernel
theorem dX2_loneSigns_24 : decode cX2_loneSigns 24 = .ok (.invokevirtual 61, 3) := by decide +kernel
theorem dX2_loneSigns_27 : decode cX2_loneSigns 27 = .ok (.ifCond .ne 7, 3) := by decide +kernel
theorem dX2_loneSigns_30 : decode cX2_loneSigns 30 = .ok (.iconst 1, 1) := by decide +kernel
theorem dX2_loneSigns_31 : decode cX2_loneSigns 31 = .ok (.goto 4, 3) := by decide +kernel
theorem dX2_loneSigns_34 : decode cX2_loneSigns 34 = .ok (.iconst 0, 1) := by decide +kernel
theorem dX2_loneSigns_35 : decode cX2_loneSigns 35 = .ok (.iadd, 1) := by decide +kernel
theorem dX2_loneSigns_36 : decode cX2_loneSigns 36 = .ok (.istore_n 1, 1) := by decide +kernel
theorem dX2_loneSigns_37 : decode cX2_loneSigns 37 = .ok (.iinc 2 1, 3) := by decide +kernel
theorem dX2_loneSigns_40 : decode cX2_loneSigns 40 = .ok (.goto (-36), 3) := by decide +kernel
theorem dX2_loneSigns_43 : decode cX2_loneSigns 43 = .ok (.iload_n 1, 1) := by decide +kernel
theorem dX2_loneSigns_44 : decode cX2_loneSigns 44 = .ok (.ireturn, 1) := by decide +kernel
theorem dX2_lostIn_0 : decode cX2_lostIn 0 = .ok (.iconst 0, 1) := by decide +kernel
theorem dX2_lostIn_1 : decode cX2_lostIn 1 = .ok (.istore_n 2, 1) := by decide +kernel
theorem dX2_lostIn_2 : decode cX2_lostIn 2 = .ok (.iconst 0, 1) := by decide +kernel
theorem dX2_lostIn_3 : decode cX2_lostIn 3 = .ok (.istore_n 3, 1) := by decide +kernel
theorem dX2_lostIn_4 : decode cX2_lostIn 4 = .ok (.iload_n 3, 1) := by decide +kernel
theorem dX2_lostIn_5 : decode cX2_lostIn 5 = .ok (.sipush 200, 3) := by decide +kernel
theorem dX2_lostIn_8 : decode cX2_lostIn 8 = .ok (.if_icmp .ge 40, 3) := by decide +kernel
theorem dX2_lostIn_11 : decode cX2_lostIn 11 = .ok (.iload_n 2, 1) := by decide +kernel
theorem dX2_lostIn_12 : decode cX2_lostIn 12 = .ok (.aload_n 0, 1) := by decide +kernel
theorem dX2_lostIn_13 : decode cX2_lostIn 13 = .ok (.iload_n 3, 1) := by decide +kernel
theorem dX2_lostIn_14 : decode cX2_lostIn 14 = .ok (.invokevirtual 61, 3) := by decide +kernel
theorem dX2_lostIn_17 : decode cX2_lostIn 17 = .ok (.ifCond .eq 22, 3) := by decide +kernel
theorem dX2_lostIn_20 : decode cX2_lostIn 20 = .ok (.aload_n 1, 1) := by decide +kernel
theorem dX2_lostIn_21 : decode cX2_lostIn 21 = .ok (.getfield 9, 3) := by decide +kernel
theorem dX2_lostIn_24 : decode cX2_lostIn 24 = .ok (.iload_n 3, 1) := by decide +kernel
theorem dX2_lostIn_25 : decode cX2_lostIn 25 = .ok (.iaload, 1) := by decide +kernel
theorem dX2_lostIn_26 : decode cX2_lostIn 26 = .ok (.aload_n 0, 1) := by decide +kernel
theorem dX2_lostIn_27 : decode cX2_lostIn 27 = .ok (.getfield 9, 3) := by decide +kernel
theorem dX2_lostIn_30 : decode cX2_lostIn 30 = .ok (.iload_n 3, 1) := by decide +kernel
theorem dX2_lostIn_31 : decode cX2_lostIn 31 = .ok (.iaload, 1) := by decide +kernel
theorem dX2_lostIn_32 : decode cX2_lostIn 32 = .ok (.if_icmp .eq 7, 3) := by decide +kernel
theorem dX2_lostIn_35 : decode cX2_lostIn 35 = .ok (.iconst 1, 1) := by decide +kernel
theorem dX2_lostIn_36 : decode cX2_lostIn 36 = .ok (.goto 4, 3) := by decide +kernel
theorem dX2_lostIn_39 : decode cX2_lostIn 39 = .ok (.iconst 0, 1) := by decide +kernel
theorem dX2_lostIn_40 : decode cX2_lostIn 40 = .ok (.iadd, 1) := by decide +kernel
theorem dX2_lostIn_41 : decode cX2_lostIn 41 = .ok (.istore_n 2, 1) := by decide +kernel
theorem dX2_lostIn_42 : decode cX2_lostIn 42 = .ok (.iinc 3 1, 3) := by decide +kernel
theorem dX2_lostIn_45 : decode cX2_lostIn 45 = .ok (.goto (-41), 3) := by decide +kernel
theorem dX2_lostIn_48 : decode cX2_lostIn 48 = .ok (.iload_n 2, 1) := by decide +kernel
theorem dX2_lostIn_49 : decode cX2_lostIn 49 = .ok (.ireturn, 1) := by decide +kernel
theorem dX2_missingIn_0 : decode cX2_missingIn 0 = .ok (.iconst 0, 1) := by decide +kernel
theorem dX2_missingIn_1 : decode cX2_missingIn 1 = .ok (.istore_n 2, 1) := by decide +kernel
theorem dX2_missingIn_2 : decode cX2_missingIn 2 = .ok (.iconst 0, 1) := by decide +kernel
theorem dX2_missingIn_3 : decode cX2_missingIn 3 = .ok (.istore_n 3, 1) := by decide +kernel
theorem dX2_missingIn_4 : decode cX2_missingIn 4 = .ok (.iload_n 3, 1) := by decide +kernel
theorem dX2_missingIn_5 : decode cX2_missingIn 5 = .ok (.sipush 200, 3) := by decide +kernel
theorem dX2_missingIn_8 : decode cX2_missingIn 8 = .ok (.if_icmp .ge 33, 3) := by decide +kernel
theorem dX2_missingIn_11 : decode cX2_missingIn 11 = .ok (.iload_n 2, 1) := by decide +kernel
theorem dX2_missingIn_12 : decode cX2_missingIn 12 = .ok (.aload_n 0, 1) := by decide +kernel
theorem dX2_missingIn_13 : decode cX2_missingIn 13 = .ok (.iload_n 3, 1) := by decide +kernel
theorem dX2_missingIn_14 : decode cX2_missingIn 14 = .ok (.invokevirtual 61, 3) := by decide +kernel
theorem dX2_missingIn_17 : decode cX2_missingIn 17 = .ok (.ifCond .eq 15, 3) := by decide +kernel
theorem dX2_missingIn_20 : decode cX2_missingIn 20 = .ok (.aload_n 1, 1) := by decide +kernel
theorem dX2_missingIn_21 : decode cX2_missingIn 21 = .ok (.iload_n 3, 1) := by decide +kernel
theorem dX2_missingIn_22 : decode cX2_missingIn 22 = .ok (.invokevirtual 61, 3) := by decide +kernel
theorem dX2_missingIn_25 : decode cX2_missingIn 25 = .ok (.ifCond .ne 7, 3) := by decide +kernel
theorem dX2_missingIn_28 : decode cX2_missingIn 28 = .ok (.iconst 1, 1) := by decide +kernel
theorem dX2_missingIn_29 : decode cX2_missingIn 29 = .ok (.goto 4, 3) := by decide +kernel
theorem dX2_missingIn_32 : decode cX2_missingIn 32 = .ok (.iconst 0, 1) := by decide +kernel
theorem dX2_missingIn_33 : decode cX2_missingIn 33 = .ok (.iadd, 1) := by decide +kernel
theorem dX2_missingIn_34 : decode cX2_missingIn 34 = .ok (.istore_n 2, 1) := by decide +kernel
theorem dX2_missingIn_35 : decode cX2_missingIn 35 = .ok (.iinc 3 1, 3) := by decide +kernel
theorem dX2_missingIn_38 : decode cX2_missingIn 38 = .ok (.goto (-34), 3) := by decide +kernel
theorem dX2_missingIn_41 : decode cX2_missingIn 41 = .ok (.iload_n 2, 1) := by decide +kernel
theorem dX2_missingIn_42 : decode cX2_missingIn 42 = .ok (.ireturn, 1) := by decide +kernel
theorem dX3_init_0 : decode cX3_init 0 = .ok (.aload_n 0, 1) := by decide +kernel
theorem dX3_init_1 : decode cX3_init 1 = .ok (.invokespecial 3, 3) := by decide +kernel
theorem dX3_init_4 : decode cX3_init 4 = .ok (.aload_n 0, 1) := by decide +kernel
theorem dX3_init_5 : decode cX3_init 5 = .ok (.bipush 19, 2) := by decide +kernel
theorem dX3_init_7 : decode cX3_init 7 = .ok (.anewarray 9, 3) := by decide +kernel
theorem dX3_init_10 : decode cX3_init 10 = .ok (.putfield 11, 3) := by decide +kernel
theorem dX3_init_13 : decode cX3_init 13 = .ok (.iconst 0, 1) := by decide +kernel
theorem dX3_init_14 : decode cX3_init 14 = .ok (.istore_n 1, 1) := by decide +kernel
theorem dX3_init_15 : decode cX3_init 15 = .ok (.iconst 0, 1) := by decide +kernel
theorem dX3_init_16 : decode cX3_init 16 = .ok (.istore_n 2, 1) := by decide +kernel
theorem dX3_init_17 : decode cX3_init 17 = .ok (.bipush 8, 2) := by decide +kernel
theorem dX3_init_19 : decode cX3_init 19 = .ok (.istore_n 3, 1) := by decide +kernel
theorem dX3_init_20 : decode cX3_init 20 = .ok (.iload_n 3, 1) := by decide +kernel
theorem dX3_init_21 : decode cX3_init 21 = .ok (.ifCond .lt 65, 3) := by decide +kernel
theorem dX3_init_24 : decode cX3_init 24 = .ok (.iload_n 3, 1) := by decide +kernel
theorem dX3_init_25 : decode cX3_init 25 = .ok (.invokestatic 17, 3) := by decide +kernel
theorem dX3_init_28 : decode cX3_init 28 = .ok (.iload_n 1, 1) := by decide +kernel
theorem dX3_init_29 : decode cX3_init 29 = .ok (.iconst 2, 1) := by decide +kernel
theorem dX3_init_30 : decode cX3_init 30 = .ok (.idiv, 1) := by decide +kernel
theorem dX3_init_31 : decode cX3_init 31 = .ok (.iadd, 1) := by decide +kernel
theorem dX3_init_32 : decode cX3_init 32 = .ok (.iload_n 2, 1) := by decide +kernel
theorem dX3_init_33 : decode cX3_init 33 = .ok (.iconst 2, 1) := by decide +kernel
theorem dX3_init_34 : decode cX3_init 34 = .ok (.idiv, 1) := by decide +kernel
theorem dX3_init_35 : decode cX3_init 35 = .ok (.iadd, 1) := by decide +kernel
theorem dX3_init_36 : decode cX3_init 36 = .ok (.istore_n 1, 1) := by decide +kernel
theorem dX3_init_37 : decode cX3_init 37 = .ok (.iload_n 3, 1) := by decide +kernel
theorem dX3_init_38 : decode cX3_init 38 = .ok (.invokestatic 17, 3) := by decide +kernel
theorem dX3_init_41 : decode cX3_init 41 = .ok (.istore_n 2, 1) := by decide +kernel
theorem dX3_init_42 : decode cX3_init 42 = .ok (.getstatic 21, 3) := by decide +kernel
theorem dX3_init_45 : decode cX3_init 45 = .ok (.iload_n 3, 1) := by decide +kernel
theorem dX3_init_46 : decode cX3_init 46 = .ok (.iaload, 1) := by decide +kernel
theorem dX3_init_47 : decode cX3_init 47 = .ok (.istore 4, 2) := by decide +kernel
theorem dX3_init_49 : decode cX3_init 49 = .ok (.iload 4, 2) := by decide +kernel
theorem dX3_init_51 : decode cX3_init 51 = .ok (.getstatic 25, 3) := by decide +kernel
theorem dX3_init_54 : decode cX3_init 54 = .ok (.iload_n 3, 1) := by decide +kernel
theorem dX3_init_55 : decode cX3_init 55 = .ok (.iaload, 1) := by decide +kernel
theorem dX3_init_56 : decode cX3_init 56 = .ok (.if_icmp .ge 24, 3) := by decide +kernel
theorem dX3_init_59 : decode cX3_init 59 = .ok (.aload_n 0, 1) := by decide +kernel
theorem dX3_init_60 : decode cX3_init 60 = .ok (.getfield 11, 3) := by decide +kernel
theorem dX3_init_63 : decode cX3_init 63 = .ok (.iload 4, 2) := by decide +kernel
theorem dX3_init_65 : decode cX3_init 65 = .ok (.new 9, 3) := by decide +kernel
theorem dX3_init_68 : decode cX3_init 68 = .ok (.dup, 1) := by decide +kernel
theorem dX3_init_69 : decode cX3_init 69 = .ok (.iload_n 1, 1) := by decide +kernel
theorem dX3_init_70 : decode cX3_init 70 = .ok (.invokespecial 28, 3) := by decide +kernel
theorem dX3_init_73 : decode cX3_init 73 = .ok (.aastore, 1) := by decide +kernel
theorem dX3_init_74 : decode cX3_init 74 = .ok (.iinc 4 1, 3) := by decide +kernel
theorem dX3_init_77 : decode cX3_init 77 = .ok (.goto (-28), 3) := by decide +kernel
theorem dX3_init_80 : decode cX3_init 80 = .ok (.iinc 3 (-1), 3) := by decide +kernel
theorem dX3_init_83 : decode cX3_init 83 = .ok (.goto (-63), 3) := by decide +kernel
theorem dX3_init_86 : decode cX3_init 86 = .ok (.return_, 1) := by decide +kernel
theorem dX3_build_0 : decode cX3_build 0 = .ok (.bipush 8, 2) := by decide +kernel
theorem dX3_build_2 : decode cX3_build 2 = .ok (.istore_n 3, 1) := by decide +kernel
theorem dX3_build_3 : decode cX3_build 3 = .ok (.iload_n 3, 1) := by decide +kernel
theorem dX3_build_4 : decode cX3_build 4 = .ok (.ifCond .lt 138, 3) := by decide +kernel
theorem dX3_build_7 : decode cX3_build 7 = .ok (.aload_n 1, 1) := by decide +kernel
theorem dX3_build_8 : decode cX3_build 8 = .ok (.iload_n 3, 1) := by decide +kernel
theorem dX3_build_9 : decode cX3_build 9 = .ok (.invokevirtual 31, 3) := by decide +kernel
theorem dX3_build_12 : decode cX3_build 12 = .ok (.istore 4, 2) := by decide +kernel
theorem dX3_build_14 : decode cX3_build 14 = .ok (.getstatic 21, 3) := by decide +kernel
theorem dX3_build_17 : decode cX3_build 17 = .ok (.iload_n 3, 1) := by decide +kernel
theorem dX3_build_18 : decode cX3_build 18 = .ok (.iaload, 1) := by decide +kernel
theorem dX3_build_19 : decode cX3_build 19 = .ok (.istore 5, 2) := by decide +kernel
theorem dX3_build_21 : decode cX3_build 21 = .ok (.iload 5, 2) := by decide +kernel
theorem dX3_build_23 : decode cX3_build 23 = .ok (.getstatic 25, 3) := by decide +kernel
theorem dX3_build_26 : decode cX3_build 26 = .ok (.iload_n 3, 1) := by decide +kernel
theorem dX3_build_27 : decode cX3_build 27 = .ok (.iaload, 1) := by decide +kernel
theorem dX3_build_28 : decode cX3_build 28 = .ok (.if_icmp .ge 108, 3) := by decide +kernel
theorem dX3_build_31 : decode cX3_build 31 = .ok (.aload_n 0, 1) := by decide +kernel
theorem dX3_build_32 : decode cX3_build 32 = .ok (.getfield 11, 3) := by decide +kernel
theorem dX3_build_35 : decode cX3_build 35 = .ok (.iload 5, 2) := by decide +kernel
theorem dX3_build_37 : decode cX3_build 37 = .ok (.aaload, 1) := by decide +kernel
theorem dX3_build_38 : decode cX3_build 38 = .ok (.invokevirtual 36, 3) := by decide +kernel
theorem dX3_build_41 : decode cX3_build 41 = .ok (.iload 5, 2) := by decide +kernel
theorem dX3_build_43 : decode cX3_build 43 = .ok (.iload 4, 2) := by decide +kernel
theorem dX3_build_45 : decode cX3_build 45 = .ok (.if_icmp .ne 51, 3) := by decide +kernel
theorem dX3_build_48 : decode cX3_build 48 = .ok (.iload_n 3, 1) := by decide +kernel
theorem dX3_build_49 : decode cX3_build 49 = .ok (.bipush 8, 2) := by decide +kernel
theorem dX3_build_51 : decode cX3_build 51 = .ok (.if_icmp .ge 45, 3) := by decide +kernel
theorem dX3_build_54 : decode cX3_build 54 = .ok (.aload_n 1, 1) := by decide +kernel
theorem dX3_build_55 : decode cX3_build 55 = .ok (.iload_n 3, 1) := by decide +kernel
theorem dX3_build_56 : decode cX3_build 56 = .ok (.iconst 1, 1) := by decide +kernel
theorem dX3_build_57 : decode cX3_build 57 = .ok (.iadd, 1) := by decide +kernel
theorem dX3_build_58 : decode cX3_build 58 = .ok (.invokevirtual 31, 3) := by decide +kernel
theorem dX3_build_61 : decode cX3_build 61 = .ok (.istore 6, 2) := by decide +kernel
theorem dX3_build_63 : decode cX3_build 63 = .ok (.aload_n 0, 1) := by decide +kernel
theorem dX3_build_64 : decode cX3_build 64 = .ok (.aload_n 1, 1) := by decide +kernel
theorem dX3_build_65 : decode cX3_build 65 = .ok (.getfield 39, 3) := by decide +kernel
theorem dX3_build_68 : decode cX3_build 68 = .ok (.iload 5, 2) := by decide +kernel
theorem dX3_build_70 : decode cX3_build 70 = .ok (.aaload, 1) := by decide +kernel
theorem dX3_build_71 : decode cX3_build 71 = .ok (.aload_n 0, 1) := by decide +kernel
theorem dX3_build_72 : decode cX3_build 72 = .ok (.getfield 11, 3) := by decide +kernel
theorem dX3_build_75 : decode cX3_build 75 = .ok (.iload 5, 2) := by decide +kernel
theorem dX3_build_77 : decode cX3_build 77 = .ok (.aaload, 1) := by decide +kernel
theorem dX3_build_78 : decode cX3_build 78 = .ok (.iload 6, 2) := by decide +kernel
theorem dX3_build_80 : decode cX3_build 80 = .ok (.aload_n 1, 1) := by decide +kernel
theorem dX3_build_81 : decode cX3_build 81 = .ok (.iload_n 3, 1) := by decide +kernel
theorem dX3_build_82 : decode cX3_build 82 = .ok (.iconst 1, 1) := by decide +kernel
theorem dX3_build_83 : decode cX3_build 83 = .ok (.iadd, 1) := by decide +kernel
theorem dX3_build_84 : decode cX3_build 84 = .ok (.iload 6, 2) := by decide +kernel
theorem dX3_build_86 : decode cX3_build 86 = .ok (.invokevirtual 43, 3) := by decide +kernel
theorem dX3_build_89 : decode cX3_build 89 = .ok (.iload_n 2, 1) := by decide +kernel
theorem dX3_build_90 : decode cX3_build 90 = .ok (.invokevirtual 47, 3) := by decide +kernel
theorem dX3_build_93 : decode cX3_build 93 = .ok (.goto 37, 3) := by decide +kernel
theorem dX3_build_96 : decode cX3_build 96 = .ok (.aload_n 1, 1) := by decide +kernel
theorem dX3_build_97 : decode cX3_build 97 = .ok (.getfield 39, 3) := by decide +kernel
theorem dX3_build_100 : decode cX3_build 100 = .ok (.iload 5, 2) := by decide +kernel
theorem dX3_build_102 : decode cX3_build 102 = .ok (.aaload, 1) := by decide +kernel
theorem dX3_build_103 : decode cX3_build 103 = .ok (.invokevirtual 51, 3) := by decide +kernel
theorem dX3_build_106 : decode cX3_build 106 = .ok (.ifCond .eq 24, 3) := by decide +kernel
theorem dX3_build_109 : decode cX3_build 109 = .ok (.aload_n 0, 1) := by decide +kernel
theorem dX3_build_110 : decode cX3_build 110 = .ok (.aload_n 1, 1) := by decide +kernel
theorem dX3_build_111 : decode cX3_build 111 = .ok (.getfield 39, 3) := by decide +kernel
theorem dX3_build_114 : decode cX3_build 114 = .ok (.iload 5, 2) := by decide +kernel
theorem dX3_build_116 : decode cX3_build 116 = .ok (.aaload, 1) := by decide +kernel
theorem dX3_build_117 : decode cX3_build 117 = .ok (.aload_n 0, 1) := by decide +kernel
theorem dX3_build_118 : decode cX3_build 118 = .ok (.getfield 11, 3) := by decide +kernel
theorem dX3_build_121 : decode cX3_build 121 = .ok (.iload 5, 2) := by decide +kernel
theorem dX3_build_123 : decode cX3_build 123 = .ok (.aaload, 1) := by decide +kernel
theorem dX3_build_124 : decode cX3_build 124 = .ok (.iconst (-1), 1) := by decide +kernel
theorem dX3_build_125 : decode cX3_build 125 = .ok (.iconst (-1), 1) := by decide +kernel
theorem dX3_build_126 : decode cX3_build 126 = .ok (.iload_n 2, 1) := by decide +kernel
theorem dX3_build_127 : decode cX3_build 127 = .ok (.invokevirtual 47, 3) := by decide +kernel
theorem dX3_build_130 : decode cX3_build 130 = .ok (.iinc 5 1, 3) := by decide +kernel
theorem dX3_build_133 : decode cX3_build 133 = .ok (.goto (-112), 3) := by decide +kernel
theorem dX3_build_136 : decode cX3_build 136 = .ok (.iinc 3 (-1), 3) := by decide +kernel
theorem dX3_build_139 : decode cX3_build 139 = .ok (.goto (-136), 3) := by decide +kernel
theorem dX3_build_142 : decode cX3_build 142 = .ok (.return_, 1) := by decide +kernel
theorem dX3_weave_0 : decode cX3_weave 0 = .ok (.iconst 0, 1) := by decide +kernel
theorem dX3_weave_1 : decode cX3_weave 1 = .ok (.istore 6, 2) := by decide +kernel
theorem dX3_weave_3 : decode cX3_weave 3 = .ok (.iload 5, 2) := by decide +kernel
theorem dX3_weave_5 : decode cX3_weave 5 = .ok (.iconst 1, 1) := by decide +kernel
theorem dX3_weave_6 : decode cX3_weave 6 = .ok (.isub, 1) := by decide +kernel
theorem dX3_weave_7 : decode cX3_weave 7 = .ok (.istore 7, 2) := by decide +kernel
theorem dX3_weave_9 : decode cX3_weave 9 = .ok (.iload 5, 2) := by decide +kernel
theorem dX3_weave_11 : decode cX3_weave 11 = .ok (.iconst 1, 1) := by decide +kernel
theorem dX3_weave_12 : decode cX3_weave 12 = .ok (.isub, 1) := by decide +kernel
theorem dX3_weave_13 : decode cX3_weave 13 = .ok (.istore 8, 2) := by decide +kernel
theorem dX3_weave_15 : decode cX3_weave 15 = .ok (.aload_n 1, 1) := by decide +kernel
theorem dX3_weave_16 : decode cX3_weave 16 = .ok (.getfield 57, 3) := by decide +kernel
theorem dX3_weave_19 : decode cX3_weave 19 = .ok (.aload_n 0, 1) := by decide +kernel
theorem dX3_weave_20 : decode cX3_weave 20 = .ok (.iload_n 3, 1) := by decide +kernel
theorem dX3_weave_21 : decode cX3_weave 21 = .ok (.iload 5, 2) := by decide +kernel
theorem dX3_weave_23 : decode cX3_weave 23 = .ok (.invokevirtual 61, 3) := by decide +kernel
theorem dX3_weave_26 : decode cX3_weave 26 = .ok (.iadd, 1) := by decide +kernel
theorem dX3_weave_27 : decode cX3_weave 27 = .ok (.aload_n 0, 1) := by decide +kernel
theorem dX3_weave_28 : decode cX3_weave 28 = .ok (.iload 4, 2) := by decide +kernel
theorem dX3_weave_30 : decode cX3_weave 30 = .ok (.iload 5, 2) := by decide +kernel
theorem dX3_weave_32 : decode cX3_weave 32 = .ok (.invokevirtual 61, 3) := by decide +kernel
theorem dX3_weave_35 : decode cX3_weave 35 = .ok (.iadd, 1) := by decide +kernel
theorem dX3_weave_36 : decode cX3_weave 36 = .ok (.istore 9, 2) := by decide +kernel
theorem dX3_weave_38 : decode cX3_weave 38 = .ok (.iconst 0, 1) := by decide +kernel
theorem dX3_weave_39 : decode cX3_weave 39 = .ok (.istore 10, 2) := by decide +kernel
theorem dX3_weave_41 : decode cX3_weave 41 = .ok (.iload 10, 2) := by decide +kernel
theorem dX3_weave_43 : decode cX3_weave 43 = .ok (.iload 9, 2) := by decide +kernel
theorem dX3_weave_45 : decode cX3_weave 45 = .ok (.if_icmp .ge 118, 3) := by decide +kernel
theorem dX3_weave_48 : decode cX3_weave 48 = .ok (.aload_n 1, 1) := by decide +kernel
theorem dX3_weave_49 : decode cX3_weave 49 = .ok (.iload 6, 2) := by decide +kernel
theorem dX3_weave_51 : decode cX3_weave 51 = .ok (.invokevirtual 64, 3) := by decide +kernel
theorem dX3_weave_54 : decode cX3_weave 54 = .ok (.istore 11, 2) := by decide +kernel
theorem dX3_weave_56 : decode cX3_weave 56 = .ok (.aload_n 0, 1) := by decide +kernel
theorem dX3_weave_57 : decode cX3_weave 57 = .ok (.iload_n 3, 1) := by decide +kernel
theorem dX3_weave_58 : decode cX3_weave 58 = .ok (.iload 7, 2) := by decide +kernel
theorem dX3_weave_60 : decode cX3_weave 60 = .ok (.invokevirtual 67, 3) := by decide +kernel
theorem dX3_weave_63 : decode cX3_weave 63 = .ok (.istore 12, 2) := by decide +kernel
theorem dX3_weave_65 : decode cX3_weave 65 = .ok (.aload_n 0, 1) := by decide +kernel
theorem dX3_weave_66 : decode cX3_weave 66 = .ok (.iload 4, 2) := by decide +kernel
theorem dX3_weave_68 : decode cX3_weave 68 = .ok (.iload 8, 2) := by decide +kernel
theorem dX3_weave_70 : decode cX3_weave 70 = .ok (.invokevirtual 67, 3) := by decide +kernel
theorem dX3_weave_73 : decode cX3_weave 73 = .ok (.istore 13, 2) := by decide +kernel
theorem dX3_weave_75 : decode cX3_weave 75 = .ok (.iload 11, 2) := by decide +kernel
theorem dX3_weave_77 : decode cX3_weave 77 = .ok (.iload 12, 2) := by decide +kernel
theorem dX3_weave_79 : decode cX3_weave 79 = .ok (.if_icmp .gt 29, 3) := by decide +kernel
theorem dX3_weave_82 : decode cX3_weave 82 = .ok (.iload 11, 2) := by decide +kernel
theorem dX3_weave_84 : decode cX3_weave 84 = .ok (.iload 13, 2) := by decide +kernel
theorem dX3_weave_86 : decode cX3_weave 86 = .ok (.if_icmp .gt 22, 3) := by decide +kernel
theorem dX3_weave_89 : decode cX3_weave 89 = .ok (.aload_n 2, 1) := by decide +kernel
theorem dX3_weave_90 : decode cX3_weave 90 = .ok (.iload 11, 2) := by decide +kernel
theorem dX3_weave_92 : decode cX3_weave 92 = .ok (.aload_n 1, 1) := by decide +kernel
theorem dX3_weave_93 : decode cX3_weave 93 = .ok (.iload 6, 2) := by decide +kernel
theorem dX3_weave_95 : decode cX3_weave 95 = .ok (.invokevirtual 70, 3) := by decide +kernel
theorem dX3_weave_98 : decode cX3_weave 98 = .ok (.iconst (-1), 1) := by decide +kernel
theorem dX3_weave_99 : decode cX3_weave 99 = .ok (.invokevirtual 73, 3) := by decide +kernel
theorem dX3_weave_102 : decode cX3_weave 102 = .ok (.iinc 6 1, 3) := by decide +kernel
theorem dX3_weave_105 : decode cX3_weave 105 = .ok (.goto 52, 3) := by decide +kernel
theorem dX3_weave_108 : decode cX3_weave 108 = .ok (.iload 12, 2) := by decide +kernel
theorem dX3_weave_110 : decode cX3_weave 110 = .ok (.iload 13, 2) := by decide +kernel
theorem dX3_weave_112 : decode cX3_weave 112 = .ok (.if_icmp .gt 25, 3) := by decide +kernel
theorem dX3_weave_115 : decode cX3_weave 115 = .ok (.aload_n 2, 1) := by decide +kernel
theorem dX3_weave_116 : decode cX3_weave 116 = .ok (.iload 12, 2) := by decide +kernel
theorem dX3_weave_118 : decode cX3_weave 118 = .ok (.iload_n 3, 1) := by decide +kernel
theorem dX3_weave_119 : decode cX3_weave 119 = .ok (.invokestatic 77, 3) := by decide +kernel
theorem dX3_weave_122 : decode cX3_weave 122 = .ok (.iload 7, 2) := by decide +kernel
theorem dX3_weave_124 : decode cX3_weave 124 = .ok (.invokevirtual 73, 3) := by decide +kernel
theorem dX3_weave_127 : decode cX3_weave 127 = .ok (.iload 7, 2) := by decide +kernel
theorem dX3_weave_129 : decode cX3_weave 129 = .ok (.iload 5, 2) := by decide +kernel
theorem dX3_weave_131 : decode cX3_weave 131 = .ok (.iadd, 1) := by decide +kernel
theorem dX3_weave_132 : decode cX3_weave 132 = .ok (.istore 7, 2) := by decide +kernel
theorem dX3_weave_134 : decode cX3_weave 134 = .ok (.goto 23, 3) := by decide +kernel
theorem dX3_weave_137 : decode cX3_weave 137 = .ok (.aload_n 2, 1) := by decide +kernel
theorem dX3_weave_138 : decode cX3_weave 138 = .ok (.iload 13, 2) := by decide +kernel
theorem dX3_weave_140 : decode cX3_weave 140 = .ok (.iload 4, 2) := by decide +kernel
theorem dX3_weave_142 : decode cX3_weave 142 = .ok (.invokestatic 77, 3) := by decide +kernel
theorem dX3_weave_145 : decode cX3_weave 145 = .ok (.iload 8, 2) := by decide +kernel
theorem dX3_weave_147 : decode cX3_weave 147 = .ok (.invokevirtual 73, 3) := by decide +kernel
theorem dX3_weave_150 : decode cX3_weave 150 = .ok (.iload 8, 2) := by decide +kernel
theorem dX3_weave_152 : decode cX3_weave 152 = .ok (.iload 5, 2) := by decide +kernel
theorem dX3_weave_154 : decode cX3_weave 154 = .ok (.iadd, 1) := by decide +kernel
theorem dX3_weave_155 : decode cX3_weave 155 = .ok (.istore 8, 2) := by decide +kernel
theorem dX3_weave_157 : decode cX3_weave 157 = .ok (.iinc 10 1, 3) := by decide +kernel
theorem dX3_weave_160 : decode cX3_weave 160 = .ok (.goto (-119), 3) := by decide +kernel
theorem dX3_weave_163 : decode cX3_weave 163 = .ok (.return_, 1) := by decide +kernel
theorem dX3_marksIn_0 : decode cX3_marksIn 0 = .ok (.iload_n 1, 1) := by decide +kernel
theorem dX3_marksIn_1 : decode cX3_marksIn 1 = .ok (.iconst (-1), 1) := by decide +kernel
theorem dX3_marksIn_2 : decode cX3_marksIn 2 = .ok (.if_icmp .eq 8, 3) := by decide +kernel
theorem dX3_marksIn_5 : decode cX3_marksIn 5 = .ok (.iload_n 2, 1) := by decide +kernel
theorem dX3_marksIn_6 : decode cX3_marksIn 6 = .ok (.iconst 2, 1) := by decide +kernel
theorem dX3_marksIn_7 : decode cX3_marksIn 7 = .ok (.if_icmp .ge 7, 3) := by decide +kernel
theorem dX3_marksIn_10 : decode cX3_marksIn 10 = .ok (.iconst 0, 1) := by decide +kernel
theorem dX3_marksIn_11 : decode cX3_marksIn 11 = .ok (.goto 14, 3) := by decide +kernel
theorem dX3_marksIn_14 : decode cX3_marksIn 14 = .ok (.aload_n 0, 1) := by decide +kernel
theorem dX3_marksIn_15 : decode cX3_marksIn 15 = .ok (.getfield 11, 3) := by decide +kernel
theorem dX3_marksIn_18 : decode cX3_marksIn 18 = .ok (.iload_n 1, 1) := by decide +kernel
theorem dX3_marksIn_19 : decode cX3_marksIn 19 = .ok (.aaload, 1) := by decide +kernel
theorem dX3_marksIn_20 : decode cX3_marksIn 20 = .ok (.getfield 80, 3) := by decide +kernel
theorem dX3_marksIn_23 : decode cX3_marksIn 23 = .ok (.iload_n 2, 1) := by decide +kernel
theorem dX3_marksIn_24 : decode cX3_marksIn 24 = .ok (.idiv, 1) := by decide +kernel
theorem dX3_marksIn_25 : decode cX3_marksIn 25 = .ok (.ireturn, 1) := by decide +kernel
theorem dX3_keyIn_0 : decode cX3_keyIn 0 = .ok (.iload_n 1, 1) := by decide +kernel
theorem dX3_keyIn_1 : decode cX3_keyIn 1 = .ok (.iconst (-1), 1) := by decide +kernel
theorem dX3_keyIn_2 : decode cX3_keyIn 2 = .ok (.if_icmp .ne 9, 3) := by decide +kernel
theorem dX3_keyIn_5 : decode cX3_keyIn 5 = .ok (.sipush 200, 3) := by decide +kernel
theorem dX3_keyIn_8 : decode cX3_keyIn 8 = .ok (.goto 13, 3) := by decide +kernel
theorem dX3_keyIn_11 : decode cX3_keyIn 11 = .ok (.aload_n 0, 1) := by decide +kernel
theorem dX3_keyIn_12 : decode cX3_keyIn 12 = .ok (.getfield 11, 3) := by decide +kernel
theorem dX3_keyIn_15 : decode cX3_keyIn 15 = .ok (.iload_n 1, 1) := by decide +kernel
theorem dX3_keyIn_16 : decode cX3_keyIn 16 = .ok (.aaload, 1) := by decide +kernel
theorem dX3_keyIn_17 : decode cX3_keyIn 17 = .ok (.iload_n 2, 1) := by decide +kernel
theorem dX3_keyIn_18 : decode cX3_keyIn 18 = .ok (.invokevirtual 81, 3) := by decide +kernel
theorem dX3_keyIn_21 : decode cX3_keyIn 21 = .ok (.ireturn, 1) := by decide +kernel
theorem dX4_init_0 : decode cX4_init 0 = .ok (.aload_n 0, 1) := by decide +kernel
theorem dX4_init_1 : decode cX4_init 1 = .ok (.invokespecial 1, 3) := by decide +kernel
theorem dX4_init_4 : decode cX4_init 4 = .ok (.aload_n 0, 1) := by decide +kernel
theorem dX4_init_5 : decode cX4_init 5 = .ok (.iconst 0, 1) := by decide +kernel
theorem dX4_init_6 : decode cX4_init 6 = .ok (.putfield 7, 3) := by decide +kernel
theorem dX4_init_9 : decode cX4_init 9 = .ok (.aload_n 0, 1) := by decide +kernel
theorem dX4_init_10 : decode cX4_init 10 = .ok (.iconst 0, 1) := by decide +kernel
theorem dX4_init_11 : decode cX4_init 11 = .ok (.putfield 13, 3) := by decide +kernel
theorem dX4_init_14 : decode cX4_init 14 = .ok (.aload_n 0, 1) := by decide +kernel
theorem dX4_init_15 : decode cX4_init 15 = .ok (.iconst 0, 1) := by decide +kernel
theorem dX4_init_16 : decode cX4_init 16 = .ok (.putfield 16, 3) := by decide +kernel
theorem dX4_init_19 : decode cX4_init 19 = .ok (.aload_n 0, 1) := by decide +kernel
theorem dX4_init_20 : decode cX4_init 20 = .ok (.iconst 0, 1) := by decide +kernel
theorem dX4_init_21 : decode cX4_init 21 = .ok (.putfield 20, 3) := by decide +kernel
theorem dX4_init_24 : decode cX4_init 24 = .ok (.aload_n 0, 1) := by decide +kernel
theorem dX4_init_25 : decode cX4_init 25 = .ok (.iconst 0, 1) := by decide +kernel
theorem dX4_init_26 : decode cX4_init 26 = .ok (.putfield 23, 3) := by decide +kernel
theorem dX4_init_29 : decode cX4_init 29 = .ok (.aload_n 0, 1) := by decide +kernel
theorem dX4_init_30 : decode cX4_init 30 = .ok (.iconst 0, 1) := by decide +kernel
theorem dX4_init_31 : decode cX4_init 31 = .ok (.putfield 26, 3) := by decide +kernel
theorem dX4_init_34 : decode cX4_init 34 = .ok (.aload_n 0, 1) := by decide +kernel
theorem dX4_init_35 : decode cX4_init 35 = .ok (.iconst 0, 1) := by decide +kernel
theorem dX4_init_36 : decode cX4_init 36 = .ok (.putfield 29, 3) := by decide +kernel
theorem dX4_init_39 : decode cX4_init 39 = .ok (.aload_n 0, 1) := by decide +kernel
theorem dX4_init_40 : decode cX4_init 40 = .ok (.iconst 0, 1) := by decide +kernel
theorem dX4_init_41 : decode cX4_init 41 = .ok (.putfield 32, 3) := by decide +kernel
theorem dX4_init_44 : decode cX4_init 44 = .ok (.aload_n 0, 1) := by decide +kernel
theorem dX4_init_45 : decode cX4_init 45 = .ok (.iconst 0, 1) := by decide +kernel
theorem dX4_init_46 : decode cX4_init 46 = .ok (.putfield 35, 3) := by decide +kernel
theorem dX4_init_49 : decode cX4_init 49 = .ok (.return_, 1) := by decide +kernel
theorem dX4_copyFrom_0 : decode cX4_copyFrom 0 = .ok (.aload_n 0, 1) := by decide +kernel
theorem dX4_copyFrom_1 : decode cX4_copyFrom 1 = .ok (.aload_n 1, 1) := by decide +kernel
theorem dX4_copyFrom_2 : decode cX4_copyFrom 2 = .ok (.getfield 7, 3) := by decide +kernel
theorem dX4_copyFrom_5 : decode cX4_copyFrom 5 = .ok (.putfield 7, 3) := by decide +kernel
theorem dX4_copyFrom_8 : decode cX4_copyFrom 8 = .ok (.aload_n 0, 1) := by decide +kernel
theorem dX4_copyFrom_9 : decode cX4_copyFrom 9 = .ok (.aload_n 1, 1) := by decide +kernel
theorem dX4_copyFrom_10 : decode cX4_copyFrom 10 = .ok (.getfield 13, 3) := by decide +kernel
theorem dX4_copyFrom_13 : decode cX4_copyFrom 13 = .ok (.putfield 13, 3) := by decide +kernel
theorem dX4_copyFrom_16 : decode cX4_copyFrom 16 = .ok (.aload_n 0, 1) := by decide +kernel
theorem dX4_copyFrom_17 : decode cX4_copyFrom 17 = .ok (.aload_n 1, 1) := by decide +kernel
theorem dX4_copyFrom_18 : decode cX4_copyFrom 18 = .ok (.getfield 16, 3) := by decide +kernel
theorem dX4_copyFrom_21 : decode cX4_copyFrom 21 = .ok (.putfield 16, 3) := by decide +kernel
theorem dX4_copyFrom_24 : decode cX4_copyFrom 24 = .ok (.aload_n 0, 1) := by decide +kernel
theorem dX4_copyFrom_25 : decode cX4_copyFrom 25 = .ok (.aload_n 1, 1) := by decide +kernel
theorem dX4_copyFrom_26 : decode cX4_copyFrom 26 = .ok (.getfield 20, 3) := by decide +kernel
theorem dX4_copyFrom_29 : decode cX4_copyFrom 29 = .ok (.putfield 20, 3) := by decide +kernel
theorem dX4_copyFrom_32 : decode cX4_copyFrom 32 = .ok (.aload_n 0, 1) := by decide +kernel
theorem dX4_copyFrom_33 : decode cX4_copyFrom 33 = .ok (.aload_n 1, 1) := by decide +kernel
theorem dX4_copyFrom_34 : decode cX4_copyFrom 34 = .ok (.getfield 23, 3) := by decide +kernel
theorem dX4_copyFrom_37 : decode cX4_copyFrom 37 = .ok (.putfield 23, 3) := by decide +kernel
theorem dX4_copyFrom_40 : decode cX4_copyFrom 40 = .ok (.aload_n 0, 1) := by decide +kernel
theorem dX4_copyFrom_41 : decode cX4_copyFrom 41 = .ok (.aload_n 1, 1) := by decide +kernel
theorem dX4_copyFrom_42 : decode cX4_copyFrom 42 = .ok (.getfield 26, 3) := by decide +kernel
theorem dX4_copyFrom_45 : decode cX4_copyFrom 45 = .ok (.putfield 26, 3) := by decide +kernel
theorem dX4_copyFrom_48 : decode cX4_copyFrom 48 = .ok (.aload_n 0, 1) := by decide +kernel
theorem dX4_copyFrom_49 : decode cX4_copyFrom 49 = .ok (.aload_n 1, 1) := by decide +kernel
theorem dX4_copyFrom_50 : decode cX4_copyFrom 50 = .ok (.getfield 29, 3) := by decide +kernel
theorem dX4_copyFrom_53 : decode cX4_copyFrom 53 = .ok (.putfield 29, 3) := by decide +kernel
theorem dX4_copyFrom_56 : decode cX4_copyFrom 56 = .ok (.aload_n 0, 1) := by decide +kernel
theorem dX4_copyFrom_57 : decode cX4_copyFrom 57 = .ok (.aload_n 1, 1) := by decide +kernel
theorem dX4_copyFrom_58 : decode cX4_copyFrom 58 = .ok (.getfield 32, 3) := by decide +kernel
theorem dX4_copyFrom_61 : decode cX4_copyFrom 61 = .ok (.putfield 32, 3) := by decide +kernel
theorem dX4_copyFrom_64 : decode cX4_copyFrom 64 = .ok (.aload_n 0, 1) := by decide +kernel
theorem dX4_copyFrom_65 : decode cX4_copyFrom 65 = .ok (.aload_n 1, 1) := by decide +kernel
theorem dX4_copyFrom_66 : decode cX4_copyFrom 66 = .ok (.getfield 35, 3) := by decide +kernel
theorem dX4_copyFrom_69 : decode cX4_copyFrom 69 = .ok (.putfield 35, 3) := by decide +kernel
theorem dX4_copyFrom_72 : decode cX4_copyFrom 72 = .ok (.return_, 1) := by decide +kernel
theorem dX5_init_0 : decode cX5_init 0 = .ok (.aload_n 0, 1) := by decide +kernel
theorem dX5_init_1 : decode cX5_init 1 = .ok (.invokespecial 3, 3) := by decide +kernel
theorem dX5_init_4 : decode cX5_init 4 = .ok (.aload_n 0, 1) := by decide +kernel
theorem dX5_init_5 : decode cX5_init 5 = .ok (.bipush 19, 2) := by decide +kernel
theorem dX5_init_7 : decode cX5_init 7 = .ok (.newarray .int, 2) := by decide +kernel
theorem dX5_init_9 : decode cX5_init 9 = .ok (.putfield 9, 3) := by decide +kernel
theorem dX5_init_12 : decode cX5_init 12 = .ok (.aload_n 0, 1) := by decide +kernel
theorem dX5_init_13 : decode cX5_init 13 = .ok (.bipush 19, 2) := by decide +kernel
theorem dX5_init_15 : decode cX5_init 15 = .ok (.newarray .int, 2) := by decide +kernel
theorem dX5_init_17 : decode cX5_init 17 = .ok (.putfield 15, 3) := by decide +kernel
theorem dX5_init_20 : decode cX5_init 20 = .ok (.aload_n 0, 1) := by decide +kernel
theorem dX5_init_21 : decode cX5_init 21 = .ok (.bipush 19, 2) := by decide +kernel
theorem dX5_init_23 : decode cX5_init 23 = .ok (.newarray .int, 2) := by decide +kernel
theorem dX5_init_25 : decode cX5_init 25 = .ok (.putfield 18, 3) := by decide +kernel
theorem dX5_init_28 : decode cX5_init 28 = .ok (.aload_n 0, 1) := by decide +kernel
theorem dX5_init_29 : decode cX5_init 29 = .ok (.bipush 19, 2) := by decide +kernel
theorem dX5_init_31 : decode cX5_init 31 = .ok (.newarray .int, 2) := by decide +kernel
theorem dX5_init_33 : decode cX5_init 33 = .ok (.putfield 21, 3) := by decide +kernel
theorem dX5_init_36 : decode cX5_init 36 = .ok (.aload_n 0, 1) := by decide +kernel
theorem dX5_init_37 : decode cX5_init 37 = .ok (.iconst 0, 1) := by decide +kernel
theorem dX5_init_38 : decode cX5_init 38 = .ok (.putfield 24, 3) := by decide +kernel
theorem dX5_init_41 : decode cX5_init 41 = .ok (.aload_n 0, 1) := by decide +kernel
theorem dX5_init_42 : decode cX5_init 42 = .ok (.iconst 0, 1) := by decide +kernel
theorem dX5_init_43 : decode cX5_init 43 = .ok (.putfield 28, 3) := by decide +kernel
theorem dX5_init_46 : decode cX5_init 46 = .ok (.return_, 1) := by decide +kernel
theorem dX5_follow_0 : decode cX5_follow 0 = .ok (.aload_n 0, 1) := by decide +kernel
theorem dX5_follow_1 : decode cX5_follow 1 = .ok (.invokevirtual 31, 3) := by decide +kernel
theorem dX5_follow_4 : decode cX5_follow 4 = .ok (.iconst 0, 1) := by decide +kernel
theorem dX5_follow_5 : decode cX5_follow 5 = .ok (.istore 4, 2) := by decide +kernel
theorem dX5_follow_7 : decode cX5_follow 7 = .ok (.iconst 0, 1) := by decide +kernel
theorem dX5_follow_8 : decode cX5_follow 8 = .ok (.istore 5, 2) := by decide +kernel
theorem dX5_follow_10 : decode cX5_follow 10 = .ok (.iload 5, 2) := by decide +kernel
theorem dX5_follow_12 : decode cX5_follow 12 = .ok (.aload_n 1, 1) := by decide +kernel
theorem dX5_follow_13 : decode cX5_follow 13 = .ok (.getfield 34, 3) := by decide +kernel
theorem dX5_follow_16 : decode cX5_follow 16 = .ok (.if_icmp .ge 30, 3) := by decide +kernel
theorem dX5_follow_19 : decode cX5_follow 19 = .ok (.iload 4, 2) := by decide +kernel
theorem dX5_follow_21 : decode cX5_follow 21 = .ok (.ifCond .ne 25, 3) := by decide +kernel
theorem dX5_follow_24 : decode cX5_follow 24 = .ok (.aload_n 0, 1) := by decide +kernel
theorem dX5_follow_25 : decode cX5_follow 25 = .ok (.aload_n 1, 1) := by decide +kernel
theorem dX5_follow_26 : decode cX5_follow 26 = .ok (.aload_n 2, 1) := by decide +kernel
theorem dX5_follow_27 : decode cX5_follow 27 = .ok (.aload_n 1, 1) := by decide +kernel
theorem dX5_follow_28 : decode cX5_follow 28 = .ok (.getfield 39, 3) := by decide +kernel
theorem dX5_follow_31 : decode cX5_follow 31 = .ok (.iload 5, 2) := by decide +kernel
theorem dX5_follow_33 : decode cX5_follow 33 = .ok (.iaload, 1) := by decide +kernel
theorem dX5_follow_34 : decode cX5_follow 34 = .ok (.iload_n 3, 1) := by decide +kernel
theorem dX5_follow_35 : decode cX5_follow 35 = .ok (.invokevirtual 42, 3) := by decide +kernel
theorem dX5_follow_38 : decode cX5_follow 38 = .ok (.istore 4, 2) := by decide +kernel
theorem dX5_follow_40 : decode cX5_follow 40 = .ok (.iinc 5 1, 3) := by decide +kernel
theorem dX5_follow_43 : decode cX5_follow 43 = .ok (.goto (-33), 3) := by decide +kernel
theorem dX5_follow_46 : decode cX5_follow 46 = .ok (.return_, 1) := by decide +kernel
theorem dX5_followAll_0 : decode cX5_followAll 0 = .ok (.aload_n 0, 1) := by decide +kernel
theorem dX5_followAll_1 : decode cX5_followAll 1 = .ok (.invokevirtual 31, 3) := by decide +kernel
theorem dX5_followAll_4 : decode cX5_followAll 4 = .ok (.iconst 0, 1) := by decide +kernel
theorem dX5_followAll_5 : decode cX5_followAll 5 = .ok (.istore 4, 2) := by decide +kernel
theorem dX5_followAll_7 : decode cX5_followAll 7 = .ok (.iload 4, 2) := by decide +kernel
theorem dX5_followAll_9 : decode cX5_followAll 9 = .ok (.aload_n 1, 1) := by decide +kernel
theorem dX5_followAll_10 : decode cX5_followAll 10 = .ok (.getfield 34, 3) := by decide +kernel
theorem dX5_followAll_13 : decode cX5_followAll 13 = .ok (.if_icmp .ge 24, 3) := by decide +kernel
theorem dX5_followAll_16 : decode cX5_followAll 16 = .ok (.aload_n 0, 1) := by decide +kernel
theorem dX5_followAll_17 : decode cX5_followAll 17 = .ok (.aload_n 1, 1) := by decide +kernel
theorem dX5_followAll_18 : decode cX5_followAll 18 = .ok (.aload_n 2, 1) := by decide +kernel
theorem dX5_followAll_19 : decode cX5_followAll 19 = .ok (.aload_n 1, 1) := by decide +kernel
theorem dX5_followAll_20 : decode cX5_followAll 20 = .ok (.getfield 39, 3) := by decide +kernel
theorem dX5_followAll_23 : decode cX5_followAll 23 = .ok (.iload 4, 2) := by decide +kernel
theorem dX5_followAll_25 : decode cX5_followAll 25 = .ok (.iaload, 1) := by decide +kernel
theorem dX5_followAll_26 : decode cX5_followAll 26 = .ok (.iload_n 3, 1) := by decide +kernel
theorem dX5_followAll_27 : decode cX5_followAll 27 = .ok (.invokevirtual 42, 3) := by decide +kernel
theorem dX5_followAll_30 : decode cX5_followAll 30 = .ok (.pop, 1) := by decide +kernel
theorem dX5_followAll_31 : decode cX5_followAll 31 = .ok (.iinc 4 1, 3) := by decide +kernel
theorem dX5_followAll_34 : decode cX5_followAll 34 = .ok (.goto (-27), 3) := by decide +kernel
theorem dX5_followAll_37 : decode cX5_followAll 37 = .ok (.return_, 1) := by decide +kernel
theorem dX5_followPlain_0 : decode cX5_followPlain 0 = .ok (.aload_n 0, 1) := by decide +kernel
theorem dX5_followPlain_1 : decode cX5_followPlain 1 = .ok (.invokevirtual 31, 3) := by decide +kernel
theorem dX5_followPlain_4 : decode cX5_followPlain 4 = .ok (.iconst 0, 1) := by decide +kernel
theorem dX5_followPlain_5 : decode cX5_followPlain 5 = .ok (.istore_n 3, 1) := by decide +kernel
theorem dX5_followPlain_6 : decode cX5_followPlain 6 = .ok (.iconst 0, 1) := by decide +kernel
theorem dX5_followPlain_7 : decode cX5_followPlain 7 = .ok (.istore 4, 2) := by decide +kernel
theorem dX5_followPlain_9 : decode cX5_followPlain 9 = .ok (.iload 4, 2) := by decide +kernel
theorem dX5_followPlain_11 : decode cX5_followPlain 11 = .ok (.aload_n 1, 1) := by decide +kernel
theorem dX5_followPlain_12 : decode cX5_followPlain 12 = .ok (.getfield 34, 3) := by decide +kernel
theorem dX5_followPlain_15 : decode cX5_followPlain 15 = .ok (.if_icmp .ge 90, 3) := by decide +kernel
theorem dX5_followPlain_18 : decode cX5_followPlain 18 = .ok (.iload_n 3, 1) := by decide +kernel
theorem dX5_followPlain_19 : decode cX5_followPlain 19 = .ok (.ifCond .ne 86, 3) := by decide +kernel
theorem dX5_followPlain_22 : decode cX5_followPlain 22 = .ok (.aload_n 1, 1) := by decide +kernel
theorem dX5_followPlain_23 : decode cX5_followPlain 23 = .ok (.getfield 39, 3) := by decide +kernel
theorem dX5_followPlain_26 : decode cX5_followPlain 26 = .ok (.iload 4, 2) := by decide +kernel
theorem dX5_followPlain_28 : decode cX5_followPlain 28 = .ok (.iaload, 1) := by decide +kernel
theorem dX5_followPlain_29 : decode cX5_followPlain 29 = .ok (.istore 5, 2) := by decide +kernel
theorem dX5_followPlain_31 : decode cX5_followPlain 31 = .ok (.aload_n 1, 1) := by decide +kernel
theorem dX5_followPlain_32 : decode cX5_followPlain 32 = .ok (.getfield 46, 3) := by decide +kernel
theorem dX5_followPlain_35 : decode cX5_followPlain 35 = .ok (.iload 5, 2) := by decide +kernel
theorem dX5_followPlain_37 : decode cX5_followPlain 37 = .ok (.aaload, 1) := by decide +kernel
theorem dX5_followPlain_38 : decode cX5_followPlain 38 = .ok (.astore 6, 2) := by decide +kernel
theorem dX5_followPlain_40 : decode cX5_followPlain 40 = .ok (.aload_n 0, 1) := by decide +kernel
theorem dX5_followPlain_41 : decode cX5_followPlain 41 = .ok (.getfield 9, 3) := by decide +kernel
theorem dX5_followPlain_44 : decode cX5_followPlain 44 = .ok (.iload 5, 2) := by decide +kernel
theorem dX5_followPlain_46 : decode cX5_followPlain 46 = .ok (.iconst 0, 1) := by decide +kernel
theorem dX5_followPlain_47 : decode cX5_followPlain 47 = .ok (.iastore, 1) := by decide +kernel
theorem dX5_followPlain_48 : decode cX5_followPlain 48 = .ok (.aload_n 0, 1) := by decide +kernel
theorem dX5_followPlain_49 : decode cX5_followPlain 49 = .ok (.getfield 15, 3) := by decide +kernel
theorem dX5_followPlain_52 : decode cX5_followPlain 52 = .ok (.iload 5, 2) := by decide +kernel
theorem dX5_followPlain_54 : decode cX5_followPlain 54 = .ok (.aload 6, 2) := by decide +kernel
theorem dX5_followPlain_56 : decode cX5_followPlain 56 = .ok (.getfield 50, 3) := by decide +kernel
theorem dX5_followPlain_59 : decode cX5_followPlain 59 = .ok (.iastore, 1) := by decide +kernel
theorem dX5_followPlain_60 : decode cX5_followPlain 60 = .ok (.aload_n 0, 1) := by decide +kernel
theorem dX5_followPlain_61 : decode cX5_followPlain 61 = .ok (.iload 5, 2) := by decide +kernel
theorem dX5_followPlain_63 : decode cX5_followPlain 63 = .ok (.aload 6, 2) := by decide +kernel
theorem dX5_followPlain_65 : decode cX5_followPlain 65 = .ok (.getfield 55, 3) := by decide +kernel
theorem dX5_followPlain_68 : decode cX5_followPlain 68 = .ok (.aload 6, 2) := by decide +kernel
theorem dX5_followPlain_70 : decode cX5_followPlain 70 = .ok (.getfield 50, 3) := by decide +kernel
theorem dX5_followPlain_73 : decode cX5_followPlain 73 = .ok (.iload_n 2, 1) := by decide +kernel
theorem dX5_followPlain_74 : decode cX5_followPlain 74 = .ok (.invokevirtual 58, 3) := by decide +kernel
theorem dX5_followPlain_77 : decode cX5_followPlain 77 = .ok (.aload 6, 2) := by decide +kernel
theorem dX5_followPlain_79 : decode cX5_followPlain 79 = .ok (.aload_n 0, 1) := by decide +kernel
theorem dX5_followPlain_80 : decode cX5_followPlain 80 = .ok (.getfield 18, 3) := by decide +kernel
theorem dX5_followPlain_83 : decode cX5_followPlain 83 = .ok (.iload 5, 2) := by decide +kernel
theorem dX5_followPlain_85 : decode cX5_followPlain 85 = .ok (.iaload, 1) := by decide +kernel
theorem dX5_followPlain_86 : decode cX5_followPlain 86 = .ok (.invokevirtual 62, 3) := by decide +kernel
theorem dX5_followPlain_89 : decode cX5_followPlain 89 = .ok (.iload_n 2, 1) := by decide +kernel
theorem dX5_followPlain_90 : decode cX5_followPlain 90 = .ok (.if_icmp .ne 7, 3) := by decide +kernel
theorem dX5_followPlain_93 : decode cX5_followPlain 93 = .ok (.iconst 1, 1) := by decide +kernel
theorem dX5_followPlain_94 : decode cX5_followPlain 94 = .ok (.goto 4, 3) := by decide +kernel
theorem dX5_followPlain_97 : decode cX5_followPlain 97 = .ok (.iconst 0, 1) := by decide +kernel
theorem dX5_followPlain_98 : decode cX5_followPlain 98 = .ok (.istore_n 3, 1) := by decide +kernel
theorem dX5_followPlain_99 : decode cX5_followPlain 99 = .ok (.iinc 4 1, 3) := by decide +kernel
theorem dX5_followPlain_102 : decode cX5_followPlain 102 = .ok (.goto (-93), 3) := by decide +kernel
theorem dX5_followPlain_105 : decode cX5_followPlain 105 = .ok (.return_, 1) := by decide +kernel
theorem dX5_start_0 : decode cX5_start 0 = .ok (.aload_n 0, 1) := by decide +kernel
theorem dX5_start_1 : decode cX5_start 1 = .ok (.iconst 0, 1) := by decide +kernel
theorem dX5_start_2 : decode cX5_start 2 = .ok (.putfield 24, 3) := by decide +kernel
theorem dX5_start_5 : decode cX5_start 5 = .ok (.aload_n 0, 1) := by decide +kernel
theorem dX5_start_6 : decode cX5_start 6 = .ok (.iconst 0, 1) := by decide +kernel
theorem dX5_start_7 : decode cX5_start 7 = .ok (.putfield 28, 3) := by decide +kernel
theorem dX5_start_10 : decode cX5_start 10 = .ok (.return_, 1) := by decide +kernel
theorem dX5_enter_0 : decode cX5_enter 0 = .ok (.aload_n 2, 1) := by decide +kernel
theorem dX5_enter_1 : decode cX5_enter 1 = .ok (.getfield 66, 3) := by decide +kernel
theorem dX5_enter_4 : decode cX5_enter 4 = .ok (.iload_n 3, 1) := by decide +kernel
theorem dX5_enter_5 : decode cX5_enter 5 = .ok (.aaload, 1) := by decide +kernel
theorem dX5_enter_6 : decode cX5_enter 6 = .ok (.astore 5, 2) := by decide +kernel
theorem dX5_enter_8 : decode cX5_enter 8 = .ok (.aload_n 0, 1) := by decide +kernel
theorem dX5_enter_9 : decode cX5_enter 9 = .ok (.aload_n 1, 1) := by decide +kernel
theorem dX5_enter_10 : decode cX5_enter 10 = .ok (.aload_n 2, 1) := by decide +kernel
theorem dX5_enter_11 : decode cX5_enter 11 = .ok (.iload_n 3, 1) := by decide +kernel
theorem dX5_enter_12 : decode cX5_enter 12 = .ok (.invokevirtual 72, 3) := by decide +kernel
theorem dX5_enter_15 : decode cX5_enter 15 = .ok (.aload_n 0, 1) := by decide +kernel
theorem dX5_enter_16 : decode cX5_enter 16 = .ok (.iload_n 3, 1) := by decide +kernel
theorem dX5_enter_17 : decode cX5_enter 17 = .ok (.aload 5, 2) := by decide +kernel
theorem dX5_enter_19 : decode cX5_enter 19 = .ok (.getfield 76, 3) := by decide +kernel
theorem dX5_enter_22 : decode cX5_enter 22 = .ok (.aload 5, 2) := by decide +kernel
theorem dX5_enter_24 : decode cX5_enter 24 = .ok (.getfield 79, 3) := by decide +kernel
theorem dX5_enter_27 : decode cX5_enter 27 = .ok (.iload 4, 2) := by decide +kernel
theorem dX5_enter_29 : decode cX5_enter 29 = .ok (.invokevirtual 58, 3) := by decide +kernel
theorem dX5_enter_32 : decode cX5_enter 32 = .ok (.aload_n 0, 1) := by decide +kernel
theorem dX5_enter_33 : decode cX5_enter 33 = .ok (.getfield 18, 3) := by decide +kernel
theorem dX5_enter_36 : decode cX5_enter 36 = .ok (.iload_n 3, 1) := by decide +kernel
theorem dX5_enter_37 : decode cX5_enter 37 = .ok (.iaload, 1) := by decide +kernel
theorem dX5_enter_38 : decode cX5_enter 38 = .ok (.istore 6, 2) := by decide +kernel
theorem dX5_enter_40 : decode cX5_enter 40 = .ok (.aload 5, 2) := by decide +kernel
theorem dX5_enter_42 : decode cX5_enter 42 = .ok (.iload 6, 2) := by decide +kernel
theorem dX5_enter_44 : decode cX5_enter 44 = .ok (.invokevirtual 80, 3) := by decide +kernel
theorem dX5_enter_47 : decode cX5_enter 47 = .ok (.iload 4, 2) := by decide +kernel
theorem dX5_enter_49 : decode cX5_enter 49 = .ok (.if_icmp .ne 18, 3) := by decide +kernel
theorem dX5_enter_52 : decode cX5_enter 52 = .ok (.aload 5, 2) := by decide +kernel
theorem dX5_enter_54 : decode cX5_enter 54 = .ok (.iload 6, 2) := by decide +kernel
theorem dX5_enter_56 : decode cX5_enter 56 = .ok (.invokevirtual 81, 3) := by decide +kernel
theorem dX5_enter_59 : decode cX5_enter 59 = .ok (.iconst (-1), 1) := by decide +kernel
theorem dX5_enter_60 : decode cX5_enter 60 = .ok (.if_icmp .ne 7, 3) := by decide +kernel
theorem dX5_enter_63 : decode cX5_enter 63 = .ok (.iconst 1, 1) := by decide +kernel
theorem dX5_enter_64 : decode cX5_enter 64 = .ok (.goto 4, 3) := by decide +kernel
theorem dX5_enter_67 : decode cX5_enter 67 = .ok (.iconst 0, 1) := by decide +kernel
theorem dX5_enter_68 : decode cX5_enter 68 = .ok (.ireturn, 1) := by decide +kernel
theorem dX5_narrow_0 : decode cX5_narrow 0 = .ok (.aload_n 0, 1) := by decide +kernel
theorem dX5_narrow_1 : decode cX5_narrow 1 = .ok (.getfield 9, 3) := by decide +kernel
theorem dX5_narrow_4 : decode cX5_narrow 4 = .ok (.iload_n 3, 1) := by decide +kernel
theorem dX5_narrow_5 : decode cX5_narrow 5 = .ok (.iconst 0, 1) := by decide +kernel
theorem dX5_narrow_6 : decode cX5_narrow 6 = .ok (.iastore, 1) := by decide +kernel
theorem dX5_narrow_7 : decode cX5_narrow 7 = .ok (.aload_n 0, 1) := by decide +kernel
theorem dX5_narrow_8 : decode cX5_narrow 8 = .ok (.getfield 15, 3) := by decide +kernel
theorem dX5_narrow_11 : decode cX5_narrow 11 = .ok (.iload_n 3, 1) := by decide +kernel
theorem dX5_narrow_12 : decode cX5_narrow 12 = .ok (.aload_n 2, 1) := by decide +kernel
theorem dX5_narrow_13 : decode cX5_narrow 13 = .ok (.getfield 66, 3) := by decide +kernel
theorem dX5_narrow_16 : decode cX5_narrow 16 = .ok (.iload_n 3, 1) := by decide +kernel
theorem dX5_narrow_17 : decode cX5_narrow 17 = .ok (.aaload, 1) := by decide +kernel
theorem dX5_narrow_18 : decode cX5_narrow 18 = .ok (.getfield 79, 3) := by decide +kernel
theorem dX5_narrow_21 : decode cX5_narrow 21 = .ok (.iastore, 1) := by decide +kernel
theorem dX5_narrow_22 : decode cX5_narrow 22 = .ok (.getstatic 84, 3) := by decide +kernel
theorem dX5_narrow_25 : decode cX5_narrow 25 = .ok (.iload_n 3, 1) := by decide +kernel
theorem dX5_narrow_26 : decode cX5_narrow 26 = .ok (.iaload, 1) := by decide +kernel
theorem dX5_narrow_27 : decode cX5_narrow 27 = .ok (.istore 4, 2) := by decide +kernel
theorem dX5_narrow_29 : decode cX5_narrow 29 = .ok (.iload 4, 2) := by decide +kernel
theorem dX5_narrow_31 : decode cX5_narrow 31 = .ok (.ifCond .ne 7, 3) := by decide +kernel
theorem dX5_narrow_34 : decode cX5_narrow 34 = .ok (.iconst (-1), 1) := by decide +kernel
theorem dX5_narrow_35 : decode cX5_narrow 35 = .ok (.goto 11, 3) := by decide +kernel
theorem dX5_narrow_38 : decode cX5_narrow 38 = .ok (.aload_n 1, 1) := by decide +kernel
theorem dX5_narrow_39 : decode cX5_narrow 39 = .ok (.iload 4, 2) := by decide +kernel
theorem dX5_narrow_41 : decode cX5_narrow 41 = .ok (.iconst 1, 1) := by decide +kernel
theorem dX5_narrow_42 : decode cX5_narrow 42 = .ok (.isub, 1) := by decide +kernel
theorem dX5_narrow_43 : decode cX5_narrow 43 = .ok (.invokevirtual 87, 3) := by decide +kernel
theorem dX5_narrow_46 : decode cX5_narrow 46 = .ok (.istore 5, 2) := by decide +kernel
theorem dX5_narrow_48 : decode cX5_narrow 48 = .ok (.iload 5, 2) := by decide +kernel
theorem dX5_narrow_50 : decode cX5_narrow 50 = .ok (.iconst (-1), 1) := by decide +kernel
theorem dX5_narrow_51 : decode cX5_narrow 51 = .ok (.if_icmp .eq 99, 3) := by decide +kernel
theorem dX5_narrow_54 : decode cX5_narrow 54 = .ok (.iload_n 3, 1) := by decide +kernel
theorem dX5_narrow_55 : decode cX5_narrow 55 = .ok (.invokestatic 90, 3) := by decide +kernel
theorem dX5_narrow_58 : decode cX5_narrow 58 = .ok (.istore 6, 2) := by decide +kernel
theorem dX5_narrow_60 : decode cX5_narrow 60 = .ok (.aload_n 2, 1) := by decide +kernel
theorem dX5_narrow_61 : decode cX5_narrow 61 = .ok (.getfield 66, 3) := by decide +kernel
theorem dX5_narrow_64 : decode cX5_narrow 64 = .ok (.iload 5, 2) := by decide +kernel
theorem dX5_narrow_66 : decode cX5_narrow 66 = .ok (.aaload, 1) := by decide +kernel
theorem dX5_narrow_67 : decode cX5_narrow 67 = .ok (.iload 6, 2) := by decide +kernel
theorem dX5_narrow_69 : decode cX5_narrow 69 = .ok (.aload_n 0, 1) := by decide +kernel
theorem dX5_narrow_70 : decode cX5_narrow 70 = .ok (.getfield 18, 3) := by decide +kernel
theorem dX5_narrow_73 : decode cX5_narrow 73 = .ok (.iload 5, 2) := by decide +kernel
theorem dX5_narrow_75 : decode cX5_narrow 75 = .ok (.iaload, 1) := by decide +kernel
theorem dX5_narrow_76 : decode cX5_narrow 76 = .ok (.invokevirtual 93, 3) := by decide +kernel
theorem dX5_narrow_79 : decode cX5_narrow 79 = .ok (.istore 7, 2) := by decide +kernel
theorem dX5_narrow_81 : decode cX5_narrow 81 = .ok (.aload_n 2, 1) := by decide +kernel
theorem dX5_narrow_82 : decode cX5_narrow 82 = .ok (.getfield 66, 3) := by decide +kernel
theorem dX5_narrow_85 : decode cX5_narrow 85 = .ok (.iload 5, 2) := by decide +kernel
theorem dX5_narrow_87 : decode cX5_narrow 87 = .ok (.aaload, 1) := by decide +kernel
theorem dX5_narrow_88 : decode cX5_narrow 88 = .ok (.iload 6, 2) := by decide +kernel
theorem dX5_narrow_90 : decode cX5_narrow 90 = .ok (.aload_n 0, 1) := by decide +kernel
theorem dX5_narrow_91 : decode cX5_narrow 91 = .ok (.getfield 18, 3) := by decide +kernel
theorem dX5_narrow_94 : decode cX5_narrow 94 = .ok (.iload 5, 2) := by decide +kernel
theorem dX5_narrow_96 : decode cX5_narrow 96 = .ok (.iaload, 1) := by decide +kernel
theorem dX5_narrow_97 : decode cX5_narrow 97 = .ok (.invokevirtual 97, 3) := by decide +kernel
theorem dX5_narrow_100 : decode cX5_narrow 100 = .ok (.istore 8, 2) := by decide +kernel
theorem dX5_narrow_102 : decode cX5_narrow 102 = .ok (.aload_n 0, 1) := by decide +kernel
theorem dX5_narrow_103 : decode cX5_narrow 103 = .ok (.getfield 9, 3) := by decide +kernel
theorem dX5_narrow_106 : decode cX5_narrow 106 = .ok (.iload_n 3, 1) := by decide +kernel
theorem dX5_narrow_107 : decode cX5_narrow 107 = .ok (.iload 7, 2) := by decide +kernel
theorem dX5_narrow_109 : decode cX5_narrow 109 = .ok (.iconst (-1), 1) := by decide +kernel
theorem dX5_narrow_110 : decode cX5_narrow 110 = .ok (.if_icmp .ne 12, 3) := by decide +kernel
theorem dX5_narrow_113 : decode cX5_narrow 113 = .ok (.aload_n 0, 1) := by decide +kernel
theorem dX5_narrow_114 : decode cX5_narrow 114 = .ok (.getfield 9, 3) := by decide +kernel
theorem dX5_narrow_117 : decode cX5_narrow 117 = .ok (.iload_n 3, 1) := by decide +kernel
theorem dX5_narrow_118 : decode cX5_narrow 118 = .ok (.iaload, 1) := by decide +kernel
theorem dX5_narrow_119 : decode cX5_narrow 119 = .ok (.goto 7, 3) := by decide +kernel
theorem dX5_narrow_122 : decode cX5_narrow 122 = .ok (.iload 7, 2) := by decide +kernel
theorem dX5_narrow_124 : decode cX5_narrow 124 = .ok (.iconst 1, 1) := by decide +kernel
theorem dX5_narrow_125 : decode cX5_narrow 125 = .ok (.iadd, 1) := by decide +kernel
theorem dX5_narrow_126 : decode cX5_narrow 126 = .ok (.iastore, 1) := by decide +kernel
theorem dX5_narrow_127 : decode cX5_narrow 127 = .ok (.aload_n 0, 1) := by decide +kernel
theorem dX5_narrow_128 : decode cX5_narrow 128 = .ok (.getfield 15, 3) := by decide +kernel
theorem dX5_narrow_131 : decode cX5_narrow 131 = .ok (.iload_n 3, 1) := by decide +kernel
theorem dX5_narrow_132 : decode cX5_narrow 132 = .ok (.iload 8, 2) := by decide +kernel
theorem dX5_narrow_134 : decode cX5_narrow 134 = .ok (.iconst (-1), 1) := by decide +kernel
theorem dX5_narrow_135 : decode cX5_narrow 135 = .ok (.if_icmp .ne 12, 3) := by decide +kernel
theorem dX5_narrow_138 : decode cX5_narrow 138 = .ok (.aload_n 0, 1) := by decide +kernel
theorem dX5_narrow_139 : decode cX5_narrow 139 = .ok (.getfield 15, 3) := by decide +kernel
theorem dX5_narrow_142 : decode cX5_narrow 142 = .ok (.iload_n 3, 1) := by decide +kernel
theorem dX5_narrow_143 : decode cX5_narrow 143 = .ok (.iaload, 1) := by decide +kernel
theorem dX5_narrow_144 : decode cX5_narrow 144 = .ok (.goto 5, 3) := by decide +kernel
theorem dX5_narrow_147 : decode cX5_narrow 147 = .ok (.iload 8, 2) := by decide +kernel
theorem dX5_narrow_149 : decode cX5_narrow 149 = .ok (.iastore, 1) := by decide +kernel
theorem dX5_narrow_150 : decode cX5_narrow 150 = .ok (.return_, 1) := by decide +kernel
theorem dX5_halve_0 : decode cX5_halve 0 = .ok (.aload_n 0, 1) := by decide +kernel
theorem dX5_halve_1 : decode cX5_halve 1 = .ok (.getfield 9, 3) := by decide +kernel
theorem dX5_halve_4 : decode cX5_halve 4 = .ok (.iload_n 1, 1) := by decide +kernel
theorem dX5_halve_5 : decode cX5_halve 5 = .ok (.iaload, 1) := by decide +kernel
theorem dX5_halve_6 : decode cX5_halve 6 = .ok (.istore 5, 2) := by decide +kernel
theorem dX5_halve_8 : decode cX5_halve 8 = .ok (.aload_n 0, 1) := by decide +kernel
theorem dX5_halve_9 : decode cX5_halve 9 = .ok (.getfield 15, 3) := by decide +kernel
theorem dX5_halve_12 : decode cX5_halve 12 = .ok (.iload_n 1, 1) := by decide +kernel
theorem dX5_halve_13 : decode cX5_halve 13 = .ok (.iaload, 1) := by decide +kernel
theorem dX5_halve_14 : decode cX5_halve 14 = .ok (.iload_n 3, 1) := by decide +kernel
theorem dX5_halve_15 : decode cX5_halve 15 = .ok (.aload_n 2, 1) := by decide +kernel
theorem dX5_halve_16 : decode cX5_halve 16 = .ok (.arraylength, 1) := by decide +kernel
theorem dX5_halve_17 : decode cX5_halve 17 = .ok (.invokestatic 100, 3) := by decide +kernel
theorem dX5_halve_20 : decode cX5_halve 20 = .ok (.invokestatic 100, 3) := by decide +kernel
theorem dX5_halve_23 : decode cX5_halve 23 = .ok (.istore 6, 2) := by decide +kernel
theorem dX5_halve_25 : decode cX5_halve 25 = .ok (.iconst 0, 1) := by decide +kernel
theorem dX5_halve_26 : decode cX5_halve 26 = .ok (.istore 7, 2) := by decide +kernel
theorem dX5_halve_28 : decode cX5_halve 28 = .ok (.bipush 40, 2) := by decide +kernel
theorem dX5_halve_30 : decode cX5_halve 30 = .ok (.istore 8, 2) := by decide +kernel
theorem dX5_halve_32 : decode cX5_halve 32 = .ok (.iload 8, 2) := by decide +kernel
theorem dX5_halve_34 : decode cX5_halve 34 = .ok (.ifCond .le 50, 3) := by decide +kernel
theorem dX5_halve_37 : decode cX5_halve 37 = .ok (.iload 5, 2) := by decide +kernel
theorem dX5_halve_39 : decode cX5_halve 39 = .ok (.iload 6, 2) := by decide +kernel
theorem dX5_halve_41 : decode cX5_halve 41 = .ok (.if_icmp .ge 43, 3) := by decide +kernel
theorem dX5_halve_44 : decode cX5_halve 44 = .ok (.iload 5, 2) := by decide +kernel
theorem dX5_halve_46 : decode cX5_halve 46 = .ok (.iload 6, 2) := by decide +kernel
theorem dX5_halve_48 : decode cX5_halve 48 = .ok (.iadd, 1) := by decide +kernel
theorem dX5_halve_49 : decode cX5_halve 49 = .ok (.iconst 2, 1) := by decide +kernel
theorem dX5_halve_50 : decode cX5_halve 50 = .ok (.idiv, 1) := by decide +kernel
theorem dX5_halve_51 : decode cX5_halve 51 = .ok (.istore 9, 2) := by decide +kernel
theorem dX5_halve_53 : decode cX5_halve 53 = .ok (.iinc 7 1, 3) := by decide +kernel
theorem dX5_halve_56 : decode cX5_halve 56 = .ok (.aload_n 2, 1) := by decide +kernel
theorem dX5_halve_57 : decode cX5_halve 57 = .ok (.iload 9, 2) := by decide +kernel
theorem dX5_halve_59 : decode cX5_halve 59 = .ok (.iaload, 1) := by decide +kernel
theorem dX5_halve_60 : decode cX5_halve 60 = .ok (.iload 4, 2) := by decide +kernel
theorem dX5_halve_62 : decode cX5_halve 62 = .ok (.if_icmp .ge 12, 3) := by decide +kernel
theorem dX5_halve_65 : decode cX5_halve 65 = .ok (.iload 9, 2) := by decide +kernel
theorem dX5_halve_67 : decode cX5_halve 67 = .ok (.iconst 1, 1) := by decide +kernel
theorem dX5_halve_68 : decode cX5_halve 68 = .ok (.iadd, 1) := by decide +kernel
theorem dX5_halve_69 : decode cX5_halve 69 = .ok (.istore 5, 2) := by decide +kernel
theorem dX5_halve_71 : decode cX5_halve 71 = .ok (.goto 7, 3) := by decide +kernel
theorem dX5_halve_74 : decode cX5_halve 74 = .ok (.iload 9, 2) := by decide +kernel
theorem dX5_halve_76 : decode cX5_halve 76 = .ok (.istore 6, 2) := by decide +kernel
theorem dX5_halve_78 : decode cX5_halve 78 = .ok (.iinc 8 (-1), 3) := by decide +kernel
theorem dX5_halve_81 : decode cX5_halve 81 = .ok (.goto (-49), 3) := by decide +kernel
theorem dX5_halve_84 : decode cX5_halve 84 = .ok (.iload 7, 2) := by decide +kernel
theorem dX5_halve_86 : decode cX5_halve 86 = .ok (.iload 5, 2) := by decide +kernel
theorem dX5_halve_88 : decode cX5_halve 88 = .ok (.iload_n 3, 1) := by decide +kernel
theorem dX5_halve_89 : decode cX5_halve 89 = .ok (.if_icmp .ge 7, 3) := by decide +kernel
theorem dX5_halve_92 : decode cX5_halve 92 = .ok (.iconst 1, 1) := by decide +kernel
theorem dX5_halve_93 : decode cX5_halve 93 = .ok (.goto 4, 3) := by decide +kernel
theorem dX5_halve_96 : decode cX5_halve 96 = .ok (.iconst 0, 1) := by decide +kernel
theorem dX5_halve_97 : decode cX5_halve 97 = .ok (.iadd, 1) := by decide +kernel
theorem dX5_halve_98 : decode cX5_halve 98 = .ok (.istore 7, 2) := by decide +kernel
theorem dX5_halve_100 : decode cX5_halve 100 = .ok (.aload_n 0, 1) := by decide +kernel
theorem dX5_halve_101 : decode cX5_halve 101 = .ok (.getfield 18, 3) := by decide +kernel
theorem dX5_halve_104 : decode cX5_halve 104 = .ok (.iload_n 1, 1) := by decide +kernel
theorem dX5_halve_105 : decode cX5_halve 105 = .ok (.iload 5, 2) := by decide +kernel
theorem dX5_halve_107 : decode cX5_halve 107 = .ok (.iastore, 1) := by decide +kernel
theorem dX5_halve_108 : decode cX5_halve 108 = .ok (.aload_n 0, 1) := by decide +kernel
theorem dX5_halve_109 : decode cX5_halve 109 = .ok (.getfield 21, 3) := by decide +kernel
theorem dX5_halve_112 : decode cX5_halve 112 = .ok (.iload_n 1, 1) := by decide +kernel
theorem dX5_halve_113 : decode cX5_halve 113 = .ok (.iload 7, 2) := by decide +kernel
theorem dX5_halve_115 : decode cX5_halve 115 = .ok (.iastore, 1) := by decide +kernel
theorem dX5_halve_116 : decode cX5_halve 116 = .ok (.aload_n 0, 1) := by decide +kernel
theorem dX5_halve_117 : decode cX5_halve 117 = .ok (.dup, 1) := by decide +kernel
theorem dX5_halve_118 : decode cX5_halve 118 = .ok (.getfield 28, 3) := by decide +kernel
theorem dX5_halve_121 : decode cX5_halve 121 = .ok (.iload 7, 2) := by decide +kernel
theorem dX5_halve_123 : decode cX5_halve 123 = .ok (.iadd, 1) := by decide +kernel
theorem dX5_halve_124 : decode cX5_halve 124 = .ok (.putfield 28, 3) := by decide +kernel
theorem dX5_halve_127 : decode cX5_halve 127 = .ok (.aload_n 0, 1) := by decide +kernel
theorem dX5_halve_128 : decode cX5_halve 128 = .ok (.dup, 1) := by decide +kernel
theorem dX5_halve_129 : decode cX5_halve 129 = .ok (.getfield 24, 3) := by decide +kernel
theorem dX5_halve_132 : decode cX5_halve 132 = .ok (.iconst 1, 1) := by decide +kernel
theorem dX5_halve_133 : decode cX5_halve 133 = .ok (.iadd, 1) := by decide +kernel
theorem dX5_halve_134 : decode cX5_halve 134 = .ok (.putfield 24, 3) := by decide +kernel
theorem dX5_halve_137 : decode cX5_halve 137 = .ok (.return_, 1) := by decide +kernel
theorem dX6_init_0 : decode cX6_init 0 = .ok (.aload_n 0, 1) := by decide +kernel
theorem dX6_init_1 : decode cX6_init 1 = .ok (.invokespecial 3, 3) := by decide +kernel
theorem dX6_init_4 : decode cX6_init 4 = .ok (.aload_n 0, 1) := by decide +kernel
theorem dX6_init_5 : decode cX6_init 5 = .ok (.iconst 0, 1) := by decide +kernel
theorem dX6_init_6 : decode cX6_init 6 = .ok (.putfield 9, 3) := by decide +kernel
theorem dX6_init_9 : decode cX6_init 9 = .ok (.aload_n 0, 1) := by decide +kernel
theorem dX6_init_10 : decode cX6_init 10 = .ok (.iconst 0, 1) := by decide +kernel
theorem dX6_init_11 : decode cX6_init 11 = .ok (.putfield 15, 3) := by decide +kernel
theorem dX6_init_14 : decode cX6_init 14 = .ok (.aload_n 0, 1) := by decide +kernel
theorem dX6_init_15 : decode cX6_init 15 = .ok (.iconst 0, 1) := by decide +kernel
theorem dX6_init_16 : decode cX6_init 16 = .ok (.putfield 18, 3) := by decide +kernel
theorem dX6_init_19 : decode cX6_init 19 = .ok (.aload_n 0, 1) := by decide +kernel
theorem dX6_init_20 : decode cX6_init 20 = .ok (.iconst 0, 1) := by decide +kernel
theorem dX6_init_21 : decode cX6_init 21 = .ok (.putfield 21, 3) := by decide +kernel
theorem dX6_init_24 : decode cX6_init 24 = .ok (.aload_n 0, 1) := by decide +kernel
theorem dX6_init_25 : decode cX6_init 25 = .ok (.iload_n 1, 1) := by decide +kernel
theorem dX6_init_26 : decode cX6_init 26 = .ok (.iconst 0, 1) := by decide +kernel
theorem dX6_init_27 : decode cX6_init 27 = .ok (.invokestatic 24, 3) := by decide +kernel
theorem dX6_init_30 : decode cX6_init 30 = .ok (.newarray .int, 2) := by decide +kernel
theorem dX6_init_32 : decode cX6_init 32 = .ok (.putfield 30, 3) := by decide +kernel
theorem dX6_init_35 : decode cX6_init 35 = .ok (.aload_n 0, 1) := by decide +kernel
theorem dX6_init_36 : decode cX6_init 36 = .ok (.iload_n 1, 1) := by decide +kernel
theorem dX6_init_37 : decode cX6_init 37 = .ok (.iconst 0, 1) := by decide +kernel
theorem dX6_init_38 : decode cX6_init 38 = .ok (.invokestatic 24, 3) := by decide +kernel
theorem dX6_init_41 : decode cX6_init 41 = .ok (.newarray .int, 2) := by decide +kernel
theorem dX6_init_43 : decode cX6_init 43 = .ok (.putfield 34, 3) := by decide +kernel
theorem dX6_init_46 : decode cX6_init 46 = .ok (.return_, 1) := by decide +kernel
theorem dX6_clear_0 : decode cX6_clear 0 = .ok (.aload_n 0, 1) := by decide +kernel
theorem dX6_clear_1 : decode cX6_clear 1 = .ok (.iload_n 1, 1) := by decide +kernel
theorem dX6_clear_2 : decode cX6_clear 2 = .ok (.putfield 9, 3) := by decide +kernel
theorem dX6_clear_5 : decode cX6_clear 5 = .ok (.aload_n 0, 1) := by decide +kernel
theorem dX6_clear_6 : decode cX6_clear 6 = .ok (.iconst 0, 1) := by decide +kernel
theorem dX6_clear_7 : decode cX6_clear 7 = .ok (.putfield 15, 3) := by decide +kernel
theorem dX6_clear_10 : decode cX6_clear 10 = .ok (.aload_n 0, 1) := by decide +kernel
theorem dX6_clear_11 : decode cX6_clear 11 = .ok (.iconst 0, 1) := by decide +kernel
theorem dX6_clear_12 : decode cX6_clear 12 = .ok (.putfield 18, 3) := by decide +kernel
theorem dX6_clear_15 : decode cX6_clear 15 = .ok (.return_, 1) := by decide +kernel
theorem dX6_isShut_0 : decode cX6_isShut 0 = .ok (.aload_n 0, 1) := by decide +kernel
theorem dX6_isShut_1 : decode cX6_isShut 1 = .ok (.getfield 9, 3) := by decide +kernel
theorem dX6_isShut_4 : decode cX6_isShut 4 = .ok (.iconst 2, 1) := by decide +kernel
theorem dX6_isShut_5 : decode cX6_isShut 5 = .ok (.if_icmp .ne 7, 3) := by decide +kernel
theorem dX6_isShut_8 : decode cX6_isShut 8 = .ok (.iconst 1, 1) := by decide +kernel
theorem dX6_isShut_9 : decode cX6_isShut 9 = .ok (.goto 4, 3) := by decide +kernel
theorem dX6_isShut_12 : decode cX6_isShut 12 = .ok (.iconst 0, 1) := by decide +kernel
theorem dX6_isShut_13 : decode cX6_isShut 13 = .ok (.ireturn, 1) := by decide +kernel
theorem dX6_append_0 : decode cX6_append 0 = .ok (.aload_n 0, 1) := by decide +kernel
theorem dX6_append_1 : decode cX6_append 1 = .ok (.getfield 15, 3) := by decide +kernel
theorem dX6_append_4 : decode cX6_append 4 = .ok (.aload_n 0, 1) := by decide +kernel
theorem dX6_append_5 : decode cX6_append 5 = .ok (.getfield 30, 3) := by decide +kernel
theorem dX6_append_8 : decode cX6_append 8 = .ok (.arraylength, 1) := by decide +kernel
theorem dX6_append_9 : decode cX6_append 9 = .ok (.if_icmp .ge 52, 3) := by decide +kernel
theorem dX6_append_12 : decode cX6_append 12 = .ok (.aload_n 0, 1) := by decide +kernel
theorem dX6_append_13 : decode cX6_append 13 = .ok (.getfield 30, 3) := by decide +kernel
theorem dX6_append_16 : decode cX6_append 16 = .ok (.aload_n 0, 1) := by decide +kernel
theorem dX6_append_17 : decode cX6_append 17 = .ok (.getfield 15, 3) := by decide +kernel
theorem dX6_append_20 : decode cX6_append 20 = .ok (.iload_n 1, 1) := by decide +kernel
theorem dX6_append_21 : decode cX6_append 21 = .ok (.iastore, 1) := by decide +kernel
theorem dX6_append_22 : decode cX6_append 22 = .ok (.aload_n 0, 1) := by decide +kernel
theorem dX6_append_23 : decode cX6_append 23 = .ok (.getfield 34, 3) := by decide +kernel
theorem dX6_append_26 : decode cX6_append 26 = .ok (.aload_n 0, 1) := by decide +kernel
theorem dX6_append_27 : decode cX6_append 27 = .ok (.getfield 15, 3) := by decide +kernel
theorem dX6_append_30 : decode cX6_append 30 = .ok (.iload_n 2, 1) := by decide +kernel
theorem dX6_append_31 : decode cX6_append 31 = .ok (.iastore, 1) := by decide +kernel
theorem dX6_append_32 : decode cX6_append 32 = .ok (.aload_n 0, 1) := by decide +kernel
theorem dX6_append_33 : decode cX6_append 33 = .ok (.dup, 1) := by decide +kernel
theorem dX6_append_34 : decode cX6_append 34 = .ok (.getfield 15, 3) := by decide +kernel
theorem dX6_append_37 : decode cX6_append 37 = .ok (.iconst 1, 1) := by decide +kernel
theorem dX6_append_38 : decode cX6_append 38 = .ok (.iadd, 1) := by decide +kernel
theorem dX6_append_39 : decode cX6_append 39 = .ok (.putfield 15, 3) := by decide +kernel
theorem dX6_append_42 : decode cX6_append 42 = .ok (.aload_n 0, 1) := by decide +kernel
theorem dX6_append_43 : decode cX6_append 43 = .ok (.dup, 1) := by decide +kernel
theorem dX6_append_44 : decode cX6_append 44 = .ok (.getfield 18, 3) := by decide +kernel
theorem dX6_append_47 : decode cX6_append 47 = .ok (.iload_n 2, 1) := by decide +kernel
theorem dX6_append_48 : decode cX6_append 48 = .ok (.iconst (-1), 1) := by decide +kernel
theorem dX6_append_49 : decode cX6_append 49 = .ok (.if_icmp .ne 7, 3) := by decide +kernel
theorem dX6_append_52 : decode cX6_append 52 = .ok (.iconst 1, 1) := by decide +kernel
theorem dX6_append_53 : decode cX6_append 53 = .ok (.goto 4, 3) := by decide +kernel
theorem dX6_append_56 : decode cX6_append 56 = .ok (.iconst 0, 1) := by decide +kernel
theorem dX6_append_57 : decode cX6_append 57 = .ok (.iadd, 1) := by decide +kernel
theorem dX6_append_58 : decode cX6_append 58 = .ok (.putfield 18, 3) := by decide +kernel
theorem dX6_append_61 : decode cX6_append 61 = .ok (.return_, 1) := by decide +kernel
theorem dX6_keyAt_0 : decode cX6_keyAt 0 = .ok (.iload_n 1, 1) := by decide +kernel
theorem dX6_keyAt_1 : decode cX6_keyAt 1 = .ok (.ifCond .lt 20, 3) := by decide +kernel
theorem dX6_keyAt_4 : decode cX6_keyAt 4 = .ok (.iload_n 1, 1) := by decide +kernel
theorem dX6_keyAt_5 : decode cX6_keyAt 5 = .ok (.aload_n 0, 1) := by decide +kernel
theorem dX6_keyAt_6 : decode cX6_keyAt 6 = .ok (.getfield 15, 3) := by decide +kernel
theorem dX6_keyAt_9 : decode cX6_keyAt 9 = .ok (.if_icmp .ge 12, 3) := by decide +kernel
theorem dX6_keyAt_12 : decode cX6_keyAt 12 = .ok (.aload_n 0, 1) := by decide +kernel
theorem dX6_keyAt_13 : decode cX6_keyAt 13 = .ok (.getfield 30, 3) := by decide +kernel
theorem dX6_keyAt_16 : decode cX6_keyAt 16 = .ok (.iload_n 1, 1) := by decide +kernel
theorem dX6_keyAt_17 : decode cX6_keyAt 17 = .ok (.iaload, 1) := by decide +kernel
theorem dX6_keyAt_18 : decode cX6_keyAt 18 = .ok (.goto 6, 3) := by decide +kernel
theorem dX6_keyAt_21 : decode cX6_keyAt 21 = .ok (.sipush 200, 3) := by decide +kernel
theorem dX6_keyAt_24 : decode cX6_keyAt 24 = .ok (.ireturn, 1) := by decide +kernel
theorem dX6_valueAt_0 : decode cX6_valueAt 0 = .ok (.iload_n 1, 1) := by decide +kernel
theorem dX6_valueAt_1 : decode cX6_valueAt 1 = .ok (.ifCond .lt 20, 3) := by decide +kernel
theorem dX6_valueAt_4 : decode cX6_valueAt 4 = .ok (.iload_n 1, 1) := by decide +kernel
theorem dX6_valueAt_5 : decode cX6_valueAt 5 = .ok (.aload_n 0, 1) := by decide +kernel
theorem dX6_valueAt_6 : decode cX6_valueAt 6 = .ok (.getfield 15, 3) := by decide +kernel
theorem dX6_valueAt_9 : decode cX6_valueAt 9 = .ok (.if_icmp .ge 12, 3) := by decide +kernel
theorem dX6_valueAt_12 : decode cX6_valueAt 12 = .ok (.aload_n 0, 1) := by decide +kernel
theorem dX6_valueAt_13 : decode cX6_valueAt 13 = .ok (.getfield 34, 3) := by decide +kernel
theorem dX6_valueAt_16 : decode cX6_valueAt 16 = .ok (.iload_n 1, 1) := by decide +kernel
theorem dX6_valueAt_17 : decode cX6_valueAt 17 = .ok (.iaload, 1) := by decide +kernel
theorem dX6_valueAt_18 : decode cX6_valueAt 18 = .ok (.goto 4, 3) := by decide +kernel
theorem dX6_valueAt_21 : decode cX6_valueAt 21 = .ok (.iconst (-1), 1) := by decide +kernel
theorem dX6_valueAt_22 : decode cX6_valueAt 22 = .ok (.ireturn, 1) := by decide +kernel
theorem dX6_placeOf_0 : decode cX6_placeOf 0 = .ok (.iconst 0, 1) := by decide +kernel
theorem dX6_placeOf_1 : decode cX6_placeOf 1 = .ok (.istore_n 2, 1) := by decide +kernel
theorem dX6_placeOf_2 : decode cX6_placeOf 2 = .ok (.aload_n 0, 1) := by decide +kernel
theorem dX6_placeOf_3 : decode cX6_placeOf 3 = .ok (.getfield 15, 3) := by decide +kernel
theorem dX6_placeOf_6 : decode cX6_placeOf 6 = .ok (.istore_n 3, 1) := by decide +kernel
theorem dX6_placeOf_7 : decode cX6_placeOf 7 = .ok (.bipush 40, 2) := by decide +kernel
theorem dX6_placeOf_9 : decode cX6_placeOf 9 = .ok (.istore 4, 2) := by decide +kernel
theorem dX6_placeOf_11 : decode cX6_placeOf 11 = .ok (.iload 4, 2) := by decide +kernel
theorem dX6_placeOf_13 : decode cX6_placeOf 13 = .ok (.ifCond .le 42, 3) := by decide +kernel
theorem dX6_placeOf_16 : decode cX6_placeOf 16 = .ok (.iload_n 2, 1) := by decide +kernel
theorem dX6_placeOf_17 : decode cX6_placeOf 17 = .ok (.iload_n 3, 1) := by decide +kernel
theorem dX6_placeOf_18 : decode cX6_placeOf 18 = .ok (.if_icmp .ge 37, 3) := by decide +kernel
theorem dX6_placeOf_21 : decode cX6_placeOf 21 = .ok (.iload_n 2, 1) := by decide +kernel
theorem dX6_placeOf_22 : decode cX6_placeOf 22 = .ok (.iload_n 3, 1) := by decide +kernel
theorem dX6_placeOf_23 : decode cX6_placeOf 23 = .ok (.iadd, 1) := by decide +kernel
theorem dX6_placeOf_24 : decode cX6_placeOf 24 = .ok (.iconst 2, 1) := by decide +kernel
theorem dX6_placeOf_25 : decode cX6_placeOf 25 = .ok (.idiv, 1) := by decide +kernel
theorem dX6_placeOf_26 : decode cX6_placeOf 26 = .ok (.istore 5, 2) := by decide +kernel
theorem dX6_placeOf_28 : decode cX6_placeOf 28 = .ok (.aload_n 0, 1) := by decide +kernel
theorem dX6_placeOf_29 : decode cX6_placeOf 29 = .ok (.iload 5, 2) := by decide +kernel
theorem dX6_placeOf_31 : decode cX6_placeOf 31 = .ok (.invokevirtual 37, 3) := by decide +kernel
theorem dX6_placeOf_34 : decode cX6_placeOf 34 = .ok (.iload_n 1, 1) := by decide +kernel
theorem dX6_placeOf_35 : decode cX6_placeOf 35 = .ok (.if_icmp .ge 11, 3) := by decide +kernel
theorem dX6_placeOf_38 : decode cX6_placeOf 38 = .ok (.iload 5, 2) := by decide +kernel
theorem dX6_placeOf_40 : decode cX6_placeOf 40 = .ok (.iconst 1, 1) := by decide +kernel
theorem dX6_placeOf_41 : decode cX6_placeOf 41 = .ok (.iadd, 1) := by decide +kernel
theorem dX6_placeOf_42 : decode cX6_placeOf 42 = .ok (.istore_n 2, 1) := by decide +kernel
theorem dX6_placeOf_43 : decode cX6_placeOf 43 = .ok (.goto 6, 3) := by decide +kernel
theorem dX6_placeOf_46 : decode cX6_placeOf 46 = .ok (.iload 5, 2) := by decide +kernel
theorem dX6_placeOf_48 : decode cX6_placeOf 48 = .ok (.istore_n 3, 1) := by decide +kernel
theorem dX6_placeOf_49 : decode cX6_placeOf 49 = .ok (.iinc 4 (-1), 3) := by decide +kernel
theorem dX6_placeOf_52 : decode cX6_placeOf 52 = .ok (.goto (-41), 3) := by decide +kernel
theorem dX6_placeOf_55 : decode cX6_placeOf 55 = .ok (.aload_n 0, 1) := by decide +kernel
theorem dX6_placeOf_56 : decode cX6_placeOf 56 = .ok (.iload_n 2, 1) := by decide +kernel
theorem dX6_placeOf_57 : decode cX6_placeOf 57 = .ok (.invokevirtual 37, 3) := by decide +kernel
theorem dX6_placeOf_60 : decode cX6_placeOf 60 = .ok (.iload_n 1, 1) := by decide +kernel
theorem dX6_placeOf_61 : decode cX6_placeOf 61 = .ok (.if_icmp .ne 7, 3) := by decide +kernel
theorem dX6_placeOf_64 : decode cX6_placeOf 64 = .ok (.iload_n 2, 1) := by decide +kernel
theorem dX6_placeOf_65 : decode cX6_placeOf 65 = .ok (.goto 4, 3) := by decide +kernel
theorem dX6_placeOf_68 : decode cX6_placeOf 68 = .ok (.iconst (-1), 1) := by decide +kernel
theorem dX6_placeOf_69 : decode cX6_placeOf 69 = .ok (.ireturn, 1) := by decide +kernel
theorem dX6_copyFrom_0 : decode cX6_copyFrom 0 = .ok (.aload_n 0, 1) := by decide +kernel
theorem dX6_copyFrom_1 : decode cX6_copyFrom 1 = .ok (.aload_n 1, 1) := by decide +kernel
theorem dX6_copyFrom_2 : decode cX6_copyFrom 2 = .ok (.getfield 9, 3) := by decide +kernel
theorem dX6_copyFrom_5 : decode cX6_copyFrom 5 = .ok (.putfield 9, 3) := by decide +kernel
theorem dX6_copyFrom_8 : decode cX6_copyFrom 8 = .ok (.aload_n 0, 1) := by decide +kernel
theorem dX6_copyFrom_9 : decode cX6_copyFrom 9 = .ok (.aload_n 1, 1) := by decide +kernel
theorem dX6_copyFrom_10 : decode cX6_copyFrom 10 = .ok (.getfield 15, 3) := by decide +kernel
theorem dX6_copyFrom_13 : decode cX6_copyFrom 13 = .ok (.aload_n 0, 1) := by decide +kernel
theorem dX6_copyFrom_14 : decode cX6_copyFrom 14 = .ok (.getfield 30, 3) := by decide +kernel
theorem dX6_copyFrom_17 : decode cX6_copyFrom 17 = .ok (.arraylength, 1) := by decide +kernel
theorem dX6_copyFrom_18 : decode cX6_copyFrom 18 = .ok (.invokestatic 41, 3) := by decide +kernel
theorem dX6_copyFrom_21 : decode cX6_copyFrom 21 = .ok (.putfield 15, 3) := by decide +kernel
theorem dX6_copyFrom_24 : decode cX6_copyFrom 24 = .ok (.aload_n 0, 1) := by decide +kernel
theorem dX6_copyFrom_25 : decode cX6_copyFrom 25 = .ok (.aload_n 1, 1) := by decide +kernel
theorem dX6_copyFrom_26 : decode cX6_copyFrom 26 = .ok (.getfield 18, 3) := by decide +kernel
theorem dX6_copyFrom_29 : decode cX6_copyFrom 29 = .ok (.putfield 18, 3) := by decide +kernel
theorem dX6_copyFrom_32 : decode cX6_copyFrom 32 = .ok (.aload_n 0, 1) := by decide +kernel
theorem dX6_copyFrom_33 : decode cX6_copyFrom 33 = .ok (.aload_n 1, 1) := by decide +kernel
theorem dX6_copyFrom_34 : decode cX6_copyFrom 34 = .ok (.getfield 21, 3) := by decide +kernel
theorem dX6_copyFrom_37 : decode cX6_copyFrom 37 = .ok (.putfield 21, 3) := by decide +kernel
theorem dX6_copyFrom_40 : decode cX6_copyFrom 40 = .ok (.aload_n 1, 1) := by decide +kernel
theorem dX6_copyFrom_41 : decode cX6_copyFrom 41 = .ok (.getfield 30, 3) := by decide +kernel
theorem dX6_copyFrom_44 : decode cX6_copyFrom 44 = .ok (.iconst 0, 1) := by decide +kernel
theorem dX6_copyFrom_45 : decode cX6_copyFrom 45 = .ok (.aload_n 0, 1) := by decide +kernel
theorem dX6_copyFrom_46 : decode cX6_copyFrom 46 = .ok (.getfield 30, 3) := by decide +kernel
theorem dX6_copyFrom_49 : decode cX6_copyFrom 49 = .ok (.iconst 0, 1) := by decide +kernel
theorem dX6_copyFrom_50 : decode cX6_copyFrom 50 = .ok (.aload_n 0, 1) := by decide +kernel
theorem dX6_copyFrom_51 : decode cX6_copyFrom 51 = .ok (.getfield 15, 3) := by decide +kernel
theorem dX6_copyFrom_54 : decode cX6_copyFrom 54 = .ok (.invokestatic 44, 3) := by decide +kernel
theorem dX6_copyFrom_57 : decode cX6_copyFrom 57 = .ok (.aload_n 1, 1) := by decide +kernel
theorem dX6_copyFrom_58 : decode cX6_copyFrom 58 = .ok (.getfield 34, 3) := by decide +kernel
theorem dX6_copyFrom_61 : decode cX6_copyFrom 61 = .ok (.iconst 0, 1) := by decide +kernel
theorem dX6_copyFrom_62 : decode cX6_copyFrom 62 = .ok (.aload_n 0, 1) := by decide +kernel
theorem dX6_copyFrom_63 : decode cX6_copyFrom 63 = .ok (.getfield 34, 3) := by decide +kernel
theorem dX6_copyFrom_66 : decode cX6_copyFrom 66 = .ok (.iconst 0, 1) := by decide +kernel
theorem dX6_copyFrom_67 : decode cX6_copyFrom 67 = .ok (.aload_n 0, 1) := by decide +kernel
theorem dX6_copyFrom_68 : decode cX6_copyFrom 68 = .ok (.getfield 15, 3) := by decide +kernel
theorem dX6_copyFrom_71 : decode cX6_copyFrom 71 = .ok (.invokestatic 44, 3) := by decide +kernel
theorem dX6_copyFrom_74 : decode cX6_copyFrom 74 = .ok (.return_, 1) := by decide +kernel
theorem dX7_init_0 : decode cX7_init 0 = .ok (.aload_n 0, 1) := by decide +kernel
theorem dX7_init_1 : decode cX7_init 1 = .ok (.invokespecial 3, 3) := by decide +kernel
theorem dX7_init_4 : decode cX7_init 4 = .ok (.aload_n 0, 1) := by decide +kernel
theorem dX7_init_5 : decode cX7_init 5 = .ok (.bipush 19, 2) := by decide +kernel
theorem dX7_init_7 : decode cX7_init 7 = .ok (.anewarray 9, 3) := by decide +kernel
theorem dX7_init_10 : decode cX7_init 10 = .ok (.putfield 11, 3) := by decide +kernel
theorem dX7_init_13 : decode cX7_init 13 = .ok (.aload_n 0, 1) := by decide +kernel
theorem dX7_init_14 : decode cX7_init 14 = .ok (.bipush 19, 2) := by decide +kernel
theorem dX7_init_16 : decode cX7_init 16 = .ok (.newarray .int, 2) := by decide +kernel
theorem dX7_init_18 : decode cX7_init 18 = .ok (.putfield 17, 3) := by decide +kernel
theorem dX7_init_21 : decode cX7_init 21 = .ok (.aload_n 0, 1) := by decide +kernel
theorem dX7_init_22 : decode cX7_init 22 = .ok (.iconst 0, 1) := by decide +kernel
theorem dX7_init_23 : decode cX7_init 23 = .ok (.putfield 21, 3) := by decide +kernel
theorem dX7_init_26 : decode cX7_init 26 = .ok (.iconst 0, 1) := by decide +kernel
theorem dX7_init_27 : decode cX7_init 27 = .ok (.istore_n 1, 1) := by decide +kernel
theorem dX7_init_28 : decode cX7_init 28 = .ok (.iload_n 1, 1) := by decide +kernel
theorem dX7_init_29 : decode cX7_init 29 = .ok (.bipush 19, 2) := by decide +kernel
theorem dX7_init_31 : decode cX7_init 31 = .ok (.if_icmp .ge 30, 3) := by decide +kernel
theorem dX7_init_34 : decode cX7_init 34 = .ok (.aload_n 0, 1) := by decide +kernel
theorem dX7_init_35 : decode cX7_init 35 = .ok (.getfield 11, 3) := by decide +kernel
theorem dX7_init_38 : decode cX7_init 38 = .ok (.iload_n 1, 1) := by decide +kernel
theorem dX7_init_39 : decode cX7_init 39 = .ok (.new 9, 3) := by decide +kernel
theorem dX7_init_42 : decode cX7_init 42 = .ok (.dup, 1) := by decide +kernel
theorem dX7_init_43 : decode cX7_init 43 = .ok (.getstatic 25, 3) := by decide +kernel
theorem dX7_init_46 : decode cX7_init 46 = .ok (.iload_n 1, 1) := by decide +kernel
theorem dX7_init_47 : decode cX7_init 47 = .ok (.iaload, 1) := by decide +kernel
theorem dX7_init_48 : decode cX7_init 48 = .ok (.invokestatic 28, 3) := by decide +kernel
theorem dX7_init_51 : decode cX7_init 51 = .ok (.invokespecial 32, 3) := by decide +kernel
theorem dX7_init_54 : decode cX7_init 54 = .ok (.aastore, 1) := by decide +kernel
theorem dX7_init_55 : decode cX7_init 55 = .ok (.iinc 1 1, 3) := by decide +kernel
theorem dX7_init_58 : decode cX7_init 58 = .ok (.goto (-30), 3) := by decide +kernel
theorem dX7_init_61 : decode cX7_init 61 = .ok (.return_, 1) := by decide +kernel
theorem dX7_arrange_0 : decode cX7_arrange 0 = .ok (.aload_n 0, 1) := by decide +kernel
theorem dX7_arrange_1 : decode cX7_arrange 1 = .ok (.iconst 0, 1) := by decide +kernel
theorem dX7_arrange_2 : decode cX7_arrange 2 = .ok (.putfield 21, 3) := by decide +kernel
theorem dX7_arrange_5 : decode cX7_arrange 5 = .ok (.iconst 0, 1) := by decide +kernel
theorem dX7_arrange_6 : decode cX7_arrange 6 = .ok (.istore_n 1, 1) := by decide +kernel
theorem dX7_arrange_7 : decode cX7_arrange 7 = .ok (.iload_n 1, 1) := by decide +kernel
theorem dX7_arrange_8 : decode cX7_arrange 8 = .ok (.bipush 9, 2) := by decide +kernel
theorem dX7_arrange_10 : decode cX7_arrange 10 = .ok (.if_icmp .ge 53, 3) := by decide +kernel
theorem dX7_arrange_13 : decode cX7_arrange 13 = .ok (.aload_n 0, 1) := by decide +kernel
theorem dX7_arrange_14 : decode cX7_arrange 14 = .ok (.getfield 21, 3) := by decide +kernel
theorem dX7_arrange_17 : decode cX7_arrange 17 = .ok (.istore_n 2, 1) := by decide +kernel
theorem dX7_arrange_18 : decode cX7_arrange 18 = .ok (.getstatic 35, 3) := by decide +kernel
theorem dX7_arrange_21 : decode cX7_arrange 21 = .ok (.iload_n 1, 1) := by decide +kernel
theorem dX7_arrange_22 : decode cX7_arrange 22 = .ok (.iaload, 1) := by decide +kernel
theorem dX7_arrange_23 : decode cX7_arrange 23 = .ok (.istore_n 3, 1) := by decide +kernel
theorem dX7_arrange_24 : decode cX7_arrange 24 = .ok (.iload_n 3, 1) := by decide +kernel
theorem dX7_arrange_25 : decode cX7_arrange 25 = .ok (.getstatic 38, 3) := by decide +kernel
theorem dX7_arrange_28 : decode cX7_arrange 28 = .ok (.iload_n 1, 1) := by decide +kernel
theorem dX7_arrange_29 : decode cX7_arrange 29 = .ok (.iaload, 1) := by decide +kernel
theorem dX7_arrange_30 : decode cX7_arrange 30 = .ok (.if_icmp .ge 27, 3) := by decide +kernel
theorem dX7_arrange_33 : decode cX7_arrange 33 = .ok (.aload_n 0, 1) := by decide +kernel
theorem dX7_arrange_34 : decode cX7_arrange 34 = .ok (.getfield 11, 3) := by decide +kernel
theorem dX7_arrange_37 : decode cX7_arrange 37 = .ok (.iload_n 3, 1) := by decide +kernel
theorem dX7_arrange_38 : decode cX7_arrange 38 = .ok (.aaload, 1) := by decide +kernel
theorem dX7_arrange_39 : decode cX7_arrange 39 = .ok (.invokevirtual 41, 3) := by decide +kernel
theorem dX7_arrange_42 : decode cX7_arrange 42 = .ok (.ifCond .eq 9, 3) := by decide +kernel
theorem dX7_arrange_45 : decode cX7_arrange 45 = .ok (.aload_n 0, 1) := by decide +kernel
theorem dX7_arrange_46 : decode cX7_arrange 46 = .ok (.iload_n 3, 1) := by decide +kernel
theorem dX7_arrange_47 : decode cX7_arrange 47 = .ok (.iload_n 2, 1) := by decide +kernel
theorem dX7_arrange_48 : decode cX7_arrange 48 = .ok (.invokevirtual 45, 3) := by decide +kernel
theorem dX7_arrange_51 : decode cX7_arrange 51 = .ok (.iinc 3 1, 3) := by decide +kernel
theorem dX7_arrange_54 : decode cX7_arrange 54 = .ok (.goto (-30), 3) := by decide +kernel
theorem dX7_arrange_57 : decode cX7_arrange 57 = .ok (.iinc 1 1, 3) := by decide +kernel
theorem dX7_arrange_60 : decode cX7_arrange 60 = .ok (.goto (-53), 3) := by decide +kernel
theorem dX7_arrange_63 : decode cX7_arrange 63 = .ok (.aload_n 0, 1) := by decide +kernel
theorem dX7_arrange_64 : decode cX7_arrange 64 = .ok (.getfield 21, 3) := by decide +kernel
theorem dX7_arrange_67 : decode cX7_arrange 67 = .ok (.ireturn, 1) := by decide +kernel
theorem dX7_insert_0 : decode cX7_insert 0 = .ok (.aload_n 0, 1) := by decide +kernel
theorem dX7_insert_1 : decode cX7_insert 1 = .ok (.getfield 21, 3) := by decide +kernel
theorem dX7_insert_4 : decode cX7_insert 4 = .ok (.istore_n 3, 1) := by decide +kernel
theorem dX7_insert_5 : decode cX7_insert 5 = .ok (.iload_n 3, 1) := by decide +kernel
theorem dX7_insert_6 : decode cX7_insert 6 = .ok (.iload_n 2, 1) := by decide +kernel
theorem dX7_insert_7 : decode cX7_insert 7 = .ok (.if_icmp .le 51, 3) := by decide +kernel
theorem dX7_insert_10 : decode cX7_insert 10 = .ok (.aload_n 0, 1) := by decide +kernel
theorem dX7_insert_11 : decode cX7_insert 11 = .ok (.getfield 11, 3) := by decide +kernel
theorem dX7_insert_14 : decode cX7_insert 14 = .ok (.aload_n 0, 1) := by decide +kernel
theorem dX7_insert_15 : decode cX7_insert 15 = .ok (.getfield 17, 3) := by decide +kernel
theorem dX7_insert_18 : decode cX7_insert 18 = .ok (.iload_n 3, 1) := by decide +kernel
theorem dX7_insert_19 : decode cX7_insert 19 = .ok (.iconst 1, 1) := by decide +kernel
theorem dX7_insert_20 : decode cX7_insert 20 = .ok (.isub, 1) := by decide +kernel
theorem dX7_insert_21 : decode cX7_insert 21 = .ok (.iaload, 1) := by decide +kernel
theorem dX7_insert_22 : decode cX7_insert 22 = .ok (.aaload, 1) := by decide +kernel
theorem dX7_insert_23 : decode cX7_insert 23 = .ok (.getfield 49, 3) := by decide +kernel
theorem dX7_insert_26 : decode cX7_insert 26 = .ok (.aload_n 0, 1) := by decide +kernel
theorem dX7_insert_27 : decode cX7_insert 27 = .ok (.getfield 11, 3) := by decide +kernel
theorem dX7_insert_30 : decode cX7_insert 30 = .ok (.iload_n 1, 1) := by decide +kernel
theorem dX7_insert_31 : decode cX7_insert 31 = .ok (.aaload, 1) := by decide +kernel
theorem dX7_insert_32 : decode cX7_insert 32 = .ok (.getfield 49, 3) := by decide +kernel
theorem dX7_insert_35 : decode cX7_insert 35 = .ok (.if_icmp .ge 23, 3) := by decide +kernel
theorem dX7_insert_38 : decode cX7_insert 38 = .ok (.aload_n 0, 1) := by decide +kernel
theorem dX7_insert_39 : decode cX7_insert 39 = .ok (.getfield 17, 3) := by decide +kernel
theorem dX7_insert_42 : decode cX7_insert 42 = .ok (.iload_n 3, 1) := by decide +kernel
theorem dX7_insert_43 : decode cX7_insert 43 = .ok (.aload_n 0, 1) := by decide +kernel
theorem dX7_insert_44 : decode cX7_insert 44 = .ok (.getfield 17, 3) := by decide +kernel
theorem dX7_insert_47 : decode cX7_insert 47 = .ok (.iload_n 3, 1) := by decide +kernel
theorem dX7_insert_48 : decode cX7_insert 48 = .ok (.iconst 1, 1) := by decide +kernel
theorem dX7_insert_49 : decode cX7_insert 49 = .ok (.isub, 1) := by decide +kernel
theorem dX7_insert_50 : decode cX7_insert 50 = .ok (.iaload, 1) := by decide +kernel
theorem dX7_insert_51 : decode cX7_insert 51 = .ok (.iastore, 1) := by decide +kernel
theorem dX7_insert_52 : decode cX7_insert 52 = .ok (.iinc 3 (-1), 3) := by decide +kernel
theorem dX7_insert_55 : decode cX7_insert 55 = .ok (.goto (-50), 3) := by decide +kernel
theorem dX7_insert_58 : decode cX7_insert 58 = .ok (.aload_n 0, 1) := by decide +kernel
theorem dX7_insert_59 : decode cX7_insert 59 = .ok (.getfield 17, 3) := by decide +kernel
theorem dX7_insert_62 : decode cX7_insert 62 = .ok (.iload_n 3, 1) := by decide +kernel
theorem dX7_insert_63 : decode cX7_insert 63 = .ok (.iload_n 1, 1) := by decide +kernel
theorem dX7_insert_64 : decode cX7_insert 64 = .ok (.iastore, 1) := by decide +kernel
theorem dX7_insert_65 : decode cX7_insert 65 = .ok (.aload_n 0, 1) := by decide +kernel
theorem dX7_insert_66 : decode cX7_insert 66 = .ok (.dup, 1) := by decide +kernel
theorem dX7_insert_67 : decode cX7_insert 67 = .ok (.getfield 21, 3) := by decide +kernel
theorem dX7_insert_70 : decode cX7_insert 70 = .ok (.iconst 1, 1) := by decide +kernel
theorem dX7_insert_71 : decode cX7_insert 71 = .ok (.iadd, 1) := by decide +kernel
theorem dX7_insert_72 : decode cX7_insert 72 = .ok (.putfield 21, 3) := by decide +kernel
theorem dX7_insert_75 : decode cX7_insert 75 = .ok (.return_, 1) := by decide +kernel
theorem dX7_leadOf_0 : decode cX7_leadOf 0 = .ok (.aload_n 0, 1) := by decide +kernel
theorem dX7_leadOf_1 : decode cX7_leadOf 1 = .ok (.iload_n 1, 1) := by decide +kernel
theorem dX7_leadOf_2 : decode cX7_leadOf 2 = .ok (.iconst (-1), 1) := by decide +kernel
theorem dX7_leadOf_3 : decode cX7_leadOf 3 = .ok (.invokevirtual 52, 3) := by decide +kernel
theorem dX7_leadOf_6 : decode cX7_leadOf 6 = .ok (.ireturn, 1) := by decide +kernel
theorem dX7_youngestBut_0 : decode cX7_youngestBut 0 = .ok (.iconst (-1), 1) := by decide +kernel
theorem dX7_youngestBut_1 : decode cX7_youngestBut 1 = .ok (.istore_n 3, 1) := by decide +kernel
theorem dX7_youngestBut_2 : decode cX7_youngestBut 2 = .ok (.getstatic 35, 3) := by decide +kernel
theorem dX7_youngestBut_5 : decode cX7_youngestBut 5 = .ok (.iload_n 1, 1) := by decide +kernel
theorem dX7_youngestBut_6 : decode cX7_youngestBut 6 = .ok (.iaload, 1) := by decide +kernel
theorem dX7_youngestBut_7 : decode cX7_youngestBut 7 = .ok (.istore 4, 2) := by decide +kernel
theorem dX7_youngestBut_9 : decode cX7_youngestBut 9 = .ok (.iload 4, 2) := by decide +kernel
theorem dX7_youngestBut_11 : decode cX7_youngestBut 11 = .ok (.getstatic 38, 3) := by decide +kernel
theorem dX7_youngestBut_14 : decode cX7_youngestBut 14 = .ok (.iload_n 1, 1) := by decide +kernel
theorem dX7_youngestBut_15 : decode cX7_youngestBut 15 = .ok (.iaload, 1) := by decide +kernel
theorem dX7_youngestBut_16 : decode cX7_youngestBut 16 = .ok (.if_icmp .ge 59, 3) := by decide +kernel
theorem dX7_youngestBut_19 : decode cX7_youngestBut 19 = .ok (.aload_n 0, 1) := by decide +kernel
theorem dX7_youngestBut_20 : decode cX7_youngestBut 20 = .ok (.getfield 11, 3) := by decide +kernel
theorem dX7_youngestBut_23 : decode cX7_youngestBut 23 = .ok (.iload 4, 2) := by decide +kernel
theorem dX7_youngestBut_25 : decode cX7_youngestBut 25 = .ok (.aaload, 1) := by decide +kernel
theorem dX7_youngestBut_26 : decode cX7_youngestBut 26 = .ok (.getfield 56, 3) := by decide +kernel
theorem dX7_youngestBut_29 : decode cX7_youngestBut 29 = .ok (.iconst 2, 1) := by decide +kernel
theorem dX7_youngestBut_30 : decode cX7_youngestBut 30 = .ok (.if_icmp .ne 39, 3) := by decide +kernel
theorem dX7_youngestBut_33 : decode cX7_youngestBut 33 = .ok (.iload 4, 2) := by decide +kernel
theorem dX7_youngestBut_35 : decode cX7_youngestBut 35 = .ok (.iload_n 2, 1) := by decide +kernel
theorem dX7_youngestBut_36 : decode cX7_youngestBut 36 = .ok (.if_icmp .eq 33, 3) := by decide +kernel
theorem dX7_youngestBut_39 : decode cX7_youngestBut 39 = .ok (.iload_n 3, 1) := by decide +kernel
theorem dX7_youngestBut_40 : decode cX7_youngestBut 40 = .ok (.iconst (-1), 1) := by decide +kernel
theorem dX7_youngestBut_41 : decode cX7_youngestBut 41 = .ok (.if_icmp .eq 25, 3) := by decide +kernel
theorem dX7_youngestBut_44 : decode cX7_youngestBut 44 = .ok (.aload_n 0, 1) := by decide +kernel
theorem dX7_youngestBut_45 : decode cX7_youngestBut 45 = .ok (.getfield 11, 3) := by decide +kernel
theorem dX7_youngestBut_48 : decode cX7_youngestBut 48 = .ok (.iload 4, 2) := by decide +kernel
theorem dX7_youngestBut_50 : decode cX7_youngestBut 50 = .ok (.aaload, 1) := by decide +kernel
theorem dX7_youngestBut_51 : decode cX7_youngestBut 51 = .ok (.getfield 49, 3) := by decide +kernel
theorem dX7_youngestBut_54 : decode cX7_youngestBut 54 = .ok (.aload_n 0, 1) := by decide +kernel
theorem dX7_youngestBut_55 : decode cX7_youngestBut 55 = .ok (.getfield 11, 3) := by decide +kernel
theorem dX7_youngestBut_58 : decode cX7_youngestBut 58 = .ok (.iload_n 3, 1) := by decide +kernel
theorem dX7_youngestBut_59 : decode cX7_youngestBut 59 = .ok (.aaload, 1) := by decide +kernel
theorem dX7_youngestBut_60 : decode cX7_youngestBut 60 = .ok (.getfield 49, 3) := by decide +kernel
theorem dX7_youngestBut_63 : decode cX7_youngestBut 63 = .ok (.if_icmp .le 6, 3) := by decide +kernel
theorem dX7_youngestBut_66 : decode cX7_youngestBut 66 = .ok (.iload 4, 2) := by decide +kernel
theorem dX7_youngestBut_68 : decode cX7_youngestBut 68 = .ok (.istore_n 3, 1) := by decide +kernel
theorem dX7_youngestBut_69 : decode cX7_youngestBut 69 = .ok (.iinc 4 1, 3) := by decide +kernel
theorem dX7_youngestBut_72 : decode cX7_youngestBut 72 = .ok (.goto (-63), 3) := by decide +kernel
theorem dX7_youngestBut_75 : decode cX7_youngestBut 75 = .ok (.iload_n 3, 1) := by decide +kernel
theorem dX7_youngestBut_76 : decode cX7_youngestBut 76 = .ok (.ireturn, 1) := by decide +kernel
theorem dX7_shutOf_0 : decode cX7_shutOf 0 = .ok (.iconst 0, 1) := by decide +kernel
theorem dX7_shutOf_1 : decode cX7_shutOf 1 = .ok (.istore_n 2, 1) := by decide +kernel
theorem dX7_shutOf_2 : decode cX7_shutOf 2 = .ok (.getstatic 35, 3) := by decide +kernel
theorem dX7_shutOf_5 : decode cX7_shutOf 5 = .ok (.iload_n 1, 1) := by decide +kernel
theorem dX7_shutOf_6 : decode cX7_shutOf 6 = .ok (.iaload, 1) := by decide +kernel
theorem dX7_shutOf_7 : decode cX7_shutOf 7 = .ok (.istore_n 3, 1) := by decide +kernel
theorem dX7_shutOf_8 : decode cX7_shutOf 8 = .ok (.iload_n 3, 1) := by decide +kernel
theorem dX7_shutOf_9 : decode cX7_shutOf 9 = .ok (.getstatic 38, 3) := by decide +kernel
theorem dX7_shutOf_12 : decode cX7_shutOf 12 = .ok (.iload_n 1, 1) := by decide +kernel
theorem dX7_shutOf_13 : decode cX7_shutOf 13 = .ok (.iaload, 1) := by decide +kernel
theorem dX7_shutOf_14 : decode cX7_shutOf 14 = .ok (.if_icmp .ge 30, 3) := by decide +kernel
theorem dX7_shutOf_17 : decode cX7_shutOf 17 = .ok (.iload_n 2, 1) := by decide +kernel
theorem dX7_shutOf_18 : decode cX7_shutOf 18 = .ok (.aload_n 0, 1) := by decide +kernel
theorem dX7_shutOf_19 : decode cX7_shutOf 19 = .ok (.getfield 11, 3) := by decide +kernel
theorem dX7_shutOf_22 : decode cX7_shutOf 22 = .ok (.iload_n 3, 1) := by decide +kernel
theorem dX7_shutOf_23 : decode cX7_shutOf 23 = .ok (.aaload, 1) := by decide +kernel
theorem dX7_shutOf_24 : decode cX7_shutOf 24 = .ok (.getfield 56, 3) := by decide +kernel
theorem dX7_shutOf_27 : decode cX7_shutOf 27 = .ok (.iconst 2, 1) := by decide +kernel
theorem dX7_shutOf_28 : decode cX7_shutOf 28 = .ok (.if_icmp .ne 7, 3) := by decide +kernel
theorem dX7_shutOf_31 : decode cX7_shutOf 31 = .ok (.iconst 1, 1) := by decide +kernel
theorem dX7_shutOf_32 : decode cX7_shutOf 32 = .ok (.goto 4, 3) := by decide +kernel
theorem dX7_shutOf_35 : decode cX7_shutOf 35 = .ok (.iconst 0, 1) := by decide +kernel
theorem dX7_shutOf_36 : decode cX7_shutOf 36 = .ok (.iadd, 1) := by decide +kernel
theorem dX7_shutOf_37 : decode cX7_shutOf 37 = .ok (.istore_n 2, 1) := by decide +kernel
theorem dX7_shutOf_38 : decode cX7_shutOf 38 = .ok (.iinc 3 1, 3) := by decide +kernel
theorem dX7_shutOf_41 : decode cX7_shutOf 41 = .ok (.goto (-33), 3) := by decide +kernel
theorem dX7_shutOf_44 : decode cX7_shutOf 44 = .ok (.iload_n 2, 1) := by decide +kernel
theorem dX7_shutOf_45 : decode cX7_shutOf 45 = .ok (.ireturn, 1) := by decide +kernel
theorem dX7_thingsOf_0 : decode cX7_thingsOf 0 = .ok (.iconst 0, 1) := by decide +kernel
theorem dX7_thingsOf_1 : decode cX7_thingsOf 1 = .ok (.istore_n 2, 1) := by decide +kernel
theorem dX7_thingsOf_2 : decode cX7_thingsOf 2 = .ok (.getstatic 35, 3) := by decide +kernel
theorem dX7_thingsOf_5 : decode cX7_thingsOf 5 = .ok (.iload_n 1, 1) := by decide +kernel
theorem dX7_thingsOf_6 : decode cX7_thingsOf 6 = .ok (.iaload, 1) := by decide +kernel
theorem dX7_thingsOf_7 : decode cX7_thingsOf 7 = .ok (.istore_n 3, 1) := by decide +kernel
theorem dX7_thingsOf_8 : decode cX7_thingsOf 8 = .ok (.iload_n 3, 1) := by decide +kernel
theorem dX7_thingsOf_9 : decode cX7_thingsOf 9 = .ok (.getstatic 38, 3) := by decide +kernel
theorem dX7_thingsOf_12 : decode cX7_thingsOf 12 = .ok (.iload_n 1, 1) := by decide +kernel
theorem dX7_thingsOf_13 : decode cX7_thingsOf 13 = .ok (.iaload, 1) := by decide +kernel
theorem dX7_thingsOf_14 : decode cX7_thingsOf 14 = .ok (.if_icmp .ge 37, 3) := by decide +kernel
theorem dX7_thingsOf_17 : decode cX7_thingsOf 17 = .ok (.iload_n 2, 1) := by decide +kernel
theorem dX7_thingsOf_18 : decode cX7_thingsOf 18 = .ok (.aload_n 0, 1) := by decide +kernel
theorem dX7_thingsOf_19 : decode cX7_thingsOf 19 = .ok (.getfield 11, 3) := by decide +kernel
theorem dX7_thingsOf_22 : decode cX7_thingsOf 22 = .ok (.iload_n 3, 1) := by decide +kernel
theorem dX7_thingsOf_23 : decode cX7_thingsOf 23 = .ok (.aaload, 1) := by decide +kernel
theorem dX7_thingsOf_24 : decode cX7_thingsOf 24 = .ok (.invokevirtual 41, 3) := by decide +kernel
theorem dX7_thingsOf_27 : decode cX7_thingsOf 27 = .ok (.ifCond .eq 15, 3) := by decide +kernel
theorem dX7_thingsOf_30 : decode cX7_thingsOf 30 = .ok (.aload_n 0, 1) := by decide +kernel
theorem dX7_thingsOf_31 : decode cX7_thingsOf 31 = .ok (.getfield 11, 3) := by decide +kernel
theorem dX7_thingsOf_34 : decode cX7_thingsOf 34 = .ok (.iload_n 3, 1) := by decide +kernel
theorem dX7_thingsOf_35 : decode cX7_thingsOf 35 = .ok (.aaload, 1) := by decide +kernel
theorem dX7_thingsOf_36 : decode cX7_thingsOf 36 = .ok (.getfield 59, 3) := by decide +kernel
theorem dX7_thingsOf_39 : decode cX7_thingsOf 39 = .ok (.goto 4, 3) := by decide +kernel
theorem dX7_thingsOf_42 : decode cX7_thingsOf 42 = .ok (.iconst 0, 1) := by decide +kernel
theorem dX7_thingsOf_43 : decode cX7_thingsOf 43 = .ok (.iadd, 1) := by decide +kernel
theorem dX7_thingsOf_44 : decode cX7_thingsOf 44 = .ok (.istore_n 2, 1) := by decide +kernel
theorem dX7_thingsOf_45 : decode cX7_thingsOf 45 = .ok (.iinc 3 1, 3) := by decide +kernel
theorem dX7_thingsOf_48 : decode cX7_thingsOf 48 = .ok (.goto (-40), 3) := by decide +kernel
theorem dX7_thingsOf_51 : decode cX7_thingsOf 51 = .ok (.iload_n 2, 1) := by decide +kernel
theorem dX7_thingsOf_52 : decode cX7_thingsOf 52 = .ok (.ireturn, 1) := by decide +kernel
theorem dX7_things_0 : decode cX7_things 0 = .ok (.iconst 0, 1) := by decide +kernel
theorem dX7_things_1 : decode cX7_things 1 = .ok (.istore_n 1, 1) := by decide +kernel
theorem dX7_things_2 : decode cX7_things 2 = .ok (.iconst 0, 1) := by decide +kernel
theorem dX7_things_3 : decode cX7_things 3 = .ok (.istore_n 2, 1) := by decide +kernel
theorem dX7_things_4 : decode cX7_things 4 = .ok (.iload_n 2, 1) := by decide +kernel
theorem dX7_things_5 : decode cX7_things 5 = .ok (.bipush 9, 2) := by decide +kernel
theorem dX7_things_7 : decode cX7_things 7 = .ok (.if_icmp .ge 17, 3) := by decide +kernel
theorem dX7_things_10 : decode cX7_things 10 = .ok (.iload_n 1, 1) := by decide +kernel
theorem dX7_things_11 : decode cX7_things 11 = .ok (.aload_n 0, 1) := by decide +kernel
theorem dX7_things_12 : decode cX7_things 12 = .ok (.iload_n 2, 1) := by decide +kernel
theorem dX7_things_13 : decode cX7_things 13 = .ok (.invokevirtual 62, 3) := by decide +kernel
theorem dX7_things_16 : decode cX7_things 16 = .ok (.iadd, 1) := by decide +kernel
theorem dX7_things_17 : decode cX7_things 17 = .ok (.istore_n 1, 1) := by decide +kernel
theorem dX7_things_18 : decode cX7_things 18 = .ok (.iinc 2 1, 3) := by decide +kernel
theorem dX7_things_21 : decode cX7_things 21 = .ok (.goto (-17), 3) := by decide +kernel
theorem dX7_things_24 : decode cX7_things 24 = .ok (.iload_n 1, 1) := by decide +kernel
theorem dX7_things_25 : decode cX7_things 25 = .ok (.ireturn, 1) := by decide +kernel
theorem dX7_deepest_0 : decode cX7_deepest 0 = .ok (.iconst (-1), 1) := by decide +kernel
theorem dX7_deepest_1 : decode cX7_deepest 1 = .ok (.istore_n 1, 1) := by decide +kernel
theorem dX7_deepest_2 : decode cX7_deepest 2 = .ok (.iconst 0, 1) := by decide +kernel
theorem dX7_deepest_3 : decode cX7_deepest 3 = .ok (.istore_n 2, 1) := by decide +kernel
theorem dX7_deepest_4 : decode cX7_deepest 4 = .ok (.iload_n 2, 1) := by decide +kernel
theorem dX7_deepest_5 : decode cX7_deepest 5 = .ok (.bipush 9, 2) := by decide +kernel
theorem dX7_deepest_7 : decode cX7_deepest 7 = .ok (.if_icmp .ge 19, 3) := by decide +kernel
theorem dX7_deepest_10 : decode cX7_deepest 10 = .ok (.aload_n 0, 1) := by decide +kernel
theorem dX7_deepest_11 : decode cX7_deepest 11 = .ok (.iload_n 2, 1) := by decide +kernel
theorem dX7_deepest_12 : decode cX7_deepest 12 = .ok (.invokevirtual 65, 3) := by decide +kernel
theorem dX7_deepest_15 : decode cX7_deepest 15 = .ok (.ifCond .le 5, 3) := by decide +kernel
theorem dX7_deepest_18 : decode cX7_deepest 18 = .ok (.iload_n 2, 1) := by decide +kernel
theorem dX7_deepest_19 : decode cX7_deepest 19 = .ok (.istore_n 1, 1) := by decide +kernel
theorem dX7_deepest_20 : decode cX7_deepest 20 = .ok (.iinc 2 1, 3) := by decide +kernel
theorem dX7_deepest_23 : decode cX7_deepest 23 = .ok (.goto (-19), 3) := by decide +kernel
theorem dX7_deepest_26 : decode cX7_deepest 26 = .ok (.iload_n 1, 1) := by decide +kernel
theorem dX7_deepest_27 : decode cX7_deepest 27 = .ok (.ireturn, 1) := by decide +kernel
theorem dX7_nothingBehind_0 : decode cX7_nothingBehind 0 = .ok (.getstatic 38, 3) := by decide +kernel
theorem dX7_nothingBehind_3 : decode cX7_nothingBehind 3 = .ok (.iload_n 1, 1) := by decide +kernel
theorem dX7_nothingBehind_4 : decode cX7_nothingBehind 4 = .ok (.iaload, 1) := by decide +kernel
theorem dX7_nothingBehind_5 : decode cX7_nothingBehind 5 = .ok (.istore_n 2, 1) := by decide +kernel
theorem dX7_nothingBehind_6 : decode cX7_nothingBehind 6 = .ok (.iload_n 2, 1) := by decide +kernel
theorem dX7_nothingBehind_7 : decode cX7_nothingBehind 7 = .ok (.bipush 19, 2) := by decide +kernel
theorem dX7_nothingBehind_9 : decode cX7_nothingBehind 9 = .ok (.if_icmp .ge 24, 3) := by decide +kernel
theorem dX7_nothingBehind_12 : decode cX7_nothingBehind 12 = .ok (.aload_n 0, 1) := by decide +kernel
theorem dX7_nothingBehind_13 : decode cX7_nothingBehind 13 = .ok (.getfield 11, 3) := by decide +kernel
theorem dX7_nothingBehind_16 : decode cX7_nothingBehind 16 = .ok (.iload_n 2, 1) := by decide +kernel
theorem dX7_nothingBehind_17 : decode cX7_nothingBehind 17 = .ok (.aaload, 1) := by decide +kernel
theorem dX7_nothingBehind_18 : decode cX7_nothingBehind 18 = .ok (.getfield 56, 3) := by decide +kernel
theorem dX7_nothingBehind_21 : decode cX7_nothingBehind 21 = .ok (.iconst 2, 1) := by decide +kernel
theorem dX7_nothingBehind_22 : decode cX7_nothingBehind 22 = .ok (.if_icmp .ne 5, 3) := by decide +kernel
theorem dX7_nothingBehind_25 : decode cX7_nothingBehind 25 = .ok (.iconst 0, 1) := by decide +kernel
theorem dX7_nothingBehind_26 : decode cX7_nothingBehind 26 = .ok (.ireturn, 1) := by decide +kernel
theorem dX7_nothingBehind_27 : decode cX7_nothingBehind 27 = .ok (.iinc 2 1, 3) := by decide +kernel
theorem dX7_nothingBehind_30 : decode cX7_nothingBehind 30 = .ok (.goto (-24), 3) := by decide +kernel
theorem dX7_nothingBehind_33 : decode cX7_nothingBehind 33 = .ok (.iconst 1, 1) := by decide +kernel
theorem dX7_nothingBehind_34 : decode cX7_nothingBehind 34 = .ok (.ireturn, 1) := by decide +kernel
theorem dX7_firstFree_0 : decode cX7_firstFree 0 = .ok (.getstatic 35, 3) := by decide +kernel
theorem dX7_firstFree_3 : decode cX7_firstFree 3 = .ok (.iload_n 1, 1) := by decide +kernel
theorem dX7_firstFree_4 : decode cX7_firstFree 4 = .ok (.iaload, 1) := by decide +kernel
theorem dX7_firstFree_5 : decode cX7_firstFree 5 = .ok (.istore_n 2, 1) := by decide +kernel
theorem dX7_firstFree_6 : decode cX7_firstFree 6 = .ok (.iload_n 2, 1) := by decide +kernel
theorem dX7_firstFree_7 : decode cX7_firstFree 7 = .ok (.getstatic 38, 3) := by decide +kernel
theorem dX7_firstFree_10 : decode cX7_firstFree 10 = .ok (.iload_n 1, 1) := by decide +kernel
theorem dX7_firstFree_11 : decode cX7_firstFree 11 = .ok (.iaload, 1) := by decide +kernel
theorem dX7_firstFree_12 : decode cX7_firstFree 12 = .ok (.if_icmp .ge 23, 3) := by decide +kernel
theorem dX7_firstFree_15 : decode cX7_firstFree 15 = .ok (.aload_n 0, 1) := by decide +kernel
theorem dX7_firstFree_16 : decode cX7_firstFree 16 = .ok (.getfield 11, 3) := by decide +kernel
theorem dX7_firstFree_19 : decode cX7_firstFree 19 = .ok (.iload_n 2, 1) := by decide +kernel
theorem dX7_firstFree_20 : decode cX7_firstFree 20 = .ok (.aaload, 1) := by decide +kernel
theorem dX7_firstFree_21 : decode cX7_firstFree 21 = .ok (.getfield 56, 3) := by decide +kernel
theorem dX7_firstFree_24 : decode cX7_firstFree 24 = .ok (.ifCond .ne 5, 3) := by decide +kernel
theorem dX7_firstFree_27 : decode cX7_firstFree 27 = .ok (.iload_n 2, 1) := by decide +kernel
theorem dX7_firstFree_28 : decode cX7_firstFree 28 = .ok (.ireturn, 1) := by decide +kernel
theorem dX7_firstFree_29 : decode cX7_firstFree 29 = .ok (.iinc 2 1, 3) := by decide +kernel
theorem dX7_firstFree_32 : decode cX7_firstFree 32 = .ok (.goto (-26), 3) := by decide +kernel
theorem dX7_firstFree_35 : decode cX7_firstFree 35 = .ok (.iconst (-1), 1) := by decide +kernel
theorem dX7_firstFree_36 : decode cX7_firstFree 36 = .ok (.ireturn, 1) := by decide +kernel
theorem dX7_firstWith_0 : decode cX7_firstWith 0 = .ok (.iconst 0, 1) := by decide +kernel
theorem dX7_firstWith_1 : decode cX7_firstWith 1 = .ok (.istore_n 2, 1) := by decide +kernel
theorem dX7_firstWith_2 : decode cX7_firstWith 2 = .ok (.iload_n 2, 1) := by decide +kernel
theorem dX7_firstWith_3 : decode cX7_firstWith 3 = .ok (.aload_n 0, 1) := by decide +kernel
theorem dX7_firstWith_4 : decode cX7_firstWith 4 = .ok (.getfield 21, 3) := by decide +kernel
theorem dX7_firstWith_7 : decode cX7_firstWith 7 = .ok (.if_icmp .ge 35, 3) := by decide +kernel
theorem dX7_firstWith_10 : decode cX7_firstWith 10 = .ok (.aload_n 0, 1) := by decide +kernel
theorem dX7_firstWith_11 : decode cX7_firstWith 11 = .ok (.getfield 11, 3) := by decide +kernel
theorem dX7_firstWith_14 : decode cX7_firstWith 14 = .ok (.aload_n 0, 1) := by decide +kernel
theorem dX7_firstWith_15 : decode cX7_firstWith 15 = .ok (.getfield 17, 3) := by decide +kernel
theorem dX7_firstWith_18 : decode cX7_firstWith 18 = .ok (.iload_n 2, 1) := by decide +kernel
theorem dX7_firstWith_19 : decode cX7_firstWith 19 = .ok (.iaload, 1) := by decide +kernel
theorem dX7_firstWith_20 : decode cX7_firstWith 20 = .ok (.aaload, 1) := by decide +kernel
theorem dX7_firstWith_21 : decode cX7_firstWith 21 = .ok (.iload_n 1, 1) := by decide +kernel
theorem dX7_firstWith_22 : decode cX7_firstWith 22 = .ok (.invokevirtual 68, 3) := by decide +kernel
theorem dX7_firstWith_25 : decode cX7_firstWith 25 = .ok (.iconst (-1), 1) := by decide +kernel
theorem dX7_firstWith_26 : decode cX7_firstWith 26 = .ok (.if_icmp .eq 10, 3) := by decide +kernel
theorem dX7_firstWith_29 : decode cX7_firstWith 29 = .ok (.aload_n 0, 1) := by decide +kernel
theorem dX7_firstWith_30 : decode cX7_firstWith 30 = .ok (.getfield 17, 3) := by decide +kernel
theorem dX7_firstWith_33 : decode cX7_firstWith 33 = .ok (.iload_n 2, 1) := by decide +kernel
theorem dX7_firstWith_34 : decode cX7_firstWith 34 = .ok (.iaload, 1) := by decide +kernel
theorem dX7_firstWith_35 : decode cX7_firstWith 35 = .ok (.ireturn, 1) := by decide +kernel
theorem dX7_firstWith_36 : decode cX7_firstWith 36 = .ok (.iinc 2 1, 3) := by decide +kernel
theorem dX7_firstWith_39 : decode cX7_firstWith 39 = .ok (.goto (-37), 3) := by decide +kernel
theorem dX7_firstWith_42 : decode cX7_firstWith 42 = .ok (.iconst (-1), 1) := by decide +kernel
theorem dX7_firstWith_43 : decode cX7_firstWith 43 = .ok (.ireturn, 1) := by decide +kernel
theorem dX7_rowsWith_0 : decode cX7_rowsWith 0 = .ok (.iconst 0, 1) := by decide +kernel
theorem dX7_rowsWith_1 : decode cX7_rowsWith 1 = .ok (.istore_n 2, 1) := by decide +kernel
theorem dX7_rowsWith_2 : decode cX7_rowsWith 2 = .ok (.iconst 0, 1) := by decide +kernel
theorem dX7_rowsWith_3 : decode cX7_rowsWith 3 = .ok (.istore_n 3, 1) := by decide +kernel
theorem dX7_rowsWith_4 : decode cX7_rowsWith 4 = .ok (.iload_n 3, 1) := by decide +kernel
theorem dX7_rowsWith_5 : decode cX7_rowsWith 5 = .ok (.aload_n 0, 1) := by decide +kernel
theorem dX7_rowsWith_6 : decode cX7_rowsWith 6 = .ok (.getfield 21, 3) := by decide +kernel
theorem dX7_rowsWith_9 : decode cX7_rowsWith 9 = .ok (.if_icmp .ge 36, 3) := by decide +kernel
theorem dX7_rowsWith_12 : decode cX7_rowsWith 12 = .ok (.iload_n 2, 1) := by decide +kernel
theorem dX7_rowsWith_13 : decode cX7_rowsWith 13 = .ok (.aload_n 0, 1) := by decide +kernel
theorem dX7_rowsWith_14 : decode cX7_rowsWith 14 = .ok (.getfield 11, 3) := by decide +kernel
theorem dX7_rowsWith_17 : decode cX7_rowsWith 17 = .ok (.aload_n 0, 1) := by decide +kernel
theorem dX7_rowsWith_18 : decode cX7_rowsWith 18 = .ok (.getfield 17, 3) := by decide +kernel
theorem dX7_rowsWith_21 : decode cX7_rowsWith 21 = .ok (.iload_n 3, 1) := by decide +kernel
theorem dX7_rowsWith_22 : decode cX7_rowsWith 22 = .ok (.iaload, 1) := by decide +kernel
theorem dX7_rowsWith_23 : decode cX7_rowsWith 23 = .ok (.aaload, 1) := by decide +kernel
theorem dX7_rowsWith_24 : decode cX7_rowsWith 24 = .ok (.iload_n 1, 1) := by decide +kernel
theorem dX7_rowsWith_25 : decode cX7_rowsWith 25 = .ok (.invokevirtual 68, 3) := by decide +kernel
theorem dX7_rowsWith_28 : decode cX7_rowsWith 28 = .ok (.iconst (-1), 1) := by decide +kernel
theorem dX7_rowsWith_29 : decode cX7_rowsWith 29 = .ok (.if_icmp .eq 7, 3) := by decide +kernel
theorem dX7_rowsWith_32 : decode cX7_rowsWith 32 = .ok (.iconst 1, 1) := by decide +kernel
theorem dX7_rowsWith_33 : decode cX7_rowsWith 33 = .ok (.goto 4, 3) := by decide +kernel
theorem dX7_rowsWith_36 : decode cX7_rowsWith 36 = .ok (.iconst 0, 1) := by decide +kernel
theorem dX7_rowsWith_37 : decode cX7_rowsWith 37 = .ok (.iadd, 1) := by decide +kernel
theorem dX7_rowsWith_38 : decode cX7_rowsWith 38 = .ok (.istore_n 2, 1) := by decide +kernel
theorem dX7_rowsWith_39 : decode cX7_rowsWith 39 = .ok (.iinc 3 1, 3) := by decide +kernel
theorem dX7_rowsWith_42 : decode cX7_rowsWith 42 = .ok (.goto (-38), 3) := by decide +kernel
theorem dX7_rowsWith_45 : decode cX7_rowsWith 45 = .ok (.iload_n 2, 1) := by decide +kernel
theorem dX7_rowsWith_46 : decode cX7_rowsWith 46 = .ok (.ireturn, 1) := by decide +kernel
theorem dX7_valueOf_0 : decode cX7_valueOf 0 = .ok (.aload_n 0, 1) := by decide +kernel
theorem dX7_valueOf_1 : decode cX7_valueOf 1 = .ok (.iload_n 1, 1) := by decide +kernel
theorem dX7_valueOf_2 : decode cX7_valueOf 2 = .ok (.invokevirtual 71, 3) := by decide +kernel
theorem dX7_valueOf_5 : decode cX7_valueOf 5 = .ok (.istore_n 2, 1) := by decide +kernel
theorem dX7_valueOf_6 : decode cX7_valueOf 6 = .ok (.iload_n 2, 1) := by decide +kernel
theorem dX7_valueOf_7 : decode cX7_valueOf 7 = .ok (.iconst (-1), 1) := by decide +kernel
theorem dX7_valueOf_8 : decode cX7_valueOf 8 = .ok (.if_icmp .ne 7, 3) := by decide +kernel
theorem dX7_valueOf_11 : decode cX7_valueOf 11 = .ok (.iconst (-1), 1) := by decide +kernel
theorem dX7_valueOf_12 : decode cX7_valueOf 12 = .ok (.goto 22, 3) := by decide +kernel
theorem dX7_valueOf_15 : decode cX7_valueOf 15 = .ok (.aload_n 0, 1) := by decide +kernel
theorem dX7_valueOf_16 : decode cX7_valueOf 16 = .ok (.getfield 11, 3) := by decide +kernel
theorem dX7_valueOf_19 : decode cX7_valueOf 19 = .ok (.iload_n 2, 1) := by decide +kernel
theorem dX7_valueOf_20 : decode cX7_valueOf 20 = .ok (.aaload, 1) := by decide +kernel
theorem dX7_valueOf_21 : decode cX7_valueOf 21 = .ok (.aload_n 0, 1) := by decide +kernel
theorem dX7_valueOf_22 : decode cX7_valueOf 22 = .ok (.getfield 11, 3) := by decide +kernel
theorem dX7_valueOf_25 : decode cX7_valueOf 25 = .ok (.iload_n 2, 1) := by decide +kernel
theorem dX7_valueOf_26 : decode cX7_valueOf 26 = .ok (.aaload, 1) := by decide +kernel
theorem dX7_valueOf_27 : decode cX7_valueOf 27 = .ok (.iload_n 1, 1) := by decide +kernel
theorem dX7_valueOf_28 : decode cX7_valueOf 28 = .ok (.invokevirtual 68, 3) := by decide +kernel
theorem dX7_valueOf_31 : decode cX7_valueOf 31 = .ok (.invokevirtual 74, 3) := by decide +kernel
theorem dX7_valueOf_34 : decode cX7_valueOf 34 = .ok (.ireturn, 1) := by decide +kernel
theorem dX7_shutYetIn_0 : decode cX7_shutYetIn 0 = .ok (.iconst 0, 1) := by decide +kernel
theorem dX7_shutYetIn_1 : decode cX7_shutYetIn 1 = .ok (.istore_n 2, 1) := by decide +kernel
theorem dX7_shutYetIn_2 : decode cX7_shutYetIn 2 = .ok (.iconst 0, 1) := by decide +kernel
theorem dX7_shutYetIn_3 : decode cX7_shutYetIn 3 = .ok (.istore_n 3, 1) := by decide +kernel
theorem dX7_shutYetIn_4 : decode cX7_shutYetIn 4 = .ok (.iload_n 3, 1) := by decide +kernel
theorem dX7_shutYetIn_5 : decode cX7_shutYetIn 5 = .ok (.bipush 19, 2) := by decide +kernel
theorem dX7_shutYetIn_7 : decode cX7_shutYetIn 7 = .ok (.if_icmp .ge 57, 3) := by decide +kernel
theorem dX7_shutYetIn_10 : decode cX7_shutYetIn 10 = .ok (.aload_n 0, 1) := by decide +kernel
theorem dX7_shutYetIn_11 : decode cX7_shutYetIn 11 = .ok (.getfield 11, 3) := by decide +kernel
theorem dX7_shutYetIn_14 : decode cX7_shutYetIn 14 = .ok (.iload_n 3, 1) := by decide +kernel
theorem dX7_shutYetIn_15 : decode cX7_shutYetIn 15 = .ok (.aaload, 1) := by decide +kernel
theorem dX7_shutYetIn_16 : decode cX7_shutYetIn 16 = .ok (.invokevirtual 41, 3) := by decide +kernel
theorem dX7_shutYetIn_19 : decode cX7_shutYetIn 19 = .ok (.ifCond .eq 39, 3) := by decide +kernel
theorem dX7_shutYetIn_22 : decode cX7_shutYetIn 22 = .ok (.aload_n 1, 1) := by decide +kernel
theorem dX7_shutYetIn_23 : decode cX7_shutYetIn 23 = .ok (.getfield 11, 3) := by decide +kernel
theorem dX7_shutYetIn_26 : decode cX7_shutYetIn 26 = .ok (.iload_n 3, 1) := by decide +kernel
theorem dX7_shutYetIn_27 : decode cX7_shutYetIn 27 = .ok (.aaload, 1) := by decide +kernel
theorem dX7_shutYetIn_28 : decode cX7_shutYetIn 28 = .ok (.invokevirtual 41, 3) := by decide +kernel
theorem dX7_shutYetIn_31 : decode cX7_shutYetIn 31 = .ok (.ifCond .eq 27, 3) := by decide +kernel
theorem dX7_shutYetIn_34 : decode cX7_shutYetIn 34 = .ok (.aload_n 0, 1) := by decide +kernel
theorem dX7_shutYetIn_35 : decode cX7_shutYetIn 35 = .ok (.getfield 11, 3) := by decide +kernel
theorem dX7_shutYetIn_38 : decode cX7_shutYetIn 38 = .ok (.iload_n 3, 1) := by decide +kernel
theorem dX7_shutYetIn_39 : decode cX7_shutYetIn 39 = .ok (.aaload, 1) := by decide +kernel
theorem dX7_shutYetIn_40 : decode cX7_shutYetIn 40 = .ok (.getfield 49, 3) := by decide +kernel
theorem dX7_shutYetIn_43 : decode cX7_shutYetIn 43 = .ok (.aload_n 1, 1) := by decide +kernel
theorem dX7_shutYetIn_44 : decode cX7_shutYetIn 44 = .ok (.getfield 11, 3) := by decide +kernel
theorem dX7_shutYetIn_47 : decode cX7_shutYetIn 47 = .ok (.iload_n 3, 1) := by decide +kernel
theorem dX7_shutYetIn_48 : decode cX7_shutYetIn 48 = .ok (.aaload, 1) := by decide +kernel
theorem dX7_shutYetIn_49 : decode cX7_shutYetIn 49 = .ok (.getfield 49, 3) := by decide +kernel
theorem dX7_shutYetIn_52 : decode cX7_shutYetIn 52 = .ok (.if_icmp .ne 6, 3) := by decide +kernel
theorem dX7_shutYetIn_55 : decode cX7_shutYetIn 55 = .ok (.iinc 2 1, 3) := by decide +kernel
theorem dX7_shutYetIn_58 : decode cX7_shutYetIn 58 = .ok (.iinc 3 1, 3) := by decide +kernel
theorem dX7_shutYetIn_61 : decode cX7_shutYetIn 61 = .ok (.goto (-57), 3) := by decide +kernel
theorem dX7_shutYetIn_64 : decode cX7_shutYetIn 64 = .ok (.iload_n 2, 1) := by decide +kernel
theorem dX7_shutYetIn_65 : decode cX7_shutYetIn 65 = .ok (.ireturn, 1) := by decide +kernel
theorem dX7_freeAll_0 : decode cX7_freeAll 0 = .ok (.iconst 0, 1) := by decide +kernel
theorem dX7_freeAll_1 : decode cX7_freeAll 1 = .ok (.istore_n 1, 1) := by decide +kernel
theorem dX7_freeAll_2 : decode cX7_freeAll 2 = .ok (.iload_n 1, 1) := by decide +kernel
theorem dX7_freeAll_3 : decode cX7_freeAll 3 = .ok (.bipush 19, 2) := by decide +kernel
theorem dX7_freeAll_5 : decode cX7_freeAll 5 = .ok (.if_icmp .ge 19, 3) := by decide +kernel
theorem dX7_freeAll_8 : decode cX7_freeAll 8 = .ok (.aload_n 0, 1) := by decide +kernel
theorem dX7_freeAll_9 : decode cX7_freeAll 9 = .ok (.getfield 11, 3) := by decide +kernel
theorem dX7_freeAll_12 : decode cX7_freeAll 12 = .ok (.iload_n 1, 1) := by decide +kernel
theorem dX7_freeAll_13 : decode cX7_freeAll 13 = .ok (.aaload, 1) := by decide +kernel
theorem dX7_freeAll_14 : decode cX7_freeAll 14 = .ok (.iconst 0, 1) := by decide +kernel
theorem dX7_freeAll_15 : decode cX7_freeAll 15 = .ok (.invokevirtual 77, 3) := by decide +kernel
theorem dX7_freeAll_18 : decode cX7_freeAll 18 = .ok (.iinc 1 1, 3) := by decide +kernel
theorem dX7_freeAll_21 : decode cX7_freeAll 21 = .ok (.goto (-19), 3) := by decide +kernel
theorem dX7_freeAll_24 : decode cX7_freeAll 24 = .ok (.return_, 1) := by decide +kernel
theorem dX7_copyFrom_0 : decode cX7_copyFrom 0 = .ok (.iconst 0, 1) := by decide +kernel
theorem dX7_copyFrom_1 : decode cX7_copyFrom 1 = .ok (.istore_n 2, 1) := by decide +kernel
theorem dX7_copyFrom_2 : decode cX7_copyFrom 2 = .ok (.iload_n 2, 1) := by decide +kernel
theorem dX7_copyFrom_3 : decode cX7_copyFrom 3 = .ok (.bipush 19, 2) := by decide +kernel
theorem dX7_copyFrom_5 : decode cX7_copyFrom 5 = .ok (.if_icmp .ge 24, 3) := by decide +kernel
theorem dX7_copyFrom_8 : decode cX7_copyFrom 8 = .ok (.aload_n 0, 1) := by decide +kernel
theorem dX7_copyFrom_9 : decode cX7_copyFrom 9 = .ok (.getfield 11, 3) := by decide +kernel
theorem dX7_copyFrom_12 : decode cX7_copyFrom 12 = .ok (.iload_n 2, 1) := by decide +kernel
theorem dX7_copyFrom_13 : decode cX7_copyFrom 13 = .ok (.aaload, 1) := by decide +kernel
theorem dX7_copyFrom_14 : decode cX7_copyFrom 14 = .ok (.aload_n 1, 1) := by decide +kernel
theorem dX7_copyFrom_15 : decode cX7_copyFrom 15 = .ok (.getfield 11, 3) := by decide +kernel
theorem dX7_copyFrom_18 : decode cX7_copyFrom 18 = .ok (.iload_n 2, 1) := by decide +kernel
theorem dX7_copyFrom_19 : decode cX7_copyFrom 19 = .ok (.aaload, 1) := by decide +kernel
theorem dX7_copyFrom_20 : decode cX7_copyFrom 20 = .ok (.invokevirtual 80, 3) := by decide +kernel
theorem dX7_copyFrom_23 : decode cX7_copyFrom 23 = .ok (.iinc 2 1, 3) := by decide +kernel
theorem dX7_copyFrom_26 : decode cX7_copyFrom 26 = .ok (.goto (-24), 3) := by decide +kernel
theorem dX7_copyFrom_29 : decode cX7_copyFrom 29 = .ok (.return_, 1) := by decide +kernel
theorem dX7_copyShut_0 : decode cX7_copyShut 0 = .ok (.iconst 0, 1) := by decide +kernel
theorem dX7_copyShut_1 : decode cX7_copyShut 1 = .ok (.istore_n 2, 1) := by decide +kernel
theorem dX7_copyShut_2 : decode cX7_copyShut 2 = .ok (.iload_n 2, 1) := by decide +kernel
theorem dX7_copyShut_3 : decode cX7_copyShut 3 = .ok (.bipush 19, 2) := by decide +kernel
theorem dX7_copyShut_5 : decode cX7_copyShut 5 = .ok (.if_icmp .ge 49, 3) := by decide +kernel
theorem dX7_copyShut_8 : decode cX7_copyShut 8 = .ok (.aload_n 1, 1) := by decide +kernel
theorem dX7_copyShut_9 : decode cX7_copyShut 9 = .ok (.getfield 11, 3) := by decide +kernel
theorem dX7_copyShut_12 : decode cX7_copyShut 12 = .ok (.iload_n 2, 1) := by decide +kernel
theorem dX7_copyShut_13 : decode cX7_copyShut 13 = .ok (.aaload, 1) := by decide +kernel
theorem dX7_copyShut_14 : decode cX7_copyShut 14 = .ok (.invokevirtual 41, 3) := by decide +kernel
theorem dX7_copyShut_17 : decode cX7_copyShut 17 = .ok (.ifCond .eq 21, 3) := by decide +kernel
theorem dX7_copyShut_20 : decode cX7_copyShut 20 = .ok (.aload_n 0, 1) := by decide +kernel
theorem dX7_copyShut_21 : decode cX7_copyShut 21 = .ok (.getfield 11, 3) := by decide +kernel
theorem dX7_copyShut_24 : decode cX7_copyShut 24 = .ok (.iload_n 2, 1) := by decide +kernel
theorem dX7_copyShut_25 : decode cX7_copyShut 25 = .ok (.aaload, 1) := by decide +kernel
theorem dX7_copyShut_26 : decode cX7_copyShut 26 = .ok (.aload_n 1, 1) := by decide +kernel
theorem dX7_copyShut_27 : decode cX7_copyShut 27 = .ok (.getfield 11, 3) := by decide +kernel
theorem dX7_copyShut_30 : decode cX7_copyShut 30 = .ok (.iload_n 2, 1) := by decide +kernel
theorem dX7_copyShut_31 : decode cX7_copyShut 31 = .ok (.aaload, 1) := by decide +kernel
theorem dX7_copyShut_32 : decode cX7_copyShut 32 = .ok (.invokevirtual 80, 3) := by decide +kernel
theorem dX7_copyShut_35 : decode cX7_copyShut 35 = .ok (.goto 13, 3) := by decide +kernel
theorem dX7_copyShut_38 : decode cX7_copyShut 38 = .ok (.aload_n 0, 1) := by decide +kernel
theorem dX7_copyShut_39 : decode cX7_copyShut 39 = .ok (.getfield 11, 3) := by decide +kernel
theorem dX7_copyShut_42 : decode cX7_copyShut 42 = .ok (.iload_n 2, 1) := by decide +kernel
theorem dX7_copyShut_43 : decode cX7_copyShut 43 = .ok (.aaload, 1) := by decide +kernel
theorem dX7_copyShut_44 : decode cX7_copyShut 44 = .ok (.iconst 0, 1) := by decide +kernel
theorem dX7_copyShut_45 : decode cX7_copyShut 45 = .ok (.invokevirtual 77, 3) := by decide +kernel
theorem dX7_copyShut_48 : decode cX7_copyShut 48 = .ok (.iinc 2 1, 3) := by decide +kernel
theorem dX7_copyShut_51 : decode cX7_copyShut 51 = .ok (.goto (-49), 3) := by decide +kernel
theorem dX7_copyShut_54 : decode cX7_copyShut 54 = .ok (.return_, 1) := by decide +kernel
theorem dX8_init_0 : decode cX8_init 0 = .ok (.aload_n 0, 1) := by decide +kernel
theorem dX8_init_1 : decode cX8_init 1 = .ok (.invokespecial 3, 3) := by decide +kernel
theorem dX8_init_4 : decode cX8_init 4 = .ok (.aload_n 0, 1) := by decide +kernel
theorem dX8_init_5 : decode cX8_init 5 = .ok (.sipush 200, 3) := by decide +kernel
theorem dX8_init_8 : decode cX8_init 8 = .ok (.newarray .int, 2) := by decide +kernel
theorem dX8_init_10 : decode cX8_init 10 = .ok (.putfield 9, 3) := by decide +kernel
theorem dX8_init_13 : decode cX8_init 13 = .ok (.aload_n 0, 1) := by decide +kernel
theorem dX8_init_14 : decode cX8_init 14 = .ok (.iconst 0, 1) := by decide +kernel
theorem dX8_init_15 : decode cX8_init 15 = .ok (.putfield 15, 3) := by decide +kernel
theorem dX8_init_18 : decode cX8_init 18 = .ok (.return_, 1) := by decide +kernel
theorem dX8_addNumber_0 : decode cX8_addNumber 0 = .ok (.bipush 24, 2) := by decide +kernel
theorem dX8_addNumber_2 : decode cX8_addNumber 2 = .ok (.istore_n 2, 1) := by decide +kernel
theorem dX8_addNumber_3 : decode cX8_addNumber 3 = .ok (.iload_n 2, 1) := by decide +kernel
theorem dX8_addNumber_4 : decode cX8_addNumber 4 = .ok (.ifCond .lt 45, 3) := by decide +kernel
theorem dX8_addNumber_7 : decode cX8_addNumber 7 = .ok (.aload_n 0, 1) := by decide +kernel
theorem dX8_addNumber_8 : decode cX8_addNumber 8 = .ok (.getfield 15, 3) := by decide +kernel
theorem dX8_addNumber_11 : decode cX8_addNumber 11 = .ok (.sipush 200, 3) := by decide +kernel
theorem dX8_addNumber_14 : decode cX8_addNumber 14 = .ok (.if_icmp .ge 29, 3) := by decide +kernel
theorem dX8_addNumber_17 : decode cX8_addNumber 17 = .ok (.aload_n 0, 1) := by decide +kernel
theorem dX8_addNumber_18 : decode cX8_addNumber 18 = .ok (.getfield 9, 3) := by decide +kernel
theorem dX8_addNumber_21 : decode cX8_addNumber 21 = .ok (.aload_n 0, 1) := by decide +kernel
theorem dX8_addNumber_22 : decode cX8_addNumber 22 = .ok (.getfield 15, 3) := by decide +kernel
theorem dX8_addNumber_25 : decode cX8_addNumber 25 = .ok (.iload_n 1, 1) := by decide +kernel
theorem dX8_addNumber_26 : decode cX8_addNumber 26 = .ok (.iload_n 2, 1) := by decide +kernel
theorem dX8_addNumber_27 : decode cX8_addNumber 27 = .ok (.iushr, 1) := by decide +kernel
theorem dX8_addNumber_28 : decode cX8_addNumber 28 = .ok (.sipush 255, 3) := by decide +kernel
theorem dX8_addNumber_31 : decode cX8_addNumber 31 = .ok (.iand, 1) := by decide +kernel
theorem dX8_addNumber_32 : decode cX8_addNumber 32 = .ok (.iastore, 1) := by decide +kernel
theorem dX8_addNumber_33 : decode cX8_addNumber 33 = .ok (.aload_n 0, 1) := by decide +kernel
theorem dX8_addNumber_34 : decode cX8_addNumber 34 = .ok (.dup, 1) := by decide +kernel
theorem dX8_addNumber_35 : decode cX8_addNumber 35 = .ok (.getfield 15, 3) := by decide +kernel
theorem dX8_addNumber_38 : decode cX8_addNumber 38 = .ok (.iconst 1, 1) := by decide +kernel
theorem dX8_addNumber_39 : decode cX8_addNumber 39 = .ok (.iadd, 1) := by decide +kernel
theorem dX8_addNumber_40 : decode cX8_addNumber 40 = .ok (.putfield 15, 3) := by decide +kernel
theorem dX8_addNumber_43 : decode cX8_addNumber 43 = .ok (.iinc 2 (-8), 3) := by decide +kernel
theorem dX8_addNumber_46 : decode cX8_addNumber 46 = .ok (.goto (-43), 3) := by decide +kernel
theorem dX8_addNumber_49 : decode cX8_addNumber 49 = .ok (.return_, 1) := by decide +kernel
theorem dX8_byteAt_0 : decode cX8_byteAt 0 = .ok (.iload_n 1, 1) := by decide +kernel
theorem dX8_byteAt_1 : decode cX8_byteAt 1 = .ok (.ifCond .lt 20, 3) := by decide +kernel
theorem dX8_byteAt_4 : decode cX8_byteAt 4 = .ok (.iload_n 1, 1) := by decide +kernel
theorem dX8_byteAt_5 : decode cX8_byteAt 5 = .ok (.aload_n 0, 1) := by decide +kernel
theorem dX8_byteAt_6 : decode cX8_byteAt 6 = .ok (.getfield 15, 3) := by decide +kernel
theorem dX8_byteAt_9 : decode cX8_byteAt 9 = .ok (.if_icmp .ge 12, 3) := by decide +kernel
theorem dX8_byteAt_12 : decode cX8_byteAt 12 = .ok (.aload_n 0, 1) := by decide +kernel
theorem dX8_byteAt_13 : decode cX8_byteAt 13 = .ok (.getfield 9, 3) := by decide +kernel
theorem dX8_byteAt_16 : decode cX8_byteAt 16 = .ok (.iload_n 1, 1) := by decide +kernel
theorem dX8_byteAt_17 : decode cX8_byteAt 17 = .ok (.iaload, 1) := by decide +kernel
theorem dX8_byteAt_18 : decode cX8_byteAt 18 = .ok (.goto 4, 3) := by decide +kernel
theorem dX8_byteAt_21 : decode cX8_byteAt 21 = .ok (.iconst (-1), 1) := by decide +kernel
theorem dX8_byteAt_22 : decode cX8_byteAt 22 = .ok (.ireturn, 1) := by decide +kernel
theorem dX8_clear_0 : decode cX8_clear 0 = .ok (.aload_n 0, 1) := by decide +kernel
theorem dX8_clear_1 : decode cX8_clear 1 = .ok (.iconst 0, 1) := by decide +kernel
theorem dX8_clear_2 : decode cX8_clear 2 = .ok (.putfield 15, 3) := by decide +kernel
theorem dX8_clear_5 : decode cX8_clear 5 = .ok (.return_, 1) := by decide +kernel
theorem dX9_init_0 : decode cX9_init 0 = .ok (.aload_n 0, 1) := by decide +kernel
theorem dX9_init_1 : decode cX9_init 1 = .ok (.invokespecial 3, 3) := by decide +kernel
theorem dX9_init_4 : decode cX9_init 4 = .ok (.aload_n 0, 1) := by decide +kernel
theorem dX9_init_5 : decode cX9_init 5 = .ok (.bipush 40, 2) := by decide +kernel
theorem dX9_init_7 : decode cX9_init 7 = .ok (.newarray .int, 2) := by decide +kernel
theorem dX9_init_9 : decode cX9_init 9 = .ok (.putfield 9, 3) := by decide +kernel
theorem dX9_init_12 : decode cX9_init 12 = .ok (.aload_n 0, 1) := by decide +kernel
theorem dX9_init_13 : decode cX9_init 13 = .ok (.iconst 0, 1) := by decide +kernel
theorem dX9_init_14 : decode cX9_init 14 = .ok (.putfield 15, 3) := by decide +kernel
theorem dX9_init_17 : decode cX9_init 17 = .ok (.aload_n 0, 1) := by decide +kernel
theorem dX9_init_18 : decode cX9_init 18 = .ok (.iconst 0, 1) := by decide +kernel
theorem dX9_init_19 : decode cX9_init 19 = .ok (.putfield 19, 3) := by decide +kernel
theorem dX9_init_22 : decode cX9_init 22 = .ok (.return_, 1) := by decide +kernel
theorem dX9_add_0 : decode cX9_add 0 = .ok (.aload_n 0, 1) := by decide +kernel
theorem dX9_add_1 : decode cX9_add 1 = .ok (.aload_n 0, 1) := by decide +kernel
theorem dX9_add_2 : decode cX9_add 2 = .ok (.getfield 15, 3) := by decide +kernel
theorem dX9_add_5 : decode cX9_add 5 = .ok (.iconst 1, 1) := by decide +kernel
theorem dX9_add_6 : decode cX9_add 6 = .ok (.iadd, 1) := by decide +kernel
theorem dX9_add_7 : decode cX9_add 7 = .ok (.bipush 40, 2) := by decide +kernel
theorem dX9_add_9 : decode cX9_add 9 = .ok (.irem, 1) := by decide +kernel
theorem dX9_add_10 : decode cX9_add 10 = .ok (.putfield 15, 3) := by decide +kernel
theorem dX9_add_13 : decode cX9_add 13 = .ok (.aload_n 0, 1) := by decide +kernel
theorem dX9_add_14 : decode cX9_add 14 = .ok (.getfield 9, 3) := by decide +kernel
theorem dX9_add_17 : decode cX9_add 17 = .ok (.aload_n 0, 1) := by decide +kernel
theorem dX9_add_18 : decode cX9_add 18 = .ok (.getfield 15, 3) := by decide +kernel
theorem dX9_add_21 : decode cX9_add 21 = .ok (.iload_n 1, 1) := by decide +kernel
theorem dX9_add_22 : decode cX9_add 22 = .ok (.iastore, 1) := by decide +kernel
theorem dX9_add_23 : decode cX9_add 23 = .ok (.aload_n 0, 1) := by decide +kernel
theorem dX9_add_24 : decode cX9_add 24 = .ok (.aload_n 0, 1) := by decide +kernel
theorem dX9_add_25 : decode cX9_add 25 = .ok (.getfield 19, 3) := by decide +kernel
theorem dX9_add_28 : decode cX9_add 28 = .ok (.iconst 1, 1) := by decide +kernel
theorem dX9_add_29 : decode cX9_add 29 = .ok (.iadd, 1) := by decide +kernel
theorem dX9_add_30 : decode cX9_add 30 = .ok (.bipush 40, 2) := by decide +kernel
theorem dX9_add_32 : decode cX9_add 32 = .ok (.invokestatic 22, 3) := by decide +kernel
theorem dX9_add_35 : decode cX9_add 35 = .ok (.putfield 19, 3) := by decide +kernel
theorem dX9_add_38 : decode cX9_add 38 = .ok (.return_, 1) := by decide +kernel
theorem dX9_stepsOf_0 : decode cX9_stepsOf 0 = .ok (.iload_n 1, 1) := by decide +kernel
theorem dX9_stepsOf_1 : decode cX9_stepsOf 1 = .ok (.ifCond .lt 31, 3) := by decide +kernel
theorem dX9_stepsOf_4 : decode cX9_stepsOf 4 = .ok (.iload_n 1, 1) := by decide +kernel
theorem dX9_stepsOf_5 : decode cX9_stepsOf 5 = .ok (.aload_n 0, 1) := by decide +kernel
theorem dX9_stepsOf_6 : decode cX9_stepsOf 6 = .ok (.getfield 19, 3) := by decide +kernel
theorem dX9_stepsOf_9 : decode cX9_stepsOf 9 = .ok (.if_icmp .ge 23, 3) := by decide +kernel
theorem dX9_stepsOf_12 : decode cX9_stepsOf 12 = .ok (.aload_n 0, 1) := by decide +kernel
theorem dX9_stepsOf_13 : decode cX9_stepsOf 13 = .ok (.getfield 9, 3) := by decide +kernel
theorem dX9_stepsOf_16 : decode cX9_stepsOf 16 = .ok (.aload_n 0, 1) := by decide +kernel
theorem dX9_stepsOf_17 : decode cX9_stepsOf 17 = .ok (.getfield 15, 3) := by decide +kernel
theorem dX9_stepsOf_20 : decode cX9_stepsOf 20 = .ok (.bipush 40, 2) := by decide +kernel
theorem dX9_stepsOf_22 : decode cX9_stepsOf 22 = .ok (.iadd, 1) := by decide +kernel
theorem dX9_stepsOf_23 : decode cX9_stepsOf 23 = .ok (.iload_n 1, 1) := by decide +kernel
theorem dX9_stepsOf_24 : decode cX9_stepsOf 24 = .ok (.isub, 1) := by decide +kernel
theorem dX9_stepsOf_25 : decode cX9_stepsOf 25 = .ok (.bipush 40, 2) := by decide +kernel
theorem dX9_stepsOf_27 : decode cX9_stepsOf 27 = .ok (.irem, 1) := by decide +kernel
theorem dX9_stepsOf_28 : decode cX9_stepsOf 28 = .ok (.iaload, 1) := by decide +kernel
theorem dX9_stepsOf_29 : decode cX9_stepsOf 29 = .ok (.goto 4, 3) := by decide +kernel
theorem dX9_stepsOf_32 : decode cX9_stepsOf 32 = .ok (.iconst (-1), 1) := by decide +kernel
theorem dX9_stepsOf_33 : decode cX9_stepsOf 33 = .ok (.ireturn, 1) := by decide +kernel
