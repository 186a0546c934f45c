theorem dX0_init_0 : decode cX0_init 0 = .ok (.aload_n 0, 1) := by decide +kernel
theorem dX0_init_1 : decode cX0_init 1 = .ok (.invokespecial 3, 3) := by decide +kernel
theorem dX0_init_4 : decode cX0_init 4 = .ok (.aload_n 0, 1) := by decide +kernel
theorem dX0_init_5 : decode cX0_init 5 = .ok (.aload_n 1, 1) := by decide +kernel
theorem dX0_init_6 : decode cX0_init 6 = .ok (.putfield 9, 3) := by decide +kernel
theorem dX0_init_9 : decode cX0_init 9 = .ok (.aload_n 0, 1) := by decide +kernel
theorem dX0_init_10 : decode cX0_init 10 = .ok (.aload_n 2, 1) := by decide +kernel
theorem dX0_init_11 : decode cX0_init 11 = .ok (.putfield 15, 3) := by decide +kernel
theorem dX0_init_14 : decode cX0_init 14 = .ok (.aload_n 0, 1) := by decide +kernel
theorem dX0_init_15 : decode cX0_init 15 = .ok (.bipush 7, 2) := by decide +kernel
theorem dX0_init_17 : decode cX0_init 17 = .ok (.iload_n 3, 1) := by decide +kernel
theorem dX0_init_18 : decode cX0_init 18 = .ok (.iadd, 1) := by decide +kernel
theorem dX0_init_19 : decode cX0_init 19 = .ok (.putfield 19, 3) := by decide +kernel
theorem dX0_init_22 : decode cX0_init 22 = .ok (.aload_n 0, 1) := by decide +kernel
theorem dX0_init_23 : decode cX0_init 23 = .ok (.aload_n 1, 1) := by decide +kernel
theorem dX0_init_24 : decode cX0_init 24 = .ok (.aload_n 0, 1) := by decide +kernel
theorem dX0_init_25 : decode cX0_init 25 = .ok (.getfield 19, 3) := by decide +kernel
theorem dX0_init_28 : decode cX0_init 28 = .ok (.invokevirtual 23, 3) := by decide +kernel
theorem dX0_init_31 : decode cX0_init 31 = .ok (.putfield 29, 3) := by decide +kernel
theorem dX0_init_34 : decode cX0_init 34 = .ok (.aload_n 0, 1) := by decide +kernel
theorem dX0_init_35 : decode cX0_init 35 = .ok (.iload 4, 2) := by decide +kernel
theorem dX0_init_37 : decode cX0_init 37 = .ok (.putfield 32, 3) := by decide +kernel
theorem dX0_init_40 : decode cX0_init 40 = .ok (.return_, 1) := by decide +kernel
theorem dX0_bears_0 : decode cX0_bears 0 = .ok (.aload_n 0, 1) := by decide +kernel
theorem dX0_bears_1 : decode cX0_bears 1 = .ok (.getfield 9, 3) := by decide +kernel
theorem dX0_bears_4 : decode cX0_bears 4 = .ok (.aload_n 0, 1) := by decide +kernel
theorem dX0_bears_5 : decode cX0_bears 5 = .ok (.getfield 19, 3) := by decide +kernel
theorem dX0_bears_8 : decode cX0_bears 8 = .ok (.iload_n 1, 1) := by decide +kernel
theorem dX0_bears_9 : decode cX0_bears 9 = .ok (.invokevirtual 35, 3) := by decide +kernel
theorem dX0_bears_12 : decode cX0_bears 12 = .ok (.ireturn, 1) := by decide +kernel
theorem dX0_hasAct_0 : decode cX0_hasAct 0 = .ok (.iload_n 1, 1) := by decide +kernel
theorem dX0_hasAct_1 : decode cX0_hasAct 1 = .ok (.ifCond .ne 18, 3) := by decide +kernel
theorem dX0_hasAct_4 : decode cX0_hasAct 4 = .ok (.aload_n 0, 1) := by decide +kernel
theorem dX0_hasAct_5 : decode cX0_hasAct 5 = .ok (.getfield 9, 3) := by decide +kernel
theorem dX0_hasAct_8 : decode cX0_hasAct 8 = .ok (.aload_n 0, 1) := by decide +kernel
theorem dX0_hasAct_9 : decode cX0_hasAct 9 = .ok (.getfield 19, 3) := by decide +kernel
theorem dX0_hasAct_12 : decode cX0_hasAct 12 = .ok (.iload_n 2, 1) := by decide +kernel
theorem dX0_hasAct_13 : decode cX0_hasAct 13 = .ok (.invokevirtual 39, 3) := by decide +kernel
theorem dX0_hasAct_16 : decode cX0_hasAct 16 = .ok (.goto 12, 3) := by decide +kernel
theorem dX0_hasAct_19 : decode cX0_hasAct 19 = .ok (.aload_n 0, 1) := by decide +kernel
theorem dX0_hasAct_20 : decode cX0_hasAct 20 = .ok (.getfield 9, 3) := by decide +kernel
theorem dX0_hasAct_23 : decode cX0_hasAct 23 = .ok (.iload_n 1, 1) := by decide +kernel
theorem dX0_hasAct_24 : decode cX0_hasAct 24 = .ok (.iload_n 2, 1) := by decide +kernel
theorem dX0_hasAct_25 : decode cX0_hasAct 25 = .ok (.invokevirtual 42, 3) := by decide +kernel
theorem dX0_hasAct_28 : decode cX0_hasAct 28 = .ok (.ireturn, 1) := by decide +kernel
theorem dX0_fact_0 : decode cX0_fact 0 = .ok (.iload_n 1, 1) := by decide +kernel
theorem dX0_fact_1 : decode cX0_fact 1 = .ok (.tableswitch 72 0 5 #[39, 47, 52, 57, 62, 67], 39) := by decide +kernel
theorem dX0_fact_40 : decode cX0_fact 40 = .ok (.aload_n 0, 1) := by decide +kernel
theorem dX0_fact_41 : decode cX0_fact 41 = .ok (.getfield 19, 3) := by decide +kernel
theorem dX0_fact_44 : decode cX0_fact 44 = .ok (.bipush 7, 2) := by decide +kernel
theorem dX0_fact_46 : decode cX0_fact 46 = .ok (.isub, 1) := by decide +kernel
theorem dX0_fact_47 : decode cX0_fact 47 = .ok (.ireturn, 1) := by decide +kernel
theorem dX0_fact_48 : decode cX0_fact 48 = .ok (.aload_n 0, 1) := by decide +kernel
theorem dX0_fact_49 : decode cX0_fact 49 = .ok (.getfield 32, 3) := by decide +kernel
theorem dX0_fact_52 : decode cX0_fact 52 = .ok (.ireturn, 1) := by decide +kernel
theorem dX0_fact_53 : decode cX0_fact 53 = .ok (.aload_n 0, 1) := by decide +kernel
theorem dX0_fact_54 : decode cX0_fact 54 = .ok (.getfield 45, 3) := by decide +kernel
theorem dX0_fact_57 : decode cX0_fact 57 = .ok (.ireturn, 1) := by decide +kernel
theorem dX0_fact_58 : decode cX0_fact 58 = .ok (.aload_n 0, 1) := by decide +kernel
theorem dX0_fact_59 : decode cX0_fact 59 = .ok (.getfield 48, 3) := by decide +kernel
theorem dX0_fact_62 : decode cX0_fact 62 = .ok (.ireturn, 1) := by decide +kernel
theorem dX0_fact_63 : decode cX0_fact 63 = .ok (.aload_n 0, 1) := by decide +kernel
theorem dX0_fact_64 : decode cX0_fact 64 = .ok (.getfield 51, 3) := by decide +kernel
theorem dX0_fact_67 : decode cX0_fact 67 = .ok (.ireturn, 1) := by decide +kernel
theorem dX0_fact_68 : decode cX0_fact 68 = .ok (.aload_n 0, 1) := by decide +kernel
theorem dX0_fact_69 : decode cX0_fact 69 = .ok (.getfield 54, 3) := by decide +kernel
theorem dX0_fact_72 : decode cX0_fact 72 = .ok (.ireturn, 1) := by decide +kernel
theorem dX0_fact_73 : decode cX0_fact 73 = .ok (.iconst 0, 1) := by decide +kernel
theorem dX0_fact_74 : decode cX0_fact 74 = .ok (.ireturn, 1) := by decide +kernel
theorem dX0_addLink_0 : decode cX0_addLink 0 = .ok (.aload_n 0, 1) := by decide +kernel
theorem dX0_addLink_1 : decode cX0_addLink 1 = .ok (.getfield 57, 3) := by decide +kernel
theorem dX0_addLink_4 : decode cX0_addLink 4 = .ok (.ifnonnull 11, 3) := by decide +kernel
theorem dX0_addLink_7 : decode cX0_addLink 7 = .ok (.aload_n 0, 1) := by decide +kernel
theorem dX0_addLink_8 : decode cX0_addLink 8 = .ok (.aload_n 1, 1) := by decide +kernel
theorem dX0_addLink_9 : decode cX0_addLink 9 = .ok (.putfield 61, 3) := by decide +kernel
theorem dX0_addLink_12 : decode cX0_addLink 12 = .ok (.goto 11, 3) := by decide +kernel
theorem dX0_addLink_15 : decode cX0_addLink 15 = .ok (.aload_n 0, 1) := by decide +kernel
theorem dX0_addLink_16 : decode cX0_addLink 16 = .ok (.getfield 57, 3) := by decide +kernel
theorem dX0_addLink_19 : decode cX0_addLink 19 = .ok (.aload_n 1, 1) := by decide +kernel
theorem dX0_addLink_20 : decode cX0_addLink 20 = .ok (.putfield 64, 3) := by decide +kernel
theorem dX0_addLink_23 : decode cX0_addLink 23 = .ok (.aload_n 0, 1) := by decide +kernel
theorem dX0_addLink_24 : decode cX0_addLink 24 = .ok (.aload_n 1, 1) := by decide +kernel
theorem dX0_addLink_25 : decode cX0_addLink 25 = .ok (.putfield 57, 3) := by decide +kernel
theorem dX0_addLink_28 : decode cX0_addLink 28 = .ok (.aload_n 0, 1) := by decide +kernel
theorem dX0_addLink_29 : decode cX0_addLink 29 = .ok (.dup, 1) := by decide +kernel
theorem dX0_addLink_30 : decode cX0_addLink 30 = .ok (.getfield 48, 3) := by decide +kernel
theorem dX0_addLink_33 : decode cX0_addLink 33 = .ok (.iconst 1, 1) := by decide +kernel
theorem dX0_addLink_34 : decode cX0_addLink 34 = .ok (.iadd, 1) := by decide +kernel
theorem dX0_addLink_35 : decode cX0_addLink 35 = .ok (.putfield 48, 3) := by decide +kernel
theorem dX0_addLink_38 : decode cX0_addLink 38 = .ok (.return_, 1) := by decide +kernel
theorem dX0_take_0 : decode cX0_take 0 = .ok (.aload_n 0, 1) := by decide +kernel
theorem dX0_take_1 : decode cX0_take 1 = .ok (.dup, 1) := by decide +kernel
theorem dX0_take_2 : decode cX0_take 2 = .ok (.getfield 54, 3) := by decide +kernel
theorem dX0_take_5 : decode cX0_take 5 = .ok (.iconst 1, 1) := by decide +kernel
theorem dX0_take_6 : decode cX0_take 6 = .ok (.iadd, 1) := by decide +kernel
theorem dX0_take_7 : decode cX0_take 7 = .ok (.putfield 54, 3) := by decide +kernel
theorem dX0_take_10 : decode cX0_take 10 = .ok (.aload_n 0, 1) := by decide +kernel
theorem dX0_take_11 : decode cX0_take 11 = .ok (.iload_n 2, 1) := by decide +kernel
theorem dX0_take_12 : decode cX0_take 12 = .ok (.putfield 69, 3) := by decide +kernel
theorem dX0_take_15 : decode cX0_take 15 = .ok (.aload_n 0, 1) := by decide +kernel
theorem dX0_take_16 : decode cX0_take 16 = .ok (.aload_n 0, 1) := by decide +kernel
theorem dX0_take_17 : decode cX0_take 17 = .ok (.aload_n 0, 1) := by decide +kernel
theorem dX0_take_18 : decode cX0_take 18 = .ok (.getfield 29, 3) := by decide +kernel
theorem dX0_take_21 : decode cX0_take 21 = .ok (.iload_n 1, 1) := by decide +kernel
theorem dX0_take_22 : decode cX0_take 22 = .ok (.iconst 0, 1) := by decide +kernel
theorem dX0_take_23 : decode cX0_take 23 = .ok (.invokevirtual 72, 3) := by decide +kernel
theorem dX0_take_26 : decode cX0_take 26 = .ok (.putfield 76, 3) := by decide +kernel
theorem dX0_take_29 : decode cX0_take 29 = .ok (.return_, 1) := by decide +kernel
theorem dX0_answer_0 : decode cX0_answer 0 = .ok (.aload_n 0, 1) := by decide +kernel
theorem dX0_answer_1 : decode cX0_answer 1 = .ok (.iload_n 1, 1) := by decide +kernel
theorem dX0_answer_2 : decode cX0_answer 2 = .ok (.iload_n 2, 1) := by decide +kernel
theorem dX0_answer_3 : decode cX0_answer 3 = .ok (.iconst 0, 1) := by decide +kernel
theorem dX0_answer_4 : decode cX0_answer 4 = .ok (.invokevirtual 72, 3) := by decide +kernel
theorem dX0_answer_7 : decode cX0_answer 7 = .ok (.ireturn, 1) := by decide +kernel
theorem dX0_act_0 : decode cX0_act 0 = .ok (.aload_n 0, 1) := by decide +kernel
theorem dX0_act_1 : decode cX0_act 1 = .ok (.aload_n 0, 1) := by decide +kernel
theorem dX0_act_2 : decode cX0_act 2 = .ok (.getfield 9, 3) := by decide +kernel
theorem dX0_act_5 : decode cX0_act 5 = .ok (.aload_n 0, 1) := by decide +kernel
theorem dX0_act_6 : decode cX0_act 6 = .ok (.getfield 19, 3) := by decide +kernel
theorem dX0_act_9 : decode cX0_act 9 = .ok (.iload_n 1, 1) := by decide +kernel
theorem dX0_act_10 : decode cX0_act 10 = .ok (.invokevirtual 79, 3) := by decide +kernel
theorem dX0_act_13 : decode cX0_act 13 = .ok (.iload_n 2, 1) := by decide +kernel
theorem dX0_act_14 : decode cX0_act 14 = .ok (.iload_n 3, 1) := by decide +kernel
theorem dX0_act_15 : decode cX0_act 15 = .ok (.invokevirtual 83, 3) := by decide +kernel
theorem dX0_act_18 : decode cX0_act 18 = .ok (.ireturn, 1) := by decide +kernel
theorem dX0_parentAct_0 : decode cX0_parentAct 0 = .ok (.aload_n 0, 1) := by decide +kernel
theorem dX0_parentAct_1 : decode cX0_parentAct 1 = .ok (.aload_n 0, 1) := by decide +kernel
theorem dX0_parentAct_2 : decode cX0_parentAct 2 = .ok (.getfield 9, 3) := by decide +kernel
theorem dX0_parentAct_5 : decode cX0_parentAct 5 = .ok (.iload_n 1, 1) := by decide +kernel
theorem dX0_parentAct_6 : decode cX0_parentAct 6 = .ok (.invokestatic 86, 3) := by decide +kernel
theorem dX0_parentAct_9 : decode cX0_parentAct 9 = .ok (.iload_n 2, 1) := by decide +kernel
theorem dX0_parentAct_10 : decode cX0_parentAct 10 = .ok (.invokevirtual 79, 3) := by decide +kernel
theorem dX0_parentAct_13 : decode cX0_parentAct 13 = .ok (.iload_n 3, 1) := by decide +kernel
theorem dX0_parentAct_14 : decode cX0_parentAct 14 = .ok (.iload 4, 2) := by decide +kernel
theorem dX0_parentAct_16 : decode cX0_parentAct 16 = .ok (.invokevirtual 83, 3) := by decide +kernel
theorem dX0_parentAct_19 : decode cX0_parentAct 19 = .ok (.ireturn, 1) := by decide +kernel
theorem dX0_interfaceAct_0 : decode cX0_interfaceAct 0 = .ok (.aload_n 0, 1) := by decide +kernel
theorem dX0_interfaceAct_1 : decode cX0_interfaceAct 1 = .ok (.aload_n 0, 1) := by decide +kernel
theorem dX0_interfaceAct_2 : decode cX0_interfaceAct 2 = .ok (.getfield 9, 3) := by decide +kernel
theorem dX0_interfaceAct_5 : decode cX0_interfaceAct 5 = .ok (.iload_n 1, 1) := by decide +kernel
theorem dX0_interfaceAct_6 : decode cX0_interfaceAct 6 = .ok (.iload_n 2, 1) := by decide +kernel
theorem dX0_interfaceAct_7 : decode cX0_interfaceAct 7 = .ok (.invokevirtual 79, 3) := by decide +kernel
theorem dX0_interfaceAct_10 : decode cX0_interfaceAct 10 = .ok (.iload_n 3, 1) := by decide +kernel
theorem dX0_interfaceAct_11 : decode cX0_interfaceAct 11 = .ok (.iload 4, 2) := by decide +kernel
theorem dX0_interfaceAct_13 : decode cX0_interfaceAct 13 = .ok (.invokevirtual 83, 3) := by decide +kernel
theorem dX0_interfaceAct_16 : decode cX0_interfaceAct 16 = .ok (.ireturn, 1) := by decide +kernel
theorem dX0_run_0 : decode cX0_run 0 = .ok (.iload_n 1, 1) := by decide +kernel
theorem dX0_run_1 : decode cX0_run 1 = .ok (.ifCond .eq 9, 3) := by decide +kernel
theorem dX0_run_4 : decode cX0_run 4 = .ok (.iload_n 3, 1) := by decide +kernel
theorem dX0_run_5 : decode cX0_run 5 = .ok (.bipush 40, 2) := by decide +kernel
theorem dX0_run_7 : decode cX0_run 7 = .ok (.if_icmp .lt 5, 3) := by decide +kernel
theorem dX0_run_10 : decode cX0_run 10 = .ok (.iconst 0, 1) := by decide +kernel
theorem dX0_run_11 : decode cX0_run 11 = .ok (.ireturn, 1) := by decide +kernel
theorem dX0_run_12 : decode cX0_run 12 = .ok (.aload_n 0, 1) := by decide +kernel
theorem dX0_run_13 : decode cX0_run 13 = .ok (.getfield 15, 3) := by decide +kernel
theorem dX0_run_16 : decode cX0_run 16 = .ok (.iload_n 1, 1) := by decide +kernel
theorem dX0_run_17 : decode cX0_run 17 = .ok (.invokevirtual 89, 3) := by decide +kernel
theorem dX0_run_20 : decode cX0_run 20 = .ok (.iload_n 1, 1) := by decide +kernel
theorem dX0_run_21 : decode cX0_run 21 = .ok (.bipush 60, 2) := by decide +kernel
theorem dX0_run_23 : decode cX0_run 23 = .ok (.if_icmp .ge 13, 3) := by decide +kernel
theorem dX0_run_26 : decode cX0_run 26 = .ok (.aload_n 0, 1) := by decide +kernel
theorem dX0_run_27 : decode cX0_run 27 = .ok (.iload_n 1, 1) := by decide +kernel
theorem dX0_run_28 : decode cX0_run 28 = .ok (.iload_n 2, 1) := by decide +kernel
theorem dX0_run_29 : decode cX0_run 29 = .ok (.iload_n 3, 1) := by decide +kernel
theorem dX0_run_30 : decode cX0_run 30 = .ok (.iconst 1, 1) := by decide +kernel
theorem dX0_run_31 : decode cX0_run 31 = .ok (.iadd, 1) := by decide +kernel
theorem dX0_run_32 : decode cX0_run 32 = .ok (.invokevirtual 95, 3) := by decide +kernel
theorem dX0_run_35 : decode cX0_run 35 = .ok (.ireturn, 1) := by decide +kernel
theorem dX0_run_36 : decode cX0_run 36 = .ok (.iload_n 1, 1) := by decide +kernel
theorem dX0_run_37 : decode cX0_run 37 = .ok (.bipush 100, 2) := by decide +kernel
theorem dX0_run_39 : decode cX0_run 39 = .ok (.if_icmp .ge 13, 3) := by decide +kernel
theorem dX0_run_42 : decode cX0_run 42 = .ok (.aload_n 0, 1) := by decide +kernel
theorem dX0_run_43 : decode cX0_run 43 = .ok (.iload_n 1, 1) := by decide +kernel
theorem dX0_run_44 : decode cX0_run 44 = .ok (.iload_n 2, 1) := by decide +kernel
theorem dX0_run_45 : decode cX0_run 45 = .ok (.iload_n 3, 1) := by decide +kernel
theorem dX0_run_46 : decode cX0_run 46 = .ok (.iconst 1, 1) := by decide +kernel
theorem dX0_run_47 : decode cX0_run 47 = .ok (.iadd, 1) := by decide +kernel
theorem dX0_run_48 : decode cX0_run 48 = .ok (.invokevirtual 98, 3) := by decide +kernel
theorem dX0_run_51 : decode cX0_run 51 = .ok (.ireturn, 1) := by decide +kernel
theorem dX0_run_52 : decode cX0_run 52 = .ok (.iload_n 1, 1) := by decide +kernel
theorem dX0_run_53 : decode cX0_run 53 = .ok (.sipush 150, 3) := by decide +kernel
theorem dX0_run_56 : decode cX0_run 56 = .ok (.if_icmp .ge 15, 3) := by decide +kernel
theorem dX0_run_59 : decode cX0_run 59 = .ok (.aload_n 0, 1) := by decide +kernel
theorem dX0_run_60 : decode cX0_run 60 = .ok (.iload_n 1, 1) := by decide +kernel
theorem dX0_run_61 : decode cX0_run 61 = .ok (.iload_n 2, 1) := by decide +kernel
theorem dX0_run_62 : decode cX0_run 62 = .ok (.iload_n 3, 1) := by decide +kernel
theorem dX0_run_63 : decode cX0_run 63 = .ok (.iconst 1, 1) := by decide +kernel
theorem dX0_run_64 : decode cX0_run 64 = .ok (.iadd, 1) := by decide +kernel
theorem dX0_run_65 : decode cX0_run 65 = .ok (.invokevirtual 101, 3) := by decide +kernel
theorem dX0_run_68 : decode cX0_run 68 = .ok (.goto 12, 3) := by decide +kernel
theorem dX0_run_71 : decode cX0_run 71 = .ok (.aload_n 0, 1) := by decide +kernel
theorem dX0_run_72 : decode cX0_run 72 = .ok (.iload_n 1, 1) := by decide +kernel
theorem dX0_run_73 : decode cX0_run 73 = .ok (.iload_n 2, 1) := by decide +kernel
theorem dX0_run_74 : decode cX0_run 74 = .ok (.iload_n 3, 1) := by decide +kernel
theorem dX0_run_75 : decode cX0_run 75 = .ok (.iconst 1, 1) := by decide +kernel
theorem dX0_run_76 : decode cX0_run 76 = .ok (.iadd, 1) := by decide +kernel
theorem dX0_run_77 : decode cX0_run 77 = .ok (.invokevirtual 104, 3) := by decide +kernel
theorem dX0_run_80 : decode cX0_run 80 = .ok (.ireturn, 1) := by decide +kernel
theorem dX0_runOfInterface_0 : decode cX0_runOfInterface 0 = .ok (.iload_n 1, 1) := by decide +kernel
theorem dX0_runOfInterface_1 : decode cX0_runOfInterface 1 = .ok (.lookupswitch 246 #[(10, 91), (11, 101), (20, 121), (21, 139), (30, 150), (40, 170), (41, 180), (50, 200), (51, 219), (52, 236)], 91) := by decide +kernel
theorem dX0_runOfInterface_92 : decode cX0_runOfInterface 92 = .ok (.aload_n 0, 1) := by decide +kernel
theorem dX0_runOfInterface_93 : decode cX0_runOfInterface 93 = .ok (.iconst 0, 1) := by decide +kernel
theorem dX0_runOfInterface_94 : decode cX0_runOfInterface 94 = .ok (.iload_n 2, 1) := by decide +kernel
theorem dX0_runOfInterface_95 : decode cX0_runOfInterface 95 = .ok (.iload_n 3, 1) := by decide +kernel
theorem dX0_runOfInterface_96 : decode cX0_runOfInterface 96 = .ok (.invokevirtual 72, 3) := by decide +kernel
theorem dX0_runOfInterface_99 : decode cX0_runOfInterface 99 = .ok (.iconst 1, 1) := by decide +kernel
theorem dX0_runOfInterface_100 : decode cX0_runOfInterface 100 = .ok (.iadd, 1) := by decide +kernel
theorem dX0_runOfInterface_101 : decode cX0_runOfInterface 101 = .ok (.ireturn, 1) := by decide +kernel
theorem dX0_runOfInterface_102 : decode cX0_runOfInterface 102 = .ok (.aload_n 0, 1) := by decide +kernel
theorem dX0_runOfInterface_103 : decode cX0_runOfInterface 103 = .ok (.iconst 1, 1) := by decide +kernel
theorem dX0_runOfInterface_104 : decode cX0_runOfInterface 104 = .ok (.iload_n 2, 1) := by decide +kernel
theorem dX0_runOfInterface_105 : decode cX0_runOfInterface 105 = .ok (.iload_n 3, 1) := by decide +kernel
theorem dX0_runOfInterface_106 : decode cX0_runOfInterface 106 = .ok (.invokevirtual 72, 3) := by decide +kernel
theorem dX0_runOfInterface_109 : decode cX0_runOfInterface 109 = .ok (.iconst 3, 1) := by decide +kernel
theorem dX0_runOfInterface_110 : decode cX0_runOfInterface 110 = .ok (.imul, 1) := by decide +kernel
theorem dX0_runOfInterface_111 : decode cX0_runOfInterface 111 = .ok (.aload_n 0, 1) := by decide +kernel
theorem dX0_runOfInterface_112 : decode cX0_runOfInterface 112 = .ok (.iconst 0, 1) := by decide +kernel
theorem dX0_runOfInterface_113 : decode cX0_runOfInterface 113 = .ok (.iload_n 2, 1) := by decide +kernel
theorem dX0_runOfInterface_114 : decode cX0_runOfInterface 114 = .ok (.iconst 1, 1) := by decide +kernel
theorem dX0_runOfInterface_115 : decode cX0_runOfInterface 115 = .ok (.iadd, 1) := by decide +kernel
theorem dX0_runOfInterface_116 : decode cX0_runOfInterface 116 = .ok (.iload_n 3, 1) := by decide +kernel
theorem dX0_runOfInterface_117 : decode cX0_runOfInterface 117 = .ok (.invokevirtual 72, 3) := by decide +kernel
theorem dX0_runOfInterface_120 : decode cX0_runOfInterface 120 = .ok (.isub, 1) := by decide +kernel
theorem dX0_runOfInterface_121 : decode cX0_runOfInterface 121 = .ok (.ireturn, 1) := by decide +kernel
theorem dX0_runOfInterface_122 : decode cX0_runOfInterface 122 = .ok (.aload_n 0, 1) := by decide +kernel
theorem dX0_runOfInterface_123 : decode cX0_runOfInterface 123 = .ok (.iconst 3, 1) := by decide +kernel
theorem dX0_runOfInterface_124 : decode cX0_runOfInterface 124 = .ok (.iload_n 2, 1) := by decide +kernel
theorem dX0_runOfInterface_125 : decode cX0_runOfInterface 125 = .ok (.iload_n 3, 1) := by decide +kernel
theorem dX0_runOfInterface_126 : decode cX0_runOfInterface 126 = .ok (.invokevirtual 72, 3) := by decide +kernel
theorem dX0_runOfInterface_129 : decode cX0_runOfInterface 129 = .ok (.aload_n 0, 1) := by decide +kernel
theorem dX0_runOfInterface_130 : decode cX0_runOfInterface 130 = .ok (.iconst 3, 1) := by decide +kernel
theorem dX0_runOfInterface_131 : decode cX0_runOfInterface 131 = .ok (.iload_n 2, 1) := by decide +kernel
theorem dX0_runOfInterface_132 : decode cX0_runOfInterface 132 = .ok (.iconst 1, 1) := by decide +kernel
theorem dX0_runOfInterface_133 : decode cX0_runOfInterface 133 = .ok (.iadd, 1) := by decide +kernel
theorem dX0_runOfInterface_134 : decode cX0_runOfInterface 134 = .ok (.iload_n 3, 1) := by decide +kernel
theorem dX0_runOfInterface_135 : decode cX0_runOfInterface 135 = .ok (.invokevirtual 72, 3) := by decide +kernel
theorem dX0_runOfInterface_138 : decode cX0_runOfInterface 138 = .ok (.iadd, 1) := by decide +kernel
theorem dX0_runOfInterface_139 : decode cX0_runOfInterface 139 = .ok (.ireturn, 1) := by decide +kernel
theorem dX0_runOfInterface_140 : decode cX0_runOfInterface 140 = .ok (.aload_n 0, 1) := by decide +kernel
theorem dX0_runOfInterface_141 : decode cX0_runOfInterface 141 = .ok (.iconst 4, 1) := by decide +kernel
theorem dX0_runOfInterface_142 : decode cX0_runOfInterface 142 = .ok (.iload_n 2, 1) := by decide +kernel
theorem dX0_runOfInterface_143 : decode cX0_runOfInterface 143 = .ok (.iload_n 3, 1) := by decide +kernel
theorem dX0_runOfInterface_144 : decode cX0_runOfInterface 144 = .ok (.invokevirtual 72, 3) := by decide +kernel
theorem dX0_runOfInterface_147 : decode cX0_runOfInterface 147 = .ok (.bipush 85, 2) := by decide +kernel
theorem dX0_runOfInterface_149 : decode cX0_runOfInterface 149 = .ok (.ixor, 1) := by decide +kernel
theorem dX0_runOfInterface_150 : decode cX0_runOfInterface 150 = .ok (.ireturn, 1) := by decide +kernel
theorem dX0_runOfInterface_151 : decode cX0_runOfInterface 151 = .ok (.aload_n 0, 1) := by decide +kernel
theorem dX0_runOfInterface_152 : decode cX0_runOfInterface 152 = .ok (.iconst 2, 1) := by decide +kernel
theorem dX0_runOfInterface_153 : decode cX0_runOfInterface 153 = .ok (.iconst 2, 1) := by decide +kernel
theorem dX0_runOfInterface_154 : decode cX0_runOfInterface 154 = .ok (.iload_n 2, 1) := by decide +kernel
theorem dX0_runOfInterface_155 : decode cX0_runOfInterface 155 = .ok (.iload_n 3, 1) := by decide +kernel
theorem dX0_runOfInterface_156 : decode cX0_runOfInterface 156 = .ok (.invokevirtual 107, 3) := by decide +kernel
theorem dX0_runOfInterface_159 : decode cX0_runOfInterface 159 = .ok (.aload_n 0, 1) := by decide +kernel
theorem dX0_runOfInterface_160 : decode cX0_runOfInterface 160 = .ok (.iconst 3, 1) := by decide +kernel
theorem dX0_runOfInterface_161 : decode cX0_runOfInterface 161 = .ok (.iconst 2, 1) := by decide +kernel
theorem dX0_runOfInterface_162 : decode cX0_runOfInterface 162 = .ok (.iload_n 2, 1) := by decide +kernel
theorem dX0_runOfInterface_163 : decode cX0_runOfInterface 163 = .ok (.iconst 1, 1) := by decide +kernel
theorem dX0_runOfInterface_164 : decode cX0_runOfInterface 164 = .ok (.iadd, 1) := by decide +kernel
theorem dX0_runOfInterface_165 : decode cX0_runOfInterface 165 = .ok (.iload_n 3, 1) := by decide +kernel
theorem dX0_runOfInterface_166 : decode cX0_runOfInterface 166 = .ok (.invokevirtual 107, 3) := by decide +kernel
theorem dX0_runOfInterface_169 : decode cX0_runOfInterface 169 = .ok (.iadd, 1) := by decide +kernel
theorem dX0_runOfInterface_170 : decode cX0_runOfInterface 170 = .ok (.ireturn, 1) := by decide +kernel
theorem dX0_runOfInterface_171 : decode cX0_runOfInterface 171 = .ok (.aload_n 0, 1) := by decide +kernel
theorem dX0_runOfInterface_172 : decode cX0_runOfInterface 172 = .ok (.iconst 5, 1) := by decide +kernel
theorem dX0_runOfInterface_173 : decode cX0_runOfInterface 173 = .ok (.iload_n 2, 1) := by decide +kernel
theorem dX0_runOfInterface_174 : decode cX0_runOfInterface 174 = .ok (.iload_n 3, 1) := by decide +kernel
theorem dX0_runOfInterface_175 : decode cX0_runOfInterface 175 = .ok (.invokevirtual 72, 3) := by decide +kernel
theorem dX0_runOfInterface_178 : decode cX0_runOfInterface 178 = .ok (.iload_n 2, 1) := by decide +kernel
theorem dX0_runOfInterface_179 : decode cX0_runOfInterface 179 = .ok (.iadd, 1) := by decide +kernel
theorem dX0_runOfInterface_180 : decode cX0_runOfInterface 180 = .ok (.ireturn, 1) := by decide +kernel
theorem dX0_runOfInterface_181 : decode cX0_runOfInterface 181 = .ok (.aload_n 0, 1) := by decide +kernel
theorem dX0_runOfInterface_182 : decode cX0_runOfInterface 182 = .ok (.bipush 6, 2) := by decide +kernel
theorem dX0_runOfInterface_184 : decode cX0_runOfInterface 184 = .ok (.iload_n 2, 1) := by decide +kernel
theorem dX0_runOfInterface_185 : decode cX0_runOfInterface 185 = .ok (.iload_n 3, 1) := by decide +kernel
theorem dX0_runOfInterface_186 : decode cX0_runOfInterface 186 = .ok (.invokevirtual 72, 3) := by decide +kernel
theorem dX0_runOfInterface_189 : decode cX0_runOfInterface 189 = .ok (.iconst 2, 1) := by decide +kernel
theorem dX0_runOfInterface_190 : decode cX0_runOfInterface 190 = .ok (.imul, 1) := by decide +kernel
theorem dX0_runOfInterface_191 : decode cX0_runOfInterface 191 = .ok (.aload_n 0, 1) := by decide +kernel
theorem dX0_runOfInterface_192 : decode cX0_runOfInterface 192 = .ok (.bipush 6, 2) := by decide +kernel
theorem dX0_runOfInterface_194 : decode cX0_runOfInterface 194 = .ok (.iconst 1, 1) := by decide +kernel
theorem dX0_runOfInterface_195 : decode cX0_runOfInterface 195 = .ok (.iload_n 3, 1) := by decide +kernel
theorem dX0_runOfInterface_196 : decode cX0_runOfInterface 196 = .ok (.invokevirtual 72, 3) := by decide +kernel
theorem dX0_runOfInterface_199 : decode cX0_runOfInterface 199 = .ok (.iadd, 1) := by decide +kernel
theorem dX0_runOfInterface_200 : decode cX0_runOfInterface 200 = .ok (.ireturn, 1) := by decide +kernel
theorem dX0_runOfInterface_201 : decode cX0_runOfInterface 201 = .ok (.aload_n 0, 1) := by decide +kernel
theorem dX0_runOfInterface_202 : decode cX0_runOfInterface 202 = .ok (.iconst 5, 1) := by decide +kernel
theorem dX0_runOfInterface_203 : decode cX0_runOfInterface 203 = .ok (.bipush 7, 2) := by decide +kernel
theorem dX0_runOfInterface_205 : decode cX0_runOfInterface 205 = .ok (.iload_n 2, 1) := by decide +kernel
theorem dX0_runOfInterface_206 : decode cX0_runOfInterface 206 = .ok (.iload_n 3, 1) := by decide +kernel
theorem dX0_runOfInterface_207 : decode cX0_runOfInterface 207 = .ok (.invokevirtual 107, 3) := by decide +kernel
theorem dX0_runOfInterface_210 : decode cX0_runOfInterface 210 = .ok (.aload_n 0, 1) := by decide +kernel
theorem dX0_runOfInterface_211 : decode cX0_runOfInterface 211 = .ok (.bipush 8, 2) := by decide +kernel
theorem dX0_runOfInterface_213 : decode cX0_runOfInterface 213 = .ok (.iload_n 2, 1) := by decide +kernel
theorem dX0_runOfInterface_214 : decode cX0_runOfInterface 214 = .ok (.iload_n 3, 1) := by decide +kernel
theorem dX0_runOfInterface_215 : decode cX0_runOfInterface 215 = .ok (.invokevirtual 72, 3) := by decide +kernel
theorem dX0_runOfInterface_218 : decode cX0_runOfInterface 218 = .ok (.isub, 1) := by decide +kernel
theorem dX0_runOfInterface_219 : decode cX0_runOfInterface 219 = .ok (.ireturn, 1) := by decide +kernel
theorem dX0_runOfInterface_220 : decode cX0_runOfInterface 220 = .ok (.aload_n 0, 1) := by decide +kernel
theorem dX0_runOfInterface_221 : decode cX0_runOfInterface 221 = .ok (.bipush 52, 2) := by decide +kernel
theorem dX0_runOfInterface_223 : decode cX0_runOfInterface 223 = .ok (.iload_n 2, 1) := by decide +kernel
theorem dX0_runOfInterface_224 : decode cX0_runOfInterface 224 = .ok (.iload_n 3, 1) := by decide +kernel
theorem dX0_runOfInterface_225 : decode cX0_runOfInterface 225 = .ok (.invokevirtual 83, 3) := by decide +kernel
theorem dX0_runOfInterface_228 : decode cX0_runOfInterface 228 = .ok (.aload_n 0, 1) := by decide +kernel
theorem dX0_runOfInterface_229 : decode cX0_runOfInterface 229 = .ok (.iconst 5, 1) := by decide +kernel
theorem dX0_runOfInterface_230 : decode cX0_runOfInterface 230 = .ok (.iconst 2, 1) := by decide +kernel
theorem dX0_runOfInterface_231 : decode cX0_runOfInterface 231 = .ok (.iload_n 3, 1) := by decide +kernel
theorem dX0_runOfInterface_232 : decode cX0_runOfInterface 232 = .ok (.invokevirtual 72, 3) := by decide +kernel
theorem dX0_runOfInterface_235 : decode cX0_runOfInterface 235 = .ok (.iadd, 1) := by decide +kernel
theorem dX0_runOfInterface_236 : decode cX0_runOfInterface 236 = .ok (.ireturn, 1) := by decide +kernel
theorem dX0_runOfInterface_237 : decode cX0_runOfInterface 237 = .ok (.aload_n 0, 1) := by decide +kernel
theorem dX0_runOfInterface_238 : decode cX0_runOfInterface 238 = .ok (.iconst 5, 1) := by decide +kernel
theorem dX0_runOfInterface_239 : decode cX0_runOfInterface 239 = .ok (.iload_n 2, 1) := by decide +kernel
theorem dX0_runOfInterface_240 : decode cX0_runOfInterface 240 = .ok (.iload_n 3, 1) := by decide +kernel
theorem dX0_runOfInterface_241 : decode cX0_runOfInterface 241 = .ok (.invokevirtual 72, 3) := by decide +kernel
theorem dX0_runOfInterface_244 : decode cX0_runOfInterface 244 = .ok (.iconst 5, 1) := by decide +kernel
theorem dX0_runOfInterface_245 : decode cX0_runOfInterface 245 = .ok (.imul, 1) := by decide +kernel
theorem dX0_runOfInterface_246 : decode cX0_runOfInterface 246 = .ok (.ireturn, 1) := by decide +kernel
theorem dX0_runOfInterface_247 : decode cX0_runOfInterface 247 = .ok (.iconst 0, 1) := by decide +kernel
theorem dX0_runOfInterface_248 : decode cX0_runOfInterface 248 = .ok (.ireturn, 1) := by decide +kernel
theorem dX0_runOfAncestor_0 : decode cX0_runOfAncestor 0 = .ok (.iload_n 1, 1) := by decide +kernel
theorem dX0_runOfAncestor_1 : decode cX0_runOfAncestor 1 = .ok (.tableswitch 163 60 70 #[59, 74, 91, 109, 116, 163, 163, 163, 163, 163, 143], 59) := by decide +kernel
theorem dX0_runOfAncestor_60 : decode cX0_runOfAncestor 60 = .ok (.aload_n 0, 1) := by decide +kernel
theorem dX0_runOfAncestor_61 : decode cX0_runOfAncestor 61 = .ok (.aload_n 0, 1) := by decide +kernel
theorem dX0_runOfAncestor_62 : decode cX0_runOfAncestor 62 = .ok (.getfield 32, 3) := by decide +kernel
theorem dX0_runOfAncestor_65 : decode cX0_runOfAncestor 65 = .ok (.iload_n 2, 1) := by decide +kernel
theorem dX0_runOfAncestor_66 : decode cX0_runOfAncestor 66 = .ok (.iadd, 1) := by decide +kernel
theorem dX0_runOfAncestor_67 : decode cX0_runOfAncestor 67 = .ok (.putfield 32, 3) := by decide +kernel
theorem dX0_runOfAncestor_70 : decode cX0_runOfAncestor 70 = .ok (.aload_n 0, 1) := by decide +kernel
theorem dX0_runOfAncestor_71 : decode cX0_runOfAncestor 71 = .ok (.getfield 32, 3) := by decide +kernel
theorem dX0_runOfAncestor_74 : decode cX0_runOfAncestor 74 = .ok (.ireturn, 1) := by decide +kernel
theorem dX0_runOfAncestor_75 : decode cX0_runOfAncestor 75 = .ok (.aload_n 0, 1) := by decide +kernel
theorem dX0_runOfAncestor_76 : decode cX0_runOfAncestor 76 = .ok (.aload_n 0, 1) := by decide +kernel
theorem dX0_runOfAncestor_77 : decode cX0_runOfAncestor 77 = .ok (.getfield 32, 3) := by decide +kernel
theorem dX0_runOfAncestor_80 : decode cX0_runOfAncestor 80 = .ok (.iconst 3, 1) := by decide +kernel
theorem dX0_runOfAncestor_81 : decode cX0_runOfAncestor 81 = .ok (.iload_n 2, 1) := by decide +kernel
theorem dX0_runOfAncestor_82 : decode cX0_runOfAncestor 82 = .ok (.imul, 1) := by decide +kernel
theorem dX0_runOfAncestor_83 : decode cX0_runOfAncestor 83 = .ok (.isub, 1) := by decide +kernel
theorem dX0_runOfAncestor_84 : decode cX0_runOfAncestor 84 = .ok (.putfield 32, 3) := by decide +kernel
theorem dX0_runOfAncestor_87 : decode cX0_runOfAncestor 87 = .ok (.aload_n 0, 1) := by decide +kernel
theorem dX0_runOfAncestor_88 : decode cX0_runOfAncestor 88 = .ok (.getfield 32, 3) := by decide +kernel
theorem dX0_runOfAncestor_91 : decode cX0_runOfAncestor 91 = .ok (.ireturn, 1) := by decide +kernel
theorem dX0_runOfAncestor_92 : decode cX0_runOfAncestor 92 = .ok (.aload_n 0, 1) := by decide +kernel
theorem dX0_runOfAncestor_93 : decode cX0_runOfAncestor 93 = .ok (.aload_n 0, 1) := by decide +kernel
theorem dX0_runOfAncestor_94 : decode cX0_runOfAncestor 94 = .ok (.getfield 32, 3) := by decide +kernel
theorem dX0_runOfAncestor_97 : decode cX0_runOfAncestor 97 = .ok (.bipush 31, 2) := by decide +kernel
theorem dX0_runOfAncestor_99 : decode cX0_runOfAncestor 99 = .ok (.imul, 1) := by decide +kernel
theorem dX0_runOfAncestor_100 : decode cX0_runOfAncestor 100 = .ok (.iload_n 2, 1) := by decide +kernel
theorem dX0_runOfAncestor_101 : decode cX0_runOfAncestor 101 = .ok (.iadd, 1) := by decide +kernel
theorem dX0_runOfAncestor_102 : decode cX0_runOfAncestor 102 = .ok (.putfield 32, 3) := by decide +kernel
theorem dX0_runOfAncestor_105 : decode cX0_runOfAncestor 105 = .ok (.aload_n 0, 1) := by decide +kernel
theorem dX0_runOfAncestor_106 : decode cX0_runOfAncestor 106 = .ok (.getfield 32, 3) := by decide +kernel
theorem dX0_runOfAncestor_109 : decode cX0_runOfAncestor 109 = .ok (.ireturn, 1) := by decide +kernel
theorem dX0_runOfAncestor_110 : decode cX0_runOfAncestor 110 = .ok (.aload_n 0, 1) := by decide +kernel
theorem dX0_runOfAncestor_111 : decode cX0_runOfAncestor 111 = .ok (.getfield 32, 3) := by decide +kernel
theorem dX0_runOfAncestor_114 : decode cX0_runOfAncestor 114 = .ok (.iload_n 2, 1) := by decide +kernel
theorem dX0_runOfAncestor_115 : decode cX0_runOfAncestor 115 = .ok (.ixor, 1) := by decide +kernel
theorem dX0_runOfAncestor_116 : decode cX0_runOfAncestor 116 = .ok (.ireturn, 1) := by decide +kernel
theorem dX0_runOfAncestor_117 : decode cX0_runOfAncestor 117 = .ok (.aload_n 0, 1) := by decide +kernel
theorem dX0_runOfAncestor_118 : decode cX0_runOfAncestor 118 = .ok (.bipush 9, 2) := by decide +kernel
theorem dX0_runOfAncestor_120 : decode cX0_runOfAncestor 120 = .ok (.iload_n 2, 1) := by decide +kernel
theorem dX0_runOfAncestor_121 : decode cX0_runOfAncestor 121 = .ok (.iload_n 3, 1) := by decide +kernel
theorem dX0_runOfAncestor_122 : decode cX0_runOfAncestor 122 = .ok (.invokevirtual 72, 3) := by decide +kernel
theorem dX0_runOfAncestor_125 : decode cX0_runOfAncestor 125 = .ok (.aload_n 0, 1) := by decide +kernel
theorem dX0_runOfAncestor_126 : decode cX0_runOfAncestor 126 = .ok (.bipush 10, 2) := by decide +kernel
theorem dX0_runOfAncestor_128 : decode cX0_runOfAncestor 128 = .ok (.iconst 1, 1) := by decide +kernel
theorem dX0_runOfAncestor_129 : decode cX0_runOfAncestor 129 = .ok (.iload_n 3, 1) := by decide +kernel
theorem dX0_runOfAncestor_130 : decode cX0_runOfAncestor 130 = .ok (.invokevirtual 72, 3) := by decide +kernel
theorem dX0_runOfAncestor_133 : decode cX0_runOfAncestor 133 = .ok (.iadd, 1) := by decide +kernel
theorem dX0_runOfAncestor_134 : decode cX0_runOfAncestor 134 = .ok (.aload_n 0, 1) := by decide +kernel
theorem dX0_runOfAncestor_135 : decode cX0_runOfAncestor 135 = .ok (.bipush 63, 2) := by decide +kernel
theorem dX0_runOfAncestor_137 : decode cX0_runOfAncestor 137 = .ok (.iload_n 2, 1) := by decide +kernel
theorem dX0_runOfAncestor_138 : decode cX0_runOfAncestor 138 = .ok (.iload_n 3, 1) := by decide +kernel
theorem dX0_runOfAncestor_139 : decode cX0_runOfAncestor 139 = .ok (.invokevirtual 83, 3) := by decide +kernel
theorem dX0_runOfAncestor_142 : decode cX0_runOfAncestor 142 = .ok (.iadd, 1) := by decide +kernel
theorem dX0_runOfAncestor_143 : decode cX0_runOfAncestor 143 = .ok (.ireturn, 1) := by decide +kernel
theorem dX0_runOfAncestor_144 : decode cX0_runOfAncestor 144 = .ok (.aload_n 0, 1) := by decide +kernel
theorem dX0_runOfAncestor_145 : decode cX0_runOfAncestor 145 = .ok (.aload_n 0, 1) := by decide +kernel
theorem dX0_runOfAncestor_146 : decode cX0_runOfAncestor 146 = .ok (.getfield 45, 3) := by decide +kernel
theorem dX0_runOfAncestor_149 : decode cX0_runOfAncestor 149 = .ok (.iconst 1, 1) := by decide +kernel
theorem dX0_runOfAncestor_150 : decode cX0_runOfAncestor 150 = .ok (.iadd, 1) := by decide +kernel
theorem dX0_runOfAncestor_151 : decode cX0_runOfAncestor 151 = .ok (.putfield 45, 3) := by decide +kernel
theorem dX0_runOfAncestor_154 : decode cX0_runOfAncestor 154 = .ok (.aload_n 0, 1) := by decide +kernel
theorem dX0_runOfAncestor_155 : decode cX0_runOfAncestor 155 = .ok (.getfield 45, 3) := by decide +kernel
theorem dX0_runOfAncestor_158 : decode cX0_runOfAncestor 158 = .ok (.bipush 7, 2) := by decide +kernel
theorem dX0_runOfAncestor_160 : decode cX0_runOfAncestor 160 = .ok (.imul, 1) := by decide +kernel
theorem dX0_runOfAncestor_161 : decode cX0_runOfAncestor 161 = .ok (.iload_n 2, 1) := by decide +kernel
theorem dX0_runOfAncestor_162 : decode cX0_runOfAncestor 162 = .ok (.iadd, 1) := by decide +kernel
theorem dX0_runOfAncestor_163 : decode cX0_runOfAncestor 163 = .ok (.ireturn, 1) := by decide +kernel
theorem dX0_runOfAncestor_164 : decode cX0_runOfAncestor 164 = .ok (.iconst 0, 1) := by decide +kernel
theorem dX0_runOfAncestor_165 : decode cX0_runOfAncestor 165 = .ok (.ireturn, 1) := by decide +kernel
theorem dX0_runOfEarlierKind_0 : decode cX0_runOfEarlierKind 0 = .ok (.iload_n 1, 1) := by decide +kernel
theorem dX0_runOfEarlierKind_1 : decode cX0_runOfEarlierKind 1 = .ok (.tableswitch 331 100 142 #[187, 194, 331, 331, 331, 331, 331, 331, 331, 331, 209, 231, 242, 331, 331, 331, 331, 331, 331, 331, 249, 331, 331, 331, 331, 331, 331, 331, 331, 331, 264, 276, 331, 331, 331, 331, 331, 331, 331, 331, 290, 297, 316], 187) := by decide +kernel
theorem dX0_runOfEarlierKind_188 : decode cX0_runOfEarlierKind 188 = .ok (.aload_n 0, 1) := by decide +kernel
theorem dX0_runOfEarlierKind_189 : decode cX0_runOfEarlierKind 189 = .ok (.getfield 32, 3) := by decide +kernel
theorem dX0_runOfEarlierKind_192 : decode cX0_runOfEarlierKind 192 = .ok (.iload_n 2, 1) := by decide +kernel
theorem dX0_runOfEarlierKind_193 : decode cX0_runOfEarlierKind 193 = .ok (.iadd, 1) := by decide +kernel
theorem dX0_runOfEarlierKind_194 : decode cX0_runOfEarlierKind 194 = .ok (.ireturn, 1) := by decide +kernel
theorem dX0_runOfEarlierKind_195 : decode cX0_runOfEarlierKind 195 = .ok (.aload_n 0, 1) := by decide +kernel
theorem dX0_runOfEarlierKind_196 : decode cX0_runOfEarlierKind 196 = .ok (.bipush 7, 2) := by decide +kernel
theorem dX0_runOfEarlierKind_198 : decode cX0_runOfEarlierKind 198 = .ok (.bipush 9, 2) := by decide +kernel
theorem dX0_runOfEarlierKind_200 : decode cX0_runOfEarlierKind 200 = .ok (.iload_n 2, 1) := by decide +kernel
theorem dX0_runOfEarlierKind_201 : decode cX0_runOfEarlierKind 201 = .ok (.iconst 2, 1) := by decide +kernel
theorem dX0_runOfEarlierKind_202 : decode cX0_runOfEarlierKind 202 = .ok (.iadd, 1) := by decide +kernel
theorem dX0_runOfEarlierKind_203 : decode cX0_runOfEarlierKind 203 = .ok (.iload_n 3, 1) := by decide +kernel
theorem dX0_runOfEarlierKind_204 : decode cX0_runOfEarlierKind 204 = .ok (.invokevirtual 111, 3) := by decide +kernel
theorem dX0_runOfEarlierKind_207 : decode cX0_runOfEarlierKind 207 = .ok (.iconst 1, 1) := by decide +kernel
theorem dX0_runOfEarlierKind_208 : decode cX0_runOfEarlierKind 208 = .ok (.iadd, 1) := by decide +kernel
theorem dX0_runOfEarlierKind_209 : decode cX0_runOfEarlierKind 209 = .ok (.ireturn, 1) := by decide +kernel
theorem dX0_runOfEarlierKind_210 : decode cX0_runOfEarlierKind 210 = .ok (.aload_n 0, 1) := by decide +kernel
theorem dX0_runOfEarlierKind_211 : decode cX0_runOfEarlierKind 211 = .ok (.bipush 8, 2) := by decide +kernel
theorem dX0_runOfEarlierKind_213 : decode cX0_runOfEarlierKind 213 = .ok (.bipush 10, 2) := by decide +kernel
theorem dX0_runOfEarlierKind_215 : decode cX0_runOfEarlierKind 215 = .ok (.iload_n 2, 1) := by decide +kernel
theorem dX0_runOfEarlierKind_216 : decode cX0_runOfEarlierKind 216 = .ok (.iload_n 3, 1) := by decide +kernel
theorem dX0_runOfEarlierKind_217 : decode cX0_runOfEarlierKind 217 = .ok (.invokevirtual 111, 3) := by decide +kernel
theorem dX0_runOfEarlierKind_220 : decode cX0_runOfEarlierKind 220 = .ok (.iconst 2, 1) := by decide +kernel
theorem dX0_runOfEarlierKind_221 : decode cX0_runOfEarlierKind 221 = .ok (.imul, 1) := by decide +kernel
theorem dX0_runOfEarlierKind_222 : decode cX0_runOfEarlierKind 222 = .ok (.aload_n 0, 1) := by decide +kernel
theorem dX0_runOfEarlierKind_223 : decode cX0_runOfEarlierKind 223 = .ok (.bipush 112, 2) := by decide +kernel
theorem dX0_runOfEarlierKind_225 : decode cX0_runOfEarlierKind 225 = .ok (.iload_n 2, 1) := by decide +kernel
theorem dX0_runOfEarlierKind_226 : decode cX0_runOfEarlierKind 226 = .ok (.iload_n 3, 1) := by decide +kernel
theorem dX0_runOfEarlierKind_227 : decode cX0_runOfEarlierKind 227 = .ok (.invokevirtual 83, 3) := by decide +kernel
theorem dX0_runOfEarlierKind_230 : decode cX0_runOfEarlierKind 230 = .ok (.iadd, 1) := by decide +kernel
theorem dX0_runOfEarlierKind_231 : decode cX0_runOfEarlierKind 231 = .ok (.ireturn, 1) := by decide +kernel
theorem dX0_runOfEarlierKind_232 : decode cX0_runOfEarlierKind 232 = .ok (.aload_n 0, 1) := by decide +kernel
theorem dX0_runOfEarlierKind_233 : decode cX0_runOfEarlierKind 233 = .ok (.iconst 3, 1) := by decide +kernel
theorem dX0_runOfEarlierKind_234 : decode cX0_runOfEarlierKind 234 = .ok (.iconst 4, 1) := by decide +kernel
theorem dX0_runOfEarlierKind_235 : decode cX0_runOfEarlierKind 235 = .ok (.iload_n 2, 1) := by decide +kernel
theorem dX0_runOfEarlierKind_236 : decode cX0_runOfEarlierKind 236 = .ok (.iload_n 3, 1) := by decide +kernel
theorem dX0_runOfEarlierKind_237 : decode cX0_runOfEarlierKind 237 = .ok (.invokevirtual 107, 3) := by decide +kernel
theorem dX0_runOfEarlierKind_240 : decode cX0_runOfEarlierKind 240 = .ok (.iconst 1, 1) := by decide +kernel
theorem dX0_runOfEarlierKind_241 : decode cX0_runOfEarlierKind 241 = .ok (.isub, 1) := by decide +kernel
theorem dX0_runOfEarlierKind_242 : decode cX0_runOfEarlierKind 242 = .ok (.ireturn, 1) := by decide +kernel
theorem dX0_runOfEarlierKind_243 : decode cX0_runOfEarlierKind 243 = .ok (.aload_n 0, 1) := by decide +kernel
theorem dX0_runOfEarlierKind_244 : decode cX0_runOfEarlierKind 244 = .ok (.getfield 45, 3) := by decide +kernel
theorem dX0_runOfEarlierKind_247 : decode cX0_runOfEarlierKind 247 = .ok (.iload_n 2, 1) := by decide +kernel
theorem dX0_runOfEarlierKind_248 : decode cX0_runOfEarlierKind 248 = .ok (.isub, 1) := by decide +kernel
theorem dX0_runOfEarlierKind_249 : decode cX0_runOfEarlierKind 249 = .ok (.ireturn, 1) := by decide +kernel
theorem dX0_runOfEarlierKind_250 : decode cX0_runOfEarlierKind 250 = .ok (.aload_n 0, 1) := by decide +kernel
theorem dX0_runOfEarlierKind_251 : decode cX0_runOfEarlierKind 251 = .ok (.iconst 5, 1) := by decide +kernel
theorem dX0_runOfEarlierKind_252 : decode cX0_runOfEarlierKind 252 = .ok (.iload_n 2, 1) := by decide +kernel
theorem dX0_runOfEarlierKind_253 : decode cX0_runOfEarlierKind 253 = .ok (.iload_n 3, 1) := by decide +kernel
theorem dX0_runOfEarlierKind_254 : decode cX0_runOfEarlierKind 254 = .ok (.invokevirtual 72, 3) := by decide +kernel
theorem dX0_runOfEarlierKind_257 : decode cX0_runOfEarlierKind 257 = .ok (.iconst 3, 1) := by decide +kernel
theorem dX0_runOfEarlierKind_258 : decode cX0_runOfEarlierKind 258 = .ok (.imul, 1) := by decide +kernel
theorem dX0_runOfEarlierKind_259 : decode cX0_runOfEarlierKind 259 = .ok (.aload_n 0, 1) := by decide +kernel
theorem dX0_runOfEarlierKind_260 : decode cX0_runOfEarlierKind 260 = .ok (.getfield 32, 3) := by decide +kernel
theorem dX0_runOfEarlierKind_263 : decode cX0_runOfEarlierKind 263 = .ok (.iadd, 1) := by decide +kernel
theorem dX0_runOfEarlierKind_264 : decode cX0_runOfEarlierKind 264 = .ok (.ireturn, 1) := by decide +kernel
theorem dX0_runOfEarlierKind_265 : decode cX0_runOfEarlierKind 265 = .ok (.aload_n 0, 1) := by decide +kernel
theorem dX0_runOfEarlierKind_266 : decode cX0_runOfEarlierKind 266 = .ok (.bipush 10, 2) := by decide +kernel
theorem dX0_runOfEarlierKind_268 : decode cX0_runOfEarlierKind 268 = .ok (.iconst 0, 1) := by decide +kernel
theorem dX0_runOfEarlierKind_269 : decode cX0_runOfEarlierKind 269 = .ok (.iload_n 2, 1) := by decide +kernel
theorem dX0_runOfEarlierKind_270 : decode cX0_runOfEarlierKind 270 = .ok (.iload_n 3, 1) := by decide +kernel
theorem dX0_runOfEarlierKind_271 : decode cX0_runOfEarlierKind 271 = .ok (.invokevirtual 111, 3) := by decide +kernel
theorem dX0_runOfEarlierKind_274 : decode cX0_runOfEarlierKind 274 = .ok (.iconst 3, 1) := by decide +kernel
theorem dX0_runOfEarlierKind_275 : decode cX0_runOfEarlierKind 275 = .ok (.imul, 1) := by decide +kernel
theorem dX0_runOfEarlierKind_276 : decode cX0_runOfEarlierKind 276 = .ok (.ireturn, 1) := by decide +kernel
theorem dX0_runOfEarlierKind_277 : decode cX0_runOfEarlierKind 277 = .ok (.aload_n 0, 1) := by decide +kernel
theorem dX0_runOfEarlierKind_278 : decode cX0_runOfEarlierKind 278 = .ok (.bipush 10, 2) := by decide +kernel
theorem dX0_runOfEarlierKind_280 : decode cX0_runOfEarlierKind 280 = .ok (.iconst 1, 1) := by decide +kernel
theorem dX0_runOfEarlierKind_281 : decode cX0_runOfEarlierKind 281 = .ok (.iload_n 2, 1) := by decide +kernel
theorem dX0_runOfEarlierKind_282 : decode cX0_runOfEarlierKind 282 = .ok (.iconst 1, 1) := by decide +kernel
theorem dX0_runOfEarlierKind_283 : decode cX0_runOfEarlierKind 283 = .ok (.iadd, 1) := by decide +kernel
theorem dX0_runOfEarlierKind_284 : decode cX0_runOfEarlierKind 284 = .ok (.iload_n 3, 1) := by decide +kernel
theorem dX0_runOfEarlierKind_285 : decode cX0_runOfEarlierKind 285 = .ok (.invokevirtual 111, 3) := by decide +kernel
theorem dX0_runOfEarlierKind_288 : decode cX0_runOfEarlierKind 288 = .ok (.iconst 5, 1) := by decide +kernel
theorem dX0_runOfEarlierKind_289 : decode cX0_runOfEarlierKind 289 = .ok (.iadd, 1) := by decide +kernel
theorem dX0_runOfEarlierKind_290 : decode cX0_runOfEarlierKind 290 = .ok (.ireturn, 1) := by decide +kernel
theorem dX0_runOfEarlierKind_291 : decode cX0_runOfEarlierKind 291 = .ok (.aload_n 0, 1) := by decide +kernel
theorem dX0_runOfEarlierKind_292 : decode cX0_runOfEarlierKind 292 = .ok (.getfield 32, 3) := by decide +kernel
theorem dX0_runOfEarlierKind_295 : decode cX0_runOfEarlierKind 295 = .ok (.iload_n 2, 1) := by decide +kernel
theorem dX0_runOfEarlierKind_296 : decode cX0_runOfEarlierKind 296 = .ok (.isub, 1) := by decide +kernel
theorem dX0_runOfEarlierKind_297 : decode cX0_runOfEarlierKind 297 = .ok (.ireturn, 1) := by decide +kernel
theorem dX0_runOfEarlierKind_298 : decode cX0_runOfEarlierKind 298 = .ok (.aload_n 0, 1) := by decide +kernel
theorem dX0_runOfEarlierKind_299 : decode cX0_runOfEarlierKind 299 = .ok (.bipush 11, 2) := by decide +kernel
theorem dX0_runOfEarlierKind_301 : decode cX0_runOfEarlierKind 301 = .ok (.iconst 2, 1) := by decide +kernel
theorem dX0_runOfEarlierKind_302 : decode cX0_runOfEarlierKind 302 = .ok (.iload_n 2, 1) := by decide +kernel
theorem dX0_runOfEarlierKind_303 : decode cX0_runOfEarlierKind 303 = .ok (.iload_n 3, 1) := by decide +kernel
theorem dX0_runOfEarlierKind_304 : decode cX0_runOfEarlierKind 304 = .ok (.invokevirtual 111, 3) := by decide +kernel
theorem dX0_runOfEarlierKind_307 : decode cX0_runOfEarlierKind 307 = .ok (.aload_n 0, 1) := by decide +kernel
theorem dX0_runOfEarlierKind_308 : decode cX0_runOfEarlierKind 308 = .ok (.iconst 2, 1) := by decide +kernel
theorem dX0_runOfEarlierKind_309 : decode cX0_runOfEarlierKind 309 = .ok (.iconst 2, 1) := by decide +kernel
theorem dX0_runOfEarlierKind_310 : decode cX0_runOfEarlierKind 310 = .ok (.iconst 1, 1) := by decide +kernel
theorem dX0_runOfEarlierKind_311 : decode cX0_runOfEarlierKind 311 = .ok (.iload_n 3, 1) := by decide +kernel
theorem dX0_runOfEarlierKind_312 : decode cX0_runOfEarlierKind 312 = .ok (.invokevirtual 107, 3) := by decide +kernel
theorem dX0_runOfEarlierKind_315 : decode cX0_runOfEarlierKind 315 = .ok (.isub, 1) := by decide +kernel
theorem dX0_runOfEarlierKind_316 : decode cX0_runOfEarlierKind 316 = .ok (.ireturn, 1) := by decide +kernel
theorem dX0_runOfEarlierKind_317 : decode cX0_runOfEarlierKind 317 = .ok (.aload_n 0, 1) := by decide +kernel
theorem dX0_runOfEarlierKind_318 : decode cX0_runOfEarlierKind 318 = .ok (.bipush 11, 2) := by decide +kernel
theorem dX0_runOfEarlierKind_320 : decode cX0_runOfEarlierKind 320 = .ok (.bipush 10, 2) := by decide +kernel
theorem dX0_runOfEarlierKind_322 : decode cX0_runOfEarlierKind 322 = .ok (.iload_n 2, 1) := by decide +kernel
theorem dX0_runOfEarlierKind_323 : decode cX0_runOfEarlierKind 323 = .ok (.iconst 1, 1) := by decide +kernel
theorem dX0_runOfEarlierKind_324 : decode cX0_runOfEarlierKind 324 = .ok (.iadd, 1) := by decide +kernel
theorem dX0_runOfEarlierKind_325 : decode cX0_runOfEarlierKind 325 = .ok (.iload_n 3, 1) := by decide +kernel
theorem dX0_runOfEarlierKind_326 : decode cX0_runOfEarlierKind 326 = .ok (.invokevirtual 111, 3) := by decide +kernel
theorem dX0_runOfEarlierKind_329 : decode cX0_runOfEarlierKind 329 = .ok (.iconst 4, 1) := by decide +kernel
theorem dX0_runOfEarlierKind_330 : decode cX0_runOfEarlierKind 330 = .ok (.iadd, 1) := by decide +kernel
theorem dX0_runOfEarlierKind_331 : decode cX0_runOfEarlierKind 331 = .ok (.ireturn, 1) := by decide +kernel
theorem dX0_runOfEarlierKind_332 : decode cX0_runOfEarlierKind 332 = .ok (.iconst 0, 1) := by decide +kernel
theorem dX0_runOfEarlierKind_333 : decode cX0_runOfEarlierKind 333 = .ok (.ireturn, 1) := by decide +kernel
theorem dX0_runOfLaterKind_0 : decode cX0_runOfLaterKind 0 = .ok (.iload_n 1, 1) := by decide +kernel
theorem dX0_runOfLaterKind_1 : decode cX0_runOfLaterKind 1 = .ok (.tableswitch 422 150 204 #[235, 248, 267, 422, 422, 422, 422, 422, 422, 422, 278, 280, 295, 300, 422, 422, 422, 422, 422, 422, 422, 422, 422, 422, 422, 422, 422, 422, 422, 422, 321, 334, 422, 422, 422, 422, 422, 422, 422, 422, 352, 422, 422, 422, 422, 422, 422, 422, 422, 422, 363, 370, 391, 422, 410], 235) := by decide +kernel
theorem dX0_runOfLaterKind_236 : decode cX0_runOfLaterKind 236 = .ok (.aload_n 0, 1) := by decide +kernel
theorem dX0_runOfLaterKind_237 : decode cX0_runOfLaterKind 237 = .ok (.iconst 5, 1) := by decide +kernel
theorem dX0_runOfLaterKind_238 : decode cX0_runOfLaterKind 238 = .ok (.iload_n 2, 1) := by decide +kernel
theorem dX0_runOfLaterKind_239 : decode cX0_runOfLaterKind 239 = .ok (.iload_n 3, 1) := by decide +kernel
theorem dX0_runOfLaterKind_240 : decode cX0_runOfLaterKind 240 = .ok (.invokevirtual 72, 3) := by decide +kernel
theorem dX0_runOfLaterKind_243 : decode cX0_runOfLaterKind 243 = .ok (.aload_n 0, 1) := by decide +kernel
theorem dX0_runOfLaterKind_244 : decode cX0_runOfLaterKind 244 = .ok (.getfield 32, 3) := by decide +kernel
theorem dX0_runOfLaterKind_247 : decode cX0_runOfLaterKind 247 = .ok (.iadd, 1) := by decide +kernel
theorem dX0_runOfLaterKind_248 : decode cX0_runOfLaterKind 248 = .ok (.ireturn, 1) := by decide +kernel
theorem dX0_runOfLaterKind_249 : decode cX0_runOfLaterKind 249 = .ok (.aload_n 0, 1) := by decide +kernel
theorem dX0_runOfLaterKind_250 : decode cX0_runOfLaterKind 250 = .ok (.bipush 12, 2) := by decide +kernel
theorem dX0_runOfLaterKind_252 : decode cX0_runOfLaterKind 252 = .ok (.bipush 9, 2) := by decide +kernel
theorem dX0_runOfLaterKind_254 : decode cX0_runOfLaterKind 254 = .ok (.iload_n 2, 1) := by decide +kernel
theorem dX0_runOfLaterKind_255 : decode cX0_runOfLaterKind 255 = .ok (.iload_n 3, 1) := by decide +kernel
theorem dX0_runOfLaterKind_256 : decode cX0_runOfLaterKind 256 = .ok (.invokevirtual 111, 3) := by decide +kernel
theorem dX0_runOfLaterKind_259 : decode cX0_runOfLaterKind 259 = .ok (.aload_n 0, 1) := by decide +kernel
theorem dX0_runOfLaterKind_260 : decode cX0_runOfLaterKind 260 = .ok (.iconst 2, 1) := by decide +kernel
theorem dX0_runOfLaterKind_261 : decode cX0_runOfLaterKind 261 = .ok (.iconst 0, 1) := by decide +kernel
theorem dX0_runOfLaterKind_262 : decode cX0_runOfLaterKind 262 = .ok (.iload_n 3, 1) := by decide +kernel
theorem dX0_runOfLaterKind_263 : decode cX0_runOfLaterKind 263 = .ok (.invokevirtual 72, 3) := by decide +kernel
theorem dX0_runOfLaterKind_266 : decode cX0_runOfLaterKind 266 = .ok (.ixor, 1) := by decide +kernel
theorem dX0_runOfLaterKind_267 : decode cX0_runOfLaterKind 267 = .ok (.ireturn, 1) := by decide +kernel
theorem dX0_runOfLaterKind_268 : decode cX0_runOfLaterKind 268 = .ok (.aload_n 0, 1) := by decide +kernel
theorem dX0_runOfLaterKind_269 : decode cX0_runOfLaterKind 269 = .ok (.iconst 4, 1) := by decide +kernel
theorem dX0_runOfLaterKind_270 : decode cX0_runOfLaterKind 270 = .ok (.iconst 4, 1) := by decide +kernel
theorem dX0_runOfLaterKind_271 : decode cX0_runOfLaterKind 271 = .ok (.iload_n 2, 1) := by decide +kernel
theorem dX0_runOfLaterKind_272 : decode cX0_runOfLaterKind 272 = .ok (.iload_n 3, 1) := by decide +kernel
theorem dX0_runOfLaterKind_273 : decode cX0_runOfLaterKind 273 = .ok (.invokevirtual 107, 3) := by decide +kernel
theorem dX0_runOfLaterKind_276 : decode cX0_runOfLaterKind 276 = .ok (.iconst 1, 1) := by decide +kernel
theorem dX0_runOfLaterKind_277 : decode cX0_runOfLaterKind 277 = .ok (.iadd, 1) := by decide +kernel
theorem dX0_runOfLaterKind_278 : decode cX0_runOfLaterKind 278 = .ok (.ireturn, 1) := by decide +kernel
theorem dX0_runOfLaterKind_279 : decode cX0_runOfLaterKind 279 = .ok (.iload_n 2, 1) := by decide +kernel
theorem dX0_runOfLaterKind_280 : decode cX0_runOfLaterKind 280 = .ok (.ireturn, 1) := by decide +kernel
theorem dX0_runOfLaterKind_281 : decode cX0_runOfLaterKind 281 = .ok (.aload_n 0, 1) := by decide +kernel
theorem dX0_runOfLaterKind_282 : decode cX0_runOfLaterKind 282 = .ok (.bipush 6, 2) := by decide +kernel
theorem dX0_runOfLaterKind_284 : decode cX0_runOfLaterKind 284 = .ok (.bipush 8, 2) := by decide +kernel
theorem dX0_runOfLaterKind_286 : decode cX0_runOfLaterKind 286 = .ok (.iload_n 2, 1) := by decide +kernel
theorem dX0_runOfLaterKind_287 : decode cX0_runOfLaterKind 287 = .ok (.iload_n 3, 1) := by decide +kernel
theorem dX0_runOfLaterKind_288 : decode cX0_runOfLaterKind 288 = .ok (.invokevirtual 107, 3) := by decide +kernel
theorem dX0_runOfLaterKind_291 : decode cX0_runOfLaterKind 291 = .ok (.sipush 255, 3) := by decide +kernel
theorem dX0_runOfLaterKind_294 : decode cX0_runOfLaterKind 294 = .ok (.iand, 1) := by decide +kernel
theorem dX0_runOfLaterKind_295 : decode cX0_runOfLaterKind 295 = .ok (.ireturn, 1) := by decide +kernel
theorem dX0_runOfLaterKind_296 : decode cX0_runOfLaterKind 296 = .ok (.iload_n 2, 1) := by decide +kernel
theorem dX0_runOfLaterKind_297 : decode cX0_runOfLaterKind 297 = .ok (.bipush 99, 2) := by decide +kernel
theorem dX0_runOfLaterKind_299 : decode cX0_runOfLaterKind 299 = .ok (.iadd, 1) := by decide +kernel
theorem dX0_runOfLaterKind_300 : decode cX0_runOfLaterKind 300 = .ok (.ireturn, 1) := by decide +kernel
theorem dX0_runOfLaterKind_301 : decode cX0_runOfLaterKind 301 = .ok (.aload_n 0, 1) := by decide +kernel
theorem dX0_runOfLaterKind_302 : decode cX0_runOfLaterKind 302 = .ok (.sipush 162, 3) := by decide +kernel
theorem dX0_runOfLaterKind_305 : decode cX0_runOfLaterKind 305 = .ok (.iload_n 2, 1) := by decide +kernel
theorem dX0_runOfLaterKind_306 : decode cX0_runOfLaterKind 306 = .ok (.iload_n 3, 1) := by decide +kernel
theorem dX0_runOfLaterKind_307 : decode cX0_runOfLaterKind 307 = .ok (.invokevirtual 83, 3) := by decide +kernel
theorem dX0_runOfLaterKind_310 : decode cX0_runOfLaterKind 310 = .ok (.aload_n 0, 1) := by decide +kernel
theorem dX0_runOfLaterKind_311 : decode cX0_runOfLaterKind 311 = .ok (.bipush 13, 2) := by decide +kernel
theorem dX0_runOfLaterKind_313 : decode cX0_runOfLaterKind 313 = .ok (.bipush 9, 2) := by decide +kernel
theorem dX0_runOfLaterKind_315 : decode cX0_runOfLaterKind 315 = .ok (.iconst 1, 1) := by decide +kernel
theorem dX0_runOfLaterKind_316 : decode cX0_runOfLaterKind 316 = .ok (.iload_n 3, 1) := by decide +kernel
theorem dX0_runOfLaterKind_317 : decode cX0_runOfLaterKind 317 = .ok (.invokevirtual 111, 3) := by decide +kernel
theorem dX0_runOfLaterKind_320 : decode cX0_runOfLaterKind 320 = .ok (.iadd, 1) := by decide +kernel
theorem dX0_runOfLaterKind_321 : decode cX0_runOfLaterKind 321 = .ok (.ireturn, 1) := by decide +kernel
theorem dX0_runOfLaterKind_322 : decode cX0_runOfLaterKind 322 = .ok (.aload_n 0, 1) := by decide +kernel
theorem dX0_runOfLaterKind_323 : decode cX0_runOfLaterKind 323 = .ok (.bipush 15, 2) := by decide +kernel
theorem dX0_runOfLaterKind_325 : decode cX0_runOfLaterKind 325 = .ok (.bipush 9, 2) := by decide +kernel
theorem dX0_runOfLaterKind_327 : decode cX0_runOfLaterKind 327 = .ok (.iload_n 2, 1) := by decide +kernel
theorem dX0_runOfLaterKind_328 : decode cX0_runOfLaterKind 328 = .ok (.iload_n 3, 1) := by decide +kernel
theorem dX0_runOfLaterKind_329 : decode cX0_runOfLaterKind 329 = .ok (.invokevirtual 111, 3) := by decide +kernel
theorem dX0_runOfLaterKind_332 : decode cX0_runOfLaterKind 332 = .ok (.iconst 1, 1) := by decide +kernel
theorem dX0_runOfLaterKind_333 : decode cX0_runOfLaterKind 333 = .ok (.isub, 1) := by decide +kernel
theorem dX0_runOfLaterKind_334 : decode cX0_runOfLaterKind 334 = .ok (.ireturn, 1) := by decide +kernel
theorem dX0_runOfLaterKind_335 : decode cX0_runOfLaterKind 335 = .ok (.aload_n 0, 1) := by decide +kernel
theorem dX0_runOfLaterKind_336 : decode cX0_runOfLaterKind 336 = .ok (.bipush 15, 2) := by decide +kernel
theorem dX0_runOfLaterKind_338 : decode cX0_runOfLaterKind 338 = .ok (.iconst 2, 1) := by decide +kernel
theorem dX0_runOfLaterKind_339 : decode cX0_runOfLaterKind 339 = .ok (.iload_n 2, 1) := by decide +kernel
theorem dX0_runOfLaterKind_340 : decode cX0_runOfLaterKind 340 = .ok (.iload_n 3, 1) := by decide +kernel
theorem dX0_runOfLaterKind_341 : decode cX0_runOfLaterKind 341 = .ok (.invokevirtual 111, 3) := by decide +kernel
theorem dX0_runOfLaterKind_344 : decode cX0_runOfLaterKind 344 = .ok (.aload_n 0, 1) := by decide +kernel
theorem dX0_runOfLaterKind_345 : decode cX0_runOfLaterKind 345 = .ok (.iconst 1, 1) := by decide +kernel
theorem dX0_runOfLaterKind_346 : decode cX0_runOfLaterKind 346 = .ok (.iconst 2, 1) := by decide +kernel
theorem dX0_runOfLaterKind_347 : decode cX0_runOfLaterKind 347 = .ok (.iload_n 3, 1) := by decide +kernel
theorem dX0_runOfLaterKind_348 : decode cX0_runOfLaterKind 348 = .ok (.invokevirtual 72, 3) := by decide +kernel
theorem dX0_runOfLaterKind_351 : decode cX0_runOfLaterKind 351 = .ok (.iadd, 1) := by decide +kernel
theorem dX0_runOfLaterKind_352 : decode cX0_runOfLaterKind 352 = .ok (.ireturn, 1) := by decide +kernel
theorem dX0_runOfLaterKind_353 : decode cX0_runOfLaterKind 353 = .ok (.aload_n 0, 1) := by decide +kernel
theorem dX0_runOfLaterKind_354 : decode cX0_runOfLaterKind 354 = .ok (.bipush 10, 2) := by decide +kernel
theorem dX0_runOfLaterKind_356 : decode cX0_runOfLaterKind 356 = .ok (.iload_n 2, 1) := by decide +kernel
theorem dX0_runOfLaterKind_357 : decode cX0_runOfLaterKind 357 = .ok (.iload_n 3, 1) := by decide +kernel
theorem dX0_runOfLaterKind_358 : decode cX0_runOfLaterKind 358 = .ok (.invokevirtual 72, 3) := by decide +kernel
theorem dX0_runOfLaterKind_361 : decode cX0_runOfLaterKind 361 = .ok (.iconst 2, 1) := by decide +kernel
theorem dX0_runOfLaterKind_362 : decode cX0_runOfLaterKind 362 = .ok (.imul, 1) := by decide +kernel
theorem dX0_runOfLaterKind_363 : decode cX0_runOfLaterKind 363 = .ok (.ireturn, 1) := by decide +kernel
theorem dX0_runOfLaterKind_364 : decode cX0_runOfLaterKind 364 = .ok (.aload_n 0, 1) := by decide +kernel
theorem dX0_runOfLaterKind_365 : decode cX0_runOfLaterKind 365 = .ok (.getfield 45, 3) := by decide +kernel
theorem dX0_runOfLaterKind_368 : decode cX0_runOfLaterKind 368 = .ok (.iload_n 2, 1) := by decide +kernel
theorem dX0_runOfLaterKind_369 : decode cX0_runOfLaterKind 369 = .ok (.iadd, 1) := by decide +kernel
theorem dX0_runOfLaterKind_370 : decode cX0_runOfLaterKind 370 = .ok (.ireturn, 1) := by decide +kernel
theorem dX0_runOfLaterKind_371 : decode cX0_runOfLaterKind 371 = .ok (.aload_n 0, 1) := by decide +kernel
theorem dX0_runOfLaterKind_372 : decode cX0_runOfLaterKind 372 = .ok (.bipush 6, 2) := by decide +kernel
theorem dX0_runOfLaterKind_374 : decode cX0_runOfLaterKind 374 = .ok (.bipush 7, 2) := by decide +kernel
theorem dX0_runOfLaterKind_376 : decode cX0_runOfLaterKind 376 = .ok (.iload_n 2, 1) := by decide +kernel
theorem dX0_runOfLaterKind_377 : decode cX0_runOfLaterKind 377 = .ok (.iload_n 3, 1) := by decide +kernel
theorem dX0_runOfLaterKind_378 : decode cX0_runOfLaterKind 378 = .ok (.invokevirtual 107, 3) := by decide +kernel
theorem dX0_runOfLaterKind_381 : decode cX0_runOfLaterKind 381 = .ok (.aload_n 0, 1) := by decide +kernel
theorem dX0_runOfLaterKind_382 : decode cX0_runOfLaterKind 382 = .ok (.sipush 200, 3) := by decide +kernel
theorem dX0_runOfLaterKind_385 : decode cX0_runOfLaterKind 385 = .ok (.iload_n 2, 1) := by decide +kernel
theorem dX0_runOfLaterKind_386 : decode cX0_runOfLaterKind 386 = .ok (.iload_n 3, 1) := by decide +kernel
theorem dX0_runOfLaterKind_387 : decode cX0_runOfLaterKind 387 = .ok (.invokevirtual 83, 3) := by decide +kernel
theorem dX0_runOfLaterKind_390 : decode cX0_runOfLaterKind 390 = .ok (.iadd, 1) := by decide +kernel
theorem dX0_runOfLaterKind_391 : decode cX0_runOfLaterKind 391 = .ok (.ireturn, 1) := by decide +kernel
theorem dX0_runOfLaterKind_392 : decode cX0_runOfLaterKind 392 = .ok (.aload_n 0, 1) := by decide +kernel
theorem dX0_runOfLaterKind_393 : decode cX0_runOfLaterKind 393 = .ok (.iconst 4, 1) := by decide +kernel
theorem dX0_runOfLaterKind_394 : decode cX0_runOfLaterKind 394 = .ok (.iconst 2, 1) := by decide +kernel
theorem dX0_runOfLaterKind_395 : decode cX0_runOfLaterKind 395 = .ok (.iload_n 2, 1) := by decide +kernel
theorem dX0_runOfLaterKind_396 : decode cX0_runOfLaterKind 396 = .ok (.iload_n 3, 1) := by decide +kernel
theorem dX0_runOfLaterKind_397 : decode cX0_runOfLaterKind 397 = .ok (.invokevirtual 107, 3) := by decide +kernel
theorem dX0_runOfLaterKind_400 : decode cX0_runOfLaterKind 400 = .ok (.aload_n 0, 1) := by decide +kernel
theorem dX0_runOfLaterKind_401 : decode cX0_runOfLaterKind 401 = .ok (.bipush 17, 2) := by decide +kernel
theorem dX0_runOfLaterKind_403 : decode cX0_runOfLaterKind 403 = .ok (.iconst 2, 1) := by decide +kernel
theorem dX0_runOfLaterKind_404 : decode cX0_runOfLaterKind 404 = .ok (.iload_n 2, 1) := by decide +kernel
theorem dX0_runOfLaterKind_405 : decode cX0_runOfLaterKind 405 = .ok (.iload_n 3, 1) := by decide +kernel
theorem dX0_runOfLaterKind_406 : decode cX0_runOfLaterKind 406 = .ok (.invokevirtual 111, 3) := by decide +kernel
theorem dX0_runOfLaterKind_409 : decode cX0_runOfLaterKind 409 = .ok (.iadd, 1) := by decide +kernel
theorem dX0_runOfLaterKind_410 : decode cX0_runOfLaterKind 410 = .ok (.ireturn, 1) := by decide +kernel
theorem dX0_runOfLaterKind_411 : decode cX0_runOfLaterKind 411 = .ok (.aload_n 0, 1) := by decide +kernel
theorem dX0_runOfLaterKind_412 : decode cX0_runOfLaterKind 412 = .ok (.bipush 17, 2) := by decide +kernel
theorem dX0_runOfLaterKind_414 : decode cX0_runOfLaterKind 414 = .ok (.iconst 5, 1) := by decide +kernel
theorem dX0_runOfLaterKind_415 : decode cX0_runOfLaterKind 415 = .ok (.iload_n 2, 1) := by decide +kernel
theorem dX0_runOfLaterKind_416 : decode cX0_runOfLaterKind 416 = .ok (.iload_n 3, 1) := by decide +kernel
theorem dX0_runOfLaterKind_417 : decode cX0_runOfLaterKind 417 = .ok (.invokevirtual 111, 3) := by decide +kernel
theorem dX0_runOfLaterKind_420 : decode cX0_runOfLaterKind 420 = .ok (.iconst 1, 1) := by decide +kernel
theorem dX0_runOfLaterKind_421 : decode cX0_runOfLaterKind 421 = .ok (.iadd, 1) := by decide +kernel
theorem dX0_runOfLaterKind_422 : decode cX0_runOfLaterKind 422 = .ok (.ireturn, 1) := by decide +kernel
theorem dX0_runOfLaterKind_423 : decode cX0_runOfLaterKind 423 = .ok (.iconst 0, 1) := by decide +kernel
theorem dX0_runOfLaterKind_424 : decode cX0_runOfLaterKind 424 = .ok (.ireturn, 1) := by decide +kernel
theorem dX1_init_0 : decode cX1_init 0 = .ok (.aload_n 0, 1) := by decide +kernel
theorem dX1_init_1 : decode cX1_init 1 = .ok (.invokespecial 3, 3) := by decide +kernel
theorem dX1_init_4 : decode cX1_init 4 = .ok (.aload_n 0, 1) := by decide +kernel
theorem dX1_init_5 : decode cX1_init 5 = .ok (.bipush 18, 2) := by decide +kernel
theorem dX1_init_7 : decode cX1_init 7 = .ok (.newarray .int, 2) := by decide +kernel
theorem dX1_init_9 : decode cX1_init 9 = .ok (.putfield 9, 3) := by decide +kernel
theorem dX1_init_12 : decode cX1_init 12 = .ok (.aload_n 0, 1) := by decide +kernel
theorem dX1_init_13 : decode cX1_init 13 = .ok (.sipush 216, 3) := by decide +kernel
theorem dX1_init_16 : decode cX1_init 16 = .ok (.newarray .int, 2) := by decide +kernel
theorem dX1_init_18 : decode cX1_init 18 = .ok (.putfield 15, 3) := by decide +kernel
theorem dX1_init_21 : decode cX1_init 21 = .ok (.iconst 0, 1) := by decide +kernel
theorem dX1_init_22 : decode cX1_init 22 = .ok (.istore_n 1, 1) := by decide +kernel
theorem dX1_init_23 : decode cX1_init 23 = .ok (.iload_n 1, 1) := by decide +kernel
theorem dX1_init_24 : decode cX1_init 24 = .ok (.bipush 18, 2) := by decide +kernel
theorem dX1_init_26 : decode cX1_init 26 = .ok (.if_icmp .ge 57, 3) := by decide +kernel
theorem dX1_init_29 : decode cX1_init 29 = .ok (.aload_n 0, 1) := by decide +kernel
theorem dX1_init_30 : decode cX1_init 30 = .ok (.getfield 9, 3) := by decide +kernel
theorem dX1_init_33 : decode cX1_init 33 = .ok (.iload_n 1, 1) := by decide +kernel
theorem dX1_init_34 : decode cX1_init 34 = .ok (.iload_n 1, 1) := by decide +kernel
theorem dX1_init_35 : decode cX1_init 35 = .ok (.aload_n 0, 1) := by decide +kernel
theorem dX1_init_36 : decode cX1_init 36 = .ok (.getfield 9, 3) := by decide +kernel
theorem dX1_init_39 : decode cX1_init 39 = .ok (.invokestatic 18, 3) := by decide +kernel
theorem dX1_init_42 : decode cX1_init 42 = .ok (.iastore, 1) := by decide +kernel
theorem dX1_init_43 : decode cX1_init 43 = .ok (.iconst 0, 1) := by decide +kernel
theorem dX1_init_44 : decode cX1_init 44 = .ok (.istore_n 2, 1) := by decide +kernel
theorem dX1_init_45 : decode cX1_init 45 = .ok (.iload_n 2, 1) := by decide +kernel
theorem dX1_init_46 : decode cX1_init 46 = .ok (.bipush 12, 2) := by decide +kernel
theorem dX1_init_48 : decode cX1_init 48 = .ok (.if_icmp .ge 29, 3) := by decide +kernel
theorem dX1_init_51 : decode cX1_init 51 = .ok (.aload_n 0, 1) := by decide +kernel
theorem dX1_init_52 : decode cX1_init 52 = .ok (.getfield 15, 3) := by decide +kernel
theorem dX1_init_55 : decode cX1_init 55 = .ok (.iload_n 1, 1) := by decide +kernel
theorem dX1_init_56 : decode cX1_init 56 = .ok (.bipush 12, 2) := by decide +kernel
theorem dX1_init_58 : decode cX1_init 58 = .ok (.imul, 1) := by decide +kernel
theorem dX1_init_59 : decode cX1_init 59 = .ok (.iload_n 2, 1) := by decide +kernel
theorem dX1_init_60 : decode cX1_init 60 = .ok (.iadd, 1) := by decide +kernel
theorem dX1_init_61 : decode cX1_init 61 = .ok (.iload_n 1, 1) := by decide +kernel
theorem dX1_init_62 : decode cX1_init 62 = .ok (.iload_n 2, 1) := by decide +kernel
theorem dX1_init_63 : decode cX1_init 63 = .ok (.aload_n 0, 1) := by decide +kernel
theorem dX1_init_64 : decode cX1_init 64 = .ok (.getfield 9, 3) := by decide +kernel
theorem dX1_init_67 : decode cX1_init 67 = .ok (.invokestatic 22, 3) := by decide +kernel
theorem dX1_init_70 : decode cX1_init 70 = .ok (.iastore, 1) := by decide +kernel
theorem dX1_init_71 : decode cX1_init 71 = .ok (.iinc 2 1, 3) := by decide +kernel
theorem dX1_init_74 : decode cX1_init 74 = .ok (.goto (-29), 3) := by decide +kernel
theorem dX1_init_77 : decode cX1_init 77 = .ok (.iinc 1 1, 3) := by decide +kernel
theorem dX1_init_80 : decode cX1_init 80 = .ok (.goto (-57), 3) := by decide +kernel
theorem dX1_init_83 : decode cX1_init 83 = .ok (.return_, 1) := by decide +kernel
theorem dX1_isType_0 : decode cX1_isType 0 = .ok (.iload_n 0, 1) := by decide +kernel
theorem dX1_isType_1 : decode cX1_isType 1 = .ok (.ifCond .lt 13, 3) := by decide +kernel
theorem dX1_isType_4 : decode cX1_isType 4 = .ok (.iload_n 0, 1) := by decide +kernel
theorem dX1_isType_5 : decode cX1_isType 5 = .ok (.bipush 18, 2) := by decide +kernel
theorem dX1_isType_7 : decode cX1_isType 7 = .ok (.if_icmp .ge 7, 3) := by decide +kernel
theorem dX1_isType_10 : decode cX1_isType 10 = .ok (.iconst 1, 1) := by decide +kernel
theorem dX1_isType_11 : decode cX1_isType 11 = .ok (.goto 4, 3) := by decide +kernel
theorem dX1_isType_14 : decode cX1_isType 14 = .ok (.iconst 0, 1) := by decide +kernel
theorem dX1_isType_15 : decode cX1_isType 15 = .ok (.ireturn, 1) := by decide +kernel
theorem dX1_isInterface_0 : decode cX1_isInterface 0 = .ok (.iload_n 0, 1) := by decide +kernel
theorem dX1_isInterface_1 : decode cX1_isInterface 1 = .ok (.iconst 2, 1) := by decide +kernel
theorem dX1_isInterface_2 : decode cX1_isInterface 2 = .ok (.if_icmp .lt 13, 3) := by decide +kernel
theorem dX1_isInterface_5 : decode cX1_isInterface 5 = .ok (.iload_n 0, 1) := by decide +kernel
theorem dX1_isInterface_6 : decode cX1_isInterface 6 = .ok (.bipush 6, 2) := by decide +kernel
theorem dX1_isInterface_8 : decode cX1_isInterface 8 = .ok (.if_icmp .gt 7, 3) := by decide +kernel
theorem dX1_isInterface_11 : decode cX1_isInterface 11 = .ok (.iconst 1, 1) := by decide +kernel
theorem dX1_isInterface_12 : decode cX1_isInterface 12 = .ok (.goto 4, 3) := by decide +kernel
theorem dX1_isInterface_15 : decode cX1_isInterface 15 = .ok (.iconst 0, 1) := by decide +kernel
theorem dX1_isInterface_16 : decode cX1_isInterface 16 = .ok (.ireturn, 1) := by decide +kernel
theorem dX1_holds_0 : decode cX1_holds 0 = .ok (.iload_n 0, 1) := by decide +kernel
theorem dX1_holds_1 : decode cX1_holds 1 = .ok (.iload_n 1, 1) := by decide +kernel
theorem dX1_holds_2 : decode cX1_holds 2 = .ok (.ishr, 1) := by decide +kernel
theorem dX1_holds_3 : decode cX1_holds 3 = .ok (.iconst 1, 1) := by decide +kernel
theorem dX1_holds_4 : decode cX1_holds 4 = .ok (.iand, 1) := by decide +kernel
theorem dX1_holds_5 : decode cX1_holds 5 = .ok (.iconst 1, 1) := by decide +kernel
theorem dX1_holds_6 : decode cX1_holds 6 = .ok (.if_icmp .ne 7, 3) := by decide +kernel
theorem dX1_holds_9 : decode cX1_holds 9 = .ok (.iconst 1, 1) := by decide +kernel
theorem dX1_holds_10 : decode cX1_holds 10 = .ok (.goto 4, 3) := by decide +kernel
theorem dX1_holds_13 : decode cX1_holds 13 = .ok (.iconst 0, 1) := by decide +kernel
theorem dX1_holds_14 : decode cX1_holds 14 = .ok (.ireturn, 1) := by decide +kernel
theorem dX1_parentOf_0 : decode cX1_parentOf 0 = .ok (.iload_n 0, 1) := by decide +kernel
theorem dX1_parentOf_1 : decode cX1_parentOf 1 = .ok (.invokestatic 26, 3) := by decide +kernel
theorem dX1_parentOf_4 : decode cX1_parentOf 4 = .ok (.ifCond .eq 11, 3) := by decide +kernel
theorem dX1_parentOf_7 : decode cX1_parentOf 7 = .ok (.getstatic 30, 3) := by decide +kernel
theorem dX1_parentOf_10 : decode cX1_parentOf 10 = .ok (.iload_n 0, 1) := by decide +kernel
theorem dX1_parentOf_11 : decode cX1_parentOf 11 = .ok (.iaload, 1) := by decide +kernel
theorem dX1_parentOf_12 : decode cX1_parentOf 12 = .ok (.goto 4, 3) := by decide +kernel
theorem dX1_parentOf_15 : decode cX1_parentOf 15 = .ok (.iconst (-1), 1) := by decide +kernel
theorem dX1_parentOf_16 : decode cX1_parentOf 16 = .ok (.ireturn, 1) := by decide +kernel
theorem dX1_bodyOf_0 : decode cX1_bodyOf 0 = .ok (.iload_n 0, 1) := by decide +kernel
theorem dX1_bodyOf_1 : decode cX1_bodyOf 1 = .ok (.invokestatic 26, 3) := by decide +kernel
theorem dX1_bodyOf_4 : decode cX1_bodyOf 4 = .ok (.ifCond .eq 23, 3) := by decide +kernel
theorem dX1_bodyOf_7 : decode cX1_bodyOf 7 = .ok (.iload_n 1, 1) := by decide +kernel
theorem dX1_bodyOf_8 : decode cX1_bodyOf 8 = .ok (.invokestatic 33, 3) := by decide +kernel
theorem dX1_bodyOf_11 : decode cX1_bodyOf 11 = .ok (.ifCond .eq 16, 3) := by decide +kernel
theorem dX1_bodyOf_14 : decode cX1_bodyOf 14 = .ok (.getstatic 36, 3) := by decide +kernel
theorem dX1_bodyOf_17 : decode cX1_bodyOf 17 = .ok (.iload_n 0, 1) := by decide +kernel
theorem dX1_bodyOf_18 : decode cX1_bodyOf 18 = .ok (.bipush 12, 2) := by decide +kernel
theorem dX1_bodyOf_20 : decode cX1_bodyOf 20 = .ok (.imul, 1) := by decide +kernel
theorem dX1_bodyOf_21 : decode cX1_bodyOf 21 = .ok (.iload_n 1, 1) := by decide +kernel
theorem dX1_bodyOf_22 : decode cX1_bodyOf 22 = .ok (.iadd, 1) := by decide +kernel
theorem dX1_bodyOf_23 : decode cX1_bodyOf 23 = .ok (.iaload, 1) := by decide +kernel
theorem dX1_bodyOf_24 : decode cX1_bodyOf 24 = .ok (.goto 4, 3) := by decide +kernel
theorem dX1_bodyOf_27 : decode cX1_bodyOf 27 = .ok (.iconst 0, 1) := by decide +kernel
theorem dX1_bodyOf_28 : decode cX1_bodyOf 28 = .ok (.ireturn, 1) := by decide +kernel
theorem dX1_bearsOne_0 : decode cX1_bearsOne 0 = .ok (.iload_n 0, 1) := by decide +kernel
theorem dX1_bearsOne_1 : decode cX1_bearsOne 1 = .ok (.invokestatic 26, 3) := by decide +kernel
theorem dX1_bearsOne_4 : decode cX1_bearsOne 4 = .ok (.ifCond .eq 17, 3) := by decide +kernel
theorem dX1_bearsOne_7 : decode cX1_bearsOne 7 = .ok (.aload_n 2, 1) := by decide +kernel
theorem dX1_bearsOne_8 : decode cX1_bearsOne 8 = .ok (.iload_n 0, 1) := by decide +kernel
theorem dX1_bearsOne_9 : decode cX1_bearsOne 9 = .ok (.iaload, 1) := by decide +kernel
theorem dX1_bearsOne_10 : decode cX1_bearsOne 10 = .ok (.iload_n 1, 1) := by decide +kernel
theorem dX1_bearsOne_11 : decode cX1_bearsOne 11 = .ok (.invokestatic 39, 3) := by decide +kernel
theorem dX1_bearsOne_14 : decode cX1_bearsOne 14 = .ok (.ifCond .eq 7, 3) := by decide +kernel
theorem dX1_bearsOne_17 : decode cX1_bearsOne 17 = .ok (.iconst 1, 1) := by decide +kernel
theorem dX1_bearsOne_18 : decode cX1_bearsOne 18 = .ok (.goto 4, 3) := by decide +kernel
theorem dX1_bearsOne_21 : decode cX1_bearsOne 21 = .ok (.iconst 0, 1) := by decide +kernel
theorem dX1_bearsOne_22 : decode cX1_bearsOne 22 = .ok (.ireturn, 1) := by decide +kernel
theorem dX1_interfacesOf_0 : decode cX1_interfacesOf 0 = .ok (.iload_n 0, 1) := by decide +kernel
theorem dX1_interfacesOf_1 : decode cX1_interfacesOf 1 = .ok (.invokestatic 26, 3) := by decide +kernel
theorem dX1_interfacesOf_4 : decode cX1_interfacesOf 4 = .ok (.ifCond .ne 5, 3) := by decide +kernel
theorem dX1_interfacesOf_7 : decode cX1_interfacesOf 7 = .ok (.iconst 0, 1) := by decide +kernel
theorem dX1_interfacesOf_8 : decode cX1_interfacesOf 8 = .ok (.ireturn, 1) := by decide +kernel
theorem dX1_interfacesOf_9 : decode cX1_interfacesOf 9 = .ok (.iload_n 0, 1) := by decide +kernel
theorem dX1_interfacesOf_10 : decode cX1_interfacesOf 10 = .ok (.invokestatic 43, 3) := by decide +kernel
theorem dX1_interfacesOf_13 : decode cX1_interfacesOf 13 = .ok (.istore_n 2, 1) := by decide +kernel
theorem dX1_interfacesOf_14 : decode cX1_interfacesOf 14 = .ok (.iload_n 0, 1) := by decide +kernel
theorem dX1_interfacesOf_15 : decode cX1_interfacesOf 15 = .ok (.invokestatic 47, 3) := by decide +kernel
theorem dX1_interfacesOf_18 : decode cX1_interfacesOf 18 = .ok (.ifCond .eq 9, 3) := by decide +kernel
theorem dX1_interfacesOf_21 : decode cX1_interfacesOf 21 = .ok (.iconst 1, 1) := by decide +kernel
theorem dX1_interfacesOf_22 : decode cX1_interfacesOf 22 = .ok (.iload_n 0, 1) := by decide +kernel
theorem dX1_interfacesOf_23 : decode cX1_interfacesOf 23 = .ok (.ishl, 1) := by decide +kernel
theorem dX1_interfacesOf_24 : decode cX1_interfacesOf 24 = .ok (.goto 4, 3) := by decide +kernel
theorem dX1_interfacesOf_27 : decode cX1_interfacesOf 27 = .ok (.iconst 0, 1) := by decide +kernel
theorem dX1_interfacesOf_28 : decode cX1_interfacesOf 28 = .ok (.istore_n 3, 1) := by decide +kernel
theorem dX1_interfacesOf_29 : decode cX1_interfacesOf 29 = .ok (.iload_n 2, 1) := by decide +kernel
theorem dX1_interfacesOf_30 : decode cX1_interfacesOf 30 = .ok (.invokestatic 26, 3) := by decide +kernel
theorem dX1_interfacesOf_33 : decode cX1_interfacesOf 33 = .ok (.ifCond .eq 9, 3) := by decide +kernel
theorem dX1_interfacesOf_36 : decode cX1_interfacesOf 36 = .ok (.iload_n 3, 1) := by decide +kernel
theorem dX1_interfacesOf_37 : decode cX1_interfacesOf 37 = .ok (.aload_n 1, 1) := by decide +kernel
theorem dX1_interfacesOf_38 : decode cX1_interfacesOf 38 = .ok (.iload_n 2, 1) := by decide +kernel
theorem dX1_interfacesOf_39 : decode cX1_interfacesOf 39 = .ok (.iaload, 1) := by decide +kernel
theorem dX1_interfacesOf_40 : decode cX1_interfacesOf 40 = .ok (.ior, 1) := by decide +kernel
theorem dX1_interfacesOf_41 : decode cX1_interfacesOf 41 = .ok (.istore_n 3, 1) := by decide +kernel
theorem dX1_interfacesOf_42 : decode cX1_interfacesOf 42 = .ok (.iconst 2, 1) := by decide +kernel
theorem dX1_interfacesOf_43 : decode cX1_interfacesOf 43 = .ok (.istore 4, 2) := by decide +kernel
theorem dX1_interfacesOf_45 : decode cX1_interfacesOf 45 = .ok (.iload 4, 2) := by decide +kernel
theorem dX1_interfacesOf_47 : decode cX1_interfacesOf 47 = .ok (.bipush 6, 2) := by decide +kernel
theorem dX1_interfacesOf_49 : decode cX1_interfacesOf 49 = .ok (.if_icmp .gt 29, 3) := by decide +kernel
theorem dX1_interfacesOf_52 : decode cX1_interfacesOf 52 = .ok (.getstatic 50, 3) := by decide +kernel
theorem dX1_interfacesOf_55 : decode cX1_interfacesOf 55 = .ok (.iload_n 0, 1) := by decide +kernel
theorem dX1_interfacesOf_56 : decode cX1_interfacesOf 56 = .ok (.iaload, 1) := by decide +kernel
theorem dX1_interfacesOf_57 : decode cX1_interfacesOf 57 = .ok (.iload 4, 2) := by decide +kernel
theorem dX1_interfacesOf_59 : decode cX1_interfacesOf 59 = .ok (.invokestatic 39, 3) := by decide +kernel
theorem dX1_interfacesOf_62 : decode cX1_interfacesOf 62 = .ok (.ifCond .eq 10, 3) := by decide +kernel
theorem dX1_interfacesOf_65 : decode cX1_interfacesOf 65 = .ok (.iload_n 3, 1) := by decide +kernel
theorem dX1_interfacesOf_66 : decode cX1_interfacesOf 66 = .ok (.aload_n 1, 1) := by decide +kernel
theorem dX1_interfacesOf_67 : decode cX1_interfacesOf 67 = .ok (.iload 4, 2) := by decide +kernel
theorem dX1_interfacesOf_69 : decode cX1_interfacesOf 69 = .ok (.iaload, 1) := by decide +kernel
theorem dX1_interfacesOf_70 : decode cX1_interfacesOf 70 = .ok (.ior, 1) := by decide +kernel
theorem dX1_interfacesOf_71 : decode cX1_interfacesOf 71 = .ok (.istore_n 3, 1) := by decide +kernel
theorem dX1_interfacesOf_72 : decode cX1_interfacesOf 72 = .ok (.iinc 4 1, 3) := by decide +kernel
theorem dX1_interfacesOf_75 : decode cX1_interfacesOf 75 = .ok (.goto (-30), 3) := by decide +kernel
theorem dX1_interfacesOf_78 : decode cX1_interfacesOf 78 = .ok (.iload_n 3, 1) := by decide +kernel
theorem dX1_interfacesOf_79 : decode cX1_interfacesOf 79 = .ok (.ireturn, 1) := by decide +kernel
theorem dX1_select_0 : decode cX1_select 0 = .ok (.iload_n 0, 1) := by decide +kernel
theorem dX1_select_1 : decode cX1_select 1 = .ok (.iload_n 1, 1) := by decide +kernel
theorem dX1_select_2 : decode cX1_select 2 = .ok (.invokestatic 53, 3) := by decide +kernel
theorem dX1_select_5 : decode cX1_select 5 = .ok (.istore_n 3, 1) := by decide +kernel
theorem dX1_select_6 : decode cX1_select 6 = .ok (.iload_n 3, 1) := by decide +kernel
theorem dX1_select_7 : decode cX1_select 7 = .ok (.ifCond .eq 7, 3) := by decide +kernel
theorem dX1_select_10 : decode cX1_select 10 = .ok (.iload_n 3, 1) := by decide +kernel
theorem dX1_select_11 : decode cX1_select 11 = .ok (.goto 9, 3) := by decide +kernel
theorem dX1_select_14 : decode cX1_select 14 = .ok (.iload_n 0, 1) := by decide +kernel
theorem dX1_select_15 : decode cX1_select 15 = .ok (.iload_n 1, 1) := by decide +kernel
theorem dX1_select_16 : decode cX1_select 16 = .ok (.aload_n 2, 1) := by decide +kernel
theorem dX1_select_17 : decode cX1_select 17 = .ok (.invokestatic 57, 3) := by decide +kernel
theorem dX1_select_20 : decode cX1_select 20 = .ok (.ireturn, 1) := by decide +kernel
theorem dX1_bodyOfLine_0 : decode cX1_bodyOfLine 0 = .ok (.iload_n 0, 1) := by decide +kernel
theorem dX1_bodyOfLine_1 : decode cX1_bodyOfLine 1 = .ok (.istore_n 2, 1) := by decide +kernel
theorem dX1_bodyOfLine_2 : decode cX1_bodyOfLine 2 = .ok (.iconst 0, 1) := by decide +kernel
theorem dX1_bodyOfLine_3 : decode cX1_bodyOfLine 3 = .ok (.istore_n 3, 1) := by decide +kernel
theorem dX1_bodyOfLine_4 : decode cX1_bodyOfLine 4 = .ok (.iload_n 3, 1) := by decide +kernel
theorem dX1_bodyOfLine_5 : decode cX1_bodyOfLine 5 = .ok (.bipush 18, 2) := by decide +kernel
theorem dX1_bodyOfLine_7 : decode cX1_bodyOfLine 7 = .ok (.if_icmp .ge 36, 3) := by decide +kernel
theorem dX1_bodyOfLine_10 : decode cX1_bodyOfLine 10 = .ok (.iload_n 2, 1) := by decide +kernel
theorem dX1_bodyOfLine_11 : decode cX1_bodyOfLine 11 = .ok (.invokestatic 26, 3) := by decide +kernel
theorem dX1_bodyOfLine_14 : decode cX1_bodyOfLine 14 = .ok (.ifCond .eq 29, 3) := by decide +kernel
theorem dX1_bodyOfLine_17 : decode cX1_bodyOfLine 17 = .ok (.iload_n 2, 1) := by decide +kernel
theorem dX1_bodyOfLine_18 : decode cX1_bodyOfLine 18 = .ok (.iload_n 1, 1) := by decide +kernel
theorem dX1_bodyOfLine_19 : decode cX1_bodyOfLine 19 = .ok (.invokestatic 60, 3) := by decide +kernel
theorem dX1_bodyOfLine_22 : decode cX1_bodyOfLine 22 = .ok (.istore 4, 2) := by decide +kernel
theorem dX1_bodyOfLine_24 : decode cX1_bodyOfLine 24 = .ok (.iload 4, 2) := by decide +kernel
theorem dX1_bodyOfLine_26 : decode cX1_bodyOfLine 26 = .ok (.ifCond .eq 6, 3) := by decide +kernel
theorem dX1_bodyOfLine_29 : decode cX1_bodyOfLine 29 = .ok (.iload 4, 2) := by decide +kernel
theorem dX1_bodyOfLine_31 : decode cX1_bodyOfLine 31 = .ok (.ireturn, 1) := by decide +kernel
theorem dX1_bodyOfLine_32 : decode cX1_bodyOfLine 32 = .ok (.iload_n 2, 1) := by decide +kernel
theorem dX1_bodyOfLine_33 : decode cX1_bodyOfLine 33 = .ok (.invokestatic 43, 3) := by decide +kernel
theorem dX1_bodyOfLine_36 : decode cX1_bodyOfLine 36 = .ok (.istore_n 2, 1) := by decide +kernel
theorem dX1_bodyOfLine_37 : decode cX1_bodyOfLine 37 = .ok (.iinc 3 1, 3) := by decide +kernel
theorem dX1_bodyOfLine_40 : decode cX1_bodyOfLine 40 = .ok (.goto (-36), 3) := by decide +kernel
theorem dX1_bodyOfLine_43 : decode cX1_bodyOfLine 43 = .ok (.iconst 0, 1) := by decide +kernel
theorem dX1_bodyOfLine_44 : decode cX1_bodyOfLine 44 = .ok (.ireturn, 1) := by decide +kernel
theorem dX1_bodyOfInterfaces_0 : decode cX1_bodyOfInterfaces 0 = .ok (.iconst 2, 1) := by decide +kernel
theorem dX1_bodyOfInterfaces_1 : decode cX1_bodyOfInterfaces 1 = .ok (.istore_n 3, 1) := by decide +kernel
theorem dX1_bodyOfInterfaces_2 : decode cX1_bodyOfInterfaces 2 = .ok (.iload_n 3, 1) := by decide +kernel
theorem dX1_bodyOfInterfaces_3 : decode cX1_bodyOfInterfaces 3 = .ok (.bipush 6, 2) := by decide +kernel
theorem dX1_bodyOfInterfaces_5 : decode cX1_bodyOfInterfaces 5 = .ok (.if_icmp .gt 54, 3) := by decide +kernel
theorem dX1_bodyOfInterfaces_8 : decode cX1_bodyOfInterfaces 8 = .ok (.iload_n 0, 1) := by decide +kernel
theorem dX1_bodyOfInterfaces_9 : decode cX1_bodyOfInterfaces 9 = .ok (.iload_n 3, 1) := by decide +kernel
theorem dX1_bodyOfInterfaces_10 : decode cX1_bodyOfInterfaces 10 = .ok (.aload_n 2, 1) := by decide +kernel
theorem dX1_bodyOfInterfaces_11 : decode cX1_bodyOfInterfaces 11 = .ok (.invokestatic 63, 3) := by decide +kernel
theorem dX1_bodyOfInterfaces_14 : decode cX1_bodyOfInterfaces 14 = .ok (.ifCond .eq 15, 3) := by decide +kernel
theorem dX1_bodyOfInterfaces_17 : decode cX1_bodyOfInterfaces 17 = .ok (.iload_n 3, 1) := by decide +kernel
theorem dX1_bodyOfInterfaces_18 : decode cX1_bodyOfInterfaces 18 = .ok (.iload_n 1, 1) := by decide +kernel
theorem dX1_bodyOfInterfaces_19 : decode cX1_bodyOfInterfaces 19 = .ok (.invokestatic 60, 3) := by decide +kernel
theorem dX1_bodyOfInterfaces_22 : decode cX1_bodyOfInterfaces 22 = .ok (.ifCond .eq 7, 3) := by decide +kernel
theorem dX1_bodyOfInterfaces_25 : decode cX1_bodyOfInterfaces 25 = .ok (.iconst 1, 1) := by decide +kernel
theorem dX1_bodyOfInterfaces_26 : decode cX1_bodyOfInterfaces 26 = .ok (.goto 4, 3) := by decide +kernel
theorem dX1_bodyOfInterfaces_29 : decode cX1_bodyOfInterfaces 29 = .ok (.iconst 0, 1) := by decide +kernel
theorem dX1_bodyOfInterfaces_30 : decode cX1_bodyOfInterfaces 30 = .ok (.istore 4, 2) := by decide +kernel
theorem dX1_bodyOfInterfaces_32 : decode cX1_bodyOfInterfaces 32 = .ok (.iload 4, 2) := by decide +kernel
theorem dX1_bodyOfInterfaces_34 : decode cX1_bodyOfInterfaces 34 = .ok (.ifCond .eq 19, 3) := by decide +kernel
theorem dX1_bodyOfInterfaces_37 : decode cX1_bodyOfInterfaces 37 = .ok (.iload_n 3, 1) := by decide +kernel
theorem dX1_bodyOfInterfaces_38 : decode cX1_bodyOfInterfaces 38 = .ok (.iload_n 0, 1) := by decide +kernel
theorem dX1_bodyOfInterfaces_39 : decode cX1_bodyOfInterfaces 39 = .ok (.iload_n 1, 1) := by decide +kernel
theorem dX1_bodyOfInterfaces_40 : decode cX1_bodyOfInterfaces 40 = .ok (.aload_n 2, 1) := by decide +kernel
theorem dX1_bodyOfInterfaces_41 : decode cX1_bodyOfInterfaces 41 = .ok (.invokestatic 67, 3) := by decide +kernel
theorem dX1_bodyOfInterfaces_44 : decode cX1_bodyOfInterfaces 44 = .ok (.ifCond .ne 9, 3) := by decide +kernel
theorem dX1_bodyOfInterfaces_47 : decode cX1_bodyOfInterfaces 47 = .ok (.iload_n 3, 1) := by decide +kernel
theorem dX1_bodyOfInterfaces_48 : decode cX1_bodyOfInterfaces 48 = .ok (.iload_n 1, 1) := by decide +kernel
theorem dX1_bodyOfInterfaces_49 : decode cX1_bodyOfInterfaces 49 = .ok (.invokestatic 60, 3) := by decide +kernel
theorem dX1_bodyOfInterfaces_52 : decode cX1_bodyOfInterfaces 52 = .ok (.ireturn, 1) := by decide +kernel
theorem dX1_bodyOfInterfaces_53 : decode cX1_bodyOfInterfaces 53 = .ok (.iinc 3 1, 3) := by decide +kernel
theorem dX1_bodyOfInterfaces_56 : decode cX1_bodyOfInterfaces 56 = .ok (.goto (-54), 3) := by decide +kernel
theorem dX1_bodyOfInterfaces_59 : decode cX1_bodyOfInterfaces 59 = .ok (.iconst 0, 1) := by decide +kernel
theorem dX1_bodyOfInterfaces_60 : decode cX1_bodyOfInterfaces 60 = .ok (.ireturn, 1) := by decide +kernel
theorem dX1_isOvertaken_0 : decode cX1_isOvertaken 0 = .ok (.iconst 2, 1) := by decide +kernel
theorem dX1_isOvertaken_1 : decode cX1_isOvertaken 1 = .ok (.istore 4, 2) := by decide +kernel
theorem dX1_isOvertaken_3 : decode cX1_isOvertaken 3 = .ok (.iload 4, 2) := by decide +kernel
theorem dX1_isOvertaken_5 : decode cX1_isOvertaken 5 = .ok (.bipush 6, 2) := by decide +kernel
theorem dX1_isOvertaken_7 : decode cX1_isOvertaken 7 = .ok (.if_icmp .gt 58, 3) := by decide +kernel
theorem dX1_isOvertaken_10 : decode cX1_isOvertaken 10 = .ok (.iload 4, 2) := by decide +kernel
theorem dX1_isOvertaken_12 : decode cX1_isOvertaken 12 = .ok (.iload_n 0, 1) := by decide +kernel
theorem dX1_isOvertaken_13 : decode cX1_isOvertaken 13 = .ok (.if_icmp .eq 17, 3) := by decide +kernel
theorem dX1_isOvertaken_16 : decode cX1_isOvertaken 16 = .ok (.iload 4, 2) := by decide +kernel
theorem dX1_isOvertaken_18 : decode cX1_isOvertaken 18 = .ok (.iload_n 0, 1) := by decide +kernel
theorem dX1_isOvertaken_19 : decode cX1_isOvertaken 19 = .ok (.aload_n 3, 1) := by decide +kernel
theorem dX1_isOvertaken_20 : decode cX1_isOvertaken 20 = .ok (.invokestatic 63, 3) := by decide +kernel
theorem dX1_isOvertaken_23 : decode cX1_isOvertaken 23 = .ok (.ifCond .eq 7, 3) := by decide +kernel
theorem dX1_isOvertaken_26 : decode cX1_isOvertaken 26 = .ok (.iconst 1, 1) := by decide +kernel
theorem dX1_isOvertaken_27 : decode cX1_isOvertaken 27 = .ok (.goto 4, 3) := by decide +kernel
theorem dX1_isOvertaken_30 : decode cX1_isOvertaken 30 = .ok (.iconst 0, 1) := by decide +kernel
theorem dX1_isOvertaken_31 : decode cX1_isOvertaken 31 = .ok (.istore 5, 2) := by decide +kernel
theorem dX1_isOvertaken_33 : decode cX1_isOvertaken 33 = .ok (.iload 5, 2) := by decide +kernel
theorem dX1_isOvertaken_35 : decode cX1_isOvertaken 35 = .ok (.ifCond .eq 24, 3) := by decide +kernel
theorem dX1_isOvertaken_38 : decode cX1_isOvertaken 38 = .ok (.iload_n 1, 1) := by decide +kernel
theorem dX1_isOvertaken_39 : decode cX1_isOvertaken 39 = .ok (.iload 4, 2) := by decide +kernel
theorem dX1_isOvertaken_41 : decode cX1_isOvertaken 41 = .ok (.aload_n 3, 1) := by decide +kernel
theorem dX1_isOvertaken_42 : decode cX1_isOvertaken 42 = .ok (.invokestatic 63, 3) := by decide +kernel
theorem dX1_isOvertaken_45 : decode cX1_isOvertaken 45 = .ok (.ifCond .eq 14, 3) := by decide +kernel
theorem dX1_isOvertaken_48 : decode cX1_isOvertaken 48 = .ok (.iload 4, 2) := by decide +kernel
theorem dX1_isOvertaken_50 : decode cX1_isOvertaken 50 = .ok (.iload_n 2, 1) := by decide +kernel
theorem dX1_isOvertaken_51 : decode cX1_isOvertaken 51 = .ok (.invokestatic 60, 3) := by decide +kernel
theorem dX1_isOvertaken_54 : decode cX1_isOvertaken 54 = .ok (.ifCond .eq 5, 3) := by decide +kernel
theorem dX1_isOvertaken_57 : decode cX1_isOvertaken 57 = .ok (.iconst 1, 1) := by decide +kernel
theorem dX1_isOvertaken_58 : decode cX1_isOvertaken 58 = .ok (.ireturn, 1) := by decide +kernel
theorem dX1_isOvertaken_59 : decode cX1_isOvertaken 59 = .ok (.iinc 4 1, 3) := by decide +kernel
theorem dX1_isOvertaken_62 : decode cX1_isOvertaken 62 = .ok (.goto (-59), 3) := by decide +kernel
theorem dX1_isOvertaken_65 : decode cX1_isOvertaken 65 = .ok (.iconst 0, 1) := by decide +kernel
theorem dX1_isOvertaken_66 : decode cX1_isOvertaken 66 = .ok (.ireturn, 1) := by decide +kernel
theorem dX1_selectedOf_0 : decode cX1_selectedOf 0 = .ok (.iload_n 1, 1) := by decide +kernel
theorem dX1_selectedOf_1 : decode cX1_selectedOf 1 = .ok (.invokestatic 26, 3) := by decide +kernel
theorem dX1_selectedOf_4 : decode cX1_selectedOf 4 = .ok (.ifCond .eq 24, 3) := by decide +kernel
theorem dX1_selectedOf_7 : decode cX1_selectedOf 7 = .ok (.iload_n 2, 1) := by decide +kernel
theorem dX1_selectedOf_8 : decode cX1_selectedOf 8 = .ok (.invokestatic 33, 3) := by decide +kernel
theorem dX1_selectedOf_11 : decode cX1_selectedOf 11 = .ok (.ifCond .eq 17, 3) := by decide +kernel
theorem dX1_selectedOf_14 : decode cX1_selectedOf 14 = .ok (.aload_n 0, 1) := by decide +kernel
theorem dX1_selectedOf_15 : decode cX1_selectedOf 15 = .ok (.getfield 15, 3) := by decide +kernel
theorem dX1_selectedOf_18 : decode cX1_selectedOf 18 = .ok (.iload_n 1, 1) := by decide +kernel
theorem dX1_selectedOf_19 : decode cX1_selectedOf 19 = .ok (.bipush 12, 2) := by decide +kernel
theorem dX1_selectedOf_21 : decode cX1_selectedOf 21 = .ok (.imul, 1) := by decide +kernel
theorem dX1_selectedOf_22 : decode cX1_selectedOf 22 = .ok (.iload_n 2, 1) := by decide +kernel
theorem dX1_selectedOf_23 : decode cX1_selectedOf 23 = .ok (.iadd, 1) := by decide +kernel
theorem dX1_selectedOf_24 : decode cX1_selectedOf 24 = .ok (.iaload, 1) := by decide +kernel
theorem dX1_selectedOf_25 : decode cX1_selectedOf 25 = .ok (.goto 4, 3) := by decide +kernel
theorem dX1_selectedOf_28 : decode cX1_selectedOf 28 = .ok (.iconst 0, 1) := by decide +kernel
theorem dX1_selectedOf_29 : decode cX1_selectedOf 29 = .ok (.ireturn, 1) := by decide +kernel
theorem dX1_bears_0 : decode cX1_bears 0 = .ok (.iload_n 1, 1) := by decide +kernel
theorem dX1_bears_1 : decode cX1_bears 1 = .ok (.invokestatic 26, 3) := by decide +kernel
theorem dX1_bears_4 : decode cX1_bears 4 = .ok (.ifCond .eq 32, 3) := by decide +kernel
theorem dX1_bears_7 : decode cX1_bears 7 = .ok (.iload_n 2, 1) := by decide +kernel
theorem dX1_bears_8 : decode cX1_bears 8 = .ok (.invokestatic 71, 3) := by decide +kernel
theorem dX1_bears_11 : decode cX1_bears 11 = .ok (.ifCond .eq 25, 3) := by decide +kernel
theorem dX1_bears_14 : decode cX1_bears 14 = .ok (.iload_n 2, 1) := by decide +kernel
theorem dX1_bears_15 : decode cX1_bears 15 = .ok (.iconst 1, 1) := by decide +kernel
theorem dX1_bears_16 : decode cX1_bears 16 = .ok (.if_icmp .le 16, 3) := by decide +kernel
theorem dX1_bears_19 : decode cX1_bears 19 = .ok (.aload_n 0, 1) := by decide +kernel
theorem dX1_bears_20 : decode cX1_bears 20 = .ok (.getfield 9, 3) := by decide +kernel
theorem dX1_bears_23 : decode cX1_bears 23 = .ok (.iload_n 1, 1) := by decide +kernel
theorem dX1_bears_24 : decode cX1_bears 24 = .ok (.iaload, 1) := by decide +kernel
theorem dX1_bears_25 : decode cX1_bears 25 = .ok (.iload_n 2, 1) := by decide +kernel
theorem dX1_bears_26 : decode cX1_bears 26 = .ok (.invokestatic 39, 3) := by decide +kernel
theorem dX1_bears_29 : decode cX1_bears 29 = .ok (.ifCond .eq 7, 3) := by decide +kernel
theorem dX1_bears_32 : decode cX1_bears 32 = .ok (.iconst 1, 1) := by decide +kernel
theorem dX1_bears_33 : decode cX1_bears 33 = .ok (.goto 4, 3) := by decide +kernel
theorem dX1_bears_36 : decode cX1_bears 36 = .ok (.iconst 0, 1) := by decide +kernel
theorem dX1_bears_37 : decode cX1_bears 37 = .ok (.ireturn, 1) := by decide +kernel
theorem dX1_takingActOf_0 : decode cX1_takingActOf 0 = .ok (.aload_n 0, 1) := by decide +kernel
theorem dX1_takingActOf_1 : decode cX1_takingActOf 1 = .ok (.iload_n 1, 1) := by decide +kernel
theorem dX1_takingActOf_2 : decode cX1_takingActOf 2 = .ok (.iconst 3, 1) := by decide +kernel
theorem dX1_takingActOf_3 : decode cX1_takingActOf 3 = .ok (.invokevirtual 74, 3) := by decide +kernel
theorem dX1_takingActOf_6 : decode cX1_takingActOf 6 = .ok (.ifCond .eq 5, 3) := by decide +kernel
theorem dX1_takingActOf_9 : decode cX1_takingActOf 9 = .ok (.iconst 4, 1) := by decide +kernel
theorem dX1_takingActOf_10 : decode cX1_takingActOf 10 = .ok (.ireturn, 1) := by decide +kernel
theorem dX1_takingActOf_11 : decode cX1_takingActOf 11 = .ok (.aload_n 0, 1) := by decide +kernel
theorem dX1_takingActOf_12 : decode cX1_takingActOf 12 = .ok (.iload_n 1, 1) := by decide +kernel
theorem dX1_takingActOf_13 : decode cX1_takingActOf 13 = .ok (.iconst 2, 1) := by decide +kernel
theorem dX1_takingActOf_14 : decode cX1_takingActOf 14 = .ok (.invokevirtual 74, 3) := by decide +kernel
theorem dX1_takingActOf_17 : decode cX1_takingActOf 17 = .ok (.ifCond .eq 7, 3) := by decide +kernel
theorem dX1_takingActOf_20 : decode cX1_takingActOf 20 = .ok (.iconst 1, 1) := by decide +kernel
theorem dX1_takingActOf_21 : decode cX1_takingActOf 21 = .ok (.goto 5, 3) := by decide +kernel
theorem dX1_takingActOf_24 : decode cX1_takingActOf 24 = .ok (.bipush 6, 2) := by decide +kernel
theorem dX1_takingActOf_26 : decode cX1_takingActOf 26 = .ok (.ireturn, 1) := by decide +kernel
theorem dX1_hasAct_0 : decode cX1_hasAct 0 = .ok (.iload_n 1, 1) := by decide +kernel
theorem dX1_hasAct_1 : decode cX1_hasAct 1 = .ok (.invokestatic 71, 3) := by decide +kernel
theorem dX1_hasAct_4 : decode cX1_hasAct 4 = .ok (.ifCond .eq 26, 3) := by decide +kernel
theorem dX1_hasAct_7 : decode cX1_hasAct 7 = .ok (.iload_n 2, 1) := by decide +kernel
theorem dX1_hasAct_8 : decode cX1_hasAct 8 = .ok (.invokestatic 33, 3) := by decide +kernel
theorem dX1_hasAct_11 : decode cX1_hasAct 11 = .ok (.ifCond .eq 19, 3) := by decide +kernel
theorem dX1_hasAct_14 : decode cX1_hasAct 14 = .ok (.getstatic 77, 3) := by decide +kernel
theorem dX1_hasAct_17 : decode cX1_hasAct 17 = .ok (.iload_n 1, 1) := by decide +kernel
theorem dX1_hasAct_18 : decode cX1_hasAct 18 = .ok (.iaload, 1) := by decide +kernel
theorem dX1_hasAct_19 : decode cX1_hasAct 19 = .ok (.iload_n 2, 1) := by decide +kernel
theorem dX1_hasAct_20 : decode cX1_hasAct 20 = .ok (.invokestatic 39, 3) := by decide +kernel
theorem dX1_hasAct_23 : decode cX1_hasAct 23 = .ok (.ifCond .eq 7, 3) := by decide +kernel
theorem dX1_hasAct_26 : decode cX1_hasAct 26 = .ok (.iconst 1, 1) := by decide +kernel
theorem dX1_hasAct_27 : decode cX1_hasAct 27 = .ok (.goto 4, 3) := by decide +kernel
theorem dX1_hasAct_30 : decode cX1_hasAct 30 = .ok (.iconst 0, 1) := by decide +kernel
theorem dX1_hasAct_31 : decode cX1_hasAct 31 = .ok (.ireturn, 1) := by decide +kernel
theorem dX1_kindHasAct_0 : decode cX1_kindHasAct 0 = .ok (.iconst 1, 1) := by decide +kernel
theorem dX1_kindHasAct_1 : decode cX1_kindHasAct 1 = .ok (.istore_n 3, 1) := by decide +kernel
theorem dX1_kindHasAct_2 : decode cX1_kindHasAct 2 = .ok (.iload_n 3, 1) := by decide +kernel
theorem dX1_kindHasAct_3 : decode cX1_kindHasAct 3 = .ok (.bipush 6, 2) := by decide +kernel
theorem dX1_kindHasAct_5 : decode cX1_kindHasAct 5 = .ok (.if_icmp .gt 29, 3) := by decide +kernel
theorem dX1_kindHasAct_8 : decode cX1_kindHasAct 8 = .ok (.aload_n 0, 1) := by decide +kernel
theorem dX1_kindHasAct_9 : decode cX1_kindHasAct 9 = .ok (.iload_n 1, 1) := by decide +kernel
theorem dX1_kindHasAct_10 : decode cX1_kindHasAct 10 = .ok (.iload_n 3, 1) := by decide +kernel
theorem dX1_kindHasAct_11 : decode cX1_kindHasAct 11 = .ok (.invokevirtual 74, 3) := by decide +kernel
theorem dX1_kindHasAct_14 : decode cX1_kindHasAct 14 = .ok (.ifCond .eq 14, 3) := by decide +kernel
theorem dX1_kindHasAct_17 : decode cX1_kindHasAct 17 = .ok (.aload_n 0, 1) := by decide +kernel
theorem dX1_kindHasAct_18 : decode cX1_kindHasAct 18 = .ok (.iload_n 3, 1) := by decide +kernel
theorem dX1_kindHasAct_19 : decode cX1_kindHasAct 19 = .ok (.iload_n 2, 1) := by decide +kernel
theorem dX1_kindHasAct_20 : decode cX1_kindHasAct 20 = .ok (.invokevirtual 80, 3) := by decide +kernel
theorem dX1_kindHasAct_23 : decode cX1_kindHasAct 23 = .ok (.ifCond .eq 5, 3) := by decide +kernel
theorem dX1_kindHasAct_26 : decode cX1_kindHasAct 26 = .ok (.iconst 1, 1) := by decide +kernel
theorem dX1_kindHasAct_27 : decode cX1_kindHasAct 27 = .ok (.ireturn, 1) := by decide +kernel
theorem dX1_kindHasAct_28 : decode cX1_kindHasAct 28 = .ok (.iinc 3 1, 3) := by decide +kernel
theorem dX1_kindHasAct_31 : decode cX1_kindHasAct 31 = .ok (.goto (-29), 3) := by decide +kernel
theorem dX1_kindHasAct_34 : decode cX1_kindHasAct 34 = .ok (.iconst 0, 1) := by decide +kernel
theorem dX1_kindHasAct_35 : decode cX1_kindHasAct 35 = .ok (.ireturn, 1) := by decide +kernel
theorem dX2_init_0 : decode cX2_init 0 = .ok (.aload_n 0, 1) := by decide +kernel
theorem dX2_init_1 : decode cX2_init 1 = .ok (.invokespecial 1, 3) := by decide +kernel
theorem dX2_init_4 : decode cX2_init 4 = .ok (.aload_n 0, 1) := by decide +kernel
theorem dX2_init_5 : decode cX2_init 5 = .ok (.aload_n 1, 1) := by decide +kernel
theorem dX2_init_6 : decode cX2_init 6 = .ok (.putfield 7, 3) := by decide +kernel
theorem dX2_init_9 : decode cX2_init 9 = .ok (.return_, 1) := by decide +kernel
theorem dX3_init_0 : decode cX3_init 0 = .ok (.aload_n 0, 1) := by decide +kernel
theorem dX3_init_1 : decode cX3_init 1 = .ok (.invokespecial 3, 3) := by decide +kernel
theorem dX3_init_4 : decode cX3_init 4 = .ok (.aload_n 0, 1) := by decide +kernel
theorem dX3_init_5 : decode cX3_init 5 = .ok (.bipush 64, 2) := by decide +kernel
theorem dX3_init_7 : decode cX3_init 7 = .ok (.newarray .int, 2) := by decide +kernel
theorem dX3_init_9 : decode cX3_init 9 = .ok (.putfield 11, 3) := by decide +kernel
theorem dX3_init_12 : decode cX3_init 12 = .ok (.return_, 1) := by decide +kernel
theorem dX3_clear_0 : decode cX3_clear 0 = .ok (.aload_n 0, 1) := by decide +kernel
theorem dX3_clear_1 : decode cX3_clear 1 = .ok (.iconst 0, 1) := by decide +kernel
theorem dX3_clear_2 : decode cX3_clear 2 = .ok (.putfield 15, 3) := by decide +kernel
theorem dX3_clear_5 : decode cX3_clear 5 = .ok (.return_, 1) := by decide +kernel
theorem dX3_begin_0 : decode cX3_begin 0 = .ok (.aload_n 0, 1) := by decide +kernel
theorem dX3_begin_1 : decode cX3_begin 1 = .ok (.getfield 15, 3) := by decide +kernel
theorem dX3_begin_4 : decode cX3_begin 4 = .ok (.ifCond .lt 25, 3) := by decide +kernel
theorem dX3_begin_7 : decode cX3_begin 7 = .ok (.aload_n 0, 1) := by decide +kernel
theorem dX3_begin_8 : decode cX3_begin 8 = .ok (.getfield 15, 3) := by decide +kernel
theorem dX3_begin_11 : decode cX3_begin 11 = .ok (.aload_n 0, 1) := by decide +kernel
theorem dX3_begin_12 : decode cX3_begin 12 = .ok (.getfield 11, 3) := by decide +kernel
theorem dX3_begin_15 : decode cX3_begin 15 = .ok (.arraylength, 1) := by decide +kernel
theorem dX3_begin_16 : decode cX3_begin 16 = .ok (.if_icmp .ge 13, 3) := by decide +kernel
theorem dX3_begin_19 : decode cX3_begin 19 = .ok (.aload_n 0, 1) := by decide +kernel
theorem dX3_begin_20 : decode cX3_begin 20 = .ok (.getfield 11, 3) := by decide +kernel
theorem dX3_begin_23 : decode cX3_begin 23 = .ok (.aload_n 0, 1) := by decide +kernel
theorem dX3_begin_24 : decode cX3_begin 24 = .ok (.getfield 15, 3) := by decide +kernel
theorem dX3_begin_27 : decode cX3_begin 27 = .ok (.iload_n 1, 1) := by decide +kernel
theorem dX3_begin_28 : decode cX3_begin 28 = .ok (.iastore, 1) := by decide +kernel
theorem dX3_begin_29 : decode cX3_begin 29 = .ok (.aload_n 0, 1) := by decide +kernel
theorem dX3_begin_30 : decode cX3_begin 30 = .ok (.dup, 1) := by decide +kernel
theorem dX3_begin_31 : decode cX3_begin 31 = .ok (.getfield 15, 3) := by decide +kernel
theorem dX3_begin_34 : decode cX3_begin 34 = .ok (.iconst 1, 1) := by decide +kernel
theorem dX3_begin_35 : decode cX3_begin 35 = .ok (.iadd, 1) := by decide +kernel
theorem dX3_begin_36 : decode cX3_begin 36 = .ok (.putfield 15, 3) := by decide +kernel
theorem dX3_begin_39 : decode cX3_begin 39 = .ok (.return_, 1) := by decide +kernel
theorem dX3_keptAt_0 : decode cX3_keptAt 0 = .ok (.iload_n 1, 1) := by decide +kernel
theorem dX3_keptAt_1 : decode cX3_keptAt 1 = .ok (.ifCond .lt 29, 3) := by decide +kernel
theorem dX3_keptAt_4 : decode cX3_keptAt 4 = .ok (.iload_n 1, 1) := by decide +kernel
theorem dX3_keptAt_5 : decode cX3_keptAt 5 = .ok (.aload_n 0, 1) := by decide +kernel
theorem dX3_keptAt_6 : decode cX3_keptAt 6 = .ok (.getfield 15, 3) := by decide +kernel
theorem dX3_keptAt_9 : decode cX3_keptAt 9 = .ok (.if_icmp .ge 21, 3) := by decide +kernel
theorem dX3_keptAt_12 : decode cX3_keptAt 12 = .ok (.iload_n 1, 1) := by decide +kernel
theorem dX3_keptAt_13 : decode cX3_keptAt 13 = .ok (.aload_n 0, 1) := by decide +kernel
theorem dX3_keptAt_14 : decode cX3_keptAt 14 = .ok (.getfield 11, 3) := by decide +kernel
theorem dX3_keptAt_17 : decode cX3_keptAt 17 = .ok (.arraylength, 1) := by decide +kernel
theorem dX3_keptAt_18 : decode cX3_keptAt 18 = .ok (.if_icmp .ge 12, 3) := by decide +kernel
theorem dX3_keptAt_21 : decode cX3_keptAt 21 = .ok (.aload_n 0, 1) := by decide +kernel
theorem dX3_keptAt_22 : decode cX3_keptAt 22 = .ok (.getfield 11, 3) := by decide +kernel
theorem dX3_keptAt_25 : decode cX3_keptAt 25 = .ok (.iload_n 1, 1) := by decide +kernel
theorem dX3_keptAt_26 : decode cX3_keptAt 26 = .ok (.iaload, 1) := by decide +kernel
theorem dX3_keptAt_27 : decode cX3_keptAt 27 = .ok (.goto 4, 3) := by decide +kernel
theorem dX3_keptAt_30 : decode cX3_keptAt 30 = .ok (.iconst (-1), 1) := by decide +kernel
theorem dX3_keptAt_31 : decode cX3_keptAt 31 = .ok (.ireturn, 1) := by decide +kernel
theorem dX4_init_0 : decode cX4_init 0 = .ok (.aload_n 0, 1) := by decide +kernel
theorem dX4_init_1 : decode cX4_init 1 = .ok (.invokespecial 3, 3) := by decide +kernel
theorem dX4_init_4 : decode cX4_init 4 = .ok (.aload_n 0, 1) := by decide +kernel
theorem dX4_init_5 : decode cX4_init 5 = .ok (.new 9, 3) := by decide +kernel
theorem dX4_init_8 : decode cX4_init 8 = .ok (.dup, 1) := by decide +kernel
theorem dX4_init_9 : decode cX4_init 9 = .ok (.invokespecial 11, 3) := by decide +kernel
theorem dX4_init_12 : decode cX4_init 12 = .ok (.putfield 12, 3) := by decide +kernel
theorem dX4_init_15 : decode cX4_init 15 = .ok (.aload_n 0, 1) := by decide +kernel
theorem dX4_init_16 : decode cX4_init 16 = .ok (.new 16, 3) := by decide +kernel
theorem dX4_init_19 : decode cX4_init 19 = .ok (.dup, 1) := by decide +kernel
theorem dX4_init_20 : decode cX4_init 20 = .ok (.invokespecial 18, 3) := by decide +kernel
theorem dX4_init_23 : decode cX4_init 23 = .ok (.putfield 19, 3) := by decide +kernel
theorem dX4_init_26 : decode cX4_init 26 = .ok (.aload_n 0, 1) := by decide +kernel
theorem dX4_init_27 : decode cX4_init 27 = .ok (.sipush 300, 3) := by decide +kernel
theorem dX4_init_30 : decode cX4_init 30 = .ok (.anewarray 23, 3) := by decide +kernel
theorem dX4_init_33 : decode cX4_init 33 = .ok (.putfield 25, 3) := by decide +kernel
theorem dX4_init_36 : decode cX4_init 36 = .ok (.aload_n 0, 1) := by decide +kernel
theorem dX4_init_37 : decode cX4_init 37 = .ok (.sipush 300, 3) := by decide +kernel
theorem dX4_init_40 : decode cX4_init 40 = .ok (.anewarray 23, 3) := by decide +kernel
theorem dX4_init_43 : decode cX4_init 43 = .ok (.putfield 29, 3) := by decide +kernel
theorem dX4_init_46 : decode cX4_init 46 = .ok (.return_, 1) := by decide +kernel
theorem dX4_device_0 : decode cX4_device 0 = .ok (.iload_n 1, 1) := by decide +kernel
theorem dX4_device_1 : decode cX4_device 1 = .ok (.ifCond .lt 9, 3) := by decide +kernel
theorem dX4_device_4 : decode cX4_device 4 = .ok (.iload_n 1, 1) := by decide +kernel
theorem dX4_device_5 : decode cX4_device 5 = .ok (.bipush 11, 2) := by decide +kernel
theorem dX4_device_7 : decode cX4_device 7 = .ok (.if_icmp .lt 10, 3) := by decide +kernel
theorem dX4_device_10 : decode cX4_device 10 = .ok (.aload_n 0, 1) := by decide +kernel
theorem dX4_device_11 : decode cX4_device 11 = .ok (.iconst 1, 1) := by decide +kernel
theorem dX4_device_12 : decode cX4_device 12 = .ok (.putfield 32, 3) := by decide +kernel
theorem dX4_device_15 : decode cX4_device 15 = .ok (.iconst (-1), 1) := by decide +kernel
theorem dX4_device_16 : decode cX4_device 16 = .ok (.ireturn, 1) := by decide +kernel
theorem dX4_device_17 : decode cX4_device 17 = .ok (.aload_n 0, 1) := by decide +kernel
theorem dX4_device_18 : decode cX4_device 18 = .ok (.getfield 36, 3) := by decide +kernel
theorem dX4_device_21 : decode cX4_device 21 = .ok (.aload_n 0, 1) := by decide +kernel
theorem dX4_device_22 : decode cX4_device 22 = .ok (.getfield 25, 3) := by decide +kernel
theorem dX4_device_25 : decode cX4_device 25 = .ok (.arraylength, 1) := by decide +kernel
theorem dX4_device_26 : decode cX4_device 26 = .ok (.if_icmp .lt 10, 3) := by decide +kernel
theorem dX4_device_29 : decode cX4_device 29 = .ok (.aload_n 0, 1) := by decide +kernel
theorem dX4_device_30 : decode cX4_device 30 = .ok (.iconst 5, 1) := by decide +kernel
theorem dX4_device_31 : decode cX4_device 31 = .ok (.putfield 32, 3) := by decide +kernel
theorem dX4_device_34 : decode cX4_device 34 = .ok (.iconst (-1), 1) := by decide +kernel
theorem dX4_device_35 : decode cX4_device 35 = .ok (.ireturn, 1) := by decide +kernel
theorem dX4_device_36 : decode cX4_device 36 = .ok (.aload_n 0, 1) := by decide +kernel
theorem dX4_device_37 : decode cX4_device 37 = .ok (.iconst 0, 1) := by decide +kernel
theorem dX4_device_38 : decode cX4_device 38 = .ok (.putfield 32, 3) := by decide +kernel
theorem dX4_device_41 : decode cX4_device 41 = .ok (.aload_n 0, 1) := by decide +kernel
theorem dX4_device_42 : decode cX4_device 42 = .ok (.getfield 36, 3) := by decide +kernel
theorem dX4_device_45 : decode cX4_device 45 = .ok (.istore_n 3, 1) := by decide +kernel
theorem dX4_device_46 : decode cX4_device 46 = .ok (.aload_n 0, 1) := by decide +kernel
theorem dX4_device_47 : decode cX4_device 47 = .ok (.getfield 25, 3) := by decide +kernel
theorem dX4_device_50 : decode cX4_device 50 = .ok (.iload_n 3, 1) := by decide +kernel
theorem dX4_device_51 : decode cX4_device 51 = .ok (.new 23, 3) := by decide +kernel
theorem dX4_device_54 : decode cX4_device 54 = .ok (.dup, 1) := by decide +kernel
theorem dX4_device_55 : decode cX4_device 55 = .ok (.aload_n 0, 1) := by decide +kernel
theorem dX4_device_56 : decode cX4_device 56 = .ok (.getfield 12, 3) := by decide +kernel
theorem dX4_device_59 : decode cX4_device 59 = .ok (.aload_n 0, 1) := by decide +kernel
theorem dX4_device_60 : decode cX4_device 60 = .ok (.getfield 19, 3) := by decide +kernel
theorem dX4_device_63 : decode cX4_device 63 = .ok (.iload_n 1, 1) := by decide +kernel
theorem dX4_device_64 : decode cX4_device 64 = .ok (.iload_n 2, 1) := by decide +kernel
theorem dX4_device_65 : decode cX4_device 65 = .ok (.invokespecial 39, 3) := by decide +kernel
theorem dX4_device_68 : decode cX4_device 68 = .ok (.aastore, 1) := by decide +kernel
theorem dX4_device_69 : decode cX4_device 69 = .ok (.aload_n 0, 1) := by decide +kernel
theorem dX4_device_70 : decode cX4_device 70 = .ok (.dup, 1) := by decide +kernel
theorem dX4_device_71 : decode cX4_device 71 = .ok (.getfield 36, 3) := by decide +kernel
theorem dX4_device_74 : decode cX4_device 74 = .ok (.iconst 1, 1) := by decide +kernel
theorem dX4_device_75 : decode cX4_device 75 = .ok (.iadd, 1) := by decide +kernel
theorem dX4_device_76 : decode cX4_device 76 = .ok (.putfield 36, 3) := by decide +kernel
theorem dX4_device_79 : decode cX4_device 79 = .ok (.iload_n 3, 1) := by decide +kernel
theorem dX4_device_80 : decode cX4_device 80 = .ok (.ireturn, 1) := by decide +kernel
theorem dX4_call_0 : decode cX4_call 0 = .ok (.aload_n 0, 1) := by decide +kernel
theorem dX4_call_1 : decode cX4_call 1 = .ok (.iload_n 1, 1) := by decide +kernel
theorem dX4_call_2 : decode cX4_call 2 = .ok (.invokevirtual 42, 3) := by decide +kernel
theorem dX4_call_5 : decode cX4_call 5 = .ok (.astore 5, 2) := by decide +kernel
theorem dX4_call_7 : decode cX4_call 7 = .ok (.aload_n 0, 1) := by decide +kernel
theorem dX4_call_8 : decode cX4_call 8 = .ok (.aload 5, 2) := by decide +kernel
theorem dX4_call_10 : decode cX4_call 10 = .ok (.iload_n 2, 1) := by decide +kernel
theorem dX4_call_11 : decode cX4_call 11 = .ok (.iload_n 3, 1) := by decide +kernel
theorem dX4_call_12 : decode cX4_call 12 = .ok (.invokestatic 46, 3) := by decide +kernel
theorem dX4_call_15 : decode cX4_call 15 = .ok (.putfield 32, 3) := by decide +kernel
theorem dX4_call_18 : decode cX4_call 18 = .ok (.aload 5, 2) := by decide +kernel
theorem dX4_call_20 : decode cX4_call 20 = .ok (.ifnull 10, 3) := by decide +kernel
theorem dX4_call_23 : decode cX4_call 23 = .ok (.aload_n 0, 1) := by decide +kernel
theorem dX4_call_24 : decode cX4_call 24 = .ok (.getfield 32, 3) := by decide +kernel
theorem dX4_call_27 : decode cX4_call 27 = .ok (.ifCond .eq 5, 3) := by decide +kernel
theorem dX4_call_30 : decode cX4_call 30 = .ok (.iconst 0, 1) := by decide +kernel
theorem dX4_call_31 : decode cX4_call 31 = .ok (.ireturn, 1) := by decide +kernel
theorem dX4_call_32 : decode cX4_call 32 = .ok (.aload_n 0, 1) := by decide +kernel
theorem dX4_call_33 : decode cX4_call 33 = .ok (.getfield 19, 3) := by decide +kernel
theorem dX4_call_36 : decode cX4_call 36 = .ok (.invokevirtual 50, 3) := by decide +kernel
theorem dX4_call_39 : decode cX4_call 39 = .ok (.aload 5, 2) := by decide +kernel
theorem dX4_call_41 : decode cX4_call 41 = .ok (.iload_n 2, 1) := by decide +kernel
theorem dX4_call_42 : decode cX4_call 42 = .ok (.iload 4, 2) := by decide +kernel
theorem dX4_call_44 : decode cX4_call 44 = .ok (.invokevirtual 53, 3) := by decide +kernel
theorem dX4_call_47 : decode cX4_call 47 = .ok (.ireturn, 1) := by decide +kernel
theorem dX4_every_0 : decode cX4_every 0 = .ok (.aload_n 0, 1) := by decide +kernel
theorem dX4_every_1 : decode cX4_every 1 = .ok (.aload_n 0, 1) := by decide +kernel
theorem dX4_every_2 : decode cX4_every 2 = .ok (.iload_n 1, 1) := by decide +kernel
theorem dX4_every_3 : decode cX4_every 3 = .ok (.iload_n 2, 1) := by decide +kernel
theorem dX4_every_4 : decode cX4_every 4 = .ok (.invokevirtual 57, 3) := by decide +kernel
theorem dX4_every_7 : decode cX4_every 7 = .ok (.putfield 32, 3) := by decide +kernel
theorem dX4_every_10 : decode cX4_every 10 = .ok (.aload_n 0, 1) := by decide +kernel
theorem dX4_every_11 : decode cX4_every 11 = .ok (.getfield 32, 3) := by decide +kernel
theorem dX4_every_14 : decode cX4_every 14 = .ok (.ifCond .eq 5, 3) := by decide +kernel
theorem dX4_every_17 : decode cX4_every 17 = .ok (.iconst 0, 1) := by decide +kernel
theorem dX4_every_18 : decode cX4_every 18 = .ok (.ireturn, 1) := by decide +kernel
theorem dX4_every_19 : decode cX4_every 19 = .ok (.aload_n 0, 1) := by decide +kernel
theorem dX4_every_20 : decode cX4_every 20 = .ok (.getfield 19, 3) := by decide +kernel
theorem dX4_every_23 : decode cX4_every 23 = .ok (.invokevirtual 50, 3) := by decide +kernel
theorem dX4_every_26 : decode cX4_every 26 = .ok (.iconst 0, 1) := by decide +kernel
theorem dX4_every_27 : decode cX4_every 27 = .ok (.istore 4, 2) := by decide +kernel
theorem dX4_every_29 : decode cX4_every 29 = .ok (.iconst 0, 1) := by decide +kernel
theorem dX4_every_30 : decode cX4_every 30 = .ok (.istore 5, 2) := by decide +kernel
theorem dX4_every_32 : decode cX4_every 32 = .ok (.iload 5, 2) := by decide +kernel
theorem dX4_every_34 : decode cX4_every 34 = .ok (.aload_n 0, 1) := by decide +kernel
theorem dX4_every_35 : decode cX4_every 35 = .ok (.getfield 36, 3) := by decide +kernel
theorem dX4_every_38 : decode cX4_every 38 = .ok (.if_icmp .ge 44, 3) := by decide +kernel
theorem dX4_every_41 : decode cX4_every 41 = .ok (.aload_n 0, 1) := by decide +kernel
theorem dX4_every_42 : decode cX4_every 42 = .ok (.iload 5, 2) := by decide +kernel
theorem dX4_every_44 : decode cX4_every 44 = .ok (.invokevirtual 42, 3) := by decide +kernel
theorem dX4_every_47 : decode cX4_every 47 = .ok (.astore 6, 2) := by decide +kernel
theorem dX4_every_49 : decode cX4_every 49 = .ok (.aload 6, 2) := by decide +kernel
theorem dX4_every_51 : decode cX4_every 51 = .ok (.ifnull 25, 3) := by decide +kernel
theorem dX4_every_54 : decode cX4_every 54 = .ok (.aload 6, 2) := by decide +kernel
theorem dX4_every_56 : decode cX4_every 56 = .ok (.iload_n 1, 1) := by decide +kernel
theorem dX4_every_57 : decode cX4_every 57 = .ok (.iload_n 2, 1) := by decide +kernel
theorem dX4_every_58 : decode cX4_every 58 = .ok (.invokestatic 46, 3) := by decide +kernel
theorem dX4_every_61 : decode cX4_every 61 = .ok (.ifCond .ne 15, 3) := by decide +kernel
theorem dX4_every_64 : decode cX4_every 64 = .ok (.iload 4, 2) := by decide +kernel
theorem dX4_every_66 : decode cX4_every 66 = .ok (.aload 6, 2) := by decide +kernel
theorem dX4_every_68 : decode cX4_every 68 = .ok (.iload_n 1, 1) := by decide +kernel
theorem dX4_every_69 : decode cX4_every 69 = .ok (.iload_n 3, 1) := by decide +kernel
theorem dX4_every_70 : decode cX4_every 70 = .ok (.invokevirtual 53, 3) := by decide +kernel
theorem dX4_every_73 : decode cX4_every 73 = .ok (.iadd, 1) := by decide +kernel
theorem dX4_every_74 : decode cX4_every 74 = .ok (.istore 4, 2) := by decide +kernel
theorem dX4_every_76 : decode cX4_every 76 = .ok (.iinc 5 1, 3) := by decide +kernel
theorem dX4_every_79 : decode cX4_every 79 = .ok (.goto (-47), 3) := by decide +kernel
theorem dX4_every_82 : decode cX4_every 82 = .ok (.iload 4, 2) := by decide +kernel
theorem dX4_every_84 : decode cX4_every 84 = .ok (.ireturn, 1) := by decide +kernel
theorem dX4_feed_0 : decode cX4_feed 0 = .ok (.aload_n 0, 1) := by decide +kernel
theorem dX4_feed_1 : decode cX4_feed 1 = .ok (.iload_n 1, 1) := by decide +kernel
theorem dX4_feed_2 : decode cX4_feed 2 = .ok (.invokevirtual 42, 3) := by decide +kernel
theorem dX4_feed_5 : decode cX4_feed 5 = .ok (.astore_n 3, 1) := by decide +kernel
theorem dX4_feed_6 : decode cX4_feed 6 = .ok (.aload_n 3, 1) := by decide +kernel
theorem dX4_feed_7 : decode cX4_feed 7 = .ok (.ifnonnull 10, 3) := by decide +kernel
theorem dX4_feed_10 : decode cX4_feed 10 = .ok (.aload_n 0, 1) := by decide +kernel
theorem dX4_feed_11 : decode cX4_feed 11 = .ok (.iconst 1, 1) := by decide +kernel
theorem dX4_feed_12 : decode cX4_feed 12 = .ok (.putfield 32, 3) := by decide +kernel
theorem dX4_feed_15 : decode cX4_feed 15 = .ok (.iconst 0, 1) := by decide +kernel
theorem dX4_feed_16 : decode cX4_feed 16 = .ok (.ireturn, 1) := by decide +kernel
theorem dX4_feed_17 : decode cX4_feed 17 = .ok (.aload_n 0, 1) := by decide +kernel
theorem dX4_feed_18 : decode cX4_feed 18 = .ok (.iconst 0, 1) := by decide +kernel
theorem dX4_feed_19 : decode cX4_feed 19 = .ok (.putfield 32, 3) := by decide +kernel
theorem dX4_feed_22 : decode cX4_feed 22 = .ok (.aload_n 0, 1) := by decide +kernel
theorem dX4_feed_23 : decode cX4_feed 23 = .ok (.getfield 19, 3) := by decide +kernel
theorem dX4_feed_26 : decode cX4_feed 26 = .ok (.invokevirtual 50, 3) := by decide +kernel
theorem dX4_feed_29 : decode cX4_feed 29 = .ok (.iconst 0, 1) := by decide +kernel
theorem dX4_feed_30 : decode cX4_feed 30 = .ok (.istore 4, 2) := by decide +kernel
theorem dX4_feed_32 : decode cX4_feed 32 = .ok (.bipush 24, 2) := by decide +kernel
theorem dX4_feed_34 : decode cX4_feed 34 = .ok (.istore 5, 2) := by decide +kernel
theorem dX4_feed_36 : decode cX4_feed 36 = .ok (.iload 5, 2) := by decide +kernel
theorem dX4_feed_38 : decode cX4_feed 38 = .ok (.ifCond .lt 28, 3) := by decide +kernel
theorem dX4_feed_41 : decode cX4_feed 41 = .ok (.iload 4, 2) := by decide +kernel
theorem dX4_feed_43 : decode cX4_feed 43 = .ok (.aload_n 3, 1) := by decide +kernel
theorem dX4_feed_44 : decode cX4_feed 44 = .ok (.iload_n 2, 1) := by decide +kernel
theorem dX4_feed_45 : decode cX4_feed 45 = .ok (.iload 5, 2) := by decide +kernel
theorem dX4_feed_47 : decode cX4_feed 47 = .ok (.iushr, 1) := by decide +kernel
theorem dX4_feed_48 : decode cX4_feed 48 = .ok (.sipush 255, 3) := by decide +kernel
theorem dX4_feed_51 : decode cX4_feed 51 = .ok (.iand, 1) := by decide +kernel
theorem dX4_feed_52 : decode cX4_feed 52 = .ok (.iload 4, 2) := by decide +kernel
theorem dX4_feed_54 : decode cX4_feed 54 = .ok (.invokestatic 60, 3) := by decide +kernel
theorem dX4_feed_57 : decode cX4_feed 57 = .ok (.iadd, 1) := by decide +kernel
theorem dX4_feed_58 : decode cX4_feed 58 = .ok (.istore 4, 2) := by decide +kernel
theorem dX4_feed_60 : decode cX4_feed 60 = .ok (.iinc 5 (-8), 3) := by decide +kernel
theorem dX4_feed_63 : decode cX4_feed 63 = .ok (.goto (-27), 3) := by decide +kernel
theorem dX4_feed_66 : decode cX4_feed 66 = .ok (.iload 4, 2) := by decide +kernel
theorem dX4_feed_68 : decode cX4_feed 68 = .ok (.ireturn, 1) := by decide +kernel
theorem dX4_link_0 : decode cX4_link 0 = .ok (.aload_n 0, 1) := by decide +kernel
theorem dX4_link_1 : decode cX4_link 1 = .ok (.iload_n 1, 1) := by decide +kernel
theorem dX4_link_2 : decode cX4_link 2 = .ok (.invokevirtual 42, 3) := by decide +kernel
theorem dX4_link_5 : decode cX4_link 5 = .ok (.astore_n 3, 1) := by decide +kernel
theorem dX4_link_6 : decode cX4_link 6 = .ok (.aload_n 0, 1) := by decide +kernel
theorem dX4_link_7 : decode cX4_link 7 = .ok (.iload_n 2, 1) := by decide +kernel
theorem dX4_link_8 : decode cX4_link 8 = .ok (.invokevirtual 42, 3) := by decide +kernel
theorem dX4_link_11 : decode cX4_link 11 = .ok (.astore 4, 2) := by decide +kernel
theorem dX4_link_13 : decode cX4_link 13 = .ok (.aload_n 3, 1) := by decide +kernel
theorem dX4_link_14 : decode cX4_link 14 = .ok (.ifnull 8, 3) := by decide +kernel
theorem dX4_link_17 : decode cX4_link 17 = .ok (.aload 4, 2) := by decide +kernel
theorem dX4_link_19 : decode cX4_link 19 = .ok (.ifnonnull 10, 3) := by decide +kernel
theorem dX4_link_22 : decode cX4_link 22 = .ok (.aload_n 0, 1) := by decide +kernel
theorem dX4_link_23 : decode cX4_link 23 = .ok (.iconst 1, 1) := by decide +kernel
theorem dX4_link_24 : decode cX4_link 24 = .ok (.putfield 32, 3) := by decide +kernel
theorem dX4_link_27 : decode cX4_link 27 = .ok (.iconst (-1), 1) := by decide +kernel
theorem dX4_link_28 : decode cX4_link 28 = .ok (.ireturn, 1) := by decide +kernel
theorem dX4_link_29 : decode cX4_link 29 = .ok (.aload_n 0, 1) := by decide +kernel
theorem dX4_link_30 : decode cX4_link 30 = .ok (.getfield 63, 3) := by decide +kernel
theorem dX4_link_33 : decode cX4_link 33 = .ok (.sipush 400, 3) := by decide +kernel
theorem dX4_link_36 : decode cX4_link 36 = .ok (.if_icmp .lt 10, 3) := by decide +kernel
theorem dX4_link_39 : decode cX4_link 39 = .ok (.aload_n 0, 1) := by decide +kernel
theorem dX4_link_40 : decode cX4_link 40 = .ok (.iconst 5, 1) := by decide +kernel
theorem dX4_link_41 : decode cX4_link 41 = .ok (.putfield 32, 3) := by decide +kernel
theorem dX4_link_44 : decode cX4_link 44 = .ok (.iconst (-1), 1) := by decide +kernel
theorem dX4_link_45 : decode cX4_link 45 = .ok (.ireturn, 1) := by decide +kernel
theorem dX4_link_46 : decode cX4_link 46 = .ok (.aload_n 0, 1) := by decide +kernel
theorem dX4_link_47 : decode cX4_link 47 = .ok (.iconst 0, 1) := by decide +kernel
theorem dX4_link_48 : decode cX4_link 48 = .ok (.putfield 32, 3) := by decide +kernel
theorem dX4_link_51 : decode cX4_link 51 = .ok (.aload_n 3, 1) := by decide +kernel
theorem dX4_link_52 : decode cX4_link 52 = .ok (.new 66, 3) := by decide +kernel
theorem dX4_link_55 : decode cX4_link 55 = .ok (.dup, 1) := by decide +kernel
theorem dX4_link_56 : decode cX4_link 56 = .ok (.aload 4, 2) := by decide +kernel
theorem dX4_link_58 : decode cX4_link 58 = .ok (.invokespecial 68, 3) := by decide +kernel
theorem dX4_link_61 : decode cX4_link 61 = .ok (.invokevirtual 71, 3) := by decide +kernel
theorem dX4_link_64 : decode cX4_link 64 = .ok (.aload 4, 2) := by decide +kernel
theorem dX4_link_66 : decode cX4_link 66 = .ok (.dup, 1) := by decide +kernel
theorem dX4_link_67 : decode cX4_link 67 = .ok (.getfield 75, 3) := by decide +kernel
theorem dX4_link_70 : decode cX4_link 70 = .ok (.iconst 1, 1) := by decide +kernel
theorem dX4_link_71 : decode cX4_link 71 = .ok (.iadd, 1) := by decide +kernel
theorem dX4_link_72 : decode cX4_link 72 = .ok (.putfield 75, 3) := by decide +kernel
theorem dX4_link_75 : decode cX4_link 75 = .ok (.aload_n 0, 1) := by decide +kernel
theorem dX4_link_76 : decode cX4_link 76 = .ok (.getfield 63, 3) := by decide +kernel
theorem dX4_link_79 : decode cX4_link 79 = .ok (.istore 5, 2) := by decide +kernel
theorem dX4_link_81 : decode cX4_link 81 = .ok (.aload_n 0, 1) := by decide +kernel
theorem dX4_link_82 : decode cX4_link 82 = .ok (.dup, 1) := by decide +kernel
theorem dX4_link_83 : decode cX4_link 83 = .ok (.getfield 63, 3) := by decide +kernel
theorem dX4_link_86 : decode cX4_link 86 = .ok (.iconst 1, 1) := by decide +kernel
theorem dX4_link_87 : decode cX4_link 87 = .ok (.iadd, 1) := by decide +kernel
theorem dX4_link_88 : decode cX4_link 88 = .ok (.putfield 63, 3) := by decide +kernel
theorem dX4_link_91 : decode cX4_link 91 = .ok (.iload 5, 2) := by decide +kernel
theorem dX4_link_93 : decode cX4_link 93 = .ok (.ireturn, 1) := by decide +kernel
theorem dX4_pass_0 : decode cX4_pass 0 = .ok (.aload_n 0, 1) := by decide +kernel
theorem dX4_pass_1 : decode cX4_pass 1 = .ok (.iload_n 1, 1) := by decide +kernel
theorem dX4_pass_2 : decode cX4_pass 2 = .ok (.invokevirtual 42, 3) := by decide +kernel
theorem dX4_pass_5 : decode cX4_pass 5 = .ok (.astore_n 3, 1) := by decide +kernel
theorem dX4_pass_6 : decode cX4_pass 6 = .ok (.aload_n 3, 1) := by decide +kernel
theorem dX4_pass_7 : decode cX4_pass 7 = .ok (.ifnonnull 10, 3) := by decide +kernel
theorem dX4_pass_10 : decode cX4_pass 10 = .ok (.aload_n 0, 1) := by decide +kernel
theorem dX4_pass_11 : decode cX4_pass 11 = .ok (.iconst 1, 1) := by decide +kernel
theorem dX4_pass_12 : decode cX4_pass 12 = .ok (.putfield 32, 3) := by decide +kernel
theorem dX4_pass_15 : decode cX4_pass 15 = .ok (.iconst 0, 1) := by decide +kernel
theorem dX4_pass_16 : decode cX4_pass 16 = .ok (.ireturn, 1) := by decide +kernel
theorem dX4_pass_17 : decode cX4_pass 17 = .ok (.aload_n 0, 1) := by decide +kernel
theorem dX4_pass_18 : decode cX4_pass 18 = .ok (.iconst 0, 1) := by decide +kernel
theorem dX4_pass_19 : decode cX4_pass 19 = .ok (.putfield 32, 3) := by decide +kernel
theorem dX4_pass_22 : decode cX4_pass 22 = .ok (.aload_n 0, 1) := by decide +kernel
theorem dX4_pass_23 : decode cX4_pass 23 = .ok (.getfield 19, 3) := by decide +kernel
theorem dX4_pass_26 : decode cX4_pass 26 = .ok (.invokevirtual 50, 3) := by decide +kernel
theorem dX4_pass_29 : decode cX4_pass 29 = .ok (.aload_n 0, 1) := by decide +kernel
theorem dX4_pass_30 : decode cX4_pass 30 = .ok (.dup, 1) := by decide +kernel
theorem dX4_pass_31 : decode cX4_pass 31 = .ok (.getfield 78, 3) := by decide +kernel
theorem dX4_pass_34 : decode cX4_pass 34 = .ok (.iconst 1, 1) := by decide +kernel
theorem dX4_pass_35 : decode cX4_pass 35 = .ok (.iadd, 1) := by decide +kernel
theorem dX4_pass_36 : decode cX4_pass 36 = .ok (.putfield 78, 3) := by decide +kernel
theorem dX4_pass_39 : decode cX4_pass 39 = .ok (.aload_n 0, 1) := by decide +kernel
theorem dX4_pass_40 : decode cX4_pass 40 = .ok (.iconst 0, 1) := by decide +kernel
theorem dX4_pass_41 : decode cX4_pass 41 = .ok (.putfield 81, 3) := by decide +kernel
theorem dX4_pass_44 : decode cX4_pass 44 = .ok (.aload_n 0, 1) := by decide +kernel
theorem dX4_pass_45 : decode cX4_pass 45 = .ok (.aload_n 3, 1) := by decide +kernel
theorem dX4_pass_46 : decode cX4_pass 46 = .ok (.iload_n 2, 1) := by decide +kernel
theorem dX4_pass_47 : decode cX4_pass 47 = .ok (.invokevirtual 84, 3) := by decide +kernel
theorem dX4_pass_50 : decode cX4_pass 50 = .ok (.iconst 0, 1) := by decide +kernel
theorem dX4_pass_51 : decode cX4_pass 51 = .ok (.istore 4, 2) := by decide +kernel
theorem dX4_pass_53 : decode cX4_pass 53 = .ok (.iload 4, 2) := by decide +kernel
theorem dX4_pass_55 : decode cX4_pass 55 = .ok (.aload_n 0, 1) := by decide +kernel
theorem dX4_pass_56 : decode cX4_pass 56 = .ok (.getfield 81, 3) := by decide +kernel
theorem dX4_pass_59 : decode cX4_pass 59 = .ok (.if_icmp .ge 39, 3) := by decide +kernel
theorem dX4_pass_62 : decode cX4_pass 62 = .ok (.iload 4, 2) := by decide +kernel
theorem dX4_pass_64 : decode cX4_pass 64 = .ok (.aload_n 0, 1) := by decide +kernel
theorem dX4_pass_65 : decode cX4_pass 65 = .ok (.getfield 29, 3) := by decide +kernel
theorem dX4_pass_68 : decode cX4_pass 68 = .ok (.arraylength, 1) := by decide +kernel
theorem dX4_pass_69 : decode cX4_pass 69 = .ok (.if_icmp .ge 29, 3) := by decide +kernel
theorem dX4_pass_72 : decode cX4_pass 72 = .ok (.aload_n 0, 1) := by decide +kernel
theorem dX4_pass_73 : decode cX4_pass 73 = .ok (.getfield 29, 3) := by decide +kernel
theorem dX4_pass_76 : decode cX4_pass 76 = .ok (.iload 4, 2) := by decide +kernel
theorem dX4_pass_78 : decode cX4_pass 78 = .ok (.aaload, 1) := by decide +kernel
theorem dX4_pass_79 : decode cX4_pass 79 = .ok (.astore 5, 2) := by decide +kernel
theorem dX4_pass_81 : decode cX4_pass 81 = .ok (.aload 5, 2) := by decide +kernel
theorem dX4_pass_83 : decode cX4_pass 83 = .ok (.ifnull 9, 3) := by decide +kernel
theorem dX4_pass_86 : decode cX4_pass 86 = .ok (.aload_n 0, 1) := by decide +kernel
theorem dX4_pass_87 : decode cX4_pass 87 = .ok (.aload 5, 2) := by decide +kernel
theorem dX4_pass_89 : decode cX4_pass 89 = .ok (.invokevirtual 88, 3) := by decide +kernel
theorem dX4_pass_92 : decode cX4_pass 92 = .ok (.iinc 4 1, 3) := by decide +kernel
theorem dX4_pass_95 : decode cX4_pass 95 = .ok (.goto (-42), 3) := by decide +kernel
theorem dX4_pass_98 : decode cX4_pass 98 = .ok (.aload_n 0, 1) := by decide +kernel
theorem dX4_pass_99 : decode cX4_pass 99 = .ok (.getfield 81, 3) := by decide +kernel
theorem dX4_pass_102 : decode cX4_pass 102 = .ok (.ireturn, 1) := by decide +kernel
theorem dX4_able_0 : decode cX4_able 0 = .ok (.aload_n 0, 1) := by decide +kernel
theorem dX4_able_1 : decode cX4_able 1 = .ok (.iload_n 1, 1) := by decide +kernel
theorem dX4_able_2 : decode cX4_able 2 = .ok (.invokevirtual 42, 3) := by decide +kernel
theorem dX4_able_5 : decode cX4_able 5 = .ok (.astore_n 3, 1) := by decide +kernel
theorem dX4_able_6 : decode cX4_able 6 = .ok (.aload_n 3, 1) := by decide +kernel
theorem dX4_able_7 : decode cX4_able 7 = .ok (.ifnull 10, 3) := by decide +kernel
theorem dX4_able_10 : decode cX4_able 10 = .ok (.iload_n 2, 1) := by decide +kernel
theorem dX4_able_11 : decode cX4_able 11 = .ok (.invokestatic 91, 3) := by decide +kernel
theorem dX4_able_14 : decode cX4_able 14 = .ok (.ifCond .ne 5, 3) := by decide +kernel
theorem dX4_able_17 : decode cX4_able 17 = .ok (.iconst (-1), 1) := by decide +kernel
theorem dX4_able_18 : decode cX4_able 18 = .ok (.ireturn, 1) := by decide +kernel
theorem dX4_able_19 : decode cX4_able 19 = .ok (.aload_n 3, 1) := by decide +kernel
theorem dX4_able_20 : decode cX4_able 20 = .ok (.iload_n 2, 1) := by decide +kernel
theorem dX4_able_21 : decode cX4_able 21 = .ok (.invokevirtual 95, 3) := by decide +kernel
theorem dX4_able_24 : decode cX4_able 24 = .ok (.ifCond .eq 7, 3) := by decide +kernel
theorem dX4_able_27 : decode cX4_able 27 = .ok (.iconst 1, 1) := by decide +kernel
theorem dX4_able_28 : decode cX4_able 28 = .ok (.goto 4, 3) := by decide +kernel
theorem dX4_able_31 : decode cX4_able 31 = .ok (.iconst 0, 1) := by decide +kernel
theorem dX4_able_32 : decode cX4_able 32 = .ok (.ireturn, 1) := by decide +kernel
theorem dX4_chain_0 : decode cX4_chain 0 = .ok (.aload_n 0, 1) := by decide +kernel
theorem dX4_chain_1 : decode cX4_chain 1 = .ok (.getfield 19, 3) := by decide +kernel
theorem dX4_chain_4 : decode cX4_chain 4 = .ok (.iload_n 1, 1) := by decide +kernel
theorem dX4_chain_5 : decode cX4_chain 5 = .ok (.invokevirtual 98, 3) := by decide +kernel
theorem dX4_chain_8 : decode cX4_chain 8 = .ok (.ireturn, 1) := by decide +kernel
theorem dX4_ran_0 : decode cX4_ran 0 = .ok (.aload_n 0, 1) := by decide +kernel
theorem dX4_ran_1 : decode cX4_ran 1 = .ok (.getfield 19, 3) := by decide +kernel
theorem dX4_ran_4 : decode cX4_ran 4 = .ok (.getfield 102, 3) := by decide +kernel
theorem dX4_ran_7 : decode cX4_ran 7 = .ok (.ireturn, 1) := by decide +kernel
theorem dX4_state_0 : decode cX4_state 0 = .ok (.aload_n 0, 1) := by decide +kernel
theorem dX4_state_1 : decode cX4_state 1 = .ok (.iload_n 1, 1) := by decide +kernel
theorem dX4_state_2 : decode cX4_state 2 = .ok (.invokevirtual 42, 3) := by decide +kernel
theorem dX4_state_5 : decode cX4_state 5 = .ok (.astore_n 3, 1) := by decide +kernel
theorem dX4_state_6 : decode cX4_state 6 = .ok (.aload_n 3, 1) := by decide +kernel
theorem dX4_state_7 : decode cX4_state 7 = .ok (.ifnull 13, 3) := by decide +kernel
theorem dX4_state_10 : decode cX4_state 10 = .ok (.iload_n 2, 1) := by decide +kernel
theorem dX4_state_11 : decode cX4_state 11 = .ok (.ifCond .lt 9, 3) := by decide +kernel
theorem dX4_state_14 : decode cX4_state 14 = .ok (.iload_n 2, 1) := by decide +kernel
theorem dX4_state_15 : decode cX4_state 15 = .ok (.bipush 6, 2) := by decide +kernel
theorem dX4_state_17 : decode cX4_state 17 = .ok (.if_icmp .lt 10, 3) := by decide +kernel
theorem dX4_state_20 : decode cX4_state 20 = .ok (.aload_n 0, 1) := by decide +kernel
theorem dX4_state_21 : decode cX4_state 21 = .ok (.iconst 1, 1) := by decide +kernel
theorem dX4_state_22 : decode cX4_state 22 = .ok (.putfield 32, 3) := by decide +kernel
theorem dX4_state_25 : decode cX4_state 25 = .ok (.iconst 0, 1) := by decide +kernel
theorem dX4_state_26 : decode cX4_state 26 = .ok (.ireturn, 1) := by decide +kernel
theorem dX4_state_27 : decode cX4_state 27 = .ok (.aload_n 0, 1) := by decide +kernel
theorem dX4_state_28 : decode cX4_state 28 = .ok (.iconst 0, 1) := by decide +kernel
theorem dX4_state_29 : decode cX4_state 29 = .ok (.putfield 32, 3) := by decide +kernel
theorem dX4_state_32 : decode cX4_state 32 = .ok (.aload_n 3, 1) := by decide +kernel
theorem dX4_state_33 : decode cX4_state 33 = .ok (.iload_n 2, 1) := by decide +kernel
theorem dX4_state_34 : decode cX4_state 34 = .ok (.invokevirtual 105, 3) := by decide +kernel
theorem dX4_state_37 : decode cX4_state 37 = .ok (.ireturn, 1) := by decide +kernel
theorem dX4_size_0 : decode cX4_size 0 = .ok (.iload_n 1, 1) := by decide +kernel
theorem dX4_size_1 : decode cX4_size 1 = .ok (.ifCond .ne 8, 3) := by decide +kernel
theorem dX4_size_4 : decode cX4_size 4 = .ok (.aload_n 0, 1) := by decide +kernel
theorem dX4_size_5 : decode cX4_size 5 = .ok (.getfield 36, 3) := by decide +kernel
theorem dX4_size_8 : decode cX4_size 8 = .ok (.ireturn, 1) := by decide +kernel
theorem dX4_size_9 : decode cX4_size 9 = .ok (.iload_n 1, 1) := by decide +kernel
theorem dX4_size_10 : decode cX4_size 10 = .ok (.iconst 1, 1) := by decide +kernel
theorem dX4_size_11 : decode cX4_size 11 = .ok (.if_icmp .ne 8, 3) := by decide +kernel
theorem dX4_size_14 : decode cX4_size 14 = .ok (.aload_n 0, 1) := by decide +kernel
theorem dX4_size_15 : decode cX4_size 15 = .ok (.getfield 63, 3) := by decide +kernel
theorem dX4_size_18 : decode cX4_size 18 = .ok (.ireturn, 1) := by decide +kernel
theorem dX4_size_19 : decode cX4_size 19 = .ok (.iload_n 1, 1) := by decide +kernel
theorem dX4_size_20 : decode cX4_size 20 = .ok (.iconst 2, 1) := by decide +kernel
theorem dX4_size_21 : decode cX4_size 21 = .ok (.if_icmp .lt 9, 3) := by decide +kernel
theorem dX4_size_24 : decode cX4_size 24 = .ok (.iload_n 1, 1) := by decide +kernel
theorem dX4_size_25 : decode cX4_size 25 = .ok (.bipush 6, 2) := by decide +kernel
theorem dX4_size_27 : decode cX4_size 27 = .ok (.if_icmp .le 5, 3) := by decide +kernel
theorem dX4_size_30 : decode cX4_size 30 = .ok (.iconst (-1), 1) := by decide +kernel
theorem dX4_size_31 : decode cX4_size 31 = .ok (.ireturn, 1) := by decide +kernel
theorem dX4_size_32 : decode cX4_size 32 = .ok (.aload_n 0, 1) := by decide +kernel
theorem dX4_size_33 : decode cX4_size 33 = .ok (.iload_n 1, 1) := by decide +kernel
theorem dX4_size_34 : decode cX4_size 34 = .ok (.invokevirtual 108, 3) := by decide +kernel
theorem dX4_size_37 : decode cX4_size 37 = .ok (.ireturn, 1) := by decide +kernel
theorem dX4_status_0 : decode cX4_status 0 = .ok (.aload_n 0, 1) := by decide +kernel
theorem dX4_status_1 : decode cX4_status 1 = .ok (.getfield 32, 3) := by decide +kernel
theorem dX4_status_4 : decode cX4_status 4 = .ok (.ireturn, 1) := by decide +kernel
theorem dX4_isAct_0 : decode cX4_isAct 0 = .ok (.iload_n 0, 1) := by decide +kernel
theorem dX4_isAct_1 : decode cX4_isAct 1 = .ok (.ifCond .lt 13, 3) := by decide +kernel
theorem dX4_isAct_4 : decode cX4_isAct 4 = .ok (.iload_n 0, 1) := by decide +kernel
theorem dX4_isAct_5 : decode cX4_isAct 5 = .ok (.bipush 12, 2) := by decide +kernel
theorem dX4_isAct_7 : decode cX4_isAct 7 = .ok (.if_icmp .ge 7, 3) := by decide +kernel
theorem dX4_isAct_10 : decode cX4_isAct 10 = .ok (.iconst 1, 1) := by decide +kernel
theorem dX4_isAct_11 : decode cX4_isAct 11 = .ok (.goto 4, 3) := by decide +kernel
theorem dX4_isAct_14 : decode cX4_isAct 14 = .ok (.iconst 0, 1) := by decide +kernel
theorem dX4_isAct_15 : decode cX4_isAct 15 = .ok (.ireturn, 1) := by decide +kernel
theorem dX4_isWay_0 : decode cX4_isWay 0 = .ok (.iload_n 0, 1) := by decide +kernel
theorem dX4_isWay_1 : decode cX4_isWay 1 = .ok (.ifCond .lt 13, 3) := by decide +kernel
theorem dX4_isWay_4 : decode cX4_isWay 4 = .ok (.iload_n 0, 1) := by decide +kernel
theorem dX4_isWay_5 : decode cX4_isWay 5 = .ok (.bipush 7, 2) := by decide +kernel
theorem dX4_isWay_7 : decode cX4_isWay 7 = .ok (.if_icmp .ge 7, 3) := by decide +kernel
theorem dX4_isWay_10 : decode cX4_isWay 10 = .ok (.iconst 1, 1) := by decide +kernel
theorem dX4_isWay_11 : decode cX4_isWay 11 = .ok (.goto 4, 3) := by decide +kernel
theorem dX4_isWay_14 : decode cX4_isWay 14 = .ok (.iconst 0, 1) := by decide +kernel
theorem dX4_isWay_15 : decode cX4_isWay 15 = .ok (.ireturn, 1) := by decide +kernel
theorem dX4_find_0 : decode cX4_find 0 = .ok (.iload_n 1, 1) := by decide +kernel
theorem dX4_find_1 : decode cX4_find 1 = .ok (.ifCond .lt 29, 3) := by decide +kernel
theorem dX4_find_4 : decode cX4_find 4 = .ok (.iload_n 1, 1) := by decide +kernel
theorem dX4_find_5 : decode cX4_find 5 = .ok (.aload_n 0, 1) := by decide +kernel
theorem dX4_find_6 : decode cX4_find 6 = .ok (.getfield 36, 3) := by decide +kernel
theorem dX4_find_9 : decode cX4_find 9 = .ok (.if_icmp .ge 21, 3) := by decide +kernel
theorem dX4_find_12 : decode cX4_find 12 = .ok (.iload_n 1, 1) := by decide +kernel
theorem dX4_find_13 : decode cX4_find 13 = .ok (.aload_n 0, 1) := by decide +kernel
theorem dX4_find_14 : decode cX4_find 14 = .ok (.getfield 25, 3) := by decide +kernel
theorem dX4_find_17 : decode cX4_find 17 = .ok (.arraylength, 1) := by decide +kernel
theorem dX4_find_18 : decode cX4_find 18 = .ok (.if_icmp .ge 12, 3) := by decide +kernel
theorem dX4_find_21 : decode cX4_find 21 = .ok (.aload_n 0, 1) := by decide +kernel
theorem dX4_find_22 : decode cX4_find 22 = .ok (.getfield 25, 3) := by decide +kernel
theorem dX4_find_25 : decode cX4_find 25 = .ok (.iload_n 1, 1) := by decide +kernel
theorem dX4_find_26 : decode cX4_find 26 = .ok (.aaload, 1) := by decide +kernel
theorem dX4_find_27 : decode cX4_find 27 = .ok (.goto 4, 3) := by decide +kernel
theorem dX4_find_30 : decode cX4_find 30 = .ok (.aconst_null, 1) := by decide +kernel
theorem dX4_find_31 : decode cX4_find 31 = .ok (.areturn, 1) := by decide +kernel
theorem dX4_refusal_0 : decode cX4_refusal 0 = .ok (.aload_n 0, 1) := by decide +kernel
theorem dX4_refusal_1 : decode cX4_refusal 1 = .ok (.ifnull 17, 3) := by decide +kernel
theorem dX4_refusal_4 : decode cX4_refusal 4 = .ok (.iload_n 1, 1) := by decide +kernel
theorem dX4_refusal_5 : decode cX4_refusal 5 = .ok (.invokestatic 111, 3) := by decide +kernel
theorem dX4_refusal_8 : decode cX4_refusal 8 = .ok (.ifCond .eq 10, 3) := by decide +kernel
theorem dX4_refusal_11 : decode cX4_refusal 11 = .ok (.iload_n 2, 1) := by decide +kernel
theorem dX4_refusal_12 : decode cX4_refusal 12 = .ok (.invokestatic 91, 3) := by decide +kernel
theorem dX4_refusal_15 : decode cX4_refusal 15 = .ok (.ifCond .ne 5, 3) := by decide +kernel
theorem dX4_refusal_18 : decode cX4_refusal 18 = .ok (.iconst 1, 1) := by decide +kernel
theorem dX4_refusal_19 : decode cX4_refusal 19 = .ok (.ireturn, 1) := by decide +kernel
theorem dX4_refusal_20 : decode cX4_refusal 20 = .ok (.aload_n 0, 1) := by decide +kernel
theorem dX4_refusal_21 : decode cX4_refusal 21 = .ok (.iload_n 2, 1) := by decide +kernel
theorem dX4_refusal_22 : decode cX4_refusal 22 = .ok (.invokevirtual 95, 3) := by decide +kernel
theorem dX4_refusal_25 : decode cX4_refusal 25 = .ok (.ifCond .ne 5, 3) := by decide +kernel
theorem dX4_refusal_28 : decode cX4_refusal 28 = .ok (.iconst 2, 1) := by decide +kernel
theorem dX4_refusal_29 : decode cX4_refusal 29 = .ok (.ireturn, 1) := by decide +kernel
theorem dX4_refusal_30 : decode cX4_refusal 30 = .ok (.aload_n 0, 1) := by decide +kernel
theorem dX4_refusal_31 : decode cX4_refusal 31 = .ok (.iload_n 2, 1) := by decide +kernel
theorem dX4_refusal_32 : decode cX4_refusal 32 = .ok (.iload_n 1, 1) := by decide +kernel
theorem dX4_refusal_33 : decode cX4_refusal 33 = .ok (.invokevirtual 114, 3) := by decide +kernel
theorem dX4_refusal_36 : decode cX4_refusal 36 = .ok (.ifCond .eq 7, 3) := by decide +kernel
theorem dX4_refusal_39 : decode cX4_refusal 39 = .ok (.iconst 0, 1) := by decide +kernel
theorem dX4_refusal_40 : decode cX4_refusal 40 = .ok (.goto 4, 3) := by decide +kernel
theorem dX4_refusal_43 : decode cX4_refusal 43 = .ok (.iconst 3, 1) := by decide +kernel
theorem dX4_refusal_44 : decode cX4_refusal 44 = .ok (.ireturn, 1) := by decide +kernel
theorem dX4_refusalOfAll_0 : decode cX4_refusalOfAll 0 = .ok (.iload_n 1, 1) := by decide +kernel
theorem dX4_refusalOfAll_1 : decode cX4_refusalOfAll 1 = .ok (.invokestatic 111, 3) := by decide +kernel
theorem dX4_refusalOfAll_4 : decode cX4_refusalOfAll 4 = .ok (.ifCond .eq 10, 3) := by decide +kernel
theorem dX4_refusalOfAll_7 : decode cX4_refusalOfAll 7 = .ok (.iload_n 2, 1) := by decide +kernel
theorem dX4_refusalOfAll_8 : decode cX4_refusalOfAll 8 = .ok (.invokestatic 91, 3) := by decide +kernel
theorem dX4_refusalOfAll_11 : decode cX4_refusalOfAll 11 = .ok (.ifCond .ne 5, 3) := by decide +kernel
theorem dX4_refusalOfAll_14 : decode cX4_refusalOfAll 14 = .ok (.iconst 1, 1) := by decide +kernel
theorem dX4_refusalOfAll_15 : decode cX4_refusalOfAll 15 = .ok (.ireturn, 1) := by decide +kernel
theorem dX4_refusalOfAll_16 : decode cX4_refusalOfAll 16 = .ok (.iload_n 2, 1) := by decide +kernel
theorem dX4_refusalOfAll_17 : decode cX4_refusalOfAll 17 = .ok (.ifCond .eq 15, 3) := by decide +kernel
theorem dX4_refusalOfAll_20 : decode cX4_refusalOfAll 20 = .ok (.aload_n 0, 1) := by decide +kernel
theorem dX4_refusalOfAll_21 : decode cX4_refusalOfAll 21 = .ok (.getfield 12, 3) := by decide +kernel
theorem dX4_refusalOfAll_24 : decode cX4_refusalOfAll 24 = .ok (.iload_n 2, 1) := by decide +kernel
theorem dX4_refusalOfAll_25 : decode cX4_refusalOfAll 25 = .ok (.iload_n 1, 1) := by decide +kernel
theorem dX4_refusalOfAll_26 : decode cX4_refusalOfAll 26 = .ok (.invokevirtual 118, 3) := by decide +kernel
theorem dX4_refusalOfAll_29 : decode cX4_refusalOfAll 29 = .ok (.ifCond .eq 7, 3) := by decide +kernel
theorem dX4_refusalOfAll_32 : decode cX4_refusalOfAll 32 = .ok (.iconst 0, 1) := by decide +kernel
theorem dX4_refusalOfAll_33 : decode cX4_refusalOfAll 33 = .ok (.goto 4, 3) := by decide +kernel
theorem dX4_refusalOfAll_36 : decode cX4_refusalOfAll 36 = .ok (.iconst 3, 1) := by decide +kernel
theorem dX4_refusalOfAll_37 : decode cX4_refusalOfAll 37 = .ok (.ireturn, 1) := by decide +kernel
theorem dX4_answerToByte_0 : decode cX4_answerToByte 0 = .ok (.iload_n 1, 1) := by decide +kernel
theorem dX4_answerToByte_1 : decode cX4_answerToByte 1 = .ok (.bipush 15, 2) := by decide +kernel
theorem dX4_answerToByte_3 : decode cX4_answerToByte 3 = .ok (.iand, 1) := by decide +kernel
theorem dX4_answerToByte_4 : decode cX4_answerToByte 4 = .ok (.istore_n 3, 1) := by decide +kernel
theorem dX4_answerToByte_5 : decode cX4_answerToByte 5 = .ok (.iload_n 1, 1) := by decide +kernel
theorem dX4_answerToByte_6 : decode cX4_answerToByte 6 = .ok (.iconst 4, 1) := by decide +kernel
theorem dX4_answerToByte_7 : decode cX4_answerToByte 7 = .ok (.ishr, 1) := by decide +kernel
theorem dX4_answerToByte_8 : decode cX4_answerToByte 8 = .ok (.bipush 7, 2) := by decide +kernel
theorem dX4_answerToByte_10 : decode cX4_answerToByte 10 = .ok (.iand, 1) := by decide +kernel
theorem dX4_answerToByte_11 : decode cX4_answerToByte 11 = .ok (.istore 4, 2) := by decide +kernel
theorem dX4_answerToByte_13 : decode cX4_answerToByte 13 = .ok (.aload_n 0, 1) := by decide +kernel
theorem dX4_answerToByte_14 : decode cX4_answerToByte 14 = .ok (.iload_n 3, 1) := by decide +kernel
theorem dX4_answerToByte_15 : decode cX4_answerToByte 15 = .ok (.iload 4, 2) := by decide +kernel
theorem dX4_answerToByte_17 : decode cX4_answerToByte 17 = .ok (.invokestatic 46, 3) := by decide +kernel
theorem dX4_answerToByte_20 : decode cX4_answerToByte 20 = .ok (.ifCond .eq 5, 3) := by decide +kernel
theorem dX4_answerToByte_23 : decode cX4_answerToByte 23 = .ok (.iconst 0, 1) := by decide +kernel
theorem dX4_answerToByte_24 : decode cX4_answerToByte 24 = .ok (.ireturn, 1) := by decide +kernel
theorem dX4_answerToByte_25 : decode cX4_answerToByte 25 = .ok (.aload_n 0, 1) := by decide +kernel
theorem dX4_answerToByte_26 : decode cX4_answerToByte 26 = .ok (.iload_n 3, 1) := by decide +kernel
theorem dX4_answerToByte_27 : decode cX4_answerToByte 27 = .ok (.iload_n 1, 1) := by decide +kernel
theorem dX4_answerToByte_28 : decode cX4_answerToByte 28 = .ok (.sipush 128, 3) := by decide +kernel
theorem dX4_answerToByte_31 : decode cX4_answerToByte 31 = .ok (.if_icmp .lt 9, 3) := by decide +kernel
theorem dX4_answerToByte_34 : decode cX4_answerToByte 34 = .ok (.iconst 0, 1) := by decide +kernel
theorem dX4_answerToByte_35 : decode cX4_answerToByte 35 = .ok (.iload_n 2, 1) := by decide +kernel
theorem dX4_answerToByte_36 : decode cX4_answerToByte 36 = .ok (.isub, 1) := by decide +kernel
theorem dX4_answerToByte_37 : decode cX4_answerToByte 37 = .ok (.goto 4, 3) := by decide +kernel
theorem dX4_answerToByte_40 : decode cX4_answerToByte 40 = .ok (.iload_n 2, 1) := by decide +kernel
theorem dX4_answerToByte_41 : decode cX4_answerToByte 41 = .ok (.invokevirtual 53, 3) := by decide +kernel
theorem dX4_answerToByte_44 : decode cX4_answerToByte 44 = .ok (.ireturn, 1) := by decide +kernel
theorem dX4_letTake_0 : decode cX4_letTake 0 = .ok (.aload_n 0, 1) := by decide +kernel
theorem dX4_letTake_1 : decode cX4_letTake 1 = .ok (.getfield 81, 3) := by decide +kernel
theorem dX4_letTake_4 : decode cX4_letTake 4 = .ok (.aload_n 0, 1) := by decide +kernel
theorem dX4_letTake_5 : decode cX4_letTake 5 = .ok (.getfield 29, 3) := by decide +kernel
theorem dX4_letTake_8 : decode cX4_letTake 8 = .ok (.arraylength, 1) := by decide +kernel
theorem dX4_letTake_9 : decode cX4_letTake 9 = .ok (.if_icmp .ge 32, 3) := by decide +kernel
theorem dX4_letTake_12 : decode cX4_letTake 12 = .ok (.aload_n 0, 1) := by decide +kernel
theorem dX4_letTake_13 : decode cX4_letTake 13 = .ok (.getfield 29, 3) := by decide +kernel
theorem dX4_letTake_16 : decode cX4_letTake 16 = .ok (.aload_n 0, 1) := by decide +kernel
theorem dX4_letTake_17 : decode cX4_letTake 17 = .ok (.getfield 81, 3) := by decide +kernel
theorem dX4_letTake_20 : decode cX4_letTake 20 = .ok (.aload_n 1, 1) := by decide +kernel
theorem dX4_letTake_21 : decode cX4_letTake 21 = .ok (.aastore, 1) := by decide +kernel
theorem dX4_letTake_22 : decode cX4_letTake 22 = .ok (.aload_n 0, 1) := by decide +kernel
theorem dX4_letTake_23 : decode cX4_letTake 23 = .ok (.dup, 1) := by decide +kernel
theorem dX4_letTake_24 : decode cX4_letTake 24 = .ok (.getfield 81, 3) := by decide +kernel
theorem dX4_letTake_27 : decode cX4_letTake 27 = .ok (.iconst 1, 1) := by decide +kernel
theorem dX4_letTake_28 : decode cX4_letTake 28 = .ok (.iadd, 1) := by decide +kernel
theorem dX4_letTake_29 : decode cX4_letTake 29 = .ok (.putfield 81, 3) := by decide +kernel
theorem dX4_letTake_32 : decode cX4_letTake 32 = .ok (.aload_n 1, 1) := by decide +kernel
theorem dX4_letTake_33 : decode cX4_letTake 33 = .ok (.iload_n 2, 1) := by decide +kernel
theorem dX4_letTake_34 : decode cX4_letTake 34 = .ok (.aload_n 0, 1) := by decide +kernel
theorem dX4_letTake_35 : decode cX4_letTake 35 = .ok (.getfield 78, 3) := by decide +kernel
theorem dX4_letTake_38 : decode cX4_letTake 38 = .ok (.invokevirtual 119, 3) := by decide +kernel
theorem dX4_letTake_41 : decode cX4_letTake 41 = .ok (.return_, 1) := by decide +kernel
theorem dX4_passOn_0 : decode cX4_passOn 0 = .ok (.aload_n 1, 1) := by decide +kernel
theorem dX4_passOn_1 : decode cX4_passOn 1 = .ok (.getfield 123, 3) := by decide +kernel
theorem dX4_passOn_4 : decode cX4_passOn 4 = .ok (.astore_n 2, 1) := by decide +kernel
theorem dX4_passOn_5 : decode cX4_passOn 5 = .ok (.aload_n 2, 1) := by decide +kernel
theorem dX4_passOn_6 : decode cX4_passOn 6 = .ok (.ifnull 37, 3) := by decide +kernel
theorem dX4_passOn_9 : decode cX4_passOn 9 = .ok (.aload_n 2, 1) := by decide +kernel
theorem dX4_passOn_10 : decode cX4_passOn 10 = .ok (.getfield 127, 3) := by decide +kernel
theorem dX4_passOn_13 : decode cX4_passOn 13 = .ok (.getfield 131, 3) := by decide +kernel
theorem dX4_passOn_16 : decode cX4_passOn 16 = .ok (.aload_n 0, 1) := by decide +kernel
theorem dX4_passOn_17 : decode cX4_passOn 17 = .ok (.getfield 78, 3) := by decide +kernel
theorem dX4_passOn_20 : decode cX4_passOn 20 = .ok (.if_icmp .eq 15, 3) := by decide +kernel
theorem dX4_passOn_23 : decode cX4_passOn 23 = .ok (.aload_n 0, 1) := by decide +kernel
theorem dX4_passOn_24 : decode cX4_passOn 24 = .ok (.aload_n 2, 1) := by decide +kernel
theorem dX4_passOn_25 : decode cX4_passOn 25 = .ok (.getfield 127, 3) := by decide +kernel
theorem dX4_passOn_28 : decode cX4_passOn 28 = .ok (.aload_n 1, 1) := by decide +kernel
theorem dX4_passOn_29 : decode cX4_passOn 29 = .ok (.getfield 134, 3) := by decide +kernel
theorem dX4_passOn_32 : decode cX4_passOn 32 = .ok (.invokevirtual 84, 3) := by decide +kernel
theorem dX4_passOn_35 : decode cX4_passOn 35 = .ok (.aload_n 2, 1) := by decide +kernel
theorem dX4_passOn_36 : decode cX4_passOn 36 = .ok (.getfield 137, 3) := by decide +kernel
theorem dX4_passOn_39 : decode cX4_passOn 39 = .ok (.astore_n 2, 1) := by decide +kernel
theorem dX4_passOn_40 : decode cX4_passOn 40 = .ok (.goto (-35), 3) := by decide +kernel
theorem dX4_passOn_43 : decode cX4_passOn 43 = .ok (.return_, 1) := by decide +kernel
theorem dX4_countBearers_0 : decode cX4_countBearers 0 = .ok (.iconst 0, 1) := by decide +kernel
theorem dX4_countBearers_1 : decode cX4_countBearers 1 = .ok (.istore_n 2, 1) := by decide +kernel
theorem dX4_countBearers_2 : decode cX4_countBearers 2 = .ok (.iconst 0, 1) := by decide +kernel
theorem dX4_countBearers_3 : decode cX4_countBearers 3 = .ok (.istore_n 3, 1) := by decide +kernel
theorem dX4_countBearers_4 : decode cX4_countBearers 4 = .ok (.iload_n 3, 1) := by decide +kernel
theorem dX4_countBearers_5 : decode cX4_countBearers 5 = .ok (.aload_n 0, 1) := by decide +kernel
theorem dX4_countBearers_6 : decode cX4_countBearers 6 = .ok (.getfield 36, 3) := by decide +kernel
theorem dX4_countBearers_9 : decode cX4_countBearers 9 = .ok (.if_icmp .ge 33, 3) := by decide +kernel
theorem dX4_countBearers_12 : decode cX4_countBearers 12 = .ok (.aload_n 0, 1) := by decide +kernel
theorem dX4_countBearers_13 : decode cX4_countBearers 13 = .ok (.iload_n 3, 1) := by decide +kernel
theorem dX4_countBearers_14 : decode cX4_countBearers 14 = .ok (.invokevirtual 42, 3) := by decide +kernel
theorem dX4_countBearers_17 : decode cX4_countBearers 17 = .ok (.astore 4, 2) := by decide +kernel
theorem dX4_countBearers_19 : decode cX4_countBearers 19 = .ok (.aload 4, 2) := by decide +kernel
theorem dX4_countBearers_21 : decode cX4_countBearers 21 = .ok (.ifnull 15, 3) := by decide +kernel
theorem dX4_countBearers_24 : decode cX4_countBearers 24 = .ok (.aload 4, 2) := by decide +kernel
theorem dX4_countBearers_26 : decode cX4_countBearers 26 = .ok (.iload_n 1, 1) := by decide +kernel
theorem dX4_countBearers_27 : decode cX4_countBearers 27 = .ok (.invokevirtual 95, 3) := by decide +kernel
theorem dX4_countBearers_30 : decode cX4_countBearers 30 = .ok (.ifCond .eq 6, 3) := by decide +kernel
theorem dX4_countBearers_33 : decode cX4_countBearers 33 = .ok (.iinc 2 1, 3) := by decide +kernel
theorem dX4_countBearers_36 : decode cX4_countBearers 36 = .ok (.iinc 3 1, 3) := by decide +kernel
theorem dX4_countBearers_39 : decode cX4_countBearers 39 = .ok (.goto (-35), 3) := by decide +kernel
theorem dX4_countBearers_42 : decode cX4_countBearers 42 = .ok (.iload_n 2, 1) := by decide +kernel
theorem dX4_countBearers_43 : decode cX4_countBearers 43 = .ok (.ireturn, 1) := by decide +kernel
theorem dX5_bit_0 : decode cX5_bit 0 = .ok (.iconst 1, 1) := by decide +kernel
theorem dX5_bit_1 : decode cX5_bit 1 = .ok (.iload_n 0, 1) := by decide +kernel
theorem dX5_bit_2 : decode cX5_bit 2 = .ok (.ishl, 1) := by decide +kernel
theorem dX5_bit_3 : decode cX5_bit 3 = .ok (.ireturn, 1) := by decide +kernel
theorem dX5_have_0 : decode cX5_have 0 = .ok (.aload_n 0, 1) := by decide +kernel
theorem dX5_have_1 : decode cX5_have 1 = .ok (.getfield 22, 3) := by decide +kernel
theorem dX5_have_4 : decode cX5_have 4 = .ok (.iload_n 1, 1) := by decide +kernel
theorem dX5_have_5 : decode cX5_have 5 = .ok (.bipush 12, 2) := by decide +kernel
theorem dX5_have_7 : decode cX5_have 7 = .ok (.imul, 1) := by decide +kernel
theorem dX5_have_8 : decode cX5_have 8 = .ok (.iload_n 2, 1) := by decide +kernel
theorem dX5_have_9 : decode cX5_have 9 = .ok (.iadd, 1) := by decide +kernel
theorem dX5_have_10 : decode cX5_have 10 = .ok (.iload_n 3, 1) := by decide +kernel
theorem dX5_have_11 : decode cX5_have 11 = .ok (.iastore, 1) := by decide +kernel
theorem dX5_have_12 : decode cX5_have 12 = .ok (.return_, 1) := by decide +kernel
theorem dX5_closed_0 : decode cX5_closed 0 = .ok (.iload_n 0, 1) := by decide +kernel
theorem dX5_closed_1 : decode cX5_closed 1 = .ok (.istore_n 1, 1) := by decide +kernel
theorem dX5_closed_2 : decode cX5_closed 2 = .ok (.iload_n 1, 1) := by decide +kernel
theorem dX5_closed_3 : decode cX5_closed 3 = .ok (.iconst 3, 1) := by decide +kernel
theorem dX5_closed_4 : decode cX5_closed 4 = .ok (.invokestatic 84, 3) := by decide +kernel
theorem dX5_closed_7 : decode cX5_closed 7 = .ok (.iand, 1) := by decide +kernel
theorem dX5_closed_8 : decode cX5_closed 8 = .ok (.ifCond .eq 15, 3) := by decide +kernel
theorem dX5_closed_11 : decode cX5_closed 11 = .ok (.iload_n 1, 1) := by decide +kernel
theorem dX5_closed_12 : decode cX5_closed 12 = .ok (.iconst 1, 1) := by decide +kernel
theorem dX5_closed_13 : decode cX5_closed 13 = .ok (.invokestatic 84, 3) := by decide +kernel
theorem dX5_closed_16 : decode cX5_closed 16 = .ok (.iconst 2, 1) := by decide +kernel
theorem dX5_closed_17 : decode cX5_closed 17 = .ok (.invokestatic 84, 3) := by decide +kernel
theorem dX5_closed_20 : decode cX5_closed 20 = .ok (.ior, 1) := by decide +kernel
theorem dX5_closed_21 : decode cX5_closed 21 = .ok (.ior, 1) := by decide +kernel
theorem dX5_closed_22 : decode cX5_closed 22 = .ok (.istore_n 1, 1) := by decide +kernel
theorem dX5_closed_23 : decode cX5_closed 23 = .ok (.iload_n 1, 1) := by decide +kernel
theorem dX5_closed_24 : decode cX5_closed 24 = .ok (.iconst 5, 1) := by decide +kernel
theorem dX5_closed_25 : decode cX5_closed 25 = .ok (.invokestatic 84, 3) := by decide +kernel
theorem dX5_closed_28 : decode cX5_closed 28 = .ok (.iand, 1) := by decide +kernel
theorem dX5_closed_29 : decode cX5_closed 29 = .ok (.ifCond .eq 10, 3) := by decide +kernel
theorem dX5_closed_32 : decode cX5_closed 32 = .ok (.iload_n 1, 1) := by decide +kernel
theorem dX5_closed_33 : decode cX5_closed 33 = .ok (.iconst 4, 1) := by decide +kernel
theorem dX5_closed_34 : decode cX5_closed 34 = .ok (.invokestatic 84, 3) := by decide +kernel
theorem dX5_closed_37 : decode cX5_closed 37 = .ok (.ior, 1) := by decide +kernel
theorem dX5_closed_38 : decode cX5_closed 38 = .ok (.istore_n 1, 1) := by decide +kernel
theorem dX5_closed_39 : decode cX5_closed 39 = .ok (.iload_n 1, 1) := by decide +kernel
theorem dX5_closed_40 : decode cX5_closed 40 = .ok (.ireturn, 1) := by decide +kernel
theorem dX5_heir_0 : decode cX5_heir 0 = .ok (.aload_n 0, 1) := by decide +kernel
theorem dX5_heir_1 : decode cX5_heir 1 = .ok (.getfield 16, 3) := by decide +kernel
theorem dX5_heir_4 : decode cX5_heir 4 = .ok (.iload_n 1, 1) := by decide +kernel
theorem dX5_heir_5 : decode cX5_heir 5 = .ok (.iload_n 2, 1) := by decide +kernel
theorem dX5_heir_6 : decode cX5_heir 6 = .ok (.iastore, 1) := by decide +kernel
theorem dX5_heir_7 : decode cX5_heir 7 = .ok (.aload_n 0, 1) := by decide +kernel
theorem dX5_heir_8 : decode cX5_heir 8 = .ok (.getfield 19, 3) := by decide +kernel
theorem dX5_heir_11 : decode cX5_heir 11 = .ok (.iload_n 1, 1) := by decide +kernel
theorem dX5_heir_12 : decode cX5_heir 12 = .ok (.aload_n 0, 1) := by decide +kernel
theorem dX5_heir_13 : decode cX5_heir 13 = .ok (.getfield 19, 3) := by decide +kernel
theorem dX5_heir_16 : decode cX5_heir 16 = .ok (.iload_n 2, 1) := by decide +kernel
theorem dX5_heir_17 : decode cX5_heir 17 = .ok (.iaload, 1) := by decide +kernel
theorem dX5_heir_18 : decode cX5_heir 18 = .ok (.iload_n 3, 1) := by decide +kernel
theorem dX5_heir_19 : decode cX5_heir 19 = .ok (.invokestatic 88, 3) := by decide +kernel
theorem dX5_heir_22 : decode cX5_heir 22 = .ok (.ior, 1) := by decide +kernel
theorem dX5_heir_23 : decode cX5_heir 23 = .ok (.iastore, 1) := by decide +kernel
theorem dX5_heir_24 : decode cX5_heir 24 = .ok (.return_, 1) := by decide +kernel
theorem dX5_select_0 : decode cX5_select 0 = .ok (.iload_n 1, 1) := by decide +kernel
theorem dX5_select_1 : decode cX5_select 1 = .ok (.istore_n 3, 1) := by decide +kernel
theorem dX5_select_2 : decode cX5_select 2 = .ok (.iload_n 3, 1) := by decide +kernel
theorem dX5_select_3 : decode cX5_select 3 = .ok (.bipush 6, 2) := by decide +kernel
theorem dX5_select_5 : decode cX5_select 5 = .ok (.if_icmp .lt 40, 3) := by decide +kernel
theorem dX5_select_8 : decode cX5_select 8 = .ok (.aload_n 0, 1) := by decide +kernel
theorem dX5_select_9 : decode cX5_select 9 = .ok (.getfield 22, 3) := by decide +kernel
theorem dX5_select_12 : decode cX5_select 12 = .ok (.iload_n 3, 1) := by decide +kernel
theorem dX5_select_13 : decode cX5_select 13 = .ok (.bipush 12, 2) := by decide +kernel
theorem dX5_select_15 : decode cX5_select 15 = .ok (.imul, 1) := by decide +kernel
theorem dX5_select_16 : decode cX5_select 16 = .ok (.iload_n 2, 1) := by decide +kernel
theorem dX5_select_17 : decode cX5_select 17 = .ok (.iadd, 1) := by decide +kernel
theorem dX5_select_18 : decode cX5_select 18 = .ok (.iaload, 1) := by decide +kernel
theorem dX5_select_19 : decode cX5_select 19 = .ok (.iconst (-1), 1) := by decide +kernel
theorem dX5_select_20 : decode cX5_select 20 = .ok (.if_icmp .eq 15, 3) := by decide +kernel
theorem dX5_select_23 : decode cX5_select 23 = .ok (.aload_n 0, 1) := by decide +kernel
theorem dX5_select_24 : decode cX5_select 24 = .ok (.getfield 22, 3) := by decide +kernel
theorem dX5_select_27 : decode cX5_select 27 = .ok (.iload_n 3, 1) := by decide +kernel
theorem dX5_select_28 : decode cX5_select 28 = .ok (.bipush 12, 2) := by decide +kernel
theorem dX5_select_30 : decode cX5_select 30 = .ok (.imul, 1) := by decide +kernel
theorem dX5_select_31 : decode cX5_select 31 = .ok (.iload_n 2, 1) := by decide +kernel
theorem dX5_select_32 : decode cX5_select 32 = .ok (.iadd, 1) := by decide +kernel
theorem dX5_select_33 : decode cX5_select 33 = .ok (.iaload, 1) := by decide +kernel
theorem dX5_select_34 : decode cX5_select 34 = .ok (.ireturn, 1) := by decide +kernel
theorem dX5_select_35 : decode cX5_select 35 = .ok (.aload_n 0, 1) := by decide +kernel
theorem dX5_select_36 : decode cX5_select 36 = .ok (.getfield 16, 3) := by decide +kernel
theorem dX5_select_39 : decode cX5_select 39 = .ok (.iload_n 3, 1) := by decide +kernel
theorem dX5_select_40 : decode cX5_select 40 = .ok (.iaload, 1) := by decide +kernel
theorem dX5_select_41 : decode cX5_select 41 = .ok (.istore_n 3, 1) := by decide +kernel
theorem dX5_select_42 : decode cX5_select 42 = .ok (.goto (-40), 3) := by decide +kernel
theorem dX5_select_45 : decode cX5_select 45 = .ok (.aload_n 0, 1) := by decide +kernel
theorem dX5_select_46 : decode cX5_select 46 = .ok (.aload_n 0, 1) := by decide +kernel
theorem dX5_select_47 : decode cX5_select 47 = .ok (.getfield 19, 3) := by decide +kernel
theorem dX5_select_50 : decode cX5_select 50 = .ok (.iload_n 1, 1) := by decide +kernel
theorem dX5_select_51 : decode cX5_select 51 = .ok (.iaload, 1) := by decide +kernel
theorem dX5_select_52 : decode cX5_select 52 = .ok (.iload_n 2, 1) := by decide +kernel
theorem dX5_select_53 : decode cX5_select 53 = .ok (.invokevirtual 91, 3) := by decide +kernel
theorem dX5_select_56 : decode cX5_select 56 = .ok (.ireturn, 1) := by decide +kernel
theorem dX5_lowest_0 : decode cX5_lowest 0 = .ok (.iconst 1, 1) := by decide +kernel
theorem dX5_lowest_1 : decode cX5_lowest 1 = .ok (.istore_n 3, 1) := by decide +kernel
theorem dX5_lowest_2 : decode cX5_lowest 2 = .ok (.iload_n 3, 1) := by decide +kernel
theorem dX5_lowest_3 : decode cX5_lowest 3 = .ok (.iconst 5, 1) := by decide +kernel
theorem dX5_lowest_4 : decode cX5_lowest 4 = .ok (.if_icmp .gt 122, 3) := by decide +kernel
theorem dX5_lowest_7 : decode cX5_lowest 7 = .ok (.iload_n 1, 1) := by decide +kernel
theorem dX5_lowest_8 : decode cX5_lowest 8 = .ok (.iload_n 3, 1) := by decide +kernel
theorem dX5_lowest_9 : decode cX5_lowest 9 = .ok (.invokestatic 84, 3) := by decide +kernel
theorem dX5_lowest_12 : decode cX5_lowest 12 = .ok (.iand, 1) := by decide +kernel
theorem dX5_lowest_13 : decode cX5_lowest 13 = .ok (.ifCond .eq 107, 3) := by decide +kernel
theorem dX5_lowest_16 : decode cX5_lowest 16 = .ok (.aload_n 0, 1) := by decide +kernel
theorem dX5_lowest_17 : decode cX5_lowest 17 = .ok (.getfield 22, 3) := by decide +kernel
theorem dX5_lowest_20 : decode cX5_lowest 20 = .ok (.iload_n 3, 1) := by decide +kernel
theorem dX5_lowest_21 : decode cX5_lowest 21 = .ok (.bipush 12, 2) := by decide +kernel
theorem dX5_lowest_23 : decode cX5_lowest 23 = .ok (.imul, 1) := by decide +kernel
theorem dX5_lowest_24 : decode cX5_lowest 24 = .ok (.iload_n 2, 1) := by decide +kernel
theorem dX5_lowest_25 : decode cX5_lowest 25 = .ok (.iadd, 1) := by decide +kernel
theorem dX5_lowest_26 : decode cX5_lowest 26 = .ok (.iaload, 1) := by decide +kernel
theorem dX5_lowest_27 : decode cX5_lowest 27 = .ok (.iconst (-1), 1) := by decide +kernel
theorem dX5_lowest_28 : decode cX5_lowest 28 = .ok (.if_icmp .ne 6, 3) := by decide +kernel
theorem dX5_lowest_31 : decode cX5_lowest 31 = .ok (.goto 89, 3) := by decide +kernel
theorem dX5_lowest_34 : decode cX5_lowest 34 = .ok (.iconst 1, 1) := by decide +kernel
theorem dX5_lowest_35 : decode cX5_lowest 35 = .ok (.istore 4, 2) := by decide +kernel
theorem dX5_lowest_37 : decode cX5_lowest 37 = .ok (.iconst 1, 1) := by decide +kernel
theorem dX5_lowest_38 : decode cX5_lowest 38 = .ok (.istore 5, 2) := by decide +kernel
theorem dX5_lowest_40 : decode cX5_lowest 40 = .ok (.iload 5, 2) := by decide +kernel
theorem dX5_lowest_42 : decode cX5_lowest 42 = .ok (.iconst 5, 1) := by decide +kernel
theorem dX5_lowest_43 : decode cX5_lowest 43 = .ok (.if_icmp .gt 60, 3) := by decide +kernel
theorem dX5_lowest_46 : decode cX5_lowest 46 = .ok (.iload 5, 2) := by decide +kernel
theorem dX5_lowest_48 : decode cX5_lowest 48 = .ok (.iload_n 3, 1) := by decide +kernel
theorem dX5_lowest_49 : decode cX5_lowest 49 = .ok (.if_icmp .eq 48, 3) := by decide +kernel
theorem dX5_lowest_52 : decode cX5_lowest 52 = .ok (.iload_n 1, 1) := by decide +kernel
theorem dX5_lowest_53 : decode cX5_lowest 53 = .ok (.iload 5, 2) := by decide +kernel
theorem dX5_lowest_55 : decode cX5_lowest 55 = .ok (.invokestatic 84, 3) := by decide +kernel
theorem dX5_lowest_58 : decode cX5_lowest 58 = .ok (.iand, 1) := by decide +kernel
theorem dX5_lowest_59 : decode cX5_lowest 59 = .ok (.ifCond .eq 38, 3) := by decide +kernel
theorem dX5_lowest_62 : decode cX5_lowest 62 = .ok (.aload_n 0, 1) := by decide +kernel
theorem dX5_lowest_63 : decode cX5_lowest 63 = .ok (.getfield 22, 3) := by decide +kernel
theorem dX5_lowest_66 : decode cX5_lowest 66 = .ok (.iload 5, 2) := by decide +kernel
theorem dX5_lowest_68 : decode cX5_lowest 68 = .ok (.bipush 12, 2) := by decide +kernel
theorem dX5_lowest_70 : decode cX5_lowest 70 = .ok (.imul, 1) := by decide +kernel
theorem dX5_lowest_71 : decode cX5_lowest 71 = .ok (.iload_n 2, 1) := by decide +kernel
theorem dX5_lowest_72 : decode cX5_lowest 72 = .ok (.iadd, 1) := by decide +kernel
theorem dX5_lowest_73 : decode cX5_lowest 73 = .ok (.iaload, 1) := by decide +kernel
theorem dX5_lowest_74 : decode cX5_lowest 74 = .ok (.iconst (-1), 1) := by decide +kernel
theorem dX5_lowest_75 : decode cX5_lowest 75 = .ok (.if_icmp .eq 22, 3) := by decide +kernel
theorem dX5_lowest_78 : decode cX5_lowest 78 = .ok (.iload 5, 2) := by decide +kernel
theorem dX5_lowest_80 : decode cX5_lowest 80 = .ok (.invokestatic 84, 3) := by decide +kernel
theorem dX5_lowest_83 : decode cX5_lowest 83 = .ok (.invokestatic 88, 3) := by decide +kernel
theorem dX5_lowest_86 : decode cX5_lowest 86 = .ok (.iload_n 3, 1) := by decide +kernel
theorem dX5_lowest_87 : decode cX5_lowest 87 = .ok (.invokestatic 84, 3) := by decide +kernel
theorem dX5_lowest_90 : decode cX5_lowest 90 = .ok (.iand, 1) := by decide +kernel
theorem dX5_lowest_91 : decode cX5_lowest 91 = .ok (.ifCond .eq 6, 3) := by decide +kernel
theorem dX5_lowest_94 : decode cX5_lowest 94 = .ok (.iconst 0, 1) := by decide +kernel
theorem dX5_lowest_95 : decode cX5_lowest 95 = .ok (.istore 4, 2) := by decide +kernel
theorem dX5_lowest_97 : decode cX5_lowest 97 = .ok (.iinc 5 1, 3) := by decide +kernel
theorem dX5_lowest_100 : decode cX5_lowest 100 = .ok (.goto (-60), 3) := by decide +kernel
theorem dX5_lowest_103 : decode cX5_lowest 103 = .ok (.iload 4, 2) := by decide +kernel
theorem dX5_lowest_105 : decode cX5_lowest 105 = .ok (.ifCond .eq 15, 3) := by decide +kernel
theorem dX5_lowest_108 : decode cX5_lowest 108 = .ok (.aload_n 0, 1) := by decide +kernel
theorem dX5_lowest_109 : decode cX5_lowest 109 = .ok (.getfield 22, 3) := by decide +kernel
theorem dX5_lowest_112 : decode cX5_lowest 112 = .ok (.iload_n 3, 1) := by decide +kernel
theorem dX5_lowest_113 : decode cX5_lowest 113 = .ok (.bipush 12, 2) := by decide +kernel
theorem dX5_lowest_115 : decode cX5_lowest 115 = .ok (.imul, 1) := by decide +kernel
theorem dX5_lowest_116 : decode cX5_lowest 116 = .ok (.iload_n 2, 1) := by decide +kernel
theorem dX5_lowest_117 : decode cX5_lowest 117 = .ok (.iadd, 1) := by decide +kernel
theorem dX5_lowest_118 : decode cX5_lowest 118 = .ok (.iaload, 1) := by decide +kernel
theorem dX5_lowest_119 : decode cX5_lowest 119 = .ok (.ireturn, 1) := by decide +kernel
theorem dX5_lowest_120 : decode cX5_lowest 120 = .ok (.iinc 3 1, 3) := by decide +kernel
theorem dX5_lowest_123 : decode cX5_lowest 123 = .ok (.goto (-121), 3) := by decide +kernel
theorem dX5_lowest_126 : decode cX5_lowest 126 = .ok (.iconst (-1), 1) := by decide +kernel
theorem dX5_lowest_127 : decode cX5_lowest 127 = .ok (.ireturn, 1) := by decide +kernel
theorem dX5_push_0 : decode cX5_push 0 = .ok (.aload_n 0, 1) := by decide +kernel
theorem dX5_push_1 : decode cX5_push 1 = .ok (.getfield 74, 3) := by decide +kernel
theorem dX5_push_4 : decode cX5_push 4 = .ok (.aload_n 0, 1) := by decide +kernel
theorem dX5_push_5 : decode cX5_push 5 = .ok (.getfield 98, 3) := by decide +kernel
theorem dX5_push_8 : decode cX5_push 8 = .ok (.iload_n 1, 1) := by decide +kernel
theorem dX5_push_9 : decode cX5_push 9 = .ok (.iastore, 1) := by decide +kernel
theorem dX5_push_10 : decode cX5_push 10 = .ok (.aload_n 0, 1) := by decide +kernel
theorem dX5_push_11 : decode cX5_push 11 = .ok (.dup, 1) := by decide +kernel
theorem dX5_push_12 : decode cX5_push 12 = .ok (.getfield 98, 3) := by decide +kernel
theorem dX5_push_15 : decode cX5_push 15 = .ok (.iconst 1, 1) := by decide +kernel
theorem dX5_push_16 : decode cX5_push 16 = .ok (.iadd, 1) := by decide +kernel
theorem dX5_push_17 : decode cX5_push 17 = .ok (.putfield 98, 3) := by decide +kernel
theorem dX5_push_20 : decode cX5_push 20 = .ok (.return_, 1) := by decide +kernel
theorem dX5_pop_0 : decode cX5_pop 0 = .ok (.aload_n 0, 1) := by decide +kernel
theorem dX5_pop_1 : decode cX5_pop 1 = .ok (.dup, 1) := by decide +kernel
theorem dX5_pop_2 : decode cX5_pop 2 = .ok (.getfield 98, 3) := by decide +kernel
theorem dX5_pop_5 : decode cX5_pop 5 = .ok (.iconst 1, 1) := by decide +kernel
theorem dX5_pop_6 : decode cX5_pop 6 = .ok (.isub, 1) := by decide +kernel
theorem dX5_pop_7 : decode cX5_pop 7 = .ok (.putfield 98, 3) := by decide +kernel
theorem dX5_pop_10 : decode cX5_pop 10 = .ok (.aload_n 0, 1) := by decide +kernel
theorem dX5_pop_11 : decode cX5_pop 11 = .ok (.getfield 74, 3) := by decide +kernel
theorem dX5_pop_14 : decode cX5_pop 14 = .ok (.aload_n 0, 1) := by decide +kernel
theorem dX5_pop_15 : decode cX5_pop 15 = .ok (.getfield 98, 3) := by decide +kernel
theorem dX5_pop_18 : decode cX5_pop 18 = .ok (.iaload, 1) := by decide +kernel
theorem dX5_pop_19 : decode cX5_pop 19 = .ok (.ireturn, 1) := by decide +kernel
theorem dX5_enter_0 : decode cX5_enter 0 = .ok (.aload_n 0, 1) := by decide +kernel
theorem dX5_enter_1 : decode cX5_enter 1 = .ok (.getfield 102, 3) := by decide +kernel
theorem dX5_enter_4 : decode cX5_enter 4 = .ok (.bipush 64, 2) := by decide +kernel
theorem dX5_enter_6 : decode cX5_enter 6 = .ok (.if_icmp .ge 13, 3) := by decide +kernel
theorem dX5_enter_9 : decode cX5_enter 9 = .ok (.aload_n 0, 1) := by decide +kernel
theorem dX5_enter_10 : decode cX5_enter 10 = .ok (.getfield 62, 3) := by decide +kernel
theorem dX5_enter_13 : decode cX5_enter 13 = .ok (.aload_n 0, 1) := by decide +kernel
theorem dX5_enter_14 : decode cX5_enter 14 = .ok (.getfield 102, 3) := by decide +kernel
theorem dX5_enter_17 : decode cX5_enter 17 = .ok (.iload_n 1, 1) := by decide +kernel
theorem dX5_enter_18 : decode cX5_enter 18 = .ok (.iastore, 1) := by decide +kernel
theorem dX5_enter_19 : decode cX5_enter 19 = .ok (.aload_n 0, 1) := by decide +kernel
theorem dX5_enter_20 : decode cX5_enter 20 = .ok (.dup, 1) := by decide +kernel
theorem dX5_enter_21 : decode cX5_enter 21 = .ok (.getfield 102, 3) := by decide +kernel
theorem dX5_enter_24 : decode cX5_enter 24 = .ok (.iconst 1, 1) := by decide +kernel
theorem dX5_enter_25 : decode cX5_enter 25 = .ok (.iadd, 1) := by decide +kernel
theorem dX5_enter_26 : decode cX5_enter 26 = .ok (.putfield 102, 3) := by decide +kernel
theorem dX5_enter_29 : decode cX5_enter 29 = .ok (.aload_n 0, 1) := by decide +kernel
theorem dX5_enter_30 : decode cX5_enter 30 = .ok (.getfield 65, 3) := by decide +kernel
theorem dX5_enter_33 : decode cX5_enter 33 = .ok (.aload_n 0, 1) := by decide +kernel
theorem dX5_enter_34 : decode cX5_enter 34 = .ok (.getfield 105, 3) := by decide +kernel
theorem dX5_enter_37 : decode cX5_enter 37 = .ok (.iload_n 1, 1) := by decide +kernel
theorem dX5_enter_38 : decode cX5_enter 38 = .ok (.iastore, 1) := by decide +kernel
theorem dX5_enter_39 : decode cX5_enter 39 = .ok (.aload_n 0, 1) := by decide +kernel
theorem dX5_enter_40 : decode cX5_enter 40 = .ok (.getfield 68, 3) := by decide +kernel
theorem dX5_enter_43 : decode cX5_enter 43 = .ok (.aload_n 0, 1) := by decide +kernel
theorem dX5_enter_44 : decode cX5_enter 44 = .ok (.getfield 105, 3) := by decide +kernel
theorem dX5_enter_47 : decode cX5_enter 47 = .ok (.aload_n 0, 1) := by decide +kernel
theorem dX5_enter_48 : decode cX5_enter 48 = .ok (.getfield 13, 3) := by decide +kernel
theorem dX5_enter_51 : decode cX5_enter 51 = .ok (.iload_n 1, 1) := by decide +kernel
theorem dX5_enter_52 : decode cX5_enter 52 = .ok (.iaload, 1) := by decide +kernel
theorem dX5_enter_53 : decode cX5_enter 53 = .ok (.iastore, 1) := by decide +kernel
theorem dX5_enter_54 : decode cX5_enter 54 = .ok (.aload_n 0, 1) := by decide +kernel
theorem dX5_enter_55 : decode cX5_enter 55 = .ok (.getfield 71, 3) := by decide +kernel
theorem dX5_enter_58 : decode cX5_enter 58 = .ok (.aload_n 0, 1) := by decide +kernel
theorem dX5_enter_59 : decode cX5_enter 59 = .ok (.getfield 105, 3) := by decide +kernel
theorem dX5_enter_62 : decode cX5_enter 62 = .ok (.iload_n 2, 1) := by decide +kernel
theorem dX5_enter_63 : decode cX5_enter 63 = .ok (.iastore, 1) := by decide +kernel
theorem dX5_enter_64 : decode cX5_enter 64 = .ok (.aload_n 0, 1) := by decide +kernel
theorem dX5_enter_65 : decode cX5_enter 65 = .ok (.dup, 1) := by decide +kernel
theorem dX5_enter_66 : decode cX5_enter 66 = .ok (.getfield 105, 3) := by decide +kernel
theorem dX5_enter_69 : decode cX5_enter 69 = .ok (.iconst 1, 1) := by decide +kernel
theorem dX5_enter_70 : decode cX5_enter 70 = .ok (.iadd, 1) := by decide +kernel
theorem dX5_enter_71 : decode cX5_enter 71 = .ok (.putfield 105, 3) := by decide +kernel
theorem dX5_enter_74 : decode cX5_enter 74 = .ok (.return_, 1) := by decide +kernel
theorem dX5_act_0 : decode cX5_act 0 = .ok (.aload_n 0, 1) := by decide +kernel
theorem dX5_act_1 : decode cX5_act 1 = .ok (.iconst 0, 1) := by decide +kernel
theorem dX5_act_2 : decode cX5_act 2 = .ok (.putfield 105, 3) := by decide +kernel
theorem dX5_act_5 : decode cX5_act 5 = .ok (.aload_n 0, 1) := by decide +kernel
theorem dX5_act_6 : decode cX5_act 6 = .ok (.iconst 0, 1) := by decide +kernel
theorem dX5_act_7 : decode cX5_act 7 = .ok (.putfield 98, 3) := by decide +kernel
theorem dX5_act_10 : decode cX5_act 10 = .ok (.aload_n 0, 1) := by decide +kernel
theorem dX5_act_11 : decode cX5_act 11 = .ok (.aload_n 0, 1) := by decide +kernel
theorem dX5_act_12 : decode cX5_act 12 = .ok (.getfield 25, 3) := by decide +kernel
theorem dX5_act_15 : decode cX5_act 15 = .ok (.bipush 10, 2) := by decide +kernel
theorem dX5_act_17 : decode cX5_act 17 = .ok (.aload_n 0, 1) := by decide +kernel
theorem dX5_act_18 : decode cX5_act 18 = .ok (.getfield 34, 3) := by decide +kernel
theorem dX5_act_21 : decode cX5_act 21 = .ok (.iload_n 1, 1) := by decide +kernel
theorem dX5_act_22 : decode cX5_act 22 = .ok (.iaload, 1) := by decide +kernel
theorem dX5_act_23 : decode cX5_act 23 = .ok (.iadd, 1) := by decide +kernel
theorem dX5_act_24 : decode cX5_act 24 = .ok (.bipush 12, 2) := by decide +kernel
theorem dX5_act_26 : decode cX5_act 26 = .ok (.imul, 1) := by decide +kernel
theorem dX5_act_27 : decode cX5_act 27 = .ok (.iload_n 2, 1) := by decide +kernel
theorem dX5_act_28 : decode cX5_act 28 = .ok (.iadd, 1) := by decide +kernel
theorem dX5_act_29 : decode cX5_act 29 = .ok (.iaload, 1) := by decide +kernel
theorem dX5_act_30 : decode cX5_act 30 = .ok (.iload_n 3, 1) := by decide +kernel
theorem dX5_act_31 : decode cX5_act 31 = .ok (.invokevirtual 108, 3) := by decide +kernel
theorem dX5_act_34 : decode cX5_act 34 = .ok (.aload_n 0, 1) := by decide +kernel
theorem dX5_act_35 : decode cX5_act 35 = .ok (.getfield 105, 3) := by decide +kernel
theorem dX5_act_38 : decode cX5_act 38 = .ok (.ifCond .le 224, 3) := by decide +kernel
theorem dX5_act_41 : decode cX5_act 41 = .ok (.aload_n 0, 1) := by decide +kernel
theorem dX5_act_42 : decode cX5_act 42 = .ok (.getfield 105, 3) := by decide +kernel
theorem dX5_act_45 : decode cX5_act 45 = .ok (.iconst 1, 1) := by decide +kernel
theorem dX5_act_46 : decode cX5_act 46 = .ok (.isub, 1) := by decide +kernel
theorem dX5_act_47 : decode cX5_act 47 = .ok (.istore 4, 2) := by decide +kernel
theorem dX5_act_49 : decode cX5_act 49 = .ok (.aload_n 0, 1) := by decide +kernel
theorem dX5_act_50 : decode cX5_act 50 = .ok (.getfield 9, 3) := by decide +kernel
theorem dX5_act_53 : decode cX5_act 53 = .ok (.aload_n 0, 1) := by decide +kernel
theorem dX5_act_54 : decode cX5_act 54 = .ok (.getfield 68, 3) := by decide +kernel
theorem dX5_act_57 : decode cX5_act 57 = .ok (.iload 4, 2) := by decide +kernel
theorem dX5_act_59 : decode cX5_act 59 = .ok (.iaload, 1) := by decide +kernel
theorem dX5_act_60 : decode cX5_act 60 = .ok (.iaload, 1) := by decide +kernel
theorem dX5_act_61 : decode cX5_act 61 = .ok (.istore 5, 2) := by decide +kernel
theorem dX5_act_63 : decode cX5_act 63 = .ok (.aload_n 0, 1) := by decide +kernel
theorem dX5_act_64 : decode cX5_act 64 = .ok (.getfield 68, 3) := by decide +kernel
theorem dX5_act_67 : decode cX5_act 67 = .ok (.iload 4, 2) := by decide +kernel
theorem dX5_act_69 : decode cX5_act 69 = .ok (.dup2, 1) := by decide +kernel
theorem dX5_act_70 : decode cX5_act 70 = .ok (.iaload, 1) := by decide +kernel
theorem dX5_act_71 : decode cX5_act 71 = .ok (.iconst 1, 1) := by decide +kernel
theorem dX5_act_72 : decode cX5_act 72 = .ok (.iadd, 1) := by decide +kernel
theorem dX5_act_73 : decode cX5_act 73 = .ok (.iastore, 1) := by decide +kernel
theorem dX5_act_74 : decode cX5_act 74 = .ok (.iload 5, 2) := by decide +kernel
theorem dX5_act_76 : decode cX5_act 76 = .ok (.sipush 3000, 3) := by decide +kernel
theorem dX5_act_79 : decode cX5_act 79 = .ok (.if_icmp .lt 16, 3) := by decide +kernel
theorem dX5_act_82 : decode cX5_act 82 = .ok (.aload_n 0, 1) := by decide +kernel
theorem dX5_act_83 : decode cX5_act 83 = .ok (.dup, 1) := by decide +kernel
theorem dX5_act_84 : decode cX5_act 84 = .ok (.getfield 105, 3) := by decide +kernel
theorem dX5_act_87 : decode cX5_act 87 = .ok (.iconst 1, 1) := by decide +kernel
theorem dX5_act_88 : decode cX5_act 88 = .ok (.isub, 1) := by decide +kernel
theorem dX5_act_89 : decode cX5_act 89 = .ok (.putfield 105, 3) := by decide +kernel
theorem dX5_act_92 : decode cX5_act 92 = .ok (.goto 167, 3) := by decide +kernel
theorem dX5_act_95 : decode cX5_act 95 = .ok (.iload 5, 2) := by decide +kernel
theorem dX5_act_97 : decode cX5_act 97 = .ok (.sipush 2000, 3) := by decide +kernel
theorem dX5_act_100 : decode cX5_act 100 = .ok (.if_icmp .lt 20, 3) := by decide +kernel
theorem dX5_act_103 : decode cX5_act 103 = .ok (.aload_n 0, 1) := by decide +kernel
theorem dX5_act_104 : decode cX5_act 104 = .ok (.iload 5, 2) := by decide +kernel
theorem dX5_act_106 : decode cX5_act 106 = .ok (.sipush 2000, 3) := by decide +kernel
theorem dX5_act_109 : decode cX5_act 109 = .ok (.isub, 1) := by decide +kernel
theorem dX5_act_110 : decode cX5_act 110 = .ok (.aload_n 0, 1) := by decide +kernel
theorem dX5_act_111 : decode cX5_act 111 = .ok (.invokevirtual 112, 3) := by decide +kernel
theorem dX5_act_114 : decode cX5_act 114 = .ok (.invokevirtual 108, 3) := by decide +kernel
theorem dX5_act_117 : decode cX5_act 117 = .ok (.goto 142, 3) := by decide +kernel
theorem dX5_act_120 : decode cX5_act 120 = .ok (.iload 5, 2) := by decide +kernel
theorem dX5_act_122 : decode cX5_act 122 = .ok (.sipush 1312, 3) := by decide +kernel
theorem dX5_act_125 : decode cX5_act 125 = .ok (.if_icmp .lt 28, 3) := by decide +kernel
theorem dX5_act_128 : decode cX5_act 128 = .ok (.aload_n 0, 1) := by decide +kernel
theorem dX5_act_129 : decode cX5_act 129 = .ok (.aload_n 0, 1) := by decide +kernel
theorem dX5_act_130 : decode cX5_act 130 = .ok (.getfield 25, 3) := by decide +kernel
theorem dX5_act_133 : decode cX5_act 133 = .ok (.iload 5, 2) := by decide +kernel
theorem dX5_act_135 : decode cX5_act 135 = .ok (.sipush 1312, 3) := by decide +kernel
theorem dX5_act_138 : decode cX5_act 138 = .ok (.isub, 1) := by decide +kernel
theorem dX5_act_139 : decode cX5_act 139 = .ok (.bipush 12, 2) := by decide +kernel
theorem dX5_act_141 : decode cX5_act 141 = .ok (.iadd, 1) := by decide +kernel
theorem dX5_act_142 : decode cX5_act 142 = .ok (.iaload, 1) := by decide +kernel
theorem dX5_act_143 : decode cX5_act 143 = .ok (.aload_n 0, 1) := by decide +kernel
theorem dX5_act_144 : decode cX5_act 144 = .ok (.invokevirtual 112, 3) := by decide +kernel
theorem dX5_act_147 : decode cX5_act 147 = .ok (.invokevirtual 108, 3) := by decide +kernel
theorem dX5_act_150 : decode cX5_act 150 = .ok (.goto 109, 3) := by decide +kernel
theorem dX5_act_153 : decode cX5_act 153 = .ok (.iload 5, 2) := by decide +kernel
theorem dX5_act_155 : decode cX5_act 155 = .ok (.sipush 1200, 3) := by decide +kernel
theorem dX5_act_158 : decode cX5_act 158 = .ok (.if_icmp .lt 44, 3) := by decide +kernel
theorem dX5_act_161 : decode cX5_act 161 = .ok (.aload_n 0, 1) := by decide +kernel
theorem dX5_act_162 : decode cX5_act 162 = .ok (.aload_n 0, 1) := by decide +kernel
theorem dX5_act_163 : decode cX5_act 163 = .ok (.getfield 25, 3) := by decide +kernel
theorem dX5_act_166 : decode cX5_act 166 = .ok (.aload_n 0, 1) := by decide +kernel
theorem dX5_act_167 : decode cX5_act 167 = .ok (.getfield 16, 3) := by decide +kernel
theorem dX5_act_170 : decode cX5_act 170 = .ok (.aload_n 0, 1) := by decide +kernel
theorem dX5_act_171 : decode cX5_act 171 = .ok (.getfield 65, 3) := by decide +kernel
theorem dX5_act_174 : decode cX5_act 174 = .ok (.iload 4, 2) := by decide +kernel
theorem dX5_act_176 : decode cX5_act 176 = .ok (.iaload, 1) := by decide +kernel
theorem dX5_act_177 : decode cX5_act 177 = .ok (.bipush 10, 2) := by decide +kernel
theorem dX5_act_179 : decode cX5_act 179 = .ok (.idiv, 1) := by decide +kernel
theorem dX5_act_180 : decode cX5_act 180 = .ok (.iaload, 1) := by decide +kernel
theorem dX5_act_181 : decode cX5_act 181 = .ok (.bipush 12, 2) := by decide +kernel
theorem dX5_act_183 : decode cX5_act 183 = .ok (.imul, 1) := by decide +kernel
theorem dX5_act_184 : decode cX5_act 184 = .ok (.iload 5, 2) := by decide +kernel
theorem dX5_act_186 : decode cX5_act 186 = .ok (.iadd, 1) := by decide +kernel
theorem dX5_act_187 : decode cX5_act 187 = .ok (.sipush 1200, 3) := by decide +kernel
theorem dX5_act_190 : decode cX5_act 190 = .ok (.isub, 1) := by decide +kernel
theorem dX5_act_191 : decode cX5_act 191 = .ok (.iaload, 1) := by decide +kernel
theorem dX5_act_192 : decode cX5_act 192 = .ok (.aload_n 0, 1) := by decide +kernel
theorem dX5_act_193 : decode cX5_act 193 = .ok (.invokevirtual 112, 3) := by decide +kernel
theorem dX5_act_196 : decode cX5_act 196 = .ok (.invokevirtual 108, 3) := by decide +kernel
theorem dX5_act_199 : decode cX5_act 199 = .ok (.goto 60, 3) := by decide +kernel
theorem dX5_act_202 : decode cX5_act 202 = .ok (.iload 5, 2) := by decide +kernel
theorem dX5_act_204 : decode cX5_act 204 = .ok (.sipush 1100, 3) := by decide +kernel
theorem dX5_act_207 : decode cX5_act 207 = .ok (.if_icmp .lt 38, 3) := by decide +kernel
theorem dX5_act_210 : decode cX5_act 210 = .ok (.aload_n 0, 1) := by decide +kernel
theorem dX5_act_211 : decode cX5_act 211 = .ok (.aload_n 0, 1) := by decide +kernel
theorem dX5_act_212 : decode cX5_act 212 = .ok (.getfield 25, 3) := by decide +kernel
theorem dX5_act_215 : decode cX5_act 215 = .ok (.bipush 10, 2) := by decide +kernel
theorem dX5_act_217 : decode cX5_act 217 = .ok (.aload_n 0, 1) := by decide +kernel
theorem dX5_act_218 : decode cX5_act 218 = .ok (.getfield 34, 3) := by decide +kernel
theorem dX5_act_221 : decode cX5_act 221 = .ok (.iload_n 1, 1) := by decide +kernel
theorem dX5_act_222 : decode cX5_act 222 = .ok (.iaload, 1) := by decide +kernel
theorem dX5_act_223 : decode cX5_act 223 = .ok (.iadd, 1) := by decide +kernel
theorem dX5_act_224 : decode cX5_act 224 = .ok (.bipush 12, 2) := by decide +kernel
theorem dX5_act_226 : decode cX5_act 226 = .ok (.imul, 1) := by decide +kernel
theorem dX5_act_227 : decode cX5_act 227 = .ok (.iload 5, 2) := by decide +kernel
theorem dX5_act_229 : decode cX5_act 229 = .ok (.iadd, 1) := by decide +kernel
theorem dX5_act_230 : decode cX5_act 230 = .ok (.sipush 1100, 3) := by decide +kernel
theorem dX5_act_233 : decode cX5_act 233 = .ok (.isub, 1) := by decide +kernel
theorem dX5_act_234 : decode cX5_act 234 = .ok (.iaload, 1) := by decide +kernel
theorem dX5_act_235 : decode cX5_act 235 = .ok (.aload_n 0, 1) := by decide +kernel
theorem dX5_act_236 : decode cX5_act 236 = .ok (.invokevirtual 112, 3) := by decide +kernel
theorem dX5_act_239 : decode cX5_act 239 = .ok (.invokevirtual 108, 3) := by decide +kernel
theorem dX5_act_242 : decode cX5_act 242 = .ok (.goto 17, 3) := by decide +kernel
theorem dX5_act_245 : decode cX5_act 245 = .ok (.aload_n 0, 1) := by decide +kernel
theorem dX5_act_246 : decode cX5_act 246 = .ok (.iload_n 1, 1) := by decide +kernel
theorem dX5_act_247 : decode cX5_act 247 = .ok (.iload 5, 2) := by decide +kernel
theorem dX5_act_249 : decode cX5_act 249 = .ok (.aload_n 0, 1) := by decide +kernel
theorem dX5_act_250 : decode cX5_act 250 = .ok (.getfield 71, 3) := by decide +kernel
theorem dX5_act_253 : decode cX5_act 253 = .ok (.iload 4, 2) := by decide +kernel
theorem dX5_act_255 : decode cX5_act 255 = .ok (.iaload, 1) := by decide +kernel
theorem dX5_act_256 : decode cX5_act 256 = .ok (.invokevirtual 116, 3) := by decide +kernel
theorem dX5_act_259 : decode cX5_act 259 = .ok (.goto (-225), 3) := by decide +kernel
theorem dX5_act_262 : decode cX5_act 262 = .ok (.aload_n 0, 1) := by decide +kernel
theorem dX5_act_263 : decode cX5_act 263 = .ok (.invokevirtual 112, 3) := by decide +kernel
theorem dX5_act_266 : decode cX5_act 266 = .ok (.ireturn, 1) := by decide +kernel
theorem dX5_step_0 : decode cX5_step 0 = .ok (.iload_n 2, 1) := by decide +kernel
theorem dX5_step_1 : decode cX5_step 1 = .ok (.sipush 1000, 3) := by decide +kernel
theorem dX5_step_4 : decode cX5_step 4 = .ok (.if_icmp .ge 9, 3) := by decide +kernel
theorem dX5_step_7 : decode cX5_step 7 = .ok (.aload_n 0, 1) := by decide +kernel
theorem dX5_step_8 : decode cX5_step 8 = .ok (.iload_n 2, 1) := by decide +kernel
theorem dX5_step_9 : decode cX5_step 9 = .ok (.invokevirtual 119, 3) := by decide +kernel
theorem dX5_step_12 : decode cX5_step 12 = .ok (.return_, 1) := by decide +kernel
theorem dX5_step_13 : decode cX5_step 13 = .ok (.iload_n 2, 1) := by decide +kernel
theorem dX5_step_14 : decode cX5_step 14 = .ok (.tableswitch 104 1000 1009 #[54, 60, 71, 104, 104, 104, 104, 104, 82, 93], 54) := by decide +kernel
theorem dX5_step_68 : decode cX5_step 68 = .ok (.aload_n 0, 1) := by decide +kernel
theorem dX5_step_69 : decode cX5_step 69 = .ok (.iload_n 3, 1) := by decide +kernel
theorem dX5_step_70 : decode cX5_step 70 = .ok (.invokevirtual 119, 3) := by decide +kernel
theorem dX5_step_73 : decode cX5_step 73 = .ok (.return_, 1) := by decide +kernel
theorem dX5_step_74 : decode cX5_step 74 = .ok (.aload_n 0, 1) := by decide +kernel
theorem dX5_step_75 : decode cX5_step 75 = .ok (.aload_n 0, 1) := by decide +kernel
theorem dX5_step_76 : decode cX5_step 76 = .ok (.getfield 37, 3) := by decide +kernel
theorem dX5_step_79 : decode cX5_step 79 = .ok (.iload_n 1, 1) := by decide +kernel
theorem dX5_step_80 : decode cX5_step 80 = .ok (.iaload, 1) := by decide +kernel
theorem dX5_step_81 : decode cX5_step 81 = .ok (.invokevirtual 119, 3) := by decide +kernel
theorem dX5_step_84 : decode cX5_step 84 = .ok (.return_, 1) := by decide +kernel
theorem dX5_step_85 : decode cX5_step 85 = .ok (.aload_n 0, 1) := by decide +kernel
theorem dX5_step_86 : decode cX5_step 86 = .ok (.aload_n 0, 1) := by decide +kernel
theorem dX5_step_87 : decode cX5_step 87 = .ok (.getfield 40, 3) := by decide +kernel
theorem dX5_step_90 : decode cX5_step 90 = .ok (.iload_n 1, 1) := by decide +kernel
theorem dX5_step_91 : decode cX5_step 91 = .ok (.iaload, 1) := by decide +kernel
theorem dX5_step_92 : decode cX5_step 92 = .ok (.invokevirtual 119, 3) := by decide +kernel
theorem dX5_step_95 : decode cX5_step 95 = .ok (.return_, 1) := by decide +kernel
theorem dX5_step_96 : decode cX5_step 96 = .ok (.aload_n 0, 1) := by decide +kernel
theorem dX5_step_97 : decode cX5_step 97 = .ok (.getfield 37, 3) := by decide +kernel
theorem dX5_step_100 : decode cX5_step 100 = .ok (.iload_n 1, 1) := by decide +kernel
theorem dX5_step_101 : decode cX5_step 101 = .ok (.aload_n 0, 1) := by decide +kernel
theorem dX5_step_102 : decode cX5_step 102 = .ok (.invokevirtual 112, 3) := by decide +kernel
theorem dX5_step_105 : decode cX5_step 105 = .ok (.iastore, 1) := by decide +kernel
theorem dX5_step_106 : decode cX5_step 106 = .ok (.return_, 1) := by decide +kernel
theorem dX5_step_107 : decode cX5_step 107 = .ok (.aload_n 0, 1) := by decide +kernel
theorem dX5_step_108 : decode cX5_step 108 = .ok (.getfield 40, 3) := by decide +kernel
theorem dX5_step_111 : decode cX5_step 111 = .ok (.iload_n 1, 1) := by decide +kernel
theorem dX5_step_112 : decode cX5_step 112 = .ok (.aload_n 0, 1) := by decide +kernel
theorem dX5_step_113 : decode cX5_step 113 = .ok (.invokevirtual 112, 3) := by decide +kernel
theorem dX5_step_116 : decode cX5_step 116 = .ok (.iastore, 1) := by decide +kernel
theorem dX5_step_117 : decode cX5_step 117 = .ok (.return_, 1) := by decide +kernel
theorem dX5_step_118 : decode cX5_step 118 = .ok (.aload_n 0, 1) := by decide +kernel
theorem dX5_step_119 : decode cX5_step 119 = .ok (.invokevirtual 112, 3) := by decide +kernel
theorem dX5_step_122 : decode cX5_step 122 = .ok (.istore 4, 2) := by decide +kernel
theorem dX5_step_124 : decode cX5_step 124 = .ok (.aload_n 0, 1) := by decide +kernel
theorem dX5_step_125 : decode cX5_step 125 = .ok (.invokevirtual 112, 3) := by decide +kernel
theorem dX5_step_128 : decode cX5_step 128 = .ok (.istore 5, 2) := by decide +kernel
theorem dX5_step_130 : decode cX5_step 130 = .ok (.aload_n 0, 1) := by decide +kernel
theorem dX5_step_131 : decode cX5_step 131 = .ok (.iload_n 2, 1) := by decide +kernel
theorem dX5_step_132 : decode cX5_step 132 = .ok (.sipush 1003, 3) := by decide +kernel
theorem dX5_step_135 : decode cX5_step 135 = .ok (.if_icmp .ne 11, 3) := by decide +kernel
theorem dX5_step_138 : decode cX5_step 138 = .ok (.iload 5, 2) := by decide +kernel
theorem dX5_step_140 : decode cX5_step 140 = .ok (.iload 4, 2) := by decide +kernel
theorem dX5_step_142 : decode cX5_step 142 = .ok (.iadd, 1) := by decide +kernel
theorem dX5_step_143 : decode cX5_step 143 = .ok (.goto 53, 3) := by decide +kernel
theorem dX5_step_146 : decode cX5_step 146 = .ok (.iload_n 2, 1) := by decide +kernel
theorem dX5_step_147 : decode cX5_step 147 = .ok (.sipush 1004, 3) := by decide +kernel
theorem dX5_step_150 : decode cX5_step 150 = .ok (.if_icmp .ne 11, 3) := by decide +kernel
theorem dX5_step_153 : decode cX5_step 153 = .ok (.iload 5, 2) := by decide +kernel
theorem dX5_step_155 : decode cX5_step 155 = .ok (.iload 4, 2) := by decide +kernel
theorem dX5_step_157 : decode cX5_step 157 = .ok (.isub, 1) := by decide +kernel
theorem dX5_step_158 : decode cX5_step 158 = .ok (.goto 38, 3) := by decide +kernel
theorem dX5_step_161 : decode cX5_step 161 = .ok (.iload_n 2, 1) := by decide +kernel
theorem dX5_step_162 : decode cX5_step 162 = .ok (.sipush 1005, 3) := by decide +kernel
theorem dX5_step_165 : decode cX5_step 165 = .ok (.if_icmp .ne 11, 3) := by decide +kernel
theorem dX5_step_168 : decode cX5_step 168 = .ok (.iload 5, 2) := by decide +kernel
theorem dX5_step_170 : decode cX5_step 170 = .ok (.iload 4, 2) := by decide +kernel
theorem dX5_step_172 : decode cX5_step 172 = .ok (.imul, 1) := by decide +kernel
theorem dX5_step_173 : decode cX5_step 173 = .ok (.goto 23, 3) := by decide +kernel
theorem dX5_step_176 : decode cX5_step 176 = .ok (.iload_n 2, 1) := by decide +kernel
theorem dX5_step_177 : decode cX5_step 177 = .ok (.sipush 1006, 3) := by decide +kernel
theorem dX5_step_180 : decode cX5_step 180 = .ok (.if_icmp .ne 11, 3) := by decide +kernel
theorem dX5_step_183 : decode cX5_step 183 = .ok (.iload 5, 2) := by decide +kernel
theorem dX5_step_185 : decode cX5_step 185 = .ok (.iload 4, 2) := by decide +kernel
theorem dX5_step_187 : decode cX5_step 187 = .ok (.ixor, 1) := by decide +kernel
theorem dX5_step_188 : decode cX5_step 188 = .ok (.goto 8, 3) := by decide +kernel
theorem dX5_step_191 : decode cX5_step 191 = .ok (.iload 5, 2) := by decide +kernel
theorem dX5_step_193 : decode cX5_step 193 = .ok (.iload 4, 2) := by decide +kernel
theorem dX5_step_195 : decode cX5_step 195 = .ok (.iand, 1) := by decide +kernel
theorem dX5_step_196 : decode cX5_step 196 = .ok (.invokevirtual 119, 3) := by decide +kernel
theorem dX5_step_199 : decode cX5_step 199 = .ok (.return_, 1) := by decide +kernel
theorem dX5_isDevice_0 : decode cX5_isDevice 0 = .ok (.iload_n 1, 1) := by decide +kernel
theorem dX5_isDevice_1 : decode cX5_isDevice 1 = .ok (.ifCond .lt 15, 3) := by decide +kernel
theorem dX5_isDevice_4 : decode cX5_isDevice 4 = .ok (.iload_n 1, 1) := by decide +kernel
theorem dX5_isDevice_5 : decode cX5_isDevice 5 = .ok (.aload_n 0, 1) := by decide +kernel
theorem dX5_isDevice_6 : decode cX5_isDevice 6 = .ok (.getfield 123, 3) := by decide +kernel
theorem dX5_isDevice_9 : decode cX5_isDevice 9 = .ok (.if_icmp .ge 7, 3) := by decide +kernel
theorem dX5_isDevice_12 : decode cX5_isDevice 12 = .ok (.iconst 1, 1) := by decide +kernel
theorem dX5_isDevice_13 : decode cX5_isDevice 13 = .ok (.goto 4, 3) := by decide +kernel
theorem dX5_isDevice_16 : decode cX5_isDevice 16 = .ok (.iconst 0, 1) := by decide +kernel
theorem dX5_isDevice_17 : decode cX5_isDevice 17 = .ok (.ireturn, 1) := by decide +kernel
theorem dX5_isAct_0 : decode cX5_isAct 0 = .ok (.iload_n 0, 1) := by decide +kernel
theorem dX5_isAct_1 : decode cX5_isAct 1 = .ok (.ifCond .lt 13, 3) := by decide +kernel
theorem dX5_isAct_4 : decode cX5_isAct 4 = .ok (.iload_n 0, 1) := by decide +kernel
theorem dX5_isAct_5 : decode cX5_isAct 5 = .ok (.bipush 12, 2) := by decide +kernel
theorem dX5_isAct_7 : decode cX5_isAct 7 = .ok (.if_icmp .ge 7, 3) := by decide +kernel
theorem dX5_isAct_10 : decode cX5_isAct 10 = .ok (.iconst 1, 1) := by decide +kernel
theorem dX5_isAct_11 : decode cX5_isAct 11 = .ok (.goto 4, 3) := by decide +kernel
theorem dX5_isAct_14 : decode cX5_isAct 14 = .ok (.iconst 0, 1) := by decide +kernel
theorem dX5_isAct_15 : decode cX5_isAct 15 = .ok (.ireturn, 1) := by decide +kernel
theorem dX5_isWay_0 : decode cX5_isWay 0 = .ok (.iload_n 0, 1) := by decide +kernel
theorem dX5_isWay_1 : decode cX5_isWay 1 = .ok (.ifCond .lt 13, 3) := by decide +kernel
theorem dX5_isWay_4 : decode cX5_isWay 4 = .ok (.iload_n 0, 1) := by decide +kernel
theorem dX5_isWay_5 : decode cX5_isWay 5 = .ok (.bipush 7, 2) := by decide +kernel
theorem dX5_isWay_7 : decode cX5_isWay 7 = .ok (.if_icmp .ge 7, 3) := by decide +kernel
theorem dX5_isWay_10 : decode cX5_isWay 10 = .ok (.iconst 1, 1) := by decide +kernel
theorem dX5_isWay_11 : decode cX5_isWay 11 = .ok (.goto 4, 3) := by decide +kernel
theorem dX5_isWay_14 : decode cX5_isWay 14 = .ok (.iconst 0, 1) := by decide +kernel
theorem dX5_isWay_15 : decode cX5_isWay 15 = .ok (.ireturn, 1) := by decide +kernel
theorem dX5_isAble_0 : decode cX5_isAble 0 = .ok (.iload_n 2, 1) := by decide +kernel
theorem dX5_isAble_1 : decode cX5_isAble 1 = .ok (.iconst 1, 1) := by decide +kernel
theorem dX5_isAble_2 : decode cX5_isAble 2 = .ok (.if_icmp .le 27, 3) := by decide +kernel
theorem dX5_isAble_5 : decode cX5_isAble 5 = .ok (.aload_n 0, 1) := by decide +kernel
theorem dX5_isAble_6 : decode cX5_isAble 6 = .ok (.getfield 19, 3) := by decide +kernel
theorem dX5_isAble_9 : decode cX5_isAble 9 = .ok (.bipush 10, 2) := by decide +kernel
theorem dX5_isAble_11 : decode cX5_isAble 11 = .ok (.aload_n 0, 1) := by decide +kernel
theorem dX5_isAble_12 : decode cX5_isAble 12 = .ok (.getfield 34, 3) := by decide +kernel
theorem dX5_isAble_15 : decode cX5_isAble 15 = .ok (.iload_n 1, 1) := by decide +kernel
theorem dX5_isAble_16 : decode cX5_isAble 16 = .ok (.iaload, 1) := by decide +kernel
theorem dX5_isAble_17 : decode cX5_isAble 17 = .ok (.iadd, 1) := by decide +kernel
theorem dX5_isAble_18 : decode cX5_isAble 18 = .ok (.iaload, 1) := by decide +kernel
theorem dX5_isAble_19 : decode cX5_isAble 19 = .ok (.iload_n 2, 1) := by decide +kernel
theorem dX5_isAble_20 : decode cX5_isAble 20 = .ok (.iconst 1, 1) := by decide +kernel
theorem dX5_isAble_21 : decode cX5_isAble 21 = .ok (.isub, 1) := by decide +kernel
theorem dX5_isAble_22 : decode cX5_isAble 22 = .ok (.invokestatic 84, 3) := by decide +kernel
theorem dX5_isAble_25 : decode cX5_isAble 25 = .ok (.iand, 1) := by decide +kernel
theorem dX5_isAble_26 : decode cX5_isAble 26 = .ok (.ifCond .eq 7, 3) := by decide +kernel
theorem dX5_isAble_29 : decode cX5_isAble 29 = .ok (.iconst 1, 1) := by decide +kernel
theorem dX5_isAble_30 : decode cX5_isAble 30 = .ok (.goto 4, 3) := by decide +kernel
theorem dX5_isAble_33 : decode cX5_isAble 33 = .ok (.iconst 0, 1) := by decide +kernel
theorem dX5_isAble_34 : decode cX5_isAble 34 = .ok (.ireturn, 1) := by decide +kernel
theorem dX5_isOf_0 : decode cX5_isOf 0 = .ok (.iload_n 2, 1) := by decide +kernel
theorem dX5_isOf_1 : decode cX5_isOf 1 = .ok (.ifCond .ne 17, 3) := by decide +kernel
theorem dX5_isOf_4 : decode cX5_isOf 4 = .ok (.aload_n 0, 1) := by decide +kernel
theorem dX5_isOf_5 : decode cX5_isOf 5 = .ok (.getfield 31, 3) := by decide +kernel
theorem dX5_isOf_8 : decode cX5_isOf 8 = .ok (.aload_n 0, 1) := by decide +kernel
theorem dX5_isOf_9 : decode cX5_isOf 9 = .ok (.getfield 34, 3) := by decide +kernel
theorem dX5_isOf_12 : decode cX5_isOf 12 = .ok (.iload_n 3, 1) := by decide +kernel
theorem dX5_isOf_13 : decode cX5_isOf 13 = .ok (.iaload, 1) := by decide +kernel
theorem dX5_isOf_14 : decode cX5_isOf 14 = .ok (.iaload, 1) := by decide +kernel
theorem dX5_isOf_15 : decode cX5_isOf 15 = .ok (.goto 9, 3) := by decide +kernel
theorem dX5_isOf_18 : decode cX5_isOf 18 = .ok (.aload_n 0, 1) := by decide +kernel
theorem dX5_isOf_19 : decode cX5_isOf 19 = .ok (.getfield 28, 3) := by decide +kernel
theorem dX5_isOf_22 : decode cX5_isOf 22 = .ok (.iload_n 2, 1) := by decide +kernel
theorem dX5_isOf_23 : decode cX5_isOf 23 = .ok (.iaload, 1) := by decide +kernel
theorem dX5_isOf_24 : decode cX5_isOf 24 = .ok (.iload_n 1, 1) := by decide +kernel
theorem dX5_isOf_25 : decode cX5_isOf 25 = .ok (.invokestatic 84, 3) := by decide +kernel
theorem dX5_isOf_28 : decode cX5_isOf 28 = .ok (.iand, 1) := by decide +kernel
theorem dX5_isOf_29 : decode cX5_isOf 29 = .ok (.ifCond .eq 7, 3) := by decide +kernel
theorem dX5_isOf_32 : decode cX5_isOf 32 = .ok (.iconst 1, 1) := by decide +kernel
theorem dX5_isOf_33 : decode cX5_isOf 33 = .ok (.goto 4, 3) := by decide +kernel
theorem dX5_isOf_36 : decode cX5_isOf 36 = .ok (.iconst 0, 1) := by decide +kernel
theorem dX5_isOf_37 : decode cX5_isOf 37 = .ok (.ireturn, 1) := by decide +kernel
theorem dX5_refused_0 : decode cX5_refused 0 = .ok (.aload_n 0, 1) := by decide +kernel
theorem dX5_refused_1 : decode cX5_refused 1 = .ok (.iload_n 1, 1) := by decide +kernel
theorem dX5_refused_2 : decode cX5_refused 2 = .ok (.putfield 126, 3) := by decide +kernel
theorem dX5_refused_5 : decode cX5_refused 5 = .ok (.iconst 0, 1) := by decide +kernel
theorem dX5_refused_6 : decode cX5_refused 6 = .ok (.ireturn, 1) := by decide +kernel
theorem dX5_why_0 : decode cX5_why 0 = .ok (.aload_n 0, 1) := by decide +kernel
theorem dX5_why_1 : decode cX5_why 1 = .ok (.iload_n 1, 1) := by decide +kernel
theorem dX5_why_2 : decode cX5_why 2 = .ok (.invokevirtual 129, 3) := by decide +kernel
theorem dX5_why_5 : decode cX5_why 5 = .ok (.ifCond .eq 17, 3) := by decide +kernel
theorem dX5_why_8 : decode cX5_why 8 = .ok (.iload_n 2, 1) := by decide +kernel
theorem dX5_why_9 : decode cX5_why 9 = .ok (.invokestatic 133, 3) := by decide +kernel
theorem dX5_why_12 : decode cX5_why 12 = .ok (.ifCond .eq 10, 3) := by decide +kernel
theorem dX5_why_15 : decode cX5_why 15 = .ok (.iload_n 3, 1) := by decide +kernel
theorem dX5_why_16 : decode cX5_why 16 = .ok (.invokestatic 136, 3) := by decide +kernel
theorem dX5_why_19 : decode cX5_why 19 = .ok (.ifCond .ne 5, 3) := by decide +kernel
theorem dX5_why_22 : decode cX5_why 22 = .ok (.iconst 1, 1) := by decide +kernel
theorem dX5_why_23 : decode cX5_why 23 = .ok (.ireturn, 1) := by decide +kernel
theorem dX5_why_24 : decode cX5_why 24 = .ok (.aload_n 0, 1) := by decide +kernel
theorem dX5_why_25 : decode cX5_why 25 = .ok (.iload_n 1, 1) := by decide +kernel
theorem dX5_why_26 : decode cX5_why 26 = .ok (.iload_n 3, 1) := by decide +kernel
theorem dX5_why_27 : decode cX5_why 27 = .ok (.invokevirtual 139, 3) := by decide +kernel
theorem dX5_why_30 : decode cX5_why 30 = .ok (.ifCond .ne 5, 3) := by decide +kernel
theorem dX5_why_33 : decode cX5_why 33 = .ok (.iconst 2, 1) := by decide +kernel
theorem dX5_why_34 : decode cX5_why 34 = .ok (.ireturn, 1) := by decide +kernel
theorem dX5_why_35 : decode cX5_why 35 = .ok (.aload_n 0, 1) := by decide +kernel
theorem dX5_why_36 : decode cX5_why 36 = .ok (.iload_n 2, 1) := by decide +kernel
theorem dX5_why_37 : decode cX5_why 37 = .ok (.iload_n 3, 1) := by decide +kernel
theorem dX5_why_38 : decode cX5_why 38 = .ok (.iload_n 1, 1) := by decide +kernel
theorem dX5_why_39 : decode cX5_why 39 = .ok (.invokevirtual 143, 3) := by decide +kernel
theorem dX5_why_42 : decode cX5_why 42 = .ok (.ifCond .eq 7, 3) := by decide +kernel
theorem dX5_why_45 : decode cX5_why 45 = .ok (.iconst 0, 1) := by decide +kernel
theorem dX5_why_46 : decode cX5_why 46 = .ok (.goto 4, 3) := by decide +kernel
theorem dX5_why_49 : decode cX5_why 49 = .ok (.iconst 3, 1) := by decide +kernel
theorem dX5_why_50 : decode cX5_why 50 = .ok (.ireturn, 1) := by decide +kernel
theorem dX5_begin_0 : decode cX5_begin 0 = .ok (.aload_n 0, 1) := by decide +kernel
theorem dX5_begin_1 : decode cX5_begin 1 = .ok (.iconst 0, 1) := by decide +kernel
theorem dX5_begin_2 : decode cX5_begin 2 = .ok (.putfield 126, 3) := by decide +kernel
theorem dX5_begin_5 : decode cX5_begin 5 = .ok (.aload_n 0, 1) := by decide +kernel
theorem dX5_begin_6 : decode cX5_begin 6 = .ok (.iconst 0, 1) := by decide +kernel
theorem dX5_begin_7 : decode cX5_begin 7 = .ok (.putfield 102, 3) := by decide +kernel
theorem dX5_begin_10 : decode cX5_begin 10 = .ok (.return_, 1) := by decide +kernel
theorem dX5_device_0 : decode cX5_device 0 = .ok (.aload_n 0, 1) := by decide +kernel
theorem dX5_device_1 : decode cX5_device 1 = .ok (.iload_n 1, 1) := by decide +kernel
theorem dX5_device_2 : decode cX5_device 2 = .ok (.ifCond .lt 9, 3) := by decide +kernel
theorem dX5_device_5 : decode cX5_device 5 = .ok (.iload_n 1, 1) := by decide +kernel
theorem dX5_device_6 : decode cX5_device 6 = .ok (.bipush 11, 2) := by decide +kernel
theorem dX5_device_8 : decode cX5_device 8 = .ok (.if_icmp .lt 7, 3) := by decide +kernel
theorem dX5_device_11 : decode cX5_device 11 = .ok (.iconst 1, 1) := by decide +kernel
theorem dX5_device_12 : decode cX5_device 12 = .ok (.goto 18, 3) := by decide +kernel
theorem dX5_device_15 : decode cX5_device 15 = .ok (.aload_n 0, 1) := by decide +kernel
theorem dX5_device_16 : decode cX5_device 16 = .ok (.getfield 123, 3) := by decide +kernel
theorem dX5_device_19 : decode cX5_device 19 = .ok (.sipush 300, 3) := by decide +kernel
theorem dX5_device_22 : decode cX5_device 22 = .ok (.if_icmp .ne 7, 3) := by decide +kernel
theorem dX5_device_25 : decode cX5_device 25 = .ok (.iconst 5, 1) := by decide +kernel
theorem dX5_device_26 : decode cX5_device 26 = .ok (.goto 4, 3) := by decide +kernel
theorem dX5_device_29 : decode cX5_device 29 = .ok (.iconst 0, 1) := by decide +kernel
theorem dX5_device_30 : decode cX5_device 30 = .ok (.putfield 126, 3) := by decide +kernel
theorem dX5_device_33 : decode cX5_device 33 = .ok (.aload_n 0, 1) := by decide +kernel
theorem dX5_device_34 : decode cX5_device 34 = .ok (.getfield 126, 3) := by decide +kernel
theorem dX5_device_37 : decode cX5_device 37 = .ok (.ifCond .eq 5, 3) := by decide +kernel
theorem dX5_device_40 : decode cX5_device 40 = .ok (.iconst (-1), 1) := by decide +kernel
theorem dX5_device_41 : decode cX5_device 41 = .ok (.ireturn, 1) := by decide +kernel
theorem dX5_device_42 : decode cX5_device 42 = .ok (.aload_n 0, 1) := by decide +kernel
theorem dX5_device_43 : decode cX5_device 43 = .ok (.getfield 34, 3) := by decide +kernel
theorem dX5_device_46 : decode cX5_device 46 = .ok (.aload_n 0, 1) := by decide +kernel
theorem dX5_device_47 : decode cX5_device 47 = .ok (.getfield 123, 3) := by decide +kernel
theorem dX5_device_50 : decode cX5_device 50 = .ok (.iload_n 1, 1) := by decide +kernel
theorem dX5_device_51 : decode cX5_device 51 = .ok (.iastore, 1) := by decide +kernel
theorem dX5_device_52 : decode cX5_device 52 = .ok (.aload_n 0, 1) := by decide +kernel
theorem dX5_device_53 : decode cX5_device 53 = .ok (.getfield 37, 3) := by decide +kernel
theorem dX5_device_56 : decode cX5_device 56 = .ok (.aload_n 0, 1) := by decide +kernel
theorem dX5_device_57 : decode cX5_device 57 = .ok (.getfield 123, 3) := by decide +kernel
theorem dX5_device_60 : decode cX5_device 60 = .ok (.iload_n 2, 1) := by decide +kernel
theorem dX5_device_61 : decode cX5_device 61 = .ok (.iastore, 1) := by decide +kernel
theorem dX5_device_62 : decode cX5_device 62 = .ok (.aload_n 0, 1) := by decide +kernel
theorem dX5_device_63 : decode cX5_device 63 = .ok (.dup, 1) := by decide +kernel
theorem dX5_device_64 : decode cX5_device 64 = .ok (.getfield 123, 3) := by decide +kernel
theorem dX5_device_67 : decode cX5_device 67 = .ok (.iconst 1, 1) := by decide +kernel
theorem dX5_device_68 : decode cX5_device 68 = .ok (.iadd, 1) := by decide +kernel
theorem dX5_device_69 : decode cX5_device 69 = .ok (.putfield 123, 3) := by decide +kernel
theorem dX5_device_72 : decode cX5_device 72 = .ok (.aload_n 0, 1) := by decide +kernel
theorem dX5_device_73 : decode cX5_device 73 = .ok (.getfield 123, 3) := by decide +kernel
theorem dX5_device_76 : decode cX5_device 76 = .ok (.iconst 1, 1) := by decide +kernel
theorem dX5_device_77 : decode cX5_device 77 = .ok (.isub, 1) := by decide +kernel
theorem dX5_device_78 : decode cX5_device 78 = .ok (.ireturn, 1) := by decide +kernel
theorem dX5_call_0 : decode cX5_call 0 = .ok (.aload_n 0, 1) := by decide +kernel
theorem dX5_call_1 : decode cX5_call 1 = .ok (.iload_n 1, 1) := by decide +kernel
theorem dX5_call_2 : decode cX5_call 2 = .ok (.iload_n 2, 1) := by decide +kernel
theorem dX5_call_3 : decode cX5_call 3 = .ok (.iload_n 3, 1) := by decide +kernel
theorem dX5_call_4 : decode cX5_call 4 = .ok (.invokevirtual 147, 3) := by decide +kernel
theorem dX5_call_7 : decode cX5_call 7 = .ok (.istore 5, 2) := by decide +kernel
theorem dX5_call_9 : decode cX5_call 9 = .ok (.iload 5, 2) := by decide +kernel
theorem dX5_call_11 : decode cX5_call 11 = .ok (.ifCond .eq 10, 3) := by decide +kernel
theorem dX5_call_14 : decode cX5_call 14 = .ok (.aload_n 0, 1) := by decide +kernel
theorem dX5_call_15 : decode cX5_call 15 = .ok (.iload 5, 2) := by decide +kernel
theorem dX5_call_17 : decode cX5_call 17 = .ok (.invokevirtual 151, 3) := by decide +kernel
theorem dX5_call_20 : decode cX5_call 20 = .ok (.ireturn, 1) := by decide +kernel
theorem dX5_call_21 : decode cX5_call 21 = .ok (.aload_n 0, 1) := by decide +kernel
theorem dX5_call_22 : decode cX5_call 22 = .ok (.invokevirtual 154, 3) := by decide +kernel
theorem dX5_call_25 : decode cX5_call 25 = .ok (.aload_n 0, 1) := by decide +kernel
theorem dX5_call_26 : decode cX5_call 26 = .ok (.iload_n 1, 1) := by decide +kernel
theorem dX5_call_27 : decode cX5_call 27 = .ok (.iload_n 2, 1) := by decide +kernel
theorem dX5_call_28 : decode cX5_call 28 = .ok (.iload 4, 2) := by decide +kernel
theorem dX5_call_30 : decode cX5_call 30 = .ok (.invokevirtual 157, 3) := by decide +kernel
theorem dX5_call_33 : decode cX5_call 33 = .ok (.ireturn, 1) := by decide +kernel
theorem dX5_every_0 : decode cX5_every 0 = .ok (.iload_n 1, 1) := by decide +kernel
theorem dX5_every_1 : decode cX5_every 1 = .ok (.invokestatic 133, 3) := by decide +kernel
theorem dX5_every_4 : decode cX5_every 4 = .ok (.ifCond .eq 10, 3) := by decide +kernel
theorem dX5_every_7 : decode cX5_every 7 = .ok (.iload_n 2, 1) := by decide +kernel
theorem dX5_every_8 : decode cX5_every 8 = .ok (.invokestatic 136, 3) := by decide +kernel
theorem dX5_every_11 : decode cX5_every 11 = .ok (.ifCond .ne 9, 3) := by decide +kernel
theorem dX5_every_14 : decode cX5_every 14 = .ok (.aload_n 0, 1) := by decide +kernel
theorem dX5_every_15 : decode cX5_every 15 = .ok (.iconst 1, 1) := by decide +kernel
theorem dX5_every_16 : decode cX5_every 16 = .ok (.invokevirtual 151, 3) := by decide +kernel
theorem dX5_every_19 : decode cX5_every 19 = .ok (.ireturn, 1) := by decide +kernel
theorem dX5_every_20 : decode cX5_every 20 = .ok (.iload_n 2, 1) := by decide +kernel
theorem dX5_every_21 : decode cX5_every 21 = .ok (.ifCond .eq 23, 3) := by decide +kernel
theorem dX5_every_24 : decode cX5_every 24 = .ok (.aload_n 0, 1) := by decide +kernel
theorem dX5_every_25 : decode cX5_every 25 = .ok (.getfield 28, 3) := by decide +kernel
theorem dX5_every_28 : decode cX5_every 28 = .ok (.iload_n 2, 1) := by decide +kernel
theorem dX5_every_29 : decode cX5_every 29 = .ok (.iaload, 1) := by decide +kernel
theorem dX5_every_30 : decode cX5_every 30 = .ok (.iload_n 1, 1) := by decide +kernel
theorem dX5_every_31 : decode cX5_every 31 = .ok (.invokestatic 84, 3) := by decide +kernel
theorem dX5_every_34 : decode cX5_every 34 = .ok (.iand, 1) := by decide +kernel
theorem dX5_every_35 : decode cX5_every 35 = .ok (.ifCond .ne 9, 3) := by decide +kernel
theorem dX5_every_38 : decode cX5_every 38 = .ok (.aload_n 0, 1) := by decide +kernel
theorem dX5_every_39 : decode cX5_every 39 = .ok (.iconst 3, 1) := by decide +kernel
theorem dX5_every_40 : decode cX5_every 40 = .ok (.invokevirtual 151, 3) := by decide +kernel
theorem dX5_every_43 : decode cX5_every 43 = .ok (.ireturn, 1) := by decide +kernel
theorem dX5_every_44 : decode cX5_every 44 = .ok (.aload_n 0, 1) := by decide +kernel
theorem dX5_every_45 : decode cX5_every 45 = .ok (.invokevirtual 154, 3) := by decide +kernel
theorem dX5_every_48 : decode cX5_every 48 = .ok (.iconst 0, 1) := by decide +kernel
theorem dX5_every_49 : decode cX5_every 49 = .ok (.istore 4, 2) := by decide +kernel
theorem dX5_every_51 : decode cX5_every 51 = .ok (.iconst 0, 1) := by decide +kernel
theorem dX5_every_52 : decode cX5_every 52 = .ok (.istore 5, 2) := by decide +kernel
theorem dX5_every_54 : decode cX5_every 54 = .ok (.iload 5, 2) := by decide +kernel
theorem dX5_every_56 : decode cX5_every 56 = .ok (.aload_n 0, 1) := by decide +kernel
theorem dX5_every_57 : decode cX5_every 57 = .ok (.getfield 123, 3) := by decide +kernel
theorem dX5_every_60 : decode cX5_every 60 = .ok (.if_icmp .ge 43, 3) := by decide +kernel
theorem dX5_every_63 : decode cX5_every 63 = .ok (.aload_n 0, 1) := by decide +kernel
theorem dX5_every_64 : decode cX5_every 64 = .ok (.iload 5, 2) := by decide +kernel
theorem dX5_every_66 : decode cX5_every 66 = .ok (.iload_n 2, 1) := by decide +kernel
theorem dX5_every_67 : decode cX5_every 67 = .ok (.invokevirtual 139, 3) := by decide +kernel
theorem dX5_every_70 : decode cX5_every 70 = .ok (.ifCond .eq 27, 3) := by decide +kernel
theorem dX5_every_73 : decode cX5_every 73 = .ok (.aload_n 0, 1) := by decide +kernel
theorem dX5_every_74 : decode cX5_every 74 = .ok (.iload_n 1, 1) := by decide +kernel
theorem dX5_every_75 : decode cX5_every 75 = .ok (.iload_n 2, 1) := by decide +kernel
theorem dX5_every_76 : decode cX5_every 76 = .ok (.iload 5, 2) := by decide +kernel
theorem dX5_every_78 : decode cX5_every 78 = .ok (.invokevirtual 143, 3) := by decide +kernel
theorem dX5_every_81 : decode cX5_every 81 = .ok (.ifCond .eq 16, 3) := by decide +kernel
theorem dX5_every_84 : decode cX5_every 84 = .ok (.iload 4, 2) := by decide +kernel
theorem dX5_every_86 : decode cX5_every 86 = .ok (.aload_n 0, 1) := by decide +kernel
theorem dX5_every_87 : decode cX5_every 87 = .ok (.iload 5, 2) := by decide +kernel
theorem dX5_every_89 : decode cX5_every 89 = .ok (.iload_n 1, 1) := by decide +kernel
theorem dX5_every_90 : decode cX5_every 90 = .ok (.iload_n 3, 1) := by decide +kernel
theorem dX5_every_91 : decode cX5_every 91 = .ok (.invokevirtual 157, 3) := by decide +kernel
theorem dX5_every_94 : decode cX5_every 94 = .ok (.iadd, 1) := by decide +kernel
theorem dX5_every_95 : decode cX5_every 95 = .ok (.istore 4, 2) := by decide +kernel
theorem dX5_every_97 : decode cX5_every 97 = .ok (.iinc 5 1, 3) := by decide +kernel
theorem dX5_every_100 : decode cX5_every 100 = .ok (.goto (-46), 3) := by decide +kernel
theorem dX5_every_103 : decode cX5_every 103 = .ok (.iload 4, 2) := by decide +kernel
theorem dX5_every_105 : decode cX5_every 105 = .ok (.ireturn, 1) := by decide +kernel
theorem dX5_feed_0 : decode cX5_feed 0 = .ok (.aload_n 0, 1) := by decide +kernel
theorem dX5_feed_1 : decode cX5_feed 1 = .ok (.iload_n 1, 1) := by decide +kernel
theorem dX5_feed_2 : decode cX5_feed 2 = .ok (.invokevirtual 129, 3) := by decide +kernel
theorem dX5_feed_5 : decode cX5_feed 5 = .ok (.ifCond .ne 9, 3) := by decide +kernel
theorem dX5_feed_8 : decode cX5_feed 8 = .ok (.aload_n 0, 1) := by decide +kernel
theorem dX5_feed_9 : decode cX5_feed 9 = .ok (.iconst 1, 1) := by decide +kernel
theorem dX5_feed_10 : decode cX5_feed 10 = .ok (.invokevirtual 151, 3) := by decide +kernel
theorem dX5_feed_13 : decode cX5_feed 13 = .ok (.ireturn, 1) := by decide +kernel
theorem dX5_feed_14 : decode cX5_feed 14 = .ok (.aload_n 0, 1) := by decide +kernel
theorem dX5_feed_15 : decode cX5_feed 15 = .ok (.invokevirtual 154, 3) := by decide +kernel
theorem dX5_feed_18 : decode cX5_feed 18 = .ok (.iconst 0, 1) := by decide +kernel
theorem dX5_feed_19 : decode cX5_feed 19 = .ok (.istore_n 3, 1) := by decide +kernel
theorem dX5_feed_20 : decode cX5_feed 20 = .ok (.bipush 24, 2) := by decide +kernel
theorem dX5_feed_22 : decode cX5_feed 22 = .ok (.istore 4, 2) := by decide +kernel
theorem dX5_feed_24 : decode cX5_feed 24 = .ok (.iload 4, 2) := by decide +kernel
theorem dX5_feed_26 : decode cX5_feed 26 = .ok (.ifCond .lt 65, 3) := by decide +kernel
theorem dX5_feed_29 : decode cX5_feed 29 = .ok (.iload_n 2, 1) := by decide +kernel
theorem dX5_feed_30 : decode cX5_feed 30 = .ok (.iload 4, 2) := by decide +kernel
theorem dX5_feed_32 : decode cX5_feed 32 = .ok (.ishr, 1) := by decide +kernel
theorem dX5_feed_33 : decode cX5_feed 33 = .ok (.sipush 255, 3) := by decide +kernel
theorem dX5_feed_36 : decode cX5_feed 36 = .ok (.iand, 1) := by decide +kernel
theorem dX5_feed_37 : decode cX5_feed 37 = .ok (.istore 5, 2) := by decide +kernel
theorem dX5_feed_39 : decode cX5_feed 39 = .ok (.aload_n 0, 1) := by decide +kernel
theorem dX5_feed_40 : decode cX5_feed 40 = .ok (.iload_n 1, 1) := by decide +kernel
theorem dX5_feed_41 : decode cX5_feed 41 = .ok (.iload 5, 2) := by decide +kernel
theorem dX5_feed_43 : decode cX5_feed 43 = .ok (.bipush 15, 2) := by decide +kernel
theorem dX5_feed_45 : decode cX5_feed 45 = .ok (.iand, 1) := by decide +kernel
theorem dX5_feed_46 : decode cX5_feed 46 = .ok (.iload 5, 2) := by decide +kernel
theorem dX5_feed_48 : decode cX5_feed 48 = .ok (.iconst 4, 1) := by decide +kernel
theorem dX5_feed_49 : decode cX5_feed 49 = .ok (.ishr, 1) := by decide +kernel
theorem dX5_feed_50 : decode cX5_feed 50 = .ok (.bipush 7, 2) := by decide +kernel
theorem dX5_feed_52 : decode cX5_feed 52 = .ok (.iand, 1) := by decide +kernel
theorem dX5_feed_53 : decode cX5_feed 53 = .ok (.invokevirtual 147, 3) := by decide +kernel
theorem dX5_feed_56 : decode cX5_feed 56 = .ok (.ifCond .ne 29, 3) := by decide +kernel
theorem dX5_feed_59 : decode cX5_feed 59 = .ok (.iload_n 3, 1) := by decide +kernel
theorem dX5_feed_60 : decode cX5_feed 60 = .ok (.aload_n 0, 1) := by decide +kernel
theorem dX5_feed_61 : decode cX5_feed 61 = .ok (.iload_n 1, 1) := by decide +kernel
theorem dX5_feed_62 : decode cX5_feed 62 = .ok (.iload 5, 2) := by decide +kernel
theorem dX5_feed_64 : decode cX5_feed 64 = .ok (.bipush 15, 2) := by decide +kernel
theorem dX5_feed_66 : decode cX5_feed 66 = .ok (.iand, 1) := by decide +kernel
theorem dX5_feed_67 : decode cX5_feed 67 = .ok (.iload 5, 2) := by decide +kernel
theorem dX5_feed_69 : decode cX5_feed 69 = .ok (.bipush 127, 2) := by decide +kernel
theorem dX5_feed_71 : decode cX5_feed 71 = .ok (.if_icmp .le 8, 3) := by decide +kernel
theorem dX5_feed_74 : decode cX5_feed 74 = .ok (.iload_n 3, 1) := by decide +kernel
theorem dX5_feed_75 : decode cX5_feed 75 = .ok (.ineg, 1) := by decide +kernel
theorem dX5_feed_76 : decode cX5_feed 76 = .ok (.goto 4, 3) := by decide +kernel
theorem dX5_feed_79 : decode cX5_feed 79 = .ok (.iload_n 3, 1) := by decide +kernel
theorem dX5_feed_80 : decode cX5_feed 80 = .ok (.invokevirtual 157, 3) := by decide +kernel
theorem dX5_feed_83 : decode cX5_feed 83 = .ok (.iadd, 1) := by decide +kernel
theorem dX5_feed_84 : decode cX5_feed 84 = .ok (.istore_n 3, 1) := by decide +kernel
theorem dX5_feed_85 : decode cX5_feed 85 = .ok (.iinc 4 (-8), 3) := by decide +kernel
theorem dX5_feed_88 : decode cX5_feed 88 = .ok (.goto (-64), 3) := by decide +kernel
theorem dX5_feed_91 : decode cX5_feed 91 = .ok (.iload_n 3, 1) := by decide +kernel
theorem dX5_feed_92 : decode cX5_feed 92 = .ok (.ireturn, 1) := by decide +kernel
theorem dX5_link_0 : decode cX5_link 0 = .ok (.aload_n 0, 1) := by decide +kernel
theorem dX5_link_1 : decode cX5_link 1 = .ok (.aload_n 0, 1) := by decide +kernel
theorem dX5_link_2 : decode cX5_link 2 = .ok (.iload_n 1, 1) := by decide +kernel
theorem dX5_link_3 : decode cX5_link 3 = .ok (.invokevirtual 129, 3) := by decide +kernel
theorem dX5_link_6 : decode cX5_link 6 = .ok (.ifCond .eq 11, 3) := by decide +kernel
theorem dX5_link_9 : decode cX5_link 9 = .ok (.aload_n 0, 1) := by decide +kernel
theorem dX5_link_10 : decode cX5_link 10 = .ok (.iload_n 2, 1) := by decide +kernel
theorem dX5_link_11 : decode cX5_link 11 = .ok (.invokevirtual 129, 3) := by decide +kernel
theorem dX5_link_14 : decode cX5_link 14 = .ok (.ifCond .ne 7, 3) := by decide +kernel
theorem dX5_link_17 : decode cX5_link 17 = .ok (.iconst 1, 1) := by decide +kernel
theorem dX5_link_18 : decode cX5_link 18 = .ok (.goto 18, 3) := by decide +kernel
theorem dX5_link_21 : decode cX5_link 21 = .ok (.aload_n 0, 1) := by decide +kernel
theorem dX5_link_22 : decode cX5_link 22 = .ok (.getfield 160, 3) := by decide +kernel
theorem dX5_link_25 : decode cX5_link 25 = .ok (.sipush 400, 3) := by decide +kernel
theorem dX5_link_28 : decode cX5_link 28 = .ok (.if_icmp .ne 7, 3) := by decide +kernel
theorem dX5_link_31 : decode cX5_link 31 = .ok (.iconst 5, 1) := by decide +kernel
theorem dX5_link_32 : decode cX5_link 32 = .ok (.goto 4, 3) := by decide +kernel
theorem dX5_link_35 : decode cX5_link 35 = .ok (.iconst 0, 1) := by decide +kernel
theorem dX5_link_36 : decode cX5_link 36 = .ok (.putfield 126, 3) := by decide +kernel
theorem dX5_link_39 : decode cX5_link 39 = .ok (.aload_n 0, 1) := by decide +kernel
theorem dX5_link_40 : decode cX5_link 40 = .ok (.getfield 126, 3) := by decide +kernel
theorem dX5_link_43 : decode cX5_link 43 = .ok (.ifCond .eq 5, 3) := by decide +kernel
theorem dX5_link_46 : decode cX5_link 46 = .ok (.iconst (-1), 1) := by decide +kernel
theorem dX5_link_47 : decode cX5_link 47 = .ok (.ireturn, 1) := by decide +kernel
theorem dX5_link_48 : decode cX5_link 48 = .ok (.aload_n 0, 1) := by decide +kernel
theorem dX5_link_49 : decode cX5_link 49 = .ok (.getfield 46, 3) := by decide +kernel
theorem dX5_link_52 : decode cX5_link 52 = .ok (.aload_n 0, 1) := by decide +kernel
theorem dX5_link_53 : decode cX5_link 53 = .ok (.getfield 160, 3) := by decide +kernel
theorem dX5_link_56 : decode cX5_link 56 = .ok (.iload_n 1, 1) := by decide +kernel
theorem dX5_link_57 : decode cX5_link 57 = .ok (.iastore, 1) := by decide +kernel
theorem dX5_link_58 : decode cX5_link 58 = .ok (.aload_n 0, 1) := by decide +kernel
theorem dX5_link_59 : decode cX5_link 59 = .ok (.getfield 49, 3) := by decide +kernel
theorem dX5_link_62 : decode cX5_link 62 = .ok (.aload_n 0, 1) := by decide +kernel
theorem dX5_link_63 : decode cX5_link 63 = .ok (.getfield 160, 3) := by decide +kernel
theorem dX5_link_66 : decode cX5_link 66 = .ok (.iload_n 2, 1) := by decide +kernel
theorem dX5_link_67 : decode cX5_link 67 = .ok (.iastore, 1) := by decide +kernel
theorem dX5_link_68 : decode cX5_link 68 = .ok (.aload_n 0, 1) := by decide +kernel
theorem dX5_link_69 : decode cX5_link 69 = .ok (.dup, 1) := by decide +kernel
theorem dX5_link_70 : decode cX5_link 70 = .ok (.getfield 160, 3) := by decide +kernel
theorem dX5_link_73 : decode cX5_link 73 = .ok (.iconst 1, 1) := by decide +kernel
theorem dX5_link_74 : decode cX5_link 74 = .ok (.iadd, 1) := by decide +kernel
theorem dX5_link_75 : decode cX5_link 75 = .ok (.putfield 160, 3) := by decide +kernel
theorem dX5_link_78 : decode cX5_link 78 = .ok (.aload_n 0, 1) := by decide +kernel
theorem dX5_link_79 : decode cX5_link 79 = .ok (.getfield 160, 3) := by decide +kernel
theorem dX5_link_82 : decode cX5_link 82 = .ok (.iconst 1, 1) := by decide +kernel
theorem dX5_link_83 : decode cX5_link 83 = .ok (.isub, 1) := by decide +kernel
theorem dX5_link_84 : decode cX5_link 84 = .ok (.ireturn, 1) := by decide +kernel
theorem dX5_takes_0 : decode cX5_takes 0 = .ok (.aload_n 0, 1) := by decide +kernel
theorem dX5_takes_1 : decode cX5_takes 1 = .ok (.getfield 43, 3) := by decide +kernel
theorem dX5_takes_4 : decode cX5_takes 4 = .ok (.iload_n 1, 1) := by decide +kernel
theorem dX5_takes_5 : decode cX5_takes 5 = .ok (.dup2, 1) := by decide +kernel
theorem dX5_takes_6 : decode cX5_takes 6 = .ok (.iaload, 1) := by decide +kernel
theorem dX5_takes_7 : decode cX5_takes 7 = .ok (.iconst 1, 1) := by decide +kernel
theorem dX5_takes_8 : decode cX5_takes 8 = .ok (.iadd, 1) := by decide +kernel
theorem dX5_takes_9 : decode cX5_takes 9 = .ok (.iastore, 1) := by decide +kernel
theorem dX5_takes_10 : decode cX5_takes 10 = .ok (.aload_n 0, 1) := by decide +kernel
theorem dX5_takes_11 : decode cX5_takes 11 = .ok (.iload_n 1, 1) := by decide +kernel
theorem dX5_takes_12 : decode cX5_takes 12 = .ok (.aload_n 0, 1) := by decide +kernel
theorem dX5_takes_13 : decode cX5_takes 13 = .ok (.iload_n 1, 1) := by decide +kernel
theorem dX5_takes_14 : decode cX5_takes 14 = .ok (.iconst 3, 1) := by decide +kernel
theorem dX5_takes_15 : decode cX5_takes 15 = .ok (.invokevirtual 139, 3) := by decide +kernel
theorem dX5_takes_18 : decode cX5_takes 18 = .ok (.ifCond .eq 7, 3) := by decide +kernel
theorem dX5_takes_21 : decode cX5_takes 21 = .ok (.iconst 4, 1) := by decide +kernel
theorem dX5_takes_22 : decode cX5_takes 22 = .ok (.goto 18, 3) := by decide +kernel
theorem dX5_takes_25 : decode cX5_takes 25 = .ok (.aload_n 0, 1) := by decide +kernel
theorem dX5_takes_26 : decode cX5_takes 26 = .ok (.iload_n 1, 1) := by decide +kernel
theorem dX5_takes_27 : decode cX5_takes 27 = .ok (.iconst 2, 1) := by decide +kernel
theorem dX5_takes_28 : decode cX5_takes 28 = .ok (.invokevirtual 139, 3) := by decide +kernel
theorem dX5_takes_31 : decode cX5_takes 31 = .ok (.ifCond .eq 7, 3) := by decide +kernel
theorem dX5_takes_34 : decode cX5_takes 34 = .ok (.iconst 1, 1) := by decide +kernel
theorem dX5_takes_35 : decode cX5_takes 35 = .ok (.goto 5, 3) := by decide +kernel
theorem dX5_takes_38 : decode cX5_takes 38 = .ok (.bipush 6, 2) := by decide +kernel
theorem dX5_takes_40 : decode cX5_takes 40 = .ok (.iload_n 2, 1) := by decide +kernel
theorem dX5_takes_41 : decode cX5_takes 41 = .ok (.invokevirtual 157, 3) := by decide +kernel
theorem dX5_takes_44 : decode cX5_takes 44 = .ok (.ireturn, 1) := by decide +kernel
theorem dX5_pass_0 : decode cX5_pass 0 = .ok (.aload_n 0, 1) := by decide +kernel
theorem dX5_pass_1 : decode cX5_pass 1 = .ok (.iload_n 1, 1) := by decide +kernel
theorem dX5_pass_2 : decode cX5_pass 2 = .ok (.invokevirtual 129, 3) := by decide +kernel
theorem dX5_pass_5 : decode cX5_pass 5 = .ok (.ifCond .ne 9, 3) := by decide +kernel
theorem dX5_pass_8 : decode cX5_pass 8 = .ok (.aload_n 0, 1) := by decide +kernel
theorem dX5_pass_9 : decode cX5_pass 9 = .ok (.iconst 1, 1) := by decide +kernel
theorem dX5_pass_10 : decode cX5_pass 10 = .ok (.invokevirtual 151, 3) := by decide +kernel
theorem dX5_pass_13 : decode cX5_pass 13 = .ok (.ireturn, 1) := by decide +kernel
theorem dX5_pass_14 : decode cX5_pass 14 = .ok (.aload_n 0, 1) := by decide +kernel
theorem dX5_pass_15 : decode cX5_pass 15 = .ok (.invokevirtual 154, 3) := by decide +kernel
theorem dX5_pass_18 : decode cX5_pass 18 = .ok (.iconst 0, 1) := by decide +kernel
theorem dX5_pass_19 : decode cX5_pass 19 = .ok (.istore_n 3, 1) := by decide +kernel
theorem dX5_pass_20 : decode cX5_pass 20 = .ok (.iload_n 3, 1) := by decide +kernel
theorem dX5_pass_21 : decode cX5_pass 21 = .ok (.aload_n 0, 1) := by decide +kernel
theorem dX5_pass_22 : decode cX5_pass 22 = .ok (.getfield 123, 3) := by decide +kernel
theorem dX5_pass_25 : decode cX5_pass 25 = .ok (.if_icmp .ge 16, 3) := by decide +kernel
theorem dX5_pass_28 : decode cX5_pass 28 = .ok (.aload_n 0, 1) := by decide +kernel
theorem dX5_pass_29 : decode cX5_pass 29 = .ok (.getfield 58, 3) := by decide +kernel
theorem dX5_pass_32 : decode cX5_pass 32 = .ok (.iload_n 3, 1) := by decide +kernel
theorem dX5_pass_33 : decode cX5_pass 33 = .ok (.iconst 0, 1) := by decide +kernel
theorem dX5_pass_34 : decode cX5_pass 34 = .ok (.bastore, 1) := by decide +kernel
theorem dX5_pass_35 : decode cX5_pass 35 = .ok (.iinc 3 1, 3) := by decide +kernel
theorem dX5_pass_38 : decode cX5_pass 38 = .ok (.goto (-18), 3) := by decide +kernel
theorem dX5_pass_41 : decode cX5_pass 41 = .ok (.aload_n 0, 1) := by decide +kernel
theorem dX5_pass_42 : decode cX5_pass 42 = .ok (.getfield 52, 3) := by decide +kernel
theorem dX5_pass_45 : decode cX5_pass 45 = .ok (.iconst 0, 1) := by decide +kernel
theorem dX5_pass_46 : decode cX5_pass 46 = .ok (.iload_n 1, 1) := by decide +kernel
theorem dX5_pass_47 : decode cX5_pass 47 = .ok (.iastore, 1) := by decide +kernel
theorem dX5_pass_48 : decode cX5_pass 48 = .ok (.aload_n 0, 1) := by decide +kernel
theorem dX5_pass_49 : decode cX5_pass 49 = .ok (.getfield 58, 3) := by decide +kernel
theorem dX5_pass_52 : decode cX5_pass 52 = .ok (.iload_n 1, 1) := by decide +kernel
theorem dX5_pass_53 : decode cX5_pass 53 = .ok (.iconst 1, 1) := by decide +kernel
theorem dX5_pass_54 : decode cX5_pass 54 = .ok (.bastore, 1) := by decide +kernel
theorem dX5_pass_55 : decode cX5_pass 55 = .ok (.aload_n 0, 1) := by decide +kernel
theorem dX5_pass_56 : decode cX5_pass 56 = .ok (.getfield 55, 3) := by decide +kernel
theorem dX5_pass_59 : decode cX5_pass 59 = .ok (.iconst 0, 1) := by decide +kernel
theorem dX5_pass_60 : decode cX5_pass 60 = .ok (.aload_n 0, 1) := by decide +kernel
theorem dX5_pass_61 : decode cX5_pass 61 = .ok (.iload_n 1, 1) := by decide +kernel
theorem dX5_pass_62 : decode cX5_pass 62 = .ok (.iload_n 2, 1) := by decide +kernel
theorem dX5_pass_63 : decode cX5_pass 63 = .ok (.invokevirtual 163, 3) := by decide +kernel
theorem dX5_pass_66 : decode cX5_pass 66 = .ok (.iastore, 1) := by decide +kernel
theorem dX5_pass_67 : decode cX5_pass 67 = .ok (.iconst 1, 1) := by decide +kernel
theorem dX5_pass_68 : decode cX5_pass 68 = .ok (.istore_n 3, 1) := by decide +kernel
theorem dX5_pass_69 : decode cX5_pass 69 = .ok (.iconst 0, 1) := by decide +kernel
theorem dX5_pass_70 : decode cX5_pass 70 = .ok (.istore 4, 2) := by decide +kernel
theorem dX5_pass_72 : decode cX5_pass 72 = .ok (.iload 4, 2) := by decide +kernel
theorem dX5_pass_74 : decode cX5_pass 74 = .ok (.iload_n 3, 1) := by decide +kernel
theorem dX5_pass_75 : decode cX5_pass 75 = .ok (.if_icmp .ge 115, 3) := by decide +kernel
theorem dX5_pass_78 : decode cX5_pass 78 = .ok (.iconst 0, 1) := by decide +kernel
theorem dX5_pass_79 : decode cX5_pass 79 = .ok (.istore 5, 2) := by decide +kernel
theorem dX5_pass_81 : decode cX5_pass 81 = .ok (.iload 5, 2) := by decide +kernel
theorem dX5_pass_83 : decode cX5_pass 83 = .ok (.aload_n 0, 1) := by decide +kernel
theorem dX5_pass_84 : decode cX5_pass 84 = .ok (.getfield 160, 3) := by decide +kernel
theorem dX5_pass_87 : decode cX5_pass 87 = .ok (.if_icmp .ge 97, 3) := by decide +kernel
theorem dX5_pass_90 : decode cX5_pass 90 = .ok (.aload_n 0, 1) := by decide +kernel
theorem dX5_pass_91 : decode cX5_pass 91 = .ok (.getfield 46, 3) := by decide +kernel
theorem dX5_pass_94 : decode cX5_pass 94 = .ok (.iload 5, 2) := by decide +kernel
theorem dX5_pass_96 : decode cX5_pass 96 = .ok (.iaload, 1) := by decide +kernel
theorem dX5_pass_97 : decode cX5_pass 97 = .ok (.aload_n 0, 1) := by decide +kernel
theorem dX5_pass_98 : decode cX5_pass 98 = .ok (.getfield 52, 3) := by decide +kernel
theorem dX5_pass_101 : decode cX5_pass 101 = .ok (.iload 4, 2) := by decide +kernel
theorem dX5_pass_103 : decode cX5_pass 103 = .ok (.iaload, 1) := by decide +kernel
theorem dX5_pass_104 : decode cX5_pass 104 = .ok (.if_icmp .ne 74, 3) := by decide +kernel
theorem dX5_pass_107 : decode cX5_pass 107 = .ok (.aload_n 0, 1) := by decide +kernel
theorem dX5_pass_108 : decode cX5_pass 108 = .ok (.getfield 58, 3) := by decide +kernel
theorem dX5_pass_111 : decode cX5_pass 111 = .ok (.aload_n 0, 1) := by decide +kernel
theorem dX5_pass_112 : decode cX5_pass 112 = .ok (.getfield 49, 3) := by decide +kernel
theorem dX5_pass_115 : decode cX5_pass 115 = .ok (.iload 5, 2) := by decide +kernel
theorem dX5_pass_117 : decode cX5_pass 117 = .ok (.iaload, 1) := by decide +kernel
theorem dX5_pass_118 : decode cX5_pass 118 = .ok (.baload, 1) := by decide +kernel
theorem dX5_pass_119 : decode cX5_pass 119 = .ok (.ifCond .eq 6, 3) := by decide +kernel
theorem dX5_pass_122 : decode cX5_pass 122 = .ok (.goto 56, 3) := by decide +kernel
theorem dX5_pass_125 : decode cX5_pass 125 = .ok (.aload_n 0, 1) := by decide +kernel
theorem dX5_pass_126 : decode cX5_pass 126 = .ok (.getfield 58, 3) := by decide +kernel
theorem dX5_pass_129 : decode cX5_pass 129 = .ok (.aload_n 0, 1) := by decide +kernel
theorem dX5_pass_130 : decode cX5_pass 130 = .ok (.getfield 49, 3) := by decide +kernel
theorem dX5_pass_133 : decode cX5_pass 133 = .ok (.iload 5, 2) := by decide +kernel
theorem dX5_pass_135 : decode cX5_pass 135 = .ok (.iaload, 1) := by decide +kernel
theorem dX5_pass_136 : decode cX5_pass 136 = .ok (.iconst 1, 1) := by decide +kernel
theorem dX5_pass_137 : decode cX5_pass 137 = .ok (.bastore, 1) := by decide +kernel
theorem dX5_pass_138 : decode cX5_pass 138 = .ok (.aload_n 0, 1) := by decide +kernel
theorem dX5_pass_139 : decode cX5_pass 139 = .ok (.getfield 52, 3) := by decide +kernel
theorem dX5_pass_142 : decode cX5_pass 142 = .ok (.iload_n 3, 1) := by decide +kernel
theorem dX5_pass_143 : decode cX5_pass 143 = .ok (.aload_n 0, 1) := by decide +kernel
theorem dX5_pass_144 : decode cX5_pass 144 = .ok (.getfield 49, 3) := by decide +kernel
theorem dX5_pass_147 : decode cX5_pass 147 = .ok (.iload 5, 2) := by decide +kernel
theorem dX5_pass_149 : decode cX5_pass 149 = .ok (.iaload, 1) := by decide +kernel
theorem dX5_pass_150 : decode cX5_pass 150 = .ok (.iastore, 1) := by decide +kernel
theorem dX5_pass_151 : decode cX5_pass 151 = .ok (.aload_n 0, 1) := by decide +kernel
theorem dX5_pass_152 : decode cX5_pass 152 = .ok (.getfield 55, 3) := by decide +kernel
theorem dX5_pass_155 : decode cX5_pass 155 = .ok (.iload_n 3, 1) := by decide +kernel
theorem dX5_pass_156 : decode cX5_pass 156 = .ok (.aload_n 0, 1) := by decide +kernel
theorem dX5_pass_157 : decode cX5_pass 157 = .ok (.aload_n 0, 1) := by decide +kernel
theorem dX5_pass_158 : decode cX5_pass 158 = .ok (.getfield 49, 3) := by decide +kernel
theorem dX5_pass_161 : decode cX5_pass 161 = .ok (.iload 5, 2) := by decide +kernel
theorem dX5_pass_163 : decode cX5_pass 163 = .ok (.iaload, 1) := by decide +kernel
theorem dX5_pass_164 : decode cX5_pass 164 = .ok (.aload_n 0, 1) := by decide +kernel
theorem dX5_pass_165 : decode cX5_pass 165 = .ok (.getfield 55, 3) := by decide +kernel
theorem dX5_pass_168 : decode cX5_pass 168 = .ok (.iload 4, 2) := by decide +kernel
theorem dX5_pass_170 : decode cX5_pass 170 = .ok (.iaload, 1) := by decide +kernel
theorem dX5_pass_171 : decode cX5_pass 171 = .ok (.invokevirtual 163, 3) := by decide +kernel
theorem dX5_pass_174 : decode cX5_pass 174 = .ok (.iastore, 1) := by decide +kernel
theorem dX5_pass_175 : decode cX5_pass 175 = .ok (.iinc 3 1, 3) := by decide +kernel
theorem dX5_pass_178 : decode cX5_pass 178 = .ok (.iinc 5 1, 3) := by decide +kernel
theorem dX5_pass_181 : decode cX5_pass 181 = .ok (.goto (-100), 3) := by decide +kernel
theorem dX5_pass_184 : decode cX5_pass 184 = .ok (.iinc 4 1, 3) := by decide +kernel
theorem dX5_pass_187 : decode cX5_pass 187 = .ok (.goto (-115), 3) := by decide +kernel
theorem dX5_pass_190 : decode cX5_pass 190 = .ok (.iload_n 3, 1) := by decide +kernel
theorem dX5_pass_191 : decode cX5_pass 191 = .ok (.ireturn, 1) := by decide +kernel
theorem dX5_able_0 : decode cX5_able 0 = .ok (.aload_n 0, 1) := by decide +kernel
theorem dX5_able_1 : decode cX5_able 1 = .ok (.iload_n 1, 1) := by decide +kernel
theorem dX5_able_2 : decode cX5_able 2 = .ok (.invokevirtual 129, 3) := by decide +kernel
theorem dX5_able_5 : decode cX5_able 5 = .ok (.ifCond .eq 10, 3) := by decide +kernel
theorem dX5_able_8 : decode cX5_able 8 = .ok (.iload_n 2, 1) := by decide +kernel
theorem dX5_able_9 : decode cX5_able 9 = .ok (.invokestatic 136, 3) := by decide +kernel
theorem dX5_able_12 : decode cX5_able 12 = .ok (.ifCond .ne 7, 3) := by decide +kernel
theorem dX5_able_15 : decode cX5_able 15 = .ok (.iconst (-1), 1) := by decide +kernel
theorem dX5_able_16 : decode cX5_able 16 = .ok (.goto 17, 3) := by decide +kernel
theorem dX5_able_19 : decode cX5_able 19 = .ok (.aload_n 0, 1) := by decide +kernel
theorem dX5_able_20 : decode cX5_able 20 = .ok (.iload_n 1, 1) := by decide +kernel
theorem dX5_able_21 : decode cX5_able 21 = .ok (.iload_n 2, 1) := by decide +kernel
theorem dX5_able_22 : decode cX5_able 22 = .ok (.invokevirtual 139, 3) := by decide +kernel
theorem dX5_able_25 : decode cX5_able 25 = .ok (.ifCond .eq 7, 3) := by decide +kernel
theorem dX5_able_28 : decode cX5_able 28 = .ok (.iconst 1, 1) := by decide +kernel
theorem dX5_able_29 : decode cX5_able 29 = .ok (.goto 4, 3) := by decide +kernel
theorem dX5_able_32 : decode cX5_able 32 = .ok (.iconst 0, 1) := by decide +kernel
theorem dX5_able_33 : decode cX5_able 33 = .ok (.ireturn, 1) := by decide +kernel
theorem dX5_chain_0 : decode cX5_chain 0 = .ok (.iload_n 1, 1) := by decide +kernel
theorem dX5_chain_1 : decode cX5_chain 1 = .ok (.ifCond .lt 17, 3) := by decide +kernel
theorem dX5_chain_4 : decode cX5_chain 4 = .ok (.iload_n 1, 1) := by decide +kernel
theorem dX5_chain_5 : decode cX5_chain 5 = .ok (.bipush 64, 2) := by decide +kernel
theorem dX5_chain_7 : decode cX5_chain 7 = .ok (.if_icmp .ge 11, 3) := by decide +kernel
theorem dX5_chain_10 : decode cX5_chain 10 = .ok (.iload_n 1, 1) := by decide +kernel
theorem dX5_chain_11 : decode cX5_chain 11 = .ok (.aload_n 0, 1) := by decide +kernel
theorem dX5_chain_12 : decode cX5_chain 12 = .ok (.getfield 102, 3) := by decide +kernel
theorem dX5_chain_15 : decode cX5_chain 15 = .ok (.if_icmp .lt 7, 3) := by decide +kernel
theorem dX5_chain_18 : decode cX5_chain 18 = .ok (.iconst (-1), 1) := by decide +kernel
theorem dX5_chain_19 : decode cX5_chain 19 = .ok (.goto 9, 3) := by decide +kernel
theorem dX5_chain_22 : decode cX5_chain 22 = .ok (.aload_n 0, 1) := by decide +kernel
theorem dX5_chain_23 : decode cX5_chain 23 = .ok (.getfield 62, 3) := by decide +kernel
theorem dX5_chain_26 : decode cX5_chain 26 = .ok (.iload_n 1, 1) := by decide +kernel
theorem dX5_chain_27 : decode cX5_chain 27 = .ok (.iaload, 1) := by decide +kernel
theorem dX5_chain_28 : decode cX5_chain 28 = .ok (.ireturn, 1) := by decide +kernel
theorem dX5_ran_0 : decode cX5_ran 0 = .ok (.aload_n 0, 1) := by decide +kernel
theorem dX5_ran_1 : decode cX5_ran 1 = .ok (.getfield 102, 3) := by decide +kernel
theorem dX5_ran_4 : decode cX5_ran 4 = .ok (.ireturn, 1) := by decide +kernel
theorem dX5_state_0 : decode cX5_state 0 = .ok (.aload_n 0, 1) := by decide +kernel
theorem dX5_state_1 : decode cX5_state 1 = .ok (.iload_n 1, 1) := by decide +kernel
theorem dX5_state_2 : decode cX5_state 2 = .ok (.invokevirtual 129, 3) := by decide +kernel
theorem dX5_state_5 : decode cX5_state 5 = .ok (.ifCond .eq 12, 3) := by decide +kernel
theorem dX5_state_8 : decode cX5_state 8 = .ok (.iload_n 2, 1) := by decide +kernel
theorem dX5_state_9 : decode cX5_state 9 = .ok (.ifCond .lt 8, 3) := by decide +kernel
theorem dX5_state_12 : decode cX5_state 12 = .ok (.iload_n 2, 1) := by decide +kernel
theorem dX5_state_13 : decode cX5_state 13 = .ok (.iconst 5, 1) := by decide +kernel
theorem dX5_state_14 : decode cX5_state 14 = .ok (.if_icmp .le 9, 3) := by decide +kernel
theorem dX5_state_17 : decode cX5_state 17 = .ok (.aload_n 0, 1) := by decide +kernel
theorem dX5_state_18 : decode cX5_state 18 = .ok (.iconst 1, 1) := by decide +kernel
theorem dX5_state_19 : decode cX5_state 19 = .ok (.invokevirtual 151, 3) := by decide +kernel
theorem dX5_state_22 : decode cX5_state 22 = .ok (.ireturn, 1) := by decide +kernel
theorem dX5_state_23 : decode cX5_state 23 = .ok (.aload_n 0, 1) := by decide +kernel
theorem dX5_state_24 : decode cX5_state 24 = .ok (.iconst 0, 1) := by decide +kernel
theorem dX5_state_25 : decode cX5_state 25 = .ok (.putfield 126, 3) := by decide +kernel
theorem dX5_state_28 : decode cX5_state 28 = .ok (.iload_n 2, 1) := by decide +kernel
theorem dX5_state_29 : decode cX5_state 29 = .ok (.ifCond .ne 10, 3) := by decide +kernel
theorem dX5_state_32 : decode cX5_state 32 = .ok (.aload_n 0, 1) := by decide +kernel
theorem dX5_state_33 : decode cX5_state 33 = .ok (.getfield 34, 3) := by decide +kernel
theorem dX5_state_36 : decode cX5_state 36 = .ok (.iload_n 1, 1) := by decide +kernel
theorem dX5_state_37 : decode cX5_state 37 = .ok (.iaload, 1) := by decide +kernel
theorem dX5_state_38 : decode cX5_state 38 = .ok (.ireturn, 1) := by decide +kernel
theorem dX5_state_39 : decode cX5_state 39 = .ok (.iload_n 2, 1) := by decide +kernel
theorem dX5_state_40 : decode cX5_state 40 = .ok (.iconst 1, 1) := by decide +kernel
theorem dX5_state_41 : decode cX5_state 41 = .ok (.if_icmp .ne 10, 3) := by decide +kernel
theorem dX5_state_44 : decode cX5_state 44 = .ok (.aload_n 0, 1) := by decide +kernel
theorem dX5_state_45 : decode cX5_state 45 = .ok (.getfield 37, 3) := by decide +kernel
theorem dX5_state_48 : decode cX5_state 48 = .ok (.iload_n 1, 1) := by decide +kernel
theorem dX5_state_49 : decode cX5_state 49 = .ok (.iaload, 1) := by decide +kernel
theorem dX5_state_50 : decode cX5_state 50 = .ok (.ireturn, 1) := by decide +kernel
theorem dX5_state_51 : decode cX5_state 51 = .ok (.iload_n 2, 1) := by decide +kernel
theorem dX5_state_52 : decode cX5_state 52 = .ok (.iconst 2, 1) := by decide +kernel
theorem dX5_state_53 : decode cX5_state 53 = .ok (.if_icmp .ne 10, 3) := by decide +kernel
theorem dX5_state_56 : decode cX5_state 56 = .ok (.aload_n 0, 1) := by decide +kernel
theorem dX5_state_57 : decode cX5_state 57 = .ok (.getfield 40, 3) := by decide +kernel
theorem dX5_state_60 : decode cX5_state 60 = .ok (.iload_n 1, 1) := by decide +kernel
theorem dX5_state_61 : decode cX5_state 61 = .ok (.iaload, 1) := by decide +kernel
theorem dX5_state_62 : decode cX5_state 62 = .ok (.ireturn, 1) := by decide +kernel
theorem dX5_state_63 : decode cX5_state 63 = .ok (.iload_n 2, 1) := by decide +kernel
theorem dX5_state_64 : decode cX5_state 64 = .ok (.iconst 5, 1) := by decide +kernel
theorem dX5_state_65 : decode cX5_state 65 = .ok (.if_icmp .ne 10, 3) := by decide +kernel
theorem dX5_state_68 : decode cX5_state 68 = .ok (.aload_n 0, 1) := by decide +kernel
theorem dX5_state_69 : decode cX5_state 69 = .ok (.getfield 43, 3) := by decide +kernel
theorem dX5_state_72 : decode cX5_state 72 = .ok (.iload_n 1, 1) := by decide +kernel
theorem dX5_state_73 : decode cX5_state 73 = .ok (.iaload, 1) := by decide +kernel
theorem dX5_state_74 : decode cX5_state 74 = .ok (.ireturn, 1) := by decide +kernel
theorem dX5_state_75 : decode cX5_state 75 = .ok (.iconst 0, 1) := by decide +kernel
theorem dX5_state_76 : decode cX5_state 76 = .ok (.istore_n 3, 1) := by decide +kernel
theorem dX5_state_77 : decode cX5_state 77 = .ok (.iconst 0, 1) := by decide +kernel
theorem dX5_state_78 : decode cX5_state 78 = .ok (.istore 4, 2) := by decide +kernel
theorem dX5_state_80 : decode cX5_state 80 = .ok (.iload 4, 2) := by decide +kernel
theorem dX5_state_82 : decode cX5_state 82 = .ok (.aload_n 0, 1) := by decide +kernel
theorem dX5_state_83 : decode cX5_state 83 = .ok (.getfield 160, 3) := by decide +kernel
theorem dX5_state_86 : decode cX5_state 86 = .ok (.if_icmp .ge 38, 3) := by decide +kernel
theorem dX5_state_89 : decode cX5_state 89 = .ok (.iload_n 2, 1) := by decide +kernel
theorem dX5_state_90 : decode cX5_state 90 = .ok (.iconst 3, 1) := by decide +kernel
theorem dX5_state_91 : decode cX5_state 91 = .ok (.if_icmp .ne 13, 3) := by decide +kernel
theorem dX5_state_94 : decode cX5_state 94 = .ok (.aload_n 0, 1) := by decide +kernel
theorem dX5_state_95 : decode cX5_state 95 = .ok (.getfield 46, 3) := by decide +kernel
theorem dX5_state_98 : decode cX5_state 98 = .ok (.iload 4, 2) := by decide +kernel
theorem dX5_state_100 : decode cX5_state 100 = .ok (.iaload, 1) := by decide +kernel
theorem dX5_state_101 : decode cX5_state 101 = .ok (.goto 10, 3) := by decide +kernel
theorem dX5_state_104 : decode cX5_state 104 = .ok (.aload_n 0, 1) := by decide +kernel
theorem dX5_state_105 : decode cX5_state 105 = .ok (.getfield 49, 3) := by decide +kernel
theorem dX5_state_108 : decode cX5_state 108 = .ok (.iload 4, 2) := by decide +kernel
theorem dX5_state_110 : decode cX5_state 110 = .ok (.iaload, 1) := by decide +kernel
theorem dX5_state_111 : decode cX5_state 111 = .ok (.iload_n 1, 1) := by decide +kernel
theorem dX5_state_112 : decode cX5_state 112 = .ok (.if_icmp .ne 6, 3) := by decide +kernel
theorem dX5_state_115 : decode cX5_state 115 = .ok (.iinc 3 1, 3) := by decide +kernel
theorem dX5_state_118 : decode cX5_state 118 = .ok (.iinc 4 1, 3) := by decide +kernel
theorem dX5_state_121 : decode cX5_state 121 = .ok (.goto (-41), 3) := by decide +kernel
theorem dX5_state_124 : decode cX5_state 124 = .ok (.iload_n 3, 1) := by decide +kernel
theorem dX5_state_125 : decode cX5_state 125 = .ok (.ireturn, 1) := by decide +kernel
theorem dX5_size_0 : decode cX5_size 0 = .ok (.iload_n 1, 1) := by decide +kernel
theorem dX5_size_1 : decode cX5_size 1 = .ok (.ifCond .lt 9, 3) := by decide +kernel
theorem dX5_size_4 : decode cX5_size 4 = .ok (.iload_n 1, 1) := by decide +kernel
theorem dX5_size_5 : decode cX5_size 5 = .ok (.bipush 7, 2) := by decide +kernel
theorem dX5_size_7 : decode cX5_size 7 = .ok (.if_icmp .lt 5, 3) := by decide +kernel
theorem dX5_size_10 : decode cX5_size 10 = .ok (.iconst (-1), 1) := by decide +kernel
theorem dX5_size_11 : decode cX5_size 11 = .ok (.ireturn, 1) := by decide +kernel
theorem dX5_size_12 : decode cX5_size 12 = .ok (.iload_n 1, 1) := by decide +kernel
theorem dX5_size_13 : decode cX5_size 13 = .ok (.iconst 2, 1) := by decide +kernel
theorem dX5_size_14 : decode cX5_size 14 = .ok (.if_icmp .ge 19, 3) := by decide +kernel
theorem dX5_size_17 : decode cX5_size 17 = .ok (.iload_n 1, 1) := by decide +kernel
theorem dX5_size_18 : decode cX5_size 18 = .ok (.ifCond .ne 10, 3) := by decide +kernel
theorem dX5_size_21 : decode cX5_size 21 = .ok (.aload_n 0, 1) := by decide +kernel
theorem dX5_size_22 : decode cX5_size 22 = .ok (.getfield 123, 3) := by decide +kernel
theorem dX5_size_25 : decode cX5_size 25 = .ok (.goto 7, 3) := by decide +kernel
theorem dX5_size_28 : decode cX5_size 28 = .ok (.aload_n 0, 1) := by decide +kernel
theorem dX5_size_29 : decode cX5_size 29 = .ok (.getfield 160, 3) := by decide +kernel
theorem dX5_size_32 : decode cX5_size 32 = .ok (.ireturn, 1) := by decide +kernel
theorem dX5_size_33 : decode cX5_size 33 = .ok (.iconst 0, 1) := by decide +kernel
theorem dX5_size_34 : decode cX5_size 34 = .ok (.istore_n 2, 1) := by decide +kernel
theorem dX5_size_35 : decode cX5_size 35 = .ok (.iconst 0, 1) := by decide +kernel
theorem dX5_size_36 : decode cX5_size 36 = .ok (.istore_n 3, 1) := by decide +kernel
theorem dX5_size_37 : decode cX5_size 37 = .ok (.iload_n 3, 1) := by decide +kernel
theorem dX5_size_38 : decode cX5_size 38 = .ok (.aload_n 0, 1) := by decide +kernel
theorem dX5_size_39 : decode cX5_size 39 = .ok (.getfield 123, 3) := by decide +kernel
theorem dX5_size_42 : decode cX5_size 42 = .ok (.if_icmp .ge 21, 3) := by decide +kernel
theorem dX5_size_45 : decode cX5_size 45 = .ok (.aload_n 0, 1) := by decide +kernel
theorem dX5_size_46 : decode cX5_size 46 = .ok (.iload_n 3, 1) := by decide +kernel
theorem dX5_size_47 : decode cX5_size 47 = .ok (.iload_n 1, 1) := by decide +kernel
theorem dX5_size_48 : decode cX5_size 48 = .ok (.invokevirtual 139, 3) := by decide +kernel
theorem dX5_size_51 : decode cX5_size 51 = .ok (.ifCond .eq 6, 3) := by decide +kernel
theorem dX5_size_54 : decode cX5_size 54 = .ok (.iinc 2 1, 3) := by decide +kernel
theorem dX5_size_57 : decode cX5_size 57 = .ok (.iinc 3 1, 3) := by decide +kernel
theorem dX5_size_60 : decode cX5_size 60 = .ok (.goto (-23), 3) := by decide +kernel
theorem dX5_size_63 : decode cX5_size 63 = .ok (.iload_n 2, 1) := by decide +kernel
theorem dX5_size_64 : decode cX5_size 64 = .ok (.ireturn, 1) := by decide +kernel
theorem dX5_status_0 : decode cX5_status 0 = .ok (.aload_n 0, 1) := by decide +kernel
theorem dX5_status_1 : decode cX5_status 1 = .ok (.getfield 126, 3) := by decide +kernel
theorem dX5_status_4 : decode cX5_status 4 = .ok (.ireturn, 1) := by decide +kernel
theorem dL_law_0 : decode cL_law 0 = .ok (.new 7, 3) := by decide +kernel
theorem dL_law_3 : decode cL_law 3 = .ok (.dup, 1) := by decide +kernel
theorem dL_law_4 : decode cL_law 4 = .ok (.invokespecial 9, 3) := by decide +kernel
theorem dL_law_7 : decode cL_law 7 = .ok (.astore_n 1, 1) := by decide +kernel
theorem dL_law_8 : decode cL_law 8 = .ok (.new 10, 3) := by decide +kernel
theorem dL_law_11 : decode cL_law 11 = .ok (.dup, 1) := by decide +kernel
theorem dL_law_12 : decode cL_law 12 = .ok (.invokespecial 12, 3) := by decide +kernel
theorem dL_law_15 : decode cL_law 15 = .ok (.astore_n 2, 1) := by decide +kernel
theorem dL_law_16 : decode cL_law 16 = .ok (.iconst 0, 1) := by decide +kernel
theorem dL_law_17 : decode cL_law 17 = .ok (.istore_n 3, 1) := by decide +kernel
theorem dL_law_18 : decode cL_law 18 = .ok (.iload_n 3, 1) := by decide +kernel
theorem dL_law_19 : decode cL_law 19 = .ok (.aload_n 0, 1) := by decide +kernel
theorem dL_law_20 : decode cL_law 20 = .ok (.arraylength, 1) := by decide +kernel
theorem dL_law_21 : decode cL_law 21 = .ok (.iconst 5, 1) := by decide +kernel
theorem dL_law_22 : decode cL_law 22 = .ok (.isub, 1) := by decide +kernel
theorem dL_law_23 : decode cL_law 23 = .ok (.if_icmp .gt 445, 3) := by decide +kernel
theorem dL_law_26 : decode cL_law 26 = .ok (.aload_n 0, 1) := by decide +kernel
theorem dL_law_27 : decode cL_law 27 = .ok (.iload_n 3, 1) := by decide +kernel
theorem dL_law_28 : decode cL_law 28 = .ok (.iaload, 1) := by decide +kernel
theorem dL_law_29 : decode cL_law 29 = .ok (.bipush 15, 2) := by decide +kernel
theorem dL_law_31 : decode cL_law 31 = .ok (.iand, 1) := by decide +kernel
theorem dL_law_32 : decode cL_law 32 = .ok (.tableswitch 430 0 11 #[64, 97, 150, 193, 226, 259, 292, 325, 348, 361, 394, 417], 64) := by decide +kernel
theorem dL_law_96 : decode cL_law 96 = .ok (.aload_n 1, 1) := by decide +kernel
theorem dL_law_97 : decode cL_law 97 = .ok (.aload_n 0, 1) := by decide +kernel
theorem dL_law_98 : decode cL_law 98 = .ok (.iload_n 3, 1) := by decide +kernel
theorem dL_law_99 : decode cL_law 99 = .ok (.iconst 1, 1) := by decide +kernel
theorem dL_law_100 : decode cL_law 100 = .ok (.iadd, 1) := by decide +kernel
theorem dL_law_101 : decode cL_law 101 = .ok (.iaload, 1) := by decide +kernel
theorem dL_law_102 : decode cL_law 102 = .ok (.aload_n 0, 1) := by decide +kernel
theorem dL_law_103 : decode cL_law 103 = .ok (.iload_n 3, 1) := by decide +kernel
theorem dL_law_104 : decode cL_law 104 = .ok (.iconst 2, 1) := by decide +kernel
theorem dL_law_105 : decode cL_law 105 = .ok (.iadd, 1) := by decide +kernel
theorem dL_law_106 : decode cL_law 106 = .ok (.iaload, 1) := by decide +kernel
theorem dL_law_107 : decode cL_law 107 = .ok (.invokevirtual 13, 3) := by decide +kernel
theorem dL_law_110 : decode cL_law 110 = .ok (.aload_n 2, 1) := by decide +kernel
theorem dL_law_111 : decode cL_law 111 = .ok (.aload_n 0, 1) := by decide +kernel
theorem dL_law_112 : decode cL_law 112 = .ok (.iload_n 3, 1) := by decide +kernel
theorem dL_law_113 : decode cL_law 113 = .ok (.iconst 1, 1) := by decide +kernel
theorem dL_law_114 : decode cL_law 114 = .ok (.iadd, 1) := by decide +kernel
theorem dL_law_115 : decode cL_law 115 = .ok (.iaload, 1) := by decide +kernel
theorem dL_law_116 : decode cL_law 116 = .ok (.aload_n 0, 1) := by decide +kernel
theorem dL_law_117 : decode cL_law 117 = .ok (.iload_n 3, 1) := by decide +kernel
theorem dL_law_118 : decode cL_law 118 = .ok (.iconst 2, 1) := by decide +kernel
theorem dL_law_119 : decode cL_law 119 = .ok (.iadd, 1) := by decide +kernel
theorem dL_law_120 : decode cL_law 120 = .ok (.iaload, 1) := by decide +kernel
theorem dL_law_121 : decode cL_law 121 = .ok (.invokevirtual 17, 3) := by decide +kernel
theorem dL_law_124 : decode cL_law 124 = .ok (.if_icmp .eq 338, 3) := by decide +kernel
theorem dL_law_127 : decode cL_law 127 = .ok (.iconst 0, 1) := by decide +kernel
theorem dL_law_128 : decode cL_law 128 = .ok (.ireturn, 1) := by decide +kernel
theorem dL_law_129 : decode cL_law 129 = .ok (.aload_n 1, 1) := by decide +kernel
theorem dL_law_130 : decode cL_law 130 = .ok (.aload_n 0, 1) := by decide +kernel
theorem dL_law_131 : decode cL_law 131 = .ok (.iload_n 3, 1) := by decide +kernel
theorem dL_law_132 : decode cL_law 132 = .ok (.iconst 1, 1) := by decide +kernel
theorem dL_law_133 : decode cL_law 133 = .ok (.iadd, 1) := by decide +kernel
theorem dL_law_134 : decode cL_law 134 = .ok (.iaload, 1) := by decide +kernel
theorem dL_law_135 : decode cL_law 135 = .ok (.aload_n 0, 1) := by decide +kernel
theorem dL_law_136 : decode cL_law 136 = .ok (.iload_n 3, 1) := by decide +kernel
theorem dL_law_137 : decode cL_law 137 = .ok (.iconst 2, 1) := by decide +kernel
theorem dL_law_138 : decode cL_law 138 = .ok (.iadd, 1) := by decide +kernel
theorem dL_law_139 : decode cL_law 139 = .ok (.iaload, 1) := by decide +kernel
theorem dL_law_140 : decode cL_law 140 = .ok (.aload_n 0, 1) := by decide +kernel
theorem dL_law_141 : decode cL_law 141 = .ok (.iload_n 3, 1) := by decide +kernel
theorem dL_law_142 : decode cL_law 142 = .ok (.iconst 3, 1) := by decide +kernel
theorem dL_law_143 : decode cL_law 143 = .ok (.iadd, 1) := by decide +kernel
theorem dL_law_144 : decode cL_law 144 = .ok (.iaload, 1) := by decide +kernel
theorem dL_law_145 : decode cL_law 145 = .ok (.aload_n 0, 1) := by decide +kernel
theorem dL_law_146 : decode cL_law 146 = .ok (.iload_n 3, 1) := by decide +kernel
theorem dL_law_147 : decode cL_law 147 = .ok (.iconst 4, 1) := by decide +kernel
theorem dL_law_148 : decode cL_law 148 = .ok (.iadd, 1) := by decide +kernel
theorem dL_law_149 : decode cL_law 149 = .ok (.iaload, 1) := by decide +kernel
theorem dL_law_150 : decode cL_law 150 = .ok (.invokevirtual 18, 3) := by decide +kernel
theorem dL_law_153 : decode cL_law 153 = .ok (.aload_n 2, 1) := by decide +kernel
theorem dL_law_154 : decode cL_law 154 = .ok (.aload_n 0, 1) := by decide +kernel
theorem dL_law_155 : decode cL_law 155 = .ok (.iload_n 3, 1) := by decide +kernel
theorem dL_law_156 : decode cL_law 156 = .ok (.iconst 1, 1) := by decide +kernel
theorem dL_law_157 : decode cL_law 157 = .ok (.iadd, 1) := by decide +kernel
theorem dL_law_158 : decode cL_law 158 = .ok (.iaload, 1) := by decide +kernel
theorem dL_law_159 : decode cL_law 159 = .ok (.aload_n 0, 1) := by decide +kernel
theorem dL_law_160 : decode cL_law 160 = .ok (.iload_n 3, 1) := by decide +kernel
theorem dL_law_161 : decode cL_law 161 = .ok (.iconst 2, 1) := by decide +kernel
theorem dL_law_162 : decode cL_law 162 = .ok (.iadd, 1) := by decide +kernel
theorem dL_law_163 : decode cL_law 163 = .ok (.iaload, 1) := by decide +kernel
theorem dL_law_164 : decode cL_law 164 = .ok (.aload_n 0, 1) := by decide +kernel
theorem dL_law_165 : decode cL_law 165 = .ok (.iload_n 3, 1) := by decide +kernel
theorem dL_law_166 : decode cL_law 166 = .ok (.iconst 3, 1) := by decide +kernel
theorem dL_law_167 : decode cL_law 167 = .ok (.iadd, 1) := by decide +kernel
theorem dL_law_168 : decode cL_law 168 = .ok (.iaload, 1) := by decide +kernel
theorem dL_law_169 : decode cL_law 169 = .ok (.aload_n 0, 1) := by decide +kernel
theorem dL_law_170 : decode cL_law 170 = .ok (.iload_n 3, 1) := by decide +kernel
theorem dL_law_171 : decode cL_law 171 = .ok (.iconst 4, 1) := by decide +kernel
theorem dL_law_172 : decode cL_law 172 = .ok (.iadd, 1) := by decide +kernel
theorem dL_law_173 : decode cL_law 173 = .ok (.iaload, 1) := by decide +kernel
theorem dL_law_174 : decode cL_law 174 = .ok (.invokevirtual 22, 3) := by decide +kernel
theorem dL_law_177 : decode cL_law 177 = .ok (.if_icmp .eq 285, 3) := by decide +kernel
theorem dL_law_180 : decode cL_law 180 = .ok (.iconst 0, 1) := by decide +kernel
theorem dL_law_181 : decode cL_law 181 = .ok (.ireturn, 1) := by decide +kernel
theorem dL_law_182 : decode cL_law 182 = .ok (.aload_n 1, 1) := by decide +kernel
theorem dL_law_183 : decode cL_law 183 = .ok (.aload_n 0, 1) := by decide +kernel
theorem dL_law_184 : decode cL_law 184 = .ok (.iload_n 3, 1) := by decide +kernel
theorem dL_law_185 : decode cL_law 185 = .ok (.iconst 1, 1) := by decide +kernel
theorem dL_law_186 : decode cL_law 186 = .ok (.iadd, 1) := by decide +kernel
theorem dL_law_187 : decode cL_law 187 = .ok (.iaload, 1) := by decide +kernel
theorem dL_law_188 : decode cL_law 188 = .ok (.aload_n 0, 1) := by decide +kernel
theorem dL_law_189 : decode cL_law 189 = .ok (.iload_n 3, 1) := by decide +kernel
theorem dL_law_190 : decode cL_law 190 = .ok (.iconst 2, 1) := by decide +kernel
theorem dL_law_191 : decode cL_law 191 = .ok (.iadd, 1) := by decide +kernel
theorem dL_law_192 : decode cL_law 192 = .ok (.iaload, 1) := by decide +kernel
theorem dL_law_193 : decode cL_law 193 = .ok (.aload_n 0, 1) := by decide +kernel
theorem dL_law_194 : decode cL_law 194 = .ok (.iload_n 3, 1) := by decide +kernel
theorem dL_law_195 : decode cL_law 195 = .ok (.iconst 3, 1) := by decide +kernel
theorem dL_law_196 : decode cL_law 196 = .ok (.iadd, 1) := by decide +kernel
theorem dL_law_197 : decode cL_law 197 = .ok (.iaload, 1) := by decide +kernel
theorem dL_law_198 : decode cL_law 198 = .ok (.invokevirtual 23, 3) := by decide +kernel
theorem dL_law_201 : decode cL_law 201 = .ok (.aload_n 2, 1) := by decide +kernel
theorem dL_law_202 : decode cL_law 202 = .ok (.aload_n 0, 1) := by decide +kernel
theorem dL_law_203 : decode cL_law 203 = .ok (.iload_n 3, 1) := by decide +kernel
theorem dL_law_204 : decode cL_law 204 = .ok (.iconst 1, 1) := by decide +kernel
theorem dL_law_205 : decode cL_law 205 = .ok (.iadd, 1) := by decide +kernel
theorem dL_law_206 : decode cL_law 206 = .ok (.iaload, 1) := by decide +kernel
theorem dL_law_207 : decode cL_law 207 = .ok (.aload_n 0, 1) := by decide +kernel
theorem dL_law_208 : decode cL_law 208 = .ok (.iload_n 3, 1) := by decide +kernel
theorem dL_law_209 : decode cL_law 209 = .ok (.iconst 2, 1) := by decide +kernel
theorem dL_law_210 : decode cL_law 210 = .ok (.iadd, 1) := by decide +kernel
theorem dL_law_211 : decode cL_law 211 = .ok (.iaload, 1) := by decide +kernel
theorem dL_law_212 : decode cL_law 212 = .ok (.aload_n 0, 1) := by decide +kernel
theorem dL_law_213 : decode cL_law 213 = .ok (.iload_n 3, 1) := by decide +kernel
theorem dL_law_214 : decode cL_law 214 = .ok (.iconst 3, 1) := by decide +kernel
theorem dL_law_215 : decode cL_law 215 = .ok (.iadd, 1) := by decide +kernel
theorem dL_law_216 : decode cL_law 216 = .ok (.iaload, 1) := by decide +kernel
theorem dL_law_217 : decode cL_law 217 = .ok (.invokevirtual 27, 3) := by decide +kernel
theorem dL_law_220 : decode cL_law 220 = .ok (.if_icmp .eq 242, 3) := by decide +kernel
theorem dL_law_223 : decode cL_law 223 = .ok (.iconst 0, 1) := by decide +kernel
theorem dL_law_224 : decode cL_law 224 = .ok (.ireturn, 1) := by decide +kernel
theorem dL_law_225 : decode cL_law 225 = .ok (.aload_n 1, 1) := by decide +kernel
theorem dL_law_226 : decode cL_law 226 = .ok (.aload_n 0, 1) := by decide +kernel
theorem dL_law_227 : decode cL_law 227 = .ok (.iload_n 3, 1) := by decide +kernel
theorem dL_law_228 : decode cL_law 228 = .ok (.iconst 1, 1) := by decide +kernel
theorem dL_law_229 : decode cL_law 229 = .ok (.iadd, 1) := by decide +kernel
theorem dL_law_230 : decode cL_law 230 = .ok (.iaload, 1) := by decide +kernel
theorem dL_law_231 : decode cL_law 231 = .ok (.aload_n 0, 1) := by decide +kernel
theorem dL_law_232 : decode cL_law 232 = .ok (.iload_n 3, 1) := by decide +kernel
theorem dL_law_233 : decode cL_law 233 = .ok (.iconst 2, 1) := by decide +kernel
theorem dL_law_234 : decode cL_law 234 = .ok (.iadd, 1) := by decide +kernel
theorem dL_law_235 : decode cL_law 235 = .ok (.iaload, 1) := by decide +kernel
theorem dL_law_236 : decode cL_law 236 = .ok (.invokevirtual 28, 3) := by decide +kernel
theorem dL_law_239 : decode cL_law 239 = .ok (.aload_n 2, 1) := by decide +kernel
theorem dL_law_240 : decode cL_law 240 = .ok (.aload_n 0, 1) := by decide +kernel
theorem dL_law_241 : decode cL_law 241 = .ok (.iload_n 3, 1) := by decide +kernel
theorem dL_law_242 : decode cL_law 242 = .ok (.iconst 1, 1) := by decide +kernel
theorem dL_law_243 : decode cL_law 243 = .ok (.iadd, 1) := by decide +kernel
theorem dL_law_244 : decode cL_law 244 = .ok (.iaload, 1) := by decide +kernel
theorem dL_law_245 : decode cL_law 245 = .ok (.aload_n 0, 1) := by decide +kernel
theorem dL_law_246 : decode cL_law 246 = .ok (.iload_n 3, 1) := by decide +kernel
theorem dL_law_247 : decode cL_law 247 = .ok (.iconst 2, 1) := by decide +kernel
theorem dL_law_248 : decode cL_law 248 = .ok (.iadd, 1) := by decide +kernel
theorem dL_law_249 : decode cL_law 249 = .ok (.iaload, 1) := by decide +kernel
theorem dL_law_250 : decode cL_law 250 = .ok (.invokevirtual 31, 3) := by decide +kernel
theorem dL_law_253 : decode cL_law 253 = .ok (.if_icmp .eq 209, 3) := by decide +kernel
theorem dL_law_256 : decode cL_law 256 = .ok (.iconst 0, 1) := by decide +kernel
theorem dL_law_257 : decode cL_law 257 = .ok (.ireturn, 1) := by decide +kernel
theorem dL_law_258 : decode cL_law 258 = .ok (.aload_n 1, 1) := by decide +kernel
theorem dL_law_259 : decode cL_law 259 = .ok (.aload_n 0, 1) := by decide +kernel
theorem dL_law_260 : decode cL_law 260 = .ok (.iload_n 3, 1) := by decide +kernel
theorem dL_law_261 : decode cL_law 261 = .ok (.iconst 1, 1) := by decide +kernel
theorem dL_law_262 : decode cL_law 262 = .ok (.iadd, 1) := by decide +kernel
theorem dL_law_263 : decode cL_law 263 = .ok (.iaload, 1) := by decide +kernel
theorem dL_law_264 : decode cL_law 264 = .ok (.aload_n 0, 1) := by decide +kernel
theorem dL_law_265 : decode cL_law 265 = .ok (.iload_n 3, 1) := by decide +kernel
theorem dL_law_266 : decode cL_law 266 = .ok (.iconst 2, 1) := by decide +kernel
theorem dL_law_267 : decode cL_law 267 = .ok (.iadd, 1) := by decide +kernel
theorem dL_law_268 : decode cL_law 268 = .ok (.iaload, 1) := by decide +kernel
theorem dL_law_269 : decode cL_law 269 = .ok (.invokevirtual 32, 3) := by decide +kernel
theorem dL_law_272 : decode cL_law 272 = .ok (.aload_n 2, 1) := by decide +kernel
theorem dL_law_273 : decode cL_law 273 = .ok (.aload_n 0, 1) := by decide +kernel
theorem dL_law_274 : decode cL_law 274 = .ok (.iload_n 3, 1) := by decide +kernel
theorem dL_law_275 : decode cL_law 275 = .ok (.iconst 1, 1) := by decide +kernel
theorem dL_law_276 : decode cL_law 276 = .ok (.iadd, 1) := by decide +kernel
theorem dL_law_277 : decode cL_law 277 = .ok (.iaload, 1) := by decide +kernel
theorem dL_law_278 : decode cL_law 278 = .ok (.aload_n 0, 1) := by decide +kernel
theorem dL_law_279 : decode cL_law 279 = .ok (.iload_n 3, 1) := by decide +kernel
theorem dL_law_280 : decode cL_law 280 = .ok (.iconst 2, 1) := by decide +kernel
theorem dL_law_281 : decode cL_law 281 = .ok (.iadd, 1) := by decide +kernel
theorem dL_law_282 : decode cL_law 282 = .ok (.iaload, 1) := by decide +kernel
theorem dL_law_283 : decode cL_law 283 = .ok (.invokevirtual 35, 3) := by decide +kernel
theorem dL_law_286 : decode cL_law 286 = .ok (.if_icmp .eq 176, 3) := by decide +kernel
theorem dL_law_289 : decode cL_law 289 = .ok (.iconst 0, 1) := by decide +kernel
theorem dL_law_290 : decode cL_law 290 = .ok (.ireturn, 1) := by decide +kernel
theorem dL_law_291 : decode cL_law 291 = .ok (.aload_n 1, 1) := by decide +kernel
theorem dL_law_292 : decode cL_law 292 = .ok (.aload_n 0, 1) := by decide +kernel
theorem dL_law_293 : decode cL_law 293 = .ok (.iload_n 3, 1) := by decide +kernel
theorem dL_law_294 : decode cL_law 294 = .ok (.iconst 1, 1) := by decide +kernel
theorem dL_law_295 : decode cL_law 295 = .ok (.iadd, 1) := by decide +kernel
theorem dL_law_296 : decode cL_law 296 = .ok (.iaload, 1) := by decide +kernel
theorem dL_law_297 : decode cL_law 297 = .ok (.aload_n 0, 1) := by decide +kernel
theorem dL_law_298 : decode cL_law 298 = .ok (.iload_n 3, 1) := by decide +kernel
theorem dL_law_299 : decode cL_law 299 = .ok (.iconst 2, 1) := by decide +kernel
theorem dL_law_300 : decode cL_law 300 = .ok (.iadd, 1) := by decide +kernel
theorem dL_law_301 : decode cL_law 301 = .ok (.iaload, 1) := by decide +kernel
theorem dL_law_302 : decode cL_law 302 = .ok (.invokevirtual 36, 3) := by decide +kernel
theorem dL_law_305 : decode cL_law 305 = .ok (.aload_n 2, 1) := by decide +kernel
theorem dL_law_306 : decode cL_law 306 = .ok (.aload_n 0, 1) := by decide +kernel
theorem dL_law_307 : decode cL_law 307 = .ok (.iload_n 3, 1) := by decide +kernel
theorem dL_law_308 : decode cL_law 308 = .ok (.iconst 1, 1) := by decide +kernel
theorem dL_law_309 : decode cL_law 309 = .ok (.iadd, 1) := by decide +kernel
theorem dL_law_310 : decode cL_law 310 = .ok (.iaload, 1) := by decide +kernel
theorem dL_law_311 : decode cL_law 311 = .ok (.aload_n 0, 1) := by decide +kernel
theorem dL_law_312 : decode cL_law 312 = .ok (.iload_n 3, 1) := by decide +kernel
theorem dL_law_313 : decode cL_law 313 = .ok (.iconst 2, 1) := by decide +kernel
theorem dL_law_314 : decode cL_law 314 = .ok (.iadd, 1) := by decide +kernel
theorem dL_law_315 : decode cL_law 315 = .ok (.iaload, 1) := by decide +kernel
theorem dL_law_316 : decode cL_law 316 = .ok (.invokevirtual 39, 3) := by decide +kernel
theorem dL_law_319 : decode cL_law 319 = .ok (.if_icmp .eq 143, 3) := by decide +kernel
theorem dL_law_322 : decode cL_law 322 = .ok (.iconst 0, 1) := by decide +kernel
theorem dL_law_323 : decode cL_law 323 = .ok (.ireturn, 1) := by decide +kernel
theorem dL_law_324 : decode cL_law 324 = .ok (.aload_n 1, 1) := by decide +kernel
theorem dL_law_325 : decode cL_law 325 = .ok (.aload_n 0, 1) := by decide +kernel
theorem dL_law_326 : decode cL_law 326 = .ok (.iload_n 3, 1) := by decide +kernel
theorem dL_law_327 : decode cL_law 327 = .ok (.iconst 1, 1) := by decide +kernel
theorem dL_law_328 : decode cL_law 328 = .ok (.iadd, 1) := by decide +kernel
theorem dL_law_329 : decode cL_law 329 = .ok (.iaload, 1) := by decide +kernel
theorem dL_law_330 : decode cL_law 330 = .ok (.aload_n 0, 1) := by decide +kernel
theorem dL_law_331 : decode cL_law 331 = .ok (.iload_n 3, 1) := by decide +kernel
theorem dL_law_332 : decode cL_law 332 = .ok (.iconst 2, 1) := by decide +kernel
theorem dL_law_333 : decode cL_law 333 = .ok (.iadd, 1) := by decide +kernel
theorem dL_law_334 : decode cL_law 334 = .ok (.iaload, 1) := by decide +kernel
theorem dL_law_335 : decode cL_law 335 = .ok (.invokevirtual 40, 3) := by decide +kernel
theorem dL_law_338 : decode cL_law 338 = .ok (.aload_n 2, 1) := by decide +kernel
theorem dL_law_339 : decode cL_law 339 = .ok (.aload_n 0, 1) := by decide +kernel
theorem dL_law_340 : decode cL_law 340 = .ok (.iload_n 3, 1) := by decide +kernel
theorem dL_law_341 : decode cL_law 341 = .ok (.iconst 1, 1) := by decide +kernel
theorem dL_law_342 : decode cL_law 342 = .ok (.iadd, 1) := by decide +kernel
theorem dL_law_343 : decode cL_law 343 = .ok (.iaload, 1) := by decide +kernel
theorem dL_law_344 : decode cL_law 344 = .ok (.aload_n 0, 1) := by decide +kernel
theorem dL_law_345 : decode cL_law 345 = .ok (.iload_n 3, 1) := by decide +kernel
theorem dL_law_346 : decode cL_law 346 = .ok (.iconst 2, 1) := by decide +kernel
theorem dL_law_347 : decode cL_law 347 = .ok (.iadd, 1) := by decide +kernel
theorem dL_law_348 : decode cL_law 348 = .ok (.iaload, 1) := by decide +kernel
theorem dL_law_349 : decode cL_law 349 = .ok (.invokevirtual 43, 3) := by decide +kernel
theorem dL_law_352 : decode cL_law 352 = .ok (.if_icmp .eq 110, 3) := by decide +kernel
theorem dL_law_355 : decode cL_law 355 = .ok (.iconst 0, 1) := by decide +kernel
theorem dL_law_356 : decode cL_law 356 = .ok (.ireturn, 1) := by decide +kernel
theorem dL_law_357 : decode cL_law 357 = .ok (.aload_n 1, 1) := by decide +kernel
theorem dL_law_358 : decode cL_law 358 = .ok (.aload_n 0, 1) := by decide +kernel
theorem dL_law_359 : decode cL_law 359 = .ok (.iload_n 3, 1) := by decide +kernel
theorem dL_law_360 : decode cL_law 360 = .ok (.iconst 1, 1) := by decide +kernel
theorem dL_law_361 : decode cL_law 361 = .ok (.iadd, 1) := by decide +kernel
theorem dL_law_362 : decode cL_law 362 = .ok (.iaload, 1) := by decide +kernel
theorem dL_law_363 : decode cL_law 363 = .ok (.invokevirtual 44, 3) := by decide +kernel
theorem dL_law_366 : decode cL_law 366 = .ok (.aload_n 2, 1) := by decide +kernel
theorem dL_law_367 : decode cL_law 367 = .ok (.aload_n 0, 1) := by decide +kernel
theorem dL_law_368 : decode cL_law 368 = .ok (.iload_n 3, 1) := by decide +kernel
theorem dL_law_369 : decode cL_law 369 = .ok (.iconst 1, 1) := by decide +kernel
theorem dL_law_370 : decode cL_law 370 = .ok (.iadd, 1) := by decide +kernel
theorem dL_law_371 : decode cL_law 371 = .ok (.iaload, 1) := by decide +kernel
theorem dL_law_372 : decode cL_law 372 = .ok (.invokevirtual 48, 3) := by decide +kernel
theorem dL_law_375 : decode cL_law 375 = .ok (.if_icmp .eq 87, 3) := by decide +kernel
theorem dL_law_378 : decode cL_law 378 = .ok (.iconst 0, 1) := by decide +kernel
theorem dL_law_379 : decode cL_law 379 = .ok (.ireturn, 1) := by decide +kernel
theorem dL_law_380 : decode cL_law 380 = .ok (.aload_n 1, 1) := by decide +kernel
theorem dL_law_381 : decode cL_law 381 = .ok (.invokevirtual 49, 3) := by decide +kernel
theorem dL_law_384 : decode cL_law 384 = .ok (.aload_n 2, 1) := by decide +kernel
theorem dL_law_385 : decode cL_law 385 = .ok (.invokevirtual 53, 3) := by decide +kernel
theorem dL_law_388 : decode cL_law 388 = .ok (.if_icmp .eq 74, 3) := by decide +kernel
theorem dL_law_391 : decode cL_law 391 = .ok (.iconst 0, 1) := by decide +kernel
theorem dL_law_392 : decode cL_law 392 = .ok (.ireturn, 1) := by decide +kernel
theorem dL_law_393 : decode cL_law 393 = .ok (.aload_n 1, 1) := by decide +kernel
theorem dL_law_394 : decode cL_law 394 = .ok (.aload_n 0, 1) := by decide +kernel
theorem dL_law_395 : decode cL_law 395 = .ok (.iload_n 3, 1) := by decide +kernel
theorem dL_law_396 : decode cL_law 396 = .ok (.iconst 1, 1) := by decide +kernel
theorem dL_law_397 : decode cL_law 397 = .ok (.iadd, 1) := by decide +kernel
theorem dL_law_398 : decode cL_law 398 = .ok (.iaload, 1) := by decide +kernel
theorem dL_law_399 : decode cL_law 399 = .ok (.aload_n 0, 1) := by decide +kernel
theorem dL_law_400 : decode cL_law 400 = .ok (.iload_n 3, 1) := by decide +kernel
theorem dL_law_401 : decode cL_law 401 = .ok (.iconst 2, 1) := by decide +kernel
theorem dL_law_402 : decode cL_law 402 = .ok (.iadd, 1) := by decide +kernel
theorem dL_law_403 : decode cL_law 403 = .ok (.iaload, 1) := by decide +kernel
theorem dL_law_404 : decode cL_law 404 = .ok (.invokevirtual 54, 3) := by decide +kernel
theorem dL_law_407 : decode cL_law 407 = .ok (.aload_n 2, 1) := by decide +kernel
theorem dL_law_408 : decode cL_law 408 = .ok (.aload_n 0, 1) := by decide +kernel
theorem dL_law_409 : decode cL_law 409 = .ok (.iload_n 3, 1) := by decide +kernel
theorem dL_law_410 : decode cL_law 410 = .ok (.iconst 1, 1) := by decide +kernel
theorem dL_law_411 : decode cL_law 411 = .ok (.iadd, 1) := by decide +kernel
theorem dL_law_412 : decode cL_law 412 = .ok (.iaload, 1) := by decide +kernel
theorem dL_law_413 : decode cL_law 413 = .ok (.aload_n 0, 1) := by decide +kernel
theorem dL_law_414 : decode cL_law 414 = .ok (.iload_n 3, 1) := by decide +kernel
theorem dL_law_415 : decode cL_law 415 = .ok (.iconst 2, 1) := by decide +kernel
theorem dL_law_416 : decode cL_law 416 = .ok (.iadd, 1) := by decide +kernel
theorem dL_law_417 : decode cL_law 417 = .ok (.iaload, 1) := by decide +kernel
theorem dL_law_418 : decode cL_law 418 = .ok (.invokevirtual 57, 3) := by decide +kernel
theorem dL_law_421 : decode cL_law 421 = .ok (.if_icmp .eq 41, 3) := by decide +kernel
theorem dL_law_424 : decode cL_law 424 = .ok (.iconst 0, 1) := by decide +kernel
theorem dL_law_425 : decode cL_law 425 = .ok (.ireturn, 1) := by decide +kernel
theorem dL_law_426 : decode cL_law 426 = .ok (.aload_n 1, 1) := by decide +kernel
theorem dL_law_427 : decode cL_law 427 = .ok (.aload_n 0, 1) := by decide +kernel
theorem dL_law_428 : decode cL_law 428 = .ok (.iload_n 3, 1) := by decide +kernel
theorem dL_law_429 : decode cL_law 429 = .ok (.iconst 1, 1) := by decide +kernel
theorem dL_law_430 : decode cL_law 430 = .ok (.iadd, 1) := by decide +kernel
theorem dL_law_431 : decode cL_law 431 = .ok (.iaload, 1) := by decide +kernel
theorem dL_law_432 : decode cL_law 432 = .ok (.invokevirtual 58, 3) := by decide +kernel
theorem dL_law_435 : decode cL_law 435 = .ok (.aload_n 2, 1) := by decide +kernel
theorem dL_law_436 : decode cL_law 436 = .ok (.aload_n 0, 1) := by decide +kernel
theorem dL_law_437 : decode cL_law 437 = .ok (.iload_n 3, 1) := by decide +kernel
theorem dL_law_438 : decode cL_law 438 = .ok (.iconst 1, 1) := by decide +kernel
theorem dL_law_439 : decode cL_law 439 = .ok (.iadd, 1) := by decide +kernel
theorem dL_law_440 : decode cL_law 440 = .ok (.iaload, 1) := by decide +kernel
theorem dL_law_441 : decode cL_law 441 = .ok (.invokevirtual 61, 3) := by decide +kernel
theorem dL_law_444 : decode cL_law 444 = .ok (.if_icmp .eq 18, 3) := by decide +kernel
theorem dL_law_447 : decode cL_law 447 = .ok (.iconst 0, 1) := by decide +kernel
theorem dL_law_448 : decode cL_law 448 = .ok (.ireturn, 1) := by decide +kernel
theorem dL_law_449 : decode cL_law 449 = .ok (.aload_n 1, 1) := by decide +kernel
theorem dL_law_450 : decode cL_law 450 = .ok (.invokevirtual 62, 3) := by decide +kernel
theorem dL_law_453 : decode cL_law 453 = .ok (.aload_n 2, 1) := by decide +kernel
theorem dL_law_454 : decode cL_law 454 = .ok (.invokevirtual 65, 3) := by decide +kernel
theorem dL_law_457 : decode cL_law 457 = .ok (.if_icmp .eq 5, 3) := by decide +kernel
theorem dL_law_460 : decode cL_law 460 = .ok (.iconst 0, 1) := by decide +kernel
theorem dL_law_461 : decode cL_law 461 = .ok (.ireturn, 1) := by decide +kernel
theorem dL_law_462 : decode cL_law 462 = .ok (.iinc 3 5, 3) := by decide +kernel
theorem dL_law_465 : decode cL_law 465 = .ok (.goto (-447), 3) := by decide +kernel
theorem dL_law_468 : decode cL_law 468 = .ok (.iconst 1, 1) := by decide +kernel
theorem dL_law_469 : decode cL_law 469 = .ok (.ireturn, 1) := by decide +kernel
