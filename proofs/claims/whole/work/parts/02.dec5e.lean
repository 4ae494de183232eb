theorem d_ThumbCoreModel_run_37 : decode b_ThumbCoreModel_run 37 = .ok (.iconst 1, 1) := by decide +kernel
theorem d_ThumbCoreModel_run_38 : decode b_ThumbCoreModel_run 38 = .ok (.goto 4, 3) := by decide +kernel
theorem d_ThumbCoreModel_run_41 : decode b_ThumbCoreModel_run 41 = .ok (.iconst 0, 1) := by decide +kernel
theorem d_ThumbCoreModel_run_42 : decode b_ThumbCoreModel_run 42 = .ok (.istore_n 3, 1) := by decide +kernel
theorem d_ThumbCoreModel_run_43 : decode b_ThumbCoreModel_run 43 = .ok (.iload_n 3, 1) := by decide +kernel
theorem d_ThumbCoreModel_run_44 : decode b_ThumbCoreModel_run 44 = .ok (.ifCond .eq 9, 3) := by decide +kernel
theorem d_ThumbCoreModel_run_47 : decode b_ThumbCoreModel_run 47 = .ok (.iload_n 2, 1) := by decide +kernel
theorem d_ThumbCoreModel_run_48 : decode b_ThumbCoreModel_run 48 = .ok (.iconst 1, 1) := by decide +kernel
theorem d_ThumbCoreModel_run_49 : decode b_ThumbCoreModel_run 49 = .ok (.iadd, 1) := by decide +kernel
theorem d_ThumbCoreModel_run_50 : decode b_ThumbCoreModel_run 50 = .ok (.goto 4, 3) := by decide +kernel
theorem d_ThumbCoreModel_run_53 : decode b_ThumbCoreModel_run 53 = .ok (.iload_n 2, 1) := by decide +kernel
theorem d_ThumbCoreModel_run_54 : decode b_ThumbCoreModel_run 54 = .ok (.istore_n 2, 1) := by decide +kernel
theorem d_ThumbCoreModel_run_55 : decode b_ThumbCoreModel_run 55 = .ok (.iinc 4 1, 3) := by decide +kernel
theorem d_ThumbCoreModel_run_58 : decode b_ThumbCoreModel_run 58 = .ok (.goto (-39), 3) := by decide +kernel
theorem d_ThumbCoreModel_run_61 : decode b_ThumbCoreModel_run 61 = .ok (.iload_n 2, 1) := by decide +kernel
theorem d_ThumbCoreModel_run_62 : decode b_ThumbCoreModel_run 62 = .ok (.ireturn, 1) := by decide +kernel
theorem d_ThumbCoreModel_register_0 : decode b_ThumbCoreModel_register 0 = .ok (.iload_n 1, 1) := by decide +kernel
theorem d_ThumbCoreModel_register_1 : decode b_ThumbCoreModel_register 1 = .ok (.ifCond .lt 18, 3) := by decide +kernel
theorem d_ThumbCoreModel_register_4 : decode b_ThumbCoreModel_register 4 = .ok (.iload_n 1, 1) := by decide +kernel
theorem d_ThumbCoreModel_register_5 : decode b_ThumbCoreModel_register 5 = .ok (.bipush 16, 2) := by decide +kernel
theorem d_ThumbCoreModel_register_7 : decode b_ThumbCoreModel_register 7 = .ok (.if_icmp .ge 12, 3) := by decide +kernel
theorem d_ThumbCoreModel_register_10 : decode b_ThumbCoreModel_register 10 = .ok (.aload_n 0, 1) := by decide +kernel
theorem d_ThumbCoreModel_register_11 : decode b_ThumbCoreModel_register 11 = .ok (.getfield 13, 3) := by decide +kernel
theorem d_ThumbCoreModel_register_14 : decode b_ThumbCoreModel_register 14 = .ok (.iload_n 1, 1) := by decide +kernel
theorem d_ThumbCoreModel_register_15 : decode b_ThumbCoreModel_register 15 = .ok (.iaload, 1) := by decide +kernel
theorem d_ThumbCoreModel_register_16 : decode b_ThumbCoreModel_register 16 = .ok (.goto 4, 3) := by decide +kernel
theorem d_ThumbCoreModel_register_19 : decode b_ThumbCoreModel_register 19 = .ok (.iconst 0, 1) := by decide +kernel
theorem d_ThumbCoreModel_register_20 : decode b_ThumbCoreModel_register 20 = .ok (.ireturn, 1) := by decide +kernel
theorem d_ThumbCoreModel_set_0 : decode b_ThumbCoreModel_set 0 = .ok (.iload_n 1, 1) := by decide +kernel
theorem d_ThumbCoreModel_set_1 : decode b_ThumbCoreModel_set 1 = .ok (.ifCond .lt 9, 3) := by decide +kernel
theorem d_ThumbCoreModel_set_4 : decode b_ThumbCoreModel_set 4 = .ok (.iload_n 1, 1) := by decide +kernel
theorem d_ThumbCoreModel_set_5 : decode b_ThumbCoreModel_set 5 = .ok (.bipush 15, 2) := by decide +kernel
theorem d_ThumbCoreModel_set_7 : decode b_ThumbCoreModel_set 7 = .ok (.if_icmp .le 5, 3) := by decide +kernel
theorem d_ThumbCoreModel_set_10 : decode b_ThumbCoreModel_set 10 = .ok (.iconst 0, 1) := by decide +kernel
theorem d_ThumbCoreModel_set_11 : decode b_ThumbCoreModel_set 11 = .ok (.ireturn, 1) := by decide +kernel
theorem d_ThumbCoreModel_set_12 : decode b_ThumbCoreModel_set 12 = .ok (.aload_n 0, 1) := by decide +kernel
theorem d_ThumbCoreModel_set_13 : decode b_ThumbCoreModel_set 13 = .ok (.getfield 13, 3) := by decide +kernel
theorem d_ThumbCoreModel_set_16 : decode b_ThumbCoreModel_set 16 = .ok (.iload_n 1, 1) := by decide +kernel
theorem d_ThumbCoreModel_set_17 : decode b_ThumbCoreModel_set 17 = .ok (.iload_n 1, 1) := by decide +kernel
theorem d_ThumbCoreModel_set_18 : decode b_ThumbCoreModel_set 18 = .ok (.bipush 13, 2) := by decide +kernel
theorem d_ThumbCoreModel_set_20 : decode b_ThumbCoreModel_set 20 = .ok (.if_icmp .ne 10, 3) := by decide +kernel
theorem d_ThumbCoreModel_set_23 : decode b_ThumbCoreModel_set 23 = .ok (.iload_n 2, 1) := by decide +kernel
theorem d_ThumbCoreModel_set_24 : decode b_ThumbCoreModel_set 24 = .ok (.bipush (-4), 2) := by decide +kernel
theorem d_ThumbCoreModel_set_26 : decode b_ThumbCoreModel_set 26 = .ok (.iand, 1) := by decide +kernel
theorem d_ThumbCoreModel_set_27 : decode b_ThumbCoreModel_set 27 = .ok (.goto 17, 3) := by decide +kernel
theorem d_ThumbCoreModel_set_30 : decode b_ThumbCoreModel_set 30 = .ok (.iload_n 1, 1) := by decide +kernel
theorem d_ThumbCoreModel_set_31 : decode b_ThumbCoreModel_set 31 = .ok (.bipush 15, 2) := by decide +kernel
theorem d_ThumbCoreModel_set_33 : decode b_ThumbCoreModel_set 33 = .ok (.if_icmp .ne 10, 3) := by decide +kernel
theorem d_ThumbCoreModel_set_36 : decode b_ThumbCoreModel_set 36 = .ok (.iload_n 2, 1) := by decide +kernel
theorem d_ThumbCoreModel_set_37 : decode b_ThumbCoreModel_set 37 = .ok (.bipush (-2), 2) := by decide +kernel
theorem d_ThumbCoreModel_set_39 : decode b_ThumbCoreModel_set 39 = .ok (.iand, 1) := by decide +kernel
theorem d_ThumbCoreModel_set_40 : decode b_ThumbCoreModel_set 40 = .ok (.goto 4, 3) := by decide +kernel
theorem d_ThumbCoreModel_set_43 : decode b_ThumbCoreModel_set 43 = .ok (.iload_n 2, 1) := by decide +kernel
theorem d_ThumbCoreModel_set_44 : decode b_ThumbCoreModel_set 44 = .ok (.iastore, 1) := by decide +kernel
theorem d_ThumbCoreModel_set_45 : decode b_ThumbCoreModel_set 45 = .ok (.iconst 1, 1) := by decide +kernel
theorem d_ThumbCoreModel_set_46 : decode b_ThumbCoreModel_set 46 = .ok (.ireturn, 1) := by decide +kernel
theorem d_ThumbCoreModel_about_0 : decode b_ThumbCoreModel_about 0 = .ok (.iload_n 1, 1) := by decide +kernel
theorem d_ThumbCoreModel_about_1 : decode b_ThumbCoreModel_about 1 = .ok (.tableswitch 103 0 6 #[43, 48, 53, 66, 79, 92, 97], 43) := by decide +kernel
theorem d_ThumbCoreModel_about_44 : decode b_ThumbCoreModel_about 44 = .ok (.aload_n 0, 1) := by decide +kernel
theorem d_ThumbCoreModel_about_45 : decode b_ThumbCoreModel_about 45 = .ok (.getfield 71, 3) := by decide +kernel
theorem d_ThumbCoreModel_about_48 : decode b_ThumbCoreModel_about 48 = .ok (.ireturn, 1) := by decide +kernel
theorem d_ThumbCoreModel_about_49 : decode b_ThumbCoreModel_about 49 = .ok (.aload_n 0, 1) := by decide +kernel
theorem d_ThumbCoreModel_about_50 : decode b_ThumbCoreModel_about 50 = .ok (.invokevirtual 104, 3) := by decide +kernel
theorem d_ThumbCoreModel_about_53 : decode b_ThumbCoreModel_about 53 = .ok (.ireturn, 1) := by decide +kernel
theorem d_ThumbCoreModel_about_54 : decode b_ThumbCoreModel_about 54 = .ok (.aload_n 0, 1) := by decide +kernel
theorem d_ThumbCoreModel_about_55 : decode b_ThumbCoreModel_about 55 = .ok (.getfield 53, 3) := by decide +kernel
theorem d_ThumbCoreModel_about_58 : decode b_ThumbCoreModel_about 58 = .ok (.ifCond .eq 7, 3) := by decide +kernel
theorem d_ThumbCoreModel_about_61 : decode b_ThumbCoreModel_about 61 = .ok (.iconst 1, 1) := by decide +kernel
theorem d_ThumbCoreModel_about_62 : decode b_ThumbCoreModel_about 62 = .ok (.goto 4, 3) := by decide +kernel
theorem d_ThumbCoreModel_about_65 : decode b_ThumbCoreModel_about 65 = .ok (.iconst 0, 1) := by decide +kernel
theorem d_ThumbCoreModel_about_66 : decode b_ThumbCoreModel_about 66 = .ok (.ireturn, 1) := by decide +kernel
theorem d_ThumbCoreModel_about_67 : decode b_ThumbCoreModel_about 67 = .ok (.aload_n 0, 1) := by decide +kernel
theorem d_ThumbCoreModel_about_68 : decode b_ThumbCoreModel_about 68 = .ok (.getfield 56, 3) := by decide +kernel
theorem d_ThumbCoreModel_about_71 : decode b_ThumbCoreModel_about 71 = .ok (.ifCond .eq 7, 3) := by decide +kernel
theorem d_ThumbCoreModel_about_74 : decode b_ThumbCoreModel_about 74 = .ok (.iconst 1, 1) := by decide +kernel
theorem d_ThumbCoreModel_about_75 : decode b_ThumbCoreModel_about 75 = .ok (.goto 4, 3) := by decide +kernel
theorem d_ThumbCoreModel_about_78 : decode b_ThumbCoreModel_about 78 = .ok (.iconst 0, 1) := by decide +kernel
theorem d_ThumbCoreModel_about_79 : decode b_ThumbCoreModel_about 79 = .ok (.ireturn, 1) := by decide +kernel
theorem d_ThumbCoreModel_about_80 : decode b_ThumbCoreModel_about 80 = .ok (.aload_n 0, 1) := by decide +kernel
theorem d_ThumbCoreModel_about_81 : decode b_ThumbCoreModel_about 81 = .ok (.getfield 59, 3) := by decide +kernel
theorem d_ThumbCoreModel_about_84 : decode b_ThumbCoreModel_about 84 = .ok (.ifCond .eq 7, 3) := by decide +kernel
theorem d_ThumbCoreModel_about_87 : decode b_ThumbCoreModel_about 87 = .ok (.iconst 1, 1) := by decide +kernel
theorem d_ThumbCoreModel_about_88 : decode b_ThumbCoreModel_about 88 = .ok (.goto 4, 3) := by decide +kernel
theorem d_ThumbCoreModel_about_91 : decode b_ThumbCoreModel_about 91 = .ok (.iconst 0, 1) := by decide +kernel
theorem d_ThumbCoreModel_about_92 : decode b_ThumbCoreModel_about 92 = .ok (.ireturn, 1) := by decide +kernel
theorem d_ThumbCoreModel_about_93 : decode b_ThumbCoreModel_about 93 = .ok (.aload_n 0, 1) := by decide +kernel
theorem d_ThumbCoreModel_about_94 : decode b_ThumbCoreModel_about 94 = .ok (.getfield 65, 3) := by decide +kernel
theorem d_ThumbCoreModel_about_97 : decode b_ThumbCoreModel_about 97 = .ok (.ireturn, 1) := by decide +kernel
theorem d_ThumbCoreModel_about_98 : decode b_ThumbCoreModel_about 98 = .ok (.aload_n 0, 1) := by decide +kernel
theorem d_ThumbCoreModel_about_99 : decode b_ThumbCoreModel_about 99 = .ok (.iconst 1, 1) := by decide +kernel
theorem d_ThumbCoreModel_about_100 : decode b_ThumbCoreModel_about 100 = .ok (.invokevirtual 107, 3) := by decide +kernel
theorem d_ThumbCoreModel_about_103 : decode b_ThumbCoreModel_about 103 = .ok (.ireturn, 1) := by decide +kernel
theorem d_ThumbCoreModel_about_104 : decode b_ThumbCoreModel_about 104 = .ok (.iconst (-1), 1) := by decide +kernel
theorem d_ThumbCoreModel_about_105 : decode b_ThumbCoreModel_about 105 = .ok (.ireturn, 1) := by decide +kernel
theorem d_ThumbCoreModel_canWait_0 : decode b_ThumbCoreModel_canWait 0 = .ok (.iload_n 0, 1) := by decide +kernel
theorem d_ThumbCoreModel_canWait_1 : decode b_ThumbCoreModel_canWait 1 = .ok (.iconst 2, 1) := by decide +kernel
theorem d_ThumbCoreModel_canWait_2 : decode b_ThumbCoreModel_canWait 2 = .ok (.if_icmp .eq 15, 3) := by decide +kernel
theorem d_ThumbCoreModel_canWait_5 : decode b_ThumbCoreModel_canWait 5 = .ok (.iload_n 0, 1) := by decide +kernel
theorem d_ThumbCoreModel_canWait_6 : decode b_ThumbCoreModel_canWait 6 = .ok (.bipush 14, 2) := by decide +kernel
theorem d_ThumbCoreModel_canWait_8 : decode b_ThumbCoreModel_canWait 8 = .ok (.if_icmp .eq 9, 3) := by decide +kernel
theorem d_ThumbCoreModel_canWait_11 : decode b_ThumbCoreModel_canWait 11 = .ok (.iload_n 0, 1) := by decide +kernel
theorem d_ThumbCoreModel_canWait_12 : decode b_ThumbCoreModel_canWait 12 = .ok (.bipush 15, 2) := by decide +kernel
theorem d_ThumbCoreModel_canWait_14 : decode b_ThumbCoreModel_canWait 14 = .ok (.if_icmp .ne 7, 3) := by decide +kernel
theorem d_ThumbCoreModel_canWait_17 : decode b_ThumbCoreModel_canWait 17 = .ok (.iconst 1, 1) := by decide +kernel
theorem d_ThumbCoreModel_canWait_18 : decode b_ThumbCoreModel_canWait 18 = .ok (.goto 4, 3) := by decide +kernel
theorem d_ThumbCoreModel_canWait_21 : decode b_ThumbCoreModel_canWait 21 = .ok (.iconst 0, 1) := by decide +kernel
theorem d_ThumbCoreModel_canWait_22 : decode b_ThumbCoreModel_canWait 22 = .ok (.ireturn, 1) := by decide +kernel
theorem d_ThumbCoreModel_pend_0 : decode b_ThumbCoreModel_pend 0 = .ok (.iload_n 1, 1) := by decide +kernel
theorem d_ThumbCoreModel_pend_1 : decode b_ThumbCoreModel_pend 1 = .ok (.invokestatic 220, 3) := by decide +kernel
theorem d_ThumbCoreModel_pend_4 : decode b_ThumbCoreModel_pend 4 = .ok (.ifCond .ne 5, 3) := by decide +kernel
theorem d_ThumbCoreModel_pend_7 : decode b_ThumbCoreModel_pend 7 = .ok (.iconst 0, 1) := by decide +kernel
theorem d_ThumbCoreModel_pend_8 : decode b_ThumbCoreModel_pend 8 = .ok (.ireturn, 1) := by decide +kernel
theorem d_ThumbCoreModel_pend_9 : decode b_ThumbCoreModel_pend 9 = .ok (.aload_n 0, 1) := by decide +kernel
theorem d_ThumbCoreModel_pend_10 : decode b_ThumbCoreModel_pend 10 = .ok (.getfield 20, 3) := by decide +kernel
theorem d_ThumbCoreModel_pend_13 : decode b_ThumbCoreModel_pend 13 = .ok (.iload_n 1, 1) := by decide +kernel
theorem d_ThumbCoreModel_pend_14 : decode b_ThumbCoreModel_pend 14 = .ok (.iconst 1, 1) := by decide +kernel
theorem d_ThumbCoreModel_pend_15 : decode b_ThumbCoreModel_pend 15 = .ok (.bastore, 1) := by decide +kernel
theorem d_ThumbCoreModel_pend_16 : decode b_ThumbCoreModel_pend 16 = .ok (.iconst 1, 1) := by decide +kernel
theorem d_ThumbCoreModel_pend_17 : decode b_ThumbCoreModel_pend 17 = .ok (.ireturn, 1) := by decide +kernel
theorem d_ThumbCoreModel_exception_0 : decode b_ThumbCoreModel_exception 0 = .ok (.iload_n 1, 1) := by decide +kernel
theorem d_ThumbCoreModel_exception_1 : decode b_ThumbCoreModel_exception 1 = .ok (.ifCond .lt 9, 3) := by decide +kernel
theorem d_ThumbCoreModel_exception_4 : decode b_ThumbCoreModel_exception 4 = .ok (.iload_n 1, 1) := by decide +kernel
theorem d_ThumbCoreModel_exception_5 : decode b_ThumbCoreModel_exception 5 = .ok (.bipush 15, 2) := by decide +kernel
theorem d_ThumbCoreModel_exception_7 : decode b_ThumbCoreModel_exception 7 = .ok (.if_icmp .le 7, 3) := by decide +kernel
theorem d_ThumbCoreModel_exception_10 : decode b_ThumbCoreModel_exception 10 = .ok (.iconst 0, 1) := by decide +kernel
theorem d_ThumbCoreModel_exception_11 : decode b_ThumbCoreModel_exception 11 = .ok (.goto 32, 3) := by decide +kernel
theorem d_ThumbCoreModel_exception_14 : decode b_ThumbCoreModel_exception 14 = .ok (.aload_n 0, 1) := by decide +kernel
theorem d_ThumbCoreModel_exception_15 : decode b_ThumbCoreModel_exception 15 = .ok (.getfield 20, 3) := by decide +kernel
theorem d_ThumbCoreModel_exception_18 : decode b_ThumbCoreModel_exception 18 = .ok (.iload_n 1, 1) := by decide +kernel
theorem d_ThumbCoreModel_exception_19 : decode b_ThumbCoreModel_exception 19 = .ok (.baload, 1) := by decide +kernel
theorem d_ThumbCoreModel_exception_20 : decode b_ThumbCoreModel_exception 20 = .ok (.ifCond .eq 7, 3) := by decide +kernel
theorem d_ThumbCoreModel_exception_23 : decode b_ThumbCoreModel_exception 23 = .ok (.iconst 1, 1) := by decide +kernel
theorem d_ThumbCoreModel_exception_24 : decode b_ThumbCoreModel_exception 24 = .ok (.goto 4, 3) := by decide +kernel
theorem d_ThumbCoreModel_exception_27 : decode b_ThumbCoreModel_exception 27 = .ok (.iconst 0, 1) := by decide +kernel
theorem d_ThumbCoreModel_exception_28 : decode b_ThumbCoreModel_exception 28 = .ok (.aload_n 0, 1) := by decide +kernel
theorem d_ThumbCoreModel_exception_29 : decode b_ThumbCoreModel_exception 29 = .ok (.getfield 24, 3) := by decide +kernel
theorem d_ThumbCoreModel_exception_32 : decode b_ThumbCoreModel_exception 32 = .ok (.iload_n 1, 1) := by decide +kernel
theorem d_ThumbCoreModel_exception_33 : decode b_ThumbCoreModel_exception 33 = .ok (.baload, 1) := by decide +kernel
theorem d_ThumbCoreModel_exception_34 : decode b_ThumbCoreModel_exception 34 = .ok (.ifCond .eq 7, 3) := by decide +kernel
theorem d_ThumbCoreModel_exception_37 : decode b_ThumbCoreModel_exception 37 = .ok (.iconst 2, 1) := by decide +kernel
theorem d_ThumbCoreModel_exception_38 : decode b_ThumbCoreModel_exception 38 = .ok (.goto 4, 3) := by decide +kernel
theorem d_ThumbCoreModel_exception_41 : decode b_ThumbCoreModel_exception 41 = .ok (.iconst 0, 1) := by decide +kernel
theorem d_ThumbCoreModel_exception_42 : decode b_ThumbCoreModel_exception 42 = .ok (.iadd, 1) := by decide +kernel
theorem d_ThumbCoreModel_exception_43 : decode b_ThumbCoreModel_exception 43 = .ok (.ireturn, 1) := by decide +kernel
theorem d_ThumbCoreModel_priority_0 : decode b_ThumbCoreModel_priority 0 = .ok (.iload_n 1, 1) := by decide +kernel
theorem d_ThumbCoreModel_priority_1 : decode b_ThumbCoreModel_priority 1 = .ok (.bipush 11, 2) := by decide +kernel
theorem d_ThumbCoreModel_priority_3 : decode b_ThumbCoreModel_priority 3 = .ok (.if_icmp .eq 15, 3) := by decide +kernel
theorem d_ThumbCoreModel_priority_6 : decode b_ThumbCoreModel_priority 6 = .ok (.iload_n 1, 1) := by decide +kernel
theorem d_ThumbCoreModel_priority_7 : decode b_ThumbCoreModel_priority 7 = .ok (.bipush 14, 2) := by decide +kernel
theorem d_ThumbCoreModel_priority_9 : decode b_ThumbCoreModel_priority 9 = .ok (.if_icmp .eq 9, 3) := by decide +kernel
theorem d_ThumbCoreModel_priority_12 : decode b_ThumbCoreModel_priority 12 = .ok (.iload_n 1, 1) := by decide +kernel
theorem d_ThumbCoreModel_priority_13 : decode b_ThumbCoreModel_priority 13 = .ok (.bipush 15, 2) := by decide +kernel
theorem d_ThumbCoreModel_priority_15 : decode b_ThumbCoreModel_priority 15 = .ok (.if_icmp .ne 12, 3) := by decide +kernel
theorem d_ThumbCoreModel_priority_18 : decode b_ThumbCoreModel_priority 18 = .ok (.iload_n 2, 1) := by decide +kernel
theorem d_ThumbCoreModel_priority_19 : decode b_ThumbCoreModel_priority 19 = .ok (.ifCond .lt 8, 3) := by decide +kernel
theorem d_ThumbCoreModel_priority_22 : decode b_ThumbCoreModel_priority 22 = .ok (.iload_n 2, 1) := by decide +kernel
theorem d_ThumbCoreModel_priority_23 : decode b_ThumbCoreModel_priority 23 = .ok (.iconst 3, 1) := by decide +kernel
theorem d_ThumbCoreModel_priority_24 : decode b_ThumbCoreModel_priority 24 = .ok (.if_icmp .le 5, 3) := by decide +kernel
theorem d_ThumbCoreModel_priority_27 : decode b_ThumbCoreModel_priority 27 = .ok (.iconst 0, 1) := by decide +kernel
theorem d_ThumbCoreModel_priority_28 : decode b_ThumbCoreModel_priority 28 = .ok (.ireturn, 1) := by decide +kernel
theorem d_ThumbCoreModel_priority_29 : decode b_ThumbCoreModel_priority 29 = .ok (.aload_n 0, 1) := by decide +kernel
theorem d_ThumbCoreModel_priority_30 : decode b_ThumbCoreModel_priority 30 = .ok (.getfield 27, 3) := by decide +kernel
theorem d_ThumbCoreModel_priority_33 : decode b_ThumbCoreModel_priority 33 = .ok (.iload_n 1, 1) := by decide +kernel
theorem d_ThumbCoreModel_priority_34 : decode b_ThumbCoreModel_priority 34 = .ok (.iload_n 2, 1) := by decide +kernel
theorem d_ThumbCoreModel_priority_35 : decode b_ThumbCoreModel_priority 35 = .ok (.iastore, 1) := by decide +kernel
theorem d_ThumbCoreModel_priority_36 : decode b_ThumbCoreModel_priority 36 = .ok (.iconst 1, 1) := by decide +kernel
theorem d_ThumbCoreModel_priority_37 : decode b_ThumbCoreModel_priority 37 = .ok (.ireturn, 1) := by decide +kernel
theorem d_ThumbCoreModel_tick_0 : decode b_ThumbCoreModel_tick 0 = .ok (.iload_n 1, 1) := by decide +kernel
theorem d_ThumbCoreModel_tick_1 : decode b_ThumbCoreModel_tick 1 = .ok (.ifCond .lt 10, 3) := by decide +kernel
theorem d_ThumbCoreModel_tick_4 : decode b_ThumbCoreModel_tick 4 = .ok (.iload_n 1, 1) := by decide +kernel
theorem d_ThumbCoreModel_tick_5 : decode b_ThumbCoreModel_tick 5 = .ok (.sipush 1000, 3) := by decide +kernel
theorem d_ThumbCoreModel_tick_8 : decode b_ThumbCoreModel_tick 8 = .ok (.if_icmp .le 5, 3) := by decide +kernel
theorem d_ThumbCoreModel_tick_11 : decode b_ThumbCoreModel_tick 11 = .ok (.iconst 0, 1) := by decide +kernel
theorem d_ThumbCoreModel_tick_12 : decode b_ThumbCoreModel_tick 12 = .ok (.ireturn, 1) := by decide +kernel
theorem d_ThumbCoreModel_tick_13 : decode b_ThumbCoreModel_tick 13 = .ok (.aload_n 0, 1) := by decide +kernel
theorem d_ThumbCoreModel_tick_14 : decode b_ThumbCoreModel_tick 14 = .ok (.iload_n 1, 1) := by decide +kernel
theorem d_ThumbCoreModel_tick_15 : decode b_ThumbCoreModel_tick 15 = .ok (.putfield 68, 3) := by decide +kernel
theorem d_ThumbCoreModel_tick_18 : decode b_ThumbCoreModel_tick 18 = .ok (.aload_n 0, 1) := by decide +kernel
theorem d_ThumbCoreModel_tick_19 : decode b_ThumbCoreModel_tick 19 = .ok (.iconst 0, 1) := by decide +kernel
theorem d_ThumbCoreModel_tick_20 : decode b_ThumbCoreModel_tick 20 = .ok (.putfield 65, 3) := by decide +kernel
theorem d_ThumbCoreModel_tick_23 : decode b_ThumbCoreModel_tick 23 = .ok (.aload_n 0, 1) := by decide +kernel
theorem d_ThumbCoreModel_tick_24 : decode b_ThumbCoreModel_tick 24 = .ok (.iload_n 2, 1) := by decide +kernel
theorem d_ThumbCoreModel_tick_25 : decode b_ThumbCoreModel_tick 25 = .ok (.putfield 62, 3) := by decide +kernel
theorem d_ThumbCoreModel_tick_28 : decode b_ThumbCoreModel_tick 28 = .ok (.iconst 1, 1) := by decide +kernel
theorem d_ThumbCoreModel_tick_29 : decode b_ThumbCoreModel_tick 29 = .ok (.ireturn, 1) := by decide +kernel
