theorem d_ThumbCore_init_0 : decode b_ThumbCore_init 0 = .ok (.aload_n 0, 1) := by decide +kernel
theorem d_ThumbCore_init_1 : decode b_ThumbCore_init 1 = .ok (.invokespecial 1, 3) := by decide +kernel
theorem d_ThumbCore_init_4 : decode b_ThumbCore_init 4 = .ok (.aload_n 0, 1) := by decide +kernel
theorem d_ThumbCore_init_5 : decode b_ThumbCore_init 5 = .ok (.new 7, 3) := by decide +kernel
theorem d_ThumbCore_init_8 : decode b_ThumbCore_init 8 = .ok (.dup, 1) := by decide +kernel
theorem d_ThumbCore_init_9 : decode b_ThumbCore_init 9 = .ok (.sipush 128, 3) := by decide +kernel
theorem d_ThumbCore_init_12 : decode b_ThumbCore_init 12 = .ok (.sipush 2048, 3) := by decide +kernel
theorem d_ThumbCore_init_15 : decode b_ThumbCore_init 15 = .ok (.iload_n 1, 1) := by decide +kernel
theorem d_ThumbCore_init_16 : decode b_ThumbCore_init 16 = .ok (.bipush (-4), 2) := by decide +kernel
theorem d_ThumbCore_init_18 : decode b_ThumbCore_init 18 = .ok (.iand, 1) := by decide +kernel
theorem d_ThumbCore_init_19 : decode b_ThumbCore_init 19 = .ok (.invokestatic 9, 3) := by decide +kernel
theorem d_ThumbCore_init_22 : decode b_ThumbCore_init 22 = .ok (.invokestatic 15, 3) := by decide +kernel
theorem d_ThumbCore_init_25 : decode b_ThumbCore_init 25 = .ok (.invokespecial 18, 3) := by decide +kernel
theorem d_ThumbCore_init_28 : decode b_ThumbCore_init 28 = .ok (.putfield 21, 3) := by decide +kernel
theorem d_ThumbCore_init_31 : decode b_ThumbCore_init 31 = .ok (.aload_n 0, 1) := by decide +kernel
theorem d_ThumbCore_init_32 : decode b_ThumbCore_init 32 = .ok (.bipush 16, 2) := by decide +kernel
theorem d_ThumbCore_init_34 : decode b_ThumbCore_init 34 = .ok (.newarray .int, 2) := by decide +kernel
theorem d_ThumbCore_init_36 : decode b_ThumbCore_init 36 = .ok (.putfield 27, 3) := by decide +kernel
theorem d_ThumbCore_init_39 : decode b_ThumbCore_init 39 = .ok (.aload_n 0, 1) := by decide +kernel
theorem d_ThumbCore_init_40 : decode b_ThumbCore_init 40 = .ok (.new 31, 3) := by decide +kernel
theorem d_ThumbCore_init_43 : decode b_ThumbCore_init 43 = .ok (.dup, 1) := by decide +kernel
theorem d_ThumbCore_init_44 : decode b_ThumbCore_init 44 = .ok (.invokespecial 33, 3) := by decide +kernel
theorem d_ThumbCore_init_47 : decode b_ThumbCore_init 47 = .ok (.putfield 34, 3) := by decide +kernel
theorem d_ThumbCore_init_50 : decode b_ThumbCore_init 50 = .ok (.aload_n 0, 1) := by decide +kernel
theorem d_ThumbCore_init_51 : decode b_ThumbCore_init 51 = .ok (.new 38, 3) := by decide +kernel
theorem d_ThumbCore_init_54 : decode b_ThumbCore_init 54 = .ok (.dup, 1) := by decide +kernel
theorem d_ThumbCore_init_55 : decode b_ThumbCore_init 55 = .ok (.invokespecial 40, 3) := by decide +kernel
theorem d_ThumbCore_init_58 : decode b_ThumbCore_init 58 = .ok (.putfield 41, 3) := by decide +kernel
theorem d_ThumbCore_init_61 : decode b_ThumbCore_init 61 = .ok (.aload_n 0, 1) := by decide +kernel
theorem d_ThumbCore_init_62 : decode b_ThumbCore_init 62 = .ok (.new 45, 3) := by decide +kernel
theorem d_ThumbCore_init_65 : decode b_ThumbCore_init 65 = .ok (.dup, 1) := by decide +kernel
theorem d_ThumbCore_init_66 : decode b_ThumbCore_init 66 = .ok (.invokespecial 47, 3) := by decide +kernel
theorem d_ThumbCore_init_69 : decode b_ThumbCore_init 69 = .ok (.putfield 48, 3) := by decide +kernel
theorem d_ThumbCore_init_72 : decode b_ThumbCore_init 72 = .ok (.aload_n 0, 1) := by decide +kernel
theorem d_ThumbCore_init_73 : decode b_ThumbCore_init 73 = .ok (.invokevirtual 52, 3) := by decide +kernel
theorem d_ThumbCore_init_76 : decode b_ThumbCore_init 76 = .ok (.return_, 1) := by decide +kernel
theorem d_ThumbCore_poke_0 : decode b_ThumbCore_poke 0 = .ok (.iload_n 3, 1) := by decide +kernel
theorem d_ThumbCore_poke_1 : decode b_ThumbCore_poke 1 = .ok (.iconst 1, 1) := by decide +kernel
theorem d_ThumbCore_poke_2 : decode b_ThumbCore_poke 2 = .ok (.if_icmp .eq 13, 3) := by decide +kernel
theorem d_ThumbCore_poke_5 : decode b_ThumbCore_poke 5 = .ok (.iload_n 3, 1) := by decide +kernel
theorem d_ThumbCore_poke_6 : decode b_ThumbCore_poke 6 = .ok (.iconst 2, 1) := by decide +kernel
theorem d_ThumbCore_poke_7 : decode b_ThumbCore_poke 7 = .ok (.if_icmp .eq 8, 3) := by decide +kernel
theorem d_ThumbCore_poke_10 : decode b_ThumbCore_poke 10 = .ok (.iload_n 3, 1) := by decide +kernel
theorem d_ThumbCore_poke_11 : decode b_ThumbCore_poke 11 = .ok (.iconst 4, 1) := by decide +kernel
theorem d_ThumbCore_poke_12 : decode b_ThumbCore_poke 12 = .ok (.if_icmp .ne 15, 3) := by decide +kernel
theorem d_ThumbCore_poke_15 : decode b_ThumbCore_poke 15 = .ok (.aload_n 0, 1) := by decide +kernel
theorem d_ThumbCore_poke_16 : decode b_ThumbCore_poke 16 = .ok (.getfield 21, 3) := by decide +kernel
theorem d_ThumbCore_poke_19 : decode b_ThumbCore_poke 19 = .ok (.iload_n 1, 1) := by decide +kernel
theorem d_ThumbCore_poke_20 : decode b_ThumbCore_poke 20 = .ok (.iload_n 3, 1) := by decide +kernel
theorem d_ThumbCore_poke_21 : decode b_ThumbCore_poke 21 = .ok (.invokevirtual 55, 3) := by decide +kernel
theorem d_ThumbCore_poke_24 : decode b_ThumbCore_poke 24 = .ok (.ifCond .ne 5, 3) := by decide +kernel
theorem d_ThumbCore_poke_27 : decode b_ThumbCore_poke 27 = .ok (.iconst 0, 1) := by decide +kernel
theorem d_ThumbCore_poke_28 : decode b_ThumbCore_poke 28 = .ok (.ireturn, 1) := by decide +kernel
theorem d_ThumbCore_poke_29 : decode b_ThumbCore_poke 29 = .ok (.iconst 0, 1) := by decide +kernel
theorem d_ThumbCore_poke_30 : decode b_ThumbCore_poke 30 = .ok (.istore 4, 2) := by decide +kernel
theorem d_ThumbCore_poke_32 : decode b_ThumbCore_poke 32 = .ok (.iload 4, 2) := by decide +kernel
theorem d_ThumbCore_poke_34 : decode b_ThumbCore_poke 34 = .ok (.iload_n 3, 1) := by decide +kernel
theorem d_ThumbCore_poke_35 : decode b_ThumbCore_poke 35 = .ok (.if_icmp .ge 28, 3) := by decide +kernel
theorem d_ThumbCore_poke_38 : decode b_ThumbCore_poke 38 = .ok (.aload_n 0, 1) := by decide +kernel
theorem d_ThumbCore_poke_39 : decode b_ThumbCore_poke 39 = .ok (.getfield 21, 3) := by decide +kernel
theorem d_ThumbCore_poke_42 : decode b_ThumbCore_poke 42 = .ok (.iload_n 1, 1) := by decide +kernel
theorem d_ThumbCore_poke_43 : decode b_ThumbCore_poke 43 = .ok (.iload 4, 2) := by decide +kernel
theorem d_ThumbCore_poke_45 : decode b_ThumbCore_poke 45 = .ok (.iadd, 1) := by decide +kernel
theorem d_ThumbCore_poke_46 : decode b_ThumbCore_poke 46 = .ok (.iload_n 2, 1) := by decide +kernel
theorem d_ThumbCore_poke_47 : decode b_ThumbCore_poke 47 = .ok (.bipush 8, 2) := by decide +kernel
theorem d_ThumbCore_poke_49 : decode b_ThumbCore_poke 49 = .ok (.iload 4, 2) := by decide +kernel
theorem d_ThumbCore_poke_51 : decode b_ThumbCore_poke 51 = .ok (.imul, 1) := by decide +kernel
theorem d_ThumbCore_poke_52 : decode b_ThumbCore_poke 52 = .ok (.iushr, 1) := by decide +kernel
theorem d_ThumbCore_poke_53 : decode b_ThumbCore_poke 53 = .ok (.iconst 1, 1) := by decide +kernel
theorem d_ThumbCore_poke_54 : decode b_ThumbCore_poke 54 = .ok (.invokevirtual 59, 3) := by decide +kernel
theorem d_ThumbCore_poke_57 : decode b_ThumbCore_poke 57 = .ok (.iinc 4 1, 3) := by decide +kernel
theorem d_ThumbCore_poke_60 : decode b_ThumbCore_poke 60 = .ok (.goto (-28), 3) := by decide +kernel
theorem d_ThumbCore_poke_63 : decode b_ThumbCore_poke 63 = .ok (.iconst 1, 1) := by decide +kernel
theorem d_ThumbCore_poke_64 : decode b_ThumbCore_poke 64 = .ok (.ireturn, 1) := by decide +kernel
theorem d_ThumbCore_peek_0 : decode b_ThumbCore_peek 0 = .ok (.aload_n 0, 1) := by decide +kernel
theorem d_ThumbCore_peek_1 : decode b_ThumbCore_peek 1 = .ok (.getfield 21, 3) := by decide +kernel
theorem d_ThumbCore_peek_4 : decode b_ThumbCore_peek 4 = .ok (.iload_n 1, 1) := by decide +kernel
theorem d_ThumbCore_peek_5 : decode b_ThumbCore_peek 5 = .ok (.iconst 1, 1) := by decide +kernel
theorem d_ThumbCore_peek_6 : decode b_ThumbCore_peek 6 = .ok (.invokevirtual 55, 3) := by decide +kernel
theorem d_ThumbCore_peek_9 : decode b_ThumbCore_peek 9 = .ok (.ifCond .eq 15, 3) := by decide +kernel
theorem d_ThumbCore_peek_12 : decode b_ThumbCore_peek 12 = .ok (.aload_n 0, 1) := by decide +kernel
theorem d_ThumbCore_peek_13 : decode b_ThumbCore_peek 13 = .ok (.getfield 21, 3) := by decide +kernel
theorem d_ThumbCore_peek_16 : decode b_ThumbCore_peek 16 = .ok (.iload_n 1, 1) := by decide +kernel
theorem d_ThumbCore_peek_17 : decode b_ThumbCore_peek 17 = .ok (.iconst 1, 1) := by decide +kernel
theorem d_ThumbCore_peek_18 : decode b_ThumbCore_peek 18 = .ok (.invokevirtual 63, 3) := by decide +kernel
theorem d_ThumbCore_peek_21 : decode b_ThumbCore_peek 21 = .ok (.goto 4, 3) := by decide +kernel
theorem d_ThumbCore_peek_24 : decode b_ThumbCore_peek 24 = .ok (.iconst (-1), 1) := by decide +kernel
theorem d_ThumbCore_peek_25 : decode b_ThumbCore_peek 25 = .ok (.ireturn, 1) := by decide +kernel
theorem d_ThumbCore_reset_0 : decode b_ThumbCore_reset 0 = .ok (.iconst 0, 1) := by decide +kernel
theorem d_ThumbCore_reset_1 : decode b_ThumbCore_reset 1 = .ok (.istore_n 1, 1) := by decide +kernel
theorem d_ThumbCore_reset_2 : decode b_ThumbCore_reset 2 = .ok (.iload_n 1, 1) := by decide +kernel
theorem d_ThumbCore_reset_3 : decode b_ThumbCore_reset 3 = .ok (.bipush 13, 2) := by decide +kernel
theorem d_ThumbCore_reset_5 : decode b_ThumbCore_reset 5 = .ok (.if_icmp .ge 16, 3) := by decide +kernel
theorem d_ThumbCore_reset_8 : decode b_ThumbCore_reset 8 = .ok (.aload_n 0, 1) := by decide +kernel
theorem d_ThumbCore_reset_9 : decode b_ThumbCore_reset 9 = .ok (.getfield 27, 3) := by decide +kernel
theorem d_ThumbCore_reset_12 : decode b_ThumbCore_reset 12 = .ok (.iload_n 1, 1) := by decide +kernel
theorem d_ThumbCore_reset_13 : decode b_ThumbCore_reset 13 = .ok (.iconst 0, 1) := by decide +kernel
theorem d_ThumbCore_reset_14 : decode b_ThumbCore_reset 14 = .ok (.iastore, 1) := by decide +kernel
theorem d_ThumbCore_reset_15 : decode b_ThumbCore_reset 15 = .ok (.iinc 1 1, 3) := by decide +kernel
theorem d_ThumbCore_reset_18 : decode b_ThumbCore_reset 18 = .ok (.goto (-16), 3) := by decide +kernel
theorem d_ThumbCore_reset_21 : decode b_ThumbCore_reset 21 = .ok (.aload_n 0, 1) := by decide +kernel
theorem d_ThumbCore_reset_22 : decode b_ThumbCore_reset 22 = .ok (.getfield 27, 3) := by decide +kernel
theorem d_ThumbCore_reset_25 : decode b_ThumbCore_reset 25 = .ok (.bipush 13, 2) := by decide +kernel
theorem d_ThumbCore_reset_27 : decode b_ThumbCore_reset 27 = .ok (.aload_n 0, 1) := by decide +kernel
theorem d_ThumbCore_reset_28 : decode b_ThumbCore_reset 28 = .ok (.getfield 21, 3) := by decide +kernel
theorem d_ThumbCore_reset_31 : decode b_ThumbCore_reset 31 = .ok (.iconst 0, 1) := by decide +kernel
theorem d_ThumbCore_reset_32 : decode b_ThumbCore_reset 32 = .ok (.invokevirtual 66, 3) := by decide +kernel
theorem d_ThumbCore_reset_35 : decode b_ThumbCore_reset 35 = .ok (.bipush (-4), 2) := by decide +kernel
theorem d_ThumbCore_reset_37 : decode b_ThumbCore_reset 37 = .ok (.iand, 1) := by decide +kernel
theorem d_ThumbCore_reset_38 : decode b_ThumbCore_reset 38 = .ok (.iastore, 1) := by decide +kernel
theorem d_ThumbCore_reset_39 : decode b_ThumbCore_reset 39 = .ok (.aload_n 0, 1) := by decide +kernel
theorem d_ThumbCore_reset_40 : decode b_ThumbCore_reset 40 = .ok (.getfield 27, 3) := by decide +kernel
theorem d_ThumbCore_reset_43 : decode b_ThumbCore_reset 43 = .ok (.bipush 14, 2) := by decide +kernel
theorem d_ThumbCore_reset_45 : decode b_ThumbCore_reset 45 = .ok (.iconst (-1), 1) := by decide +kernel
theorem d_ThumbCore_reset_46 : decode b_ThumbCore_reset 46 = .ok (.iastore, 1) := by decide +kernel
theorem d_ThumbCore_reset_47 : decode b_ThumbCore_reset 47 = .ok (.aload_n 0, 1) := by decide +kernel
theorem d_ThumbCore_reset_48 : decode b_ThumbCore_reset 48 = .ok (.getfield 27, 3) := by decide +kernel
theorem d_ThumbCore_reset_51 : decode b_ThumbCore_reset 51 = .ok (.bipush 15, 2) := by decide +kernel
theorem d_ThumbCore_reset_53 : decode b_ThumbCore_reset 53 = .ok (.aload_n 0, 1) := by decide +kernel
theorem d_ThumbCore_reset_54 : decode b_ThumbCore_reset 54 = .ok (.getfield 21, 3) := by decide +kernel
theorem d_ThumbCore_reset_57 : decode b_ThumbCore_reset 57 = .ok (.iconst 4, 1) := by decide +kernel
theorem d_ThumbCore_reset_58 : decode b_ThumbCore_reset 58 = .ok (.invokevirtual 66, 3) := by decide +kernel
theorem d_ThumbCore_reset_61 : decode b_ThumbCore_reset 61 = .ok (.bipush (-2), 2) := by decide +kernel
theorem d_ThumbCore_reset_63 : decode b_ThumbCore_reset 63 = .ok (.iand, 1) := by decide +kernel
theorem d_ThumbCore_reset_64 : decode b_ThumbCore_reset 64 = .ok (.iastore, 1) := by decide +kernel
theorem d_ThumbCore_reset_65 : decode b_ThumbCore_reset 65 = .ok (.aload_n 0, 1) := by decide +kernel
theorem d_ThumbCore_reset_66 : decode b_ThumbCore_reset 66 = .ok (.getfield 34, 3) := by decide +kernel
theorem d_ThumbCore_reset_69 : decode b_ThumbCore_reset 69 = .ok (.iconst 0, 1) := by decide +kernel
theorem d_ThumbCore_reset_70 : decode b_ThumbCore_reset 70 = .ok (.invokevirtual 70, 3) := by decide +kernel
theorem d_ThumbCore_reset_73 : decode b_ThumbCore_reset 73 = .ok (.aload_n 0, 1) := by decide +kernel
theorem d_ThumbCore_reset_74 : decode b_ThumbCore_reset 74 = .ok (.getfield 41, 3) := by decide +kernel
theorem d_ThumbCore_reset_77 : decode b_ThumbCore_reset 77 = .ok (.invokevirtual 73, 3) := by decide +kernel
theorem d_ThumbCore_reset_80 : decode b_ThumbCore_reset 80 = .ok (.aload_n 0, 1) := by decide +kernel
theorem d_ThumbCore_reset_81 : decode b_ThumbCore_reset 81 = .ok (.getfield 48, 3) := by decide +kernel
theorem d_ThumbCore_reset_84 : decode b_ThumbCore_reset 84 = .ok (.iconst 0, 1) := by decide +kernel
theorem d_ThumbCore_reset_85 : decode b_ThumbCore_reset 85 = .ok (.iconst 0, 1) := by decide +kernel
theorem d_ThumbCore_reset_86 : decode b_ThumbCore_reset 86 = .ok (.invokevirtual 76, 3) := by decide +kernel
theorem d_ThumbCore_reset_89 : decode b_ThumbCore_reset 89 = .ok (.aload_n 0, 1) := by decide +kernel
theorem d_ThumbCore_reset_90 : decode b_ThumbCore_reset 90 = .ok (.iconst 0, 1) := by decide +kernel
theorem d_ThumbCore_reset_91 : decode b_ThumbCore_reset 91 = .ok (.putfield 80, 3) := by decide +kernel
theorem d_ThumbCore_reset_94 : decode b_ThumbCore_reset 94 = .ok (.aload_n 0, 1) := by decide +kernel
theorem d_ThumbCore_reset_95 : decode b_ThumbCore_reset 95 = .ok (.iconst 0, 1) := by decide +kernel
theorem d_ThumbCore_reset_96 : decode b_ThumbCore_reset 96 = .ok (.putfield 84, 3) := by decide +kernel
theorem d_ThumbCore_reset_99 : decode b_ThumbCore_reset 99 = .ok (.return_, 1) := by decide +kernel
theorem d_ThumbCore_step_0 : decode b_ThumbCore_step 0 = .ok (.aload_n 0, 1) := by decide +kernel
theorem d_ThumbCore_step_1 : decode b_ThumbCore_step 1 = .ok (.getfield 84, 3) := by decide +kernel
theorem d_ThumbCore_step_4 : decode b_ThumbCore_step 4 = .ok (.ifCond .eq 5, 3) := by decide +kernel
theorem d_ThumbCore_step_7 : decode b_ThumbCore_step 7 = .ok (.iconst 3, 1) := by decide +kernel
theorem d_ThumbCore_step_8 : decode b_ThumbCore_step 8 = .ok (.ireturn, 1) := by decide +kernel
theorem d_ThumbCore_step_9 : decode b_ThumbCore_step 9 = .ok (.aload_n 0, 1) := by decide +kernel
theorem d_ThumbCore_step_10 : decode b_ThumbCore_step 10 = .ok (.getfield 48, 3) := by decide +kernel
theorem d_ThumbCore_step_13 : decode b_ThumbCore_step 13 = .ok (.invokevirtual 87, 3) := by decide +kernel
theorem d_ThumbCore_step_16 : decode b_ThumbCore_step 16 = .ok (.ifCond .eq 12, 3) := by decide +kernel
theorem d_ThumbCore_step_19 : decode b_ThumbCore_step 19 = .ok (.aload_n 0, 1) := by decide +kernel
theorem d_ThumbCore_step_20 : decode b_ThumbCore_step 20 = .ok (.getfield 41, 3) := by decide +kernel
theorem d_ThumbCore_step_23 : decode b_ThumbCore_step 23 = .ok (.bipush 15, 2) := by decide +kernel
theorem d_ThumbCore_step_25 : decode b_ThumbCore_step 25 = .ok (.invokevirtual 91, 3) := by decide +kernel
theorem d_ThumbCore_step_28 : decode b_ThumbCore_step 28 = .ok (.aload_n 0, 1) := by decide +kernel
theorem d_ThumbCore_step_29 : decode b_ThumbCore_step 29 = .ok (.getfield 80, 3) := by decide +kernel
theorem d_ThumbCore_step_32 : decode b_ThumbCore_step 32 = .ok (.ifCond .eq 22, 3) := by decide +kernel
theorem d_ThumbCore_step_35 : decode b_ThumbCore_step 35 = .ok (.aload_n 0, 1) := by decide +kernel
theorem d_ThumbCore_step_36 : decode b_ThumbCore_step 36 = .ok (.getfield 41, 3) := by decide +kernel
theorem d_ThumbCore_step_39 : decode b_ThumbCore_step 39 = .ok (.aload_n 0, 1) := by decide +kernel
theorem d_ThumbCore_step_40 : decode b_ThumbCore_step 40 = .ok (.getfield 41, 3) := by decide +kernel
theorem d_ThumbCore_step_43 : decode b_ThumbCore_step 43 = .ok (.invokevirtual 94, 3) := by decide +kernel
theorem d_ThumbCore_step_46 : decode b_ThumbCore_step 46 = .ok (.invokevirtual 98, 3) := by decide +kernel
theorem d_ThumbCore_step_49 : decode b_ThumbCore_step 49 = .ok (.ifCond .ne 5, 3) := by decide +kernel
theorem d_ThumbCore_step_52 : decode b_ThumbCore_step 52 = .ok (.iconst 2, 1) := by decide +kernel
theorem d_ThumbCore_step_53 : decode b_ThumbCore_step 53 = .ok (.ireturn, 1) := by decide +kernel
theorem d_ThumbCore_step_54 : decode b_ThumbCore_step 54 = .ok (.aload_n 0, 1) := by decide +kernel
theorem d_ThumbCore_step_55 : decode b_ThumbCore_step 55 = .ok (.iconst 0, 1) := by decide +kernel
theorem d_ThumbCore_step_56 : decode b_ThumbCore_step 56 = .ok (.putfield 80, 3) := by decide +kernel
theorem d_ThumbCore_step_59 : decode b_ThumbCore_step 59 = .ok (.aload_n 0, 1) := by decide +kernel
theorem d_ThumbCore_step_60 : decode b_ThumbCore_step 60 = .ok (.getfield 41, 3) := by decide +kernel
theorem d_ThumbCore_step_63 : decode b_ThumbCore_step 63 = .ok (.aload_n 0, 1) := by decide +kernel
theorem d_ThumbCore_step_64 : decode b_ThumbCore_step 64 = .ok (.getfield 41, 3) := by decide +kernel
theorem d_ThumbCore_step_67 : decode b_ThumbCore_step 67 = .ok (.invokevirtual 101, 3) := by decide +kernel
theorem d_ThumbCore_step_70 : decode b_ThumbCore_step 70 = .ok (.invokevirtual 98, 3) := by decide +kernel
theorem d_ThumbCore_step_73 : decode b_ThumbCore_step 73 = .ok (.istore_n 1, 1) := by decide +kernel
theorem d_ThumbCore_step_74 : decode b_ThumbCore_step 74 = .ok (.iload_n 1, 1) := by decide +kernel
theorem d_ThumbCore_step_75 : decode b_ThumbCore_step 75 = .ok (.ifCond .eq 18, 3) := by decide +kernel
theorem d_ThumbCore_step_78 : decode b_ThumbCore_step 78 = .ok (.aload_n 0, 1) := by decide +kernel
theorem d_ThumbCore_step_79 : decode b_ThumbCore_step 79 = .ok (.iload_n 1, 1) := by decide +kernel
theorem d_ThumbCore_step_80 : decode b_ThumbCore_step 80 = .ok (.aload_n 0, 1) := by decide +kernel
theorem d_ThumbCore_step_81 : decode b_ThumbCore_step 81 = .ok (.getfield 27, 3) := by decide +kernel
theorem d_ThumbCore_step_84 : decode b_ThumbCore_step 84 = .ok (.bipush 15, 2) := by decide +kernel
theorem d_ThumbCore_step_86 : decode b_ThumbCore_step 86 = .ok (.iaload, 1) := by decide +kernel
theorem d_ThumbCore_step_87 : decode b_ThumbCore_step 87 = .ok (.invokevirtual 104, 3) := by decide +kernel
theorem d_ThumbCore_step_90 : decode b_ThumbCore_step 90 = .ok (.goto 28, 3) := by decide +kernel
theorem d_ThumbCore_step_93 : decode b_ThumbCore_step 93 = .ok (.aload_n 0, 1) := by decide +kernel
theorem d_ThumbCore_step_94 : decode b_ThumbCore_step 94 = .ok (.invokevirtual 108, 3) := by decide +kernel
theorem d_ThumbCore_step_97 : decode b_ThumbCore_step 97 = .ok (.ifCond .eq 17, 3) := by decide +kernel
theorem d_ThumbCore_step_100 : decode b_ThumbCore_step 100 = .ok (.aload_n 0, 1) := by decide +kernel
theorem d_ThumbCore_step_101 : decode b_ThumbCore_step 101 = .ok (.getfield 27, 3) := by decide +kernel
theorem d_ThumbCore_step_104 : decode b_ThumbCore_step 104 = .ok (.bipush 15, 2) := by decide +kernel
theorem d_ThumbCore_step_106 : decode b_ThumbCore_step 106 = .ok (.aload_n 0, 1) := by decide +kernel
theorem d_ThumbCore_step_107 : decode b_ThumbCore_step 107 = .ok (.getfield 111, 3) := by decide +kernel
theorem d_ThumbCore_step_110 : decode b_ThumbCore_step 110 = .ok (.iastore, 1) := by decide +kernel
theorem d_ThumbCore_step_111 : decode b_ThumbCore_step 111 = .ok (.goto 7, 3) := by decide +kernel
theorem d_ThumbCore_step_114 : decode b_ThumbCore_step 114 = .ok (.aload_n 0, 1) := by decide +kernel
theorem d_ThumbCore_step_115 : decode b_ThumbCore_step 115 = .ok (.invokevirtual 115, 3) := by decide +kernel
theorem d_ThumbCore_step_118 : decode b_ThumbCore_step 118 = .ok (.aload_n 0, 1) := by decide +kernel
theorem d_ThumbCore_step_119 : decode b_ThumbCore_step 119 = .ok (.getfield 84, 3) := by decide +kernel
theorem d_ThumbCore_step_122 : decode b_ThumbCore_step 122 = .ok (.ifCond .eq 5, 3) := by decide +kernel
theorem d_ThumbCore_step_125 : decode b_ThumbCore_step 125 = .ok (.iconst 3, 1) := by decide +kernel
theorem d_ThumbCore_step_126 : decode b_ThumbCore_step 126 = .ok (.ireturn, 1) := by decide +kernel
theorem d_ThumbCore_step_127 : decode b_ThumbCore_step 127 = .ok (.iload_n 1, 1) := by decide +kernel
theorem d_ThumbCore_step_128 : decode b_ThumbCore_step 128 = .ok (.ifCond .eq 7, 3) := by decide +kernel
theorem d_ThumbCore_step_131 : decode b_ThumbCore_step 131 = .ok (.iconst 1, 1) := by decide +kernel
theorem d_ThumbCore_step_132 : decode b_ThumbCore_step 132 = .ok (.goto 4, 3) := by decide +kernel
theorem d_ThumbCore_step_135 : decode b_ThumbCore_step 135 = .ok (.iconst 0, 1) := by decide +kernel
theorem d_ThumbCore_step_136 : decode b_ThumbCore_step 136 = .ok (.ireturn, 1) := by decide +kernel
theorem d_ThumbCore_run_0 : decode b_ThumbCore_run 0 = .ok (.iload_n 1, 1) := by decide +kernel
theorem d_ThumbCore_run_1 : decode b_ThumbCore_run 1 = .ok (.ifCond .lt 9, 3) := by decide +kernel
theorem d_ThumbCore_run_4 : decode b_ThumbCore_run 4 = .ok (.iload_n 1, 1) := by decide +kernel
theorem d_ThumbCore_run_5 : decode b_ThumbCore_run 5 = .ok (.bipush 100, 2) := by decide +kernel
theorem d_ThumbCore_run_7 : decode b_ThumbCore_run 7 = .ok (.if_icmp .le 5, 3) := by decide +kernel
theorem d_ThumbCore_run_10 : decode b_ThumbCore_run 10 = .ok (.iconst (-1), 1) := by decide +kernel
theorem d_ThumbCore_run_11 : decode b_ThumbCore_run 11 = .ok (.ireturn, 1) := by decide +kernel
theorem d_ThumbCore_run_12 : decode b_ThumbCore_run 12 = .ok (.iconst 0, 1) := by decide +kernel
theorem d_ThumbCore_run_13 : decode b_ThumbCore_run 13 = .ok (.istore_n 2, 1) := by decide +kernel
theorem d_ThumbCore_run_14 : decode b_ThumbCore_run 14 = .ok (.iload_n 2, 1) := by decide +kernel
theorem d_ThumbCore_run_15 : decode b_ThumbCore_run 15 = .ok (.iload_n 1, 1) := by decide +kernel
theorem d_ThumbCore_run_16 : decode b_ThumbCore_run 16 = .ok (.if_icmp .ge 26, 3) := by decide +kernel
theorem d_ThumbCore_run_19 : decode b_ThumbCore_run 19 = .ok (.aload_n 0, 1) := by decide +kernel
theorem d_ThumbCore_run_20 : decode b_ThumbCore_run 20 = .ok (.invokevirtual 118, 3) := by decide +kernel
theorem d_ThumbCore_run_23 : decode b_ThumbCore_run 23 = .ok (.istore_n 3, 1) := by decide +kernel
theorem d_ThumbCore_run_24 : decode b_ThumbCore_run 24 = .ok (.iload_n 3, 1) := by decide +kernel
theorem d_ThumbCore_run_25 : decode b_ThumbCore_run 25 = .ok (.iconst 2, 1) := by decide +kernel
theorem d_ThumbCore_run_26 : decode b_ThumbCore_run 26 = .ok (.if_icmp .eq 8, 3) := by decide +kernel
theorem d_ThumbCore_run_29 : decode b_ThumbCore_run 29 = .ok (.iload_n 3, 1) := by decide +kernel
theorem d_ThumbCore_run_30 : decode b_ThumbCore_run 30 = .ok (.iconst 3, 1) := by decide +kernel
theorem d_ThumbCore_run_31 : decode b_ThumbCore_run 31 = .ok (.if_icmp .ne 5, 3) := by decide +kernel
theorem d_ThumbCore_run_34 : decode b_ThumbCore_run 34 = .ok (.iload_n 2, 1) := by decide +kernel
theorem d_ThumbCore_run_35 : decode b_ThumbCore_run 35 = .ok (.ireturn, 1) := by decide +kernel
theorem d_ThumbCore_run_36 : decode b_ThumbCore_run 36 = .ok (.iinc 2 1, 3) := by decide +kernel
theorem d_ThumbCore_run_39 : decode b_ThumbCore_run 39 = .ok (.goto (-25), 3) := by decide +kernel
theorem d_ThumbCore_run_42 : decode b_ThumbCore_run 42 = .ok (.iload_n 1, 1) := by decide +kernel
theorem d_ThumbCore_run_43 : decode b_ThumbCore_run 43 = .ok (.ireturn, 1) := by decide +kernel
theorem d_ThumbCore_register_0 : decode b_ThumbCore_register 0 = .ok (.iload_n 1, 1) := by decide +kernel
theorem d_ThumbCore_register_1 : decode b_ThumbCore_register 1 = .ok (.ifCond .lt 18, 3) := by decide +kernel
theorem d_ThumbCore_register_4 : decode b_ThumbCore_register 4 = .ok (.iload_n 1, 1) := by decide +kernel
theorem d_ThumbCore_register_5 : decode b_ThumbCore_register 5 = .ok (.bipush 15, 2) := by decide +kernel
theorem d_ThumbCore_register_7 : decode b_ThumbCore_register 7 = .ok (.if_icmp .gt 12, 3) := by decide +kernel
theorem d_ThumbCore_register_10 : decode b_ThumbCore_register 10 = .ok (.aload_n 0, 1) := by decide +kernel
theorem d_ThumbCore_register_11 : decode b_ThumbCore_register 11 = .ok (.getfield 27, 3) := by decide +kernel
theorem d_ThumbCore_register_14 : decode b_ThumbCore_register 14 = .ok (.iload_n 1, 1) := by decide +kernel
theorem d_ThumbCore_register_15 : decode b_ThumbCore_register 15 = .ok (.iaload, 1) := by decide +kernel
theorem d_ThumbCore_register_16 : decode b_ThumbCore_register 16 = .ok (.goto 4, 3) := by decide +kernel
theorem d_ThumbCore_register_19 : decode b_ThumbCore_register 19 = .ok (.iconst 0, 1) := by decide +kernel
theorem d_ThumbCore_register_20 : decode b_ThumbCore_register 20 = .ok (.ireturn, 1) := by decide +kernel
theorem d_ThumbCore_set_0 : decode b_ThumbCore_set 0 = .ok (.iload_n 1, 1) := by decide +kernel
theorem d_ThumbCore_set_1 : decode b_ThumbCore_set 1 = .ok (.ifCond .lt 9, 3) := by decide +kernel
theorem d_ThumbCore_set_4 : decode b_ThumbCore_set 4 = .ok (.iload_n 1, 1) := by decide +kernel
theorem d_ThumbCore_set_5 : decode b_ThumbCore_set 5 = .ok (.bipush 15, 2) := by decide +kernel
theorem d_ThumbCore_set_7 : decode b_ThumbCore_set 7 = .ok (.if_icmp .le 5, 3) := by decide +kernel
theorem d_ThumbCore_set_10 : decode b_ThumbCore_set 10 = .ok (.iconst 0, 1) := by decide +kernel
theorem d_ThumbCore_set_11 : decode b_ThumbCore_set 11 = .ok (.ireturn, 1) := by decide +kernel
theorem d_ThumbCore_set_12 : decode b_ThumbCore_set 12 = .ok (.aload_n 0, 1) := by decide +kernel
theorem d_ThumbCore_set_13 : decode b_ThumbCore_set 13 = .ok (.getfield 27, 3) := by decide +kernel
theorem d_ThumbCore_set_16 : decode b_ThumbCore_set 16 = .ok (.iload_n 1, 1) := by decide +kernel
theorem d_ThumbCore_set_17 : decode b_ThumbCore_set 17 = .ok (.iload_n 1, 1) := by decide +kernel
theorem d_ThumbCore_set_18 : decode b_ThumbCore_set 18 = .ok (.iload_n 2, 1) := by decide +kernel
theorem d_ThumbCore_set_19 : decode b_ThumbCore_set 19 = .ok (.invokestatic 121, 3) := by decide +kernel
theorem d_ThumbCore_set_22 : decode b_ThumbCore_set 22 = .ok (.iastore, 1) := by decide +kernel
theorem d_ThumbCore_set_23 : decode b_ThumbCore_set 23 = .ok (.iconst 1, 1) := by decide +kernel
theorem d_ThumbCore_set_24 : decode b_ThumbCore_set 24 = .ok (.ireturn, 1) := by decide +kernel
theorem d_ThumbCore_status_0 : decode b_ThumbCore_status 0 = .ok (.aload_n 0, 1) := by decide +kernel
theorem d_ThumbCore_status_1 : decode b_ThumbCore_status 1 = .ok (.getfield 34, 3) := by decide +kernel
theorem d_ThumbCore_status_4 : decode b_ThumbCore_status 4 = .ok (.invokevirtual 124, 3) := by decide +kernel
theorem d_ThumbCore_status_7 : decode b_ThumbCore_status 7 = .ok (.ldc 127, 2) := by decide +kernel
theorem d_ThumbCore_status_9 : decode b_ThumbCore_status 9 = .ok (.ior, 1) := by decide +kernel
theorem d_ThumbCore_status_10 : decode b_ThumbCore_status 10 = .ok (.aload_n 0, 1) := by decide +kernel
theorem d_ThumbCore_status_11 : decode b_ThumbCore_status 11 = .ok (.getfield 41, 3) := by decide +kernel
theorem d_ThumbCore_status_14 : decode b_ThumbCore_status 14 = .ok (.getfield 128, 3) := by decide +kernel
theorem d_ThumbCore_status_17 : decode b_ThumbCore_status 17 = .ok (.ior, 1) := by decide +kernel
theorem d_ThumbCore_status_18 : decode b_ThumbCore_status 18 = .ok (.ireturn, 1) := by decide +kernel
theorem d_ThumbCore_about_0 : decode b_ThumbCore_about 0 = .ok (.iload_n 1, 1) := by decide +kernel
theorem d_ThumbCore_about_1 : decode b_ThumbCore_about 1 = .ok (.tableswitch 120 0 6 #[43, 51, 62, 78, 91, 104, 112], 43) := by decide +kernel
theorem d_ThumbCore_about_44 : decode b_ThumbCore_about 44 = .ok (.aload_n 0, 1) := by decide +kernel
theorem d_ThumbCore_about_45 : decode b_ThumbCore_about 45 = .ok (.getfield 41, 3) := by decide +kernel
theorem d_ThumbCore_about_48 : decode b_ThumbCore_about 48 = .ok (.getfield 128, 3) := by decide +kernel
theorem d_ThumbCore_about_51 : decode b_ThumbCore_about 51 = .ok (.ireturn, 1) := by decide +kernel
theorem d_ThumbCore_about_52 : decode b_ThumbCore_about 52 = .ok (.aload_n 0, 1) := by decide +kernel
theorem d_ThumbCore_about_53 : decode b_ThumbCore_about 53 = .ok (.getfield 41, 3) := by decide +kernel
theorem d_ThumbCore_about_56 : decode b_ThumbCore_about 56 = .ok (.getfield 131, 3) := by decide +kernel
theorem d_ThumbCore_about_59 : decode b_ThumbCore_about 59 = .ok (.invokestatic 134, 3) := by decide +kernel
theorem d_ThumbCore_about_62 : decode b_ThumbCore_about 62 = .ok (.ireturn, 1) := by decide +kernel
theorem d_ThumbCore_about_63 : decode b_ThumbCore_about 63 = .ok (.aload_n 0, 1) := by decide +kernel
theorem d_ThumbCore_about_64 : decode b_ThumbCore_about 64 = .ok (.getfield 41, 3) := by decide +kernel
theorem d_ThumbCore_about_67 : decode b_ThumbCore_about 67 = .ok (.getfield 139, 3) := by decide +kernel
theorem d_ThumbCore_about_70 : decode b_ThumbCore_about 70 = .ok (.ifCond .eq 7, 3) := by decide +kernel
theorem d_ThumbCore_about_73 : decode b_ThumbCore_about 73 = .ok (.iconst 1, 1) := by decide +kernel
theorem d_ThumbCore_about_74 : decode b_ThumbCore_about 74 = .ok (.goto 4, 3) := by decide +kernel
theorem d_ThumbCore_about_77 : decode b_ThumbCore_about 77 = .ok (.iconst 0, 1) := by decide +kernel
theorem d_ThumbCore_about_78 : decode b_ThumbCore_about 78 = .ok (.ireturn, 1) := by decide +kernel
theorem d_ThumbCore_about_79 : decode b_ThumbCore_about 79 = .ok (.aload_n 0, 1) := by decide +kernel
theorem d_ThumbCore_about_80 : decode b_ThumbCore_about 80 = .ok (.getfield 80, 3) := by decide +kernel
theorem d_ThumbCore_about_83 : decode b_ThumbCore_about 83 = .ok (.ifCond .eq 7, 3) := by decide +kernel
theorem d_ThumbCore_about_86 : decode b_ThumbCore_about 86 = .ok (.iconst 1, 1) := by decide +kernel
theorem d_ThumbCore_about_87 : decode b_ThumbCore_about 87 = .ok (.goto 4, 3) := by decide +kernel
theorem d_ThumbCore_about_90 : decode b_ThumbCore_about 90 = .ok (.iconst 0, 1) := by decide +kernel
theorem d_ThumbCore_about_91 : decode b_ThumbCore_about 91 = .ok (.ireturn, 1) := by decide +kernel
theorem d_ThumbCore_about_92 : decode b_ThumbCore_about 92 = .ok (.aload_n 0, 1) := by decide +kernel
theorem d_ThumbCore_about_93 : decode b_ThumbCore_about 93 = .ok (.getfield 84, 3) := by decide +kernel
theorem d_ThumbCore_about_96 : decode b_ThumbCore_about 96 = .ok (.ifCond .eq 7, 3) := by decide +kernel
theorem d_ThumbCore_about_99 : decode b_ThumbCore_about 99 = .ok (.iconst 1, 1) := by decide +kernel
theorem d_ThumbCore_about_100 : decode b_ThumbCore_about 100 = .ok (.goto 4, 3) := by decide +kernel
theorem d_ThumbCore_about_103 : decode b_ThumbCore_about 103 = .ok (.iconst 0, 1) := by decide +kernel
theorem d_ThumbCore_about_104 : decode b_ThumbCore_about 104 = .ok (.ireturn, 1) := by decide +kernel
theorem d_ThumbCore_about_105 : decode b_ThumbCore_about 105 = .ok (.aload_n 0, 1) := by decide +kernel
theorem d_ThumbCore_about_106 : decode b_ThumbCore_about 106 = .ok (.getfield 48, 3) := by decide +kernel
theorem d_ThumbCore_about_109 : decode b_ThumbCore_about 109 = .ok (.getfield 142, 3) := by decide +kernel
theorem d_ThumbCore_about_112 : decode b_ThumbCore_about 112 = .ok (.ireturn, 1) := by decide +kernel
theorem d_ThumbCore_about_113 : decode b_ThumbCore_about 113 = .ok (.aload_n 0, 1) := by decide +kernel
theorem d_ThumbCore_about_114 : decode b_ThumbCore_about 114 = .ok (.getfield 41, 3) := by decide +kernel
theorem d_ThumbCore_about_117 : decode b_ThumbCore_about 117 = .ok (.invokevirtual 101, 3) := by decide +kernel
theorem d_ThumbCore_about_120 : decode b_ThumbCore_about 120 = .ok (.ireturn, 1) := by decide +kernel
theorem d_ThumbCore_about_121 : decode b_ThumbCore_about 121 = .ok (.iconst (-1), 1) := by decide +kernel
theorem d_ThumbCore_about_122 : decode b_ThumbCore_about 122 = .ok (.ireturn, 1) := by decide +kernel
theorem d_ThumbCore_pend_0 : decode b_ThumbCore_pend 0 = .ok (.iload_n 1, 1) := by decide +kernel
theorem d_ThumbCore_pend_1 : decode b_ThumbCore_pend 1 = .ok (.iconst 2, 1) := by decide +kernel
theorem d_ThumbCore_pend_2 : decode b_ThumbCore_pend 2 = .ok (.if_icmp .eq 17, 3) := by decide +kernel
theorem d_ThumbCore_pend_5 : decode b_ThumbCore_pend 5 = .ok (.iload_n 1, 1) := by decide +kernel
theorem d_ThumbCore_pend_6 : decode b_ThumbCore_pend 6 = .ok (.bipush 14, 2) := by decide +kernel
theorem d_ThumbCore_pend_8 : decode b_ThumbCore_pend 8 = .ok (.if_icmp .eq 11, 3) := by decide +kernel
theorem d_ThumbCore_pend_11 : decode b_ThumbCore_pend 11 = .ok (.iload_n 1, 1) := by decide +kernel
theorem d_ThumbCore_pend_12 : decode b_ThumbCore_pend 12 = .ok (.bipush 15, 2) := by decide +kernel
theorem d_ThumbCore_pend_14 : decode b_ThumbCore_pend 14 = .ok (.if_icmp .eq 5, 3) := by decide +kernel
theorem d_ThumbCore_pend_17 : decode b_ThumbCore_pend 17 = .ok (.iconst 0, 1) := by decide +kernel
theorem d_ThumbCore_pend_18 : decode b_ThumbCore_pend 18 = .ok (.ireturn, 1) := by decide +kernel
theorem d_ThumbCore_pend_19 : decode b_ThumbCore_pend 19 = .ok (.aload_n 0, 1) := by decide +kernel
theorem d_ThumbCore_pend_20 : decode b_ThumbCore_pend 20 = .ok (.getfield 41, 3) := by decide +kernel
theorem d_ThumbCore_pend_23 : decode b_ThumbCore_pend 23 = .ok (.iload_n 1, 1) := by decide +kernel
theorem d_ThumbCore_pend_24 : decode b_ThumbCore_pend 24 = .ok (.invokevirtual 91, 3) := by decide +kernel
theorem d_ThumbCore_pend_27 : decode b_ThumbCore_pend 27 = .ok (.iconst 1, 1) := by decide +kernel
theorem d_ThumbCore_pend_28 : decode b_ThumbCore_pend 28 = .ok (.ireturn, 1) := by decide +kernel
theorem d_ThumbCore_exception_0 : decode b_ThumbCore_exception 0 = .ok (.aload_n 0, 1) := by decide +kernel
theorem d_ThumbCore_exception_1 : decode b_ThumbCore_exception 1 = .ok (.getfield 41, 3) := by decide +kernel
theorem d_ThumbCore_exception_4 : decode b_ThumbCore_exception 4 = .ok (.iload_n 1, 1) := by decide +kernel
theorem d_ThumbCore_exception_5 : decode b_ThumbCore_exception 5 = .ok (.invokevirtual 145, 3) := by decide +kernel
theorem d_ThumbCore_exception_8 : decode b_ThumbCore_exception 8 = .ok (.ifCond .eq 7, 3) := by decide +kernel
theorem d_ThumbCore_exception_11 : decode b_ThumbCore_exception 11 = .ok (.iconst 1, 1) := by decide +kernel
theorem d_ThumbCore_exception_12 : decode b_ThumbCore_exception 12 = .ok (.goto 4, 3) := by decide +kernel
theorem d_ThumbCore_exception_15 : decode b_ThumbCore_exception 15 = .ok (.iconst 0, 1) := by decide +kernel
theorem d_ThumbCore_exception_16 : decode b_ThumbCore_exception 16 = .ok (.aload_n 0, 1) := by decide +kernel
theorem d_ThumbCore_exception_17 : decode b_ThumbCore_exception 17 = .ok (.getfield 41, 3) := by decide +kernel
theorem d_ThumbCore_exception_20 : decode b_ThumbCore_exception 20 = .ok (.iload_n 1, 1) := by decide +kernel
theorem d_ThumbCore_exception_21 : decode b_ThumbCore_exception 21 = .ok (.invokevirtual 149, 3) := by decide +kernel
theorem d_ThumbCore_exception_24 : decode b_ThumbCore_exception 24 = .ok (.ifCond .eq 7, 3) := by decide +kernel
theorem d_ThumbCore_exception_27 : decode b_ThumbCore_exception 27 = .ok (.iconst 2, 1) := by decide +kernel
theorem d_ThumbCore_exception_28 : decode b_ThumbCore_exception 28 = .ok (.goto 4, 3) := by decide +kernel
theorem d_ThumbCore_exception_31 : decode b_ThumbCore_exception 31 = .ok (.iconst 0, 1) := by decide +kernel
theorem d_ThumbCore_exception_32 : decode b_ThumbCore_exception 32 = .ok (.iadd, 1) := by decide +kernel
theorem d_ThumbCore_exception_33 : decode b_ThumbCore_exception 33 = .ok (.ireturn, 1) := by decide +kernel
theorem d_ThumbCore_priority_0 : decode b_ThumbCore_priority 0 = .ok (.iload_n 1, 1) := by decide +kernel
theorem d_ThumbCore_priority_1 : decode b_ThumbCore_priority 1 = .ok (.bipush 11, 2) := by decide +kernel
theorem d_ThumbCore_priority_3 : decode b_ThumbCore_priority 3 = .ok (.if_icmp .eq 15, 3) := by decide +kernel
theorem d_ThumbCore_priority_6 : decode b_ThumbCore_priority 6 = .ok (.iload_n 1, 1) := by decide +kernel
theorem d_ThumbCore_priority_7 : decode b_ThumbCore_priority 7 = .ok (.bipush 14, 2) := by decide +kernel
theorem d_ThumbCore_priority_9 : decode b_ThumbCore_priority 9 = .ok (.if_icmp .eq 9, 3) := by decide +kernel
theorem d_ThumbCore_priority_12 : decode b_ThumbCore_priority 12 = .ok (.iload_n 1, 1) := by decide +kernel
theorem d_ThumbCore_priority_13 : decode b_ThumbCore_priority 13 = .ok (.bipush 15, 2) := by decide +kernel
theorem d_ThumbCore_priority_15 : decode b_ThumbCore_priority 15 = .ok (.if_icmp .ne 7, 3) := by decide +kernel
theorem d_ThumbCore_priority_18 : decode b_ThumbCore_priority 18 = .ok (.iconst 1, 1) := by decide +kernel
theorem d_ThumbCore_priority_19 : decode b_ThumbCore_priority 19 = .ok (.goto 4, 3) := by decide +kernel
theorem d_ThumbCore_priority_22 : decode b_ThumbCore_priority 22 = .ok (.iconst 0, 1) := by decide +kernel
theorem d_ThumbCore_priority_23 : decode b_ThumbCore_priority 23 = .ok (.istore_n 3, 1) := by decide +kernel
theorem d_ThumbCore_priority_24 : decode b_ThumbCore_priority 24 = .ok (.iload_n 3, 1) := by decide +kernel
theorem d_ThumbCore_priority_25 : decode b_ThumbCore_priority 25 = .ok (.ifCond .eq 12, 3) := by decide +kernel
theorem d_ThumbCore_priority_28 : decode b_ThumbCore_priority 28 = .ok (.iload_n 2, 1) := by decide +kernel
theorem d_ThumbCore_priority_29 : decode b_ThumbCore_priority 29 = .ok (.ifCond .lt 8, 3) := by decide +kernel
theorem d_ThumbCore_priority_32 : decode b_ThumbCore_priority 32 = .ok (.iload_n 2, 1) := by decide +kernel
theorem d_ThumbCore_priority_33 : decode b_ThumbCore_priority 33 = .ok (.iconst 3, 1) := by decide +kernel
theorem d_ThumbCore_priority_34 : decode b_ThumbCore_priority 34 = .ok (.if_icmp .le 5, 3) := by decide +kernel
theorem d_ThumbCore_priority_37 : decode b_ThumbCore_priority 37 = .ok (.iconst 0, 1) := by decide +kernel
theorem d_ThumbCore_priority_38 : decode b_ThumbCore_priority 38 = .ok (.ireturn, 1) := by decide +kernel
theorem d_ThumbCore_priority_39 : decode b_ThumbCore_priority 39 = .ok (.aload_n 0, 1) := by decide +kernel
theorem d_ThumbCore_priority_40 : decode b_ThumbCore_priority 40 = .ok (.getfield 41, 3) := by decide +kernel
theorem d_ThumbCore_priority_43 : decode b_ThumbCore_priority 43 = .ok (.getfield 152, 3) := by decide +kernel
theorem d_ThumbCore_priority_46 : decode b_ThumbCore_priority 46 = .ok (.iload_n 1, 1) := by decide +kernel
theorem d_ThumbCore_priority_47 : decode b_ThumbCore_priority 47 = .ok (.iload_n 2, 1) := by decide +kernel
theorem d_ThumbCore_priority_48 : decode b_ThumbCore_priority 48 = .ok (.iastore, 1) := by decide +kernel
theorem d_ThumbCore_priority_49 : decode b_ThumbCore_priority 49 = .ok (.iconst 1, 1) := by decide +kernel
theorem d_ThumbCore_priority_50 : decode b_ThumbCore_priority 50 = .ok (.ireturn, 1) := by decide +kernel
theorem d_ThumbCore_tick_0 : decode b_ThumbCore_tick 0 = .ok (.iload_n 1, 1) := by decide +kernel
theorem d_ThumbCore_tick_1 : decode b_ThumbCore_tick 1 = .ok (.ifCond .lt 10, 3) := by decide +kernel
theorem d_ThumbCore_tick_4 : decode b_ThumbCore_tick 4 = .ok (.iload_n 1, 1) := by decide +kernel
theorem d_ThumbCore_tick_5 : decode b_ThumbCore_tick 5 = .ok (.sipush 1000, 3) := by decide +kernel
theorem d_ThumbCore_tick_8 : decode b_ThumbCore_tick 8 = .ok (.if_icmp .le 5, 3) := by decide +kernel
theorem d_ThumbCore_tick_11 : decode b_ThumbCore_tick 11 = .ok (.iconst 0, 1) := by decide +kernel
theorem d_ThumbCore_tick_12 : decode b_ThumbCore_tick 12 = .ok (.ireturn, 1) := by decide +kernel
theorem d_ThumbCore_tick_13 : decode b_ThumbCore_tick 13 = .ok (.aload_n 0, 1) := by decide +kernel
theorem d_ThumbCore_tick_14 : decode b_ThumbCore_tick 14 = .ok (.getfield 48, 3) := by decide +kernel
theorem d_ThumbCore_tick_17 : decode b_ThumbCore_tick 17 = .ok (.iload_n 1, 1) := by decide +kernel
theorem d_ThumbCore_tick_18 : decode b_ThumbCore_tick 18 = .ok (.iload_n 2, 1) := by decide +kernel
theorem d_ThumbCore_tick_19 : decode b_ThumbCore_tick 19 = .ok (.invokevirtual 76, 3) := by decide +kernel
theorem d_ThumbCore_tick_22 : decode b_ThumbCore_tick 22 = .ok (.iconst 1, 1) := by decide +kernel
theorem d_ThumbCore_tick_23 : decode b_ThumbCore_tick 23 = .ok (.ireturn, 1) := by decide +kernel
theorem d_ThumbCore_fitting_0 : decode b_ThumbCore_fitting 0 = .ok (.iload_n 0, 1) := by decide +kernel
theorem d_ThumbCore_fitting_1 : decode b_ThumbCore_fitting 1 = .ok (.bipush 13, 2) := by decide +kernel
theorem d_ThumbCore_fitting_3 : decode b_ThumbCore_fitting 3 = .ok (.if_icmp .ne 8, 3) := by decide +kernel
theorem d_ThumbCore_fitting_6 : decode b_ThumbCore_fitting 6 = .ok (.iload_n 1, 1) := by decide +kernel
theorem d_ThumbCore_fitting_7 : decode b_ThumbCore_fitting 7 = .ok (.bipush (-4), 2) := by decide +kernel
theorem d_ThumbCore_fitting_9 : decode b_ThumbCore_fitting 9 = .ok (.iand, 1) := by decide +kernel
theorem d_ThumbCore_fitting_10 : decode b_ThumbCore_fitting 10 = .ok (.ireturn, 1) := by decide +kernel
theorem d_ThumbCore_fitting_11 : decode b_ThumbCore_fitting 11 = .ok (.iload_n 0, 1) := by decide +kernel
theorem d_ThumbCore_fitting_12 : decode b_ThumbCore_fitting 12 = .ok (.bipush 15, 2) := by decide +kernel
theorem d_ThumbCore_fitting_14 : decode b_ThumbCore_fitting 14 = .ok (.if_icmp .ne 10, 3) := by decide +kernel
theorem d_ThumbCore_fitting_17 : decode b_ThumbCore_fitting 17 = .ok (.iload_n 1, 1) := by decide +kernel
theorem d_ThumbCore_fitting_18 : decode b_ThumbCore_fitting 18 = .ok (.bipush (-2), 2) := by decide +kernel
theorem d_ThumbCore_fitting_20 : decode b_ThumbCore_fitting 20 = .ok (.iand, 1) := by decide +kernel
theorem d_ThumbCore_fitting_21 : decode b_ThumbCore_fitting 21 = .ok (.goto 4, 3) := by decide +kernel
theorem d_ThumbCore_fitting_24 : decode b_ThumbCore_fitting 24 = .ok (.iload_n 1, 1) := by decide +kernel
theorem d_ThumbCore_fitting_25 : decode b_ThumbCore_fitting 25 = .ok (.ireturn, 1) := by decide +kernel
theorem d_ThumbCore_perform_0 : decode b_ThumbCore_perform 0 = .ok (.aload_n 0, 1) := by decide +kernel
theorem d_ThumbCore_perform_1 : decode b_ThumbCore_perform 1 = .ok (.aload_n 0, 1) := by decide +kernel
theorem d_ThumbCore_perform_2 : decode b_ThumbCore_perform 2 = .ok (.getfield 27, 3) := by decide +kernel
theorem d_ThumbCore_perform_5 : decode b_ThumbCore_perform 5 = .ok (.bipush 15, 2) := by decide +kernel
theorem d_ThumbCore_perform_7 : decode b_ThumbCore_perform 7 = .ok (.iaload, 1) := by decide +kernel
theorem d_ThumbCore_perform_8 : decode b_ThumbCore_perform 8 = .ok (.iconst 2, 1) := by decide +kernel
theorem d_ThumbCore_perform_9 : decode b_ThumbCore_perform 9 = .ok (.iadd, 1) := by decide +kernel
theorem d_ThumbCore_perform_10 : decode b_ThumbCore_perform 10 = .ok (.putfield 111, 3) := by decide +kernel
theorem d_ThumbCore_perform_13 : decode b_ThumbCore_perform 13 = .ok (.aload_n 0, 1) := by decide +kernel
theorem d_ThumbCore_perform_14 : decode b_ThumbCore_perform 14 = .ok (.getfield 21, 3) := by decide +kernel
theorem d_ThumbCore_perform_17 : decode b_ThumbCore_perform 17 = .ok (.aload_n 0, 1) := by decide +kernel
theorem d_ThumbCore_perform_18 : decode b_ThumbCore_perform 18 = .ok (.getfield 27, 3) := by decide +kernel
theorem d_ThumbCore_perform_21 : decode b_ThumbCore_perform 21 = .ok (.bipush 15, 2) := by decide +kernel
theorem d_ThumbCore_perform_23 : decode b_ThumbCore_perform 23 = .ok (.iaload, 1) := by decide +kernel
theorem d_ThumbCore_perform_24 : decode b_ThumbCore_perform 24 = .ok (.iconst 2, 1) := by decide +kernel
theorem d_ThumbCore_perform_25 : decode b_ThumbCore_perform 25 = .ok (.invokevirtual 155, 3) := by decide +kernel
theorem d_ThumbCore_perform_28 : decode b_ThumbCore_perform 28 = .ok (.ifCond .ne 5, 3) := by decide +kernel
theorem d_ThumbCore_perform_31 : decode b_ThumbCore_perform 31 = .ok (.iconst 0, 1) := by decide +kernel
theorem d_ThumbCore_perform_32 : decode b_ThumbCore_perform 32 = .ok (.ireturn, 1) := by decide +kernel
theorem d_ThumbCore_perform_33 : decode b_ThumbCore_perform 33 = .ok (.aload_n 0, 1) := by decide +kernel
theorem d_ThumbCore_perform_34 : decode b_ThumbCore_perform 34 = .ok (.getfield 21, 3) := by decide +kernel
theorem d_ThumbCore_perform_37 : decode b_ThumbCore_perform 37 = .ok (.aload_n 0, 1) := by decide +kernel
theorem d_ThumbCore_perform_38 : decode b_ThumbCore_perform 38 = .ok (.getfield 27, 3) := by decide +kernel
theorem d_ThumbCore_perform_41 : decode b_ThumbCore_perform 41 = .ok (.bipush 15, 2) := by decide +kernel
theorem d_ThumbCore_perform_43 : decode b_ThumbCore_perform 43 = .ok (.iaload, 1) := by decide +kernel
theorem d_ThumbCore_perform_44 : decode b_ThumbCore_perform 44 = .ok (.iconst 2, 1) := by decide +kernel
theorem d_ThumbCore_perform_45 : decode b_ThumbCore_perform 45 = .ok (.invokevirtual 63, 3) := by decide +kernel
theorem d_ThumbCore_perform_48 : decode b_ThumbCore_perform 48 = .ok (.istore_n 1, 1) := by decide +kernel
theorem d_ThumbCore_perform_49 : decode b_ThumbCore_perform 49 = .ok (.iload_n 1, 1) := by decide +kernel
theorem d_ThumbCore_perform_50 : decode b_ThumbCore_perform 50 = .ok (.bipush 11, 2) := by decide +kernel
theorem d_ThumbCore_perform_52 : decode b_ThumbCore_perform 52 = .ok (.iushr, 1) := by decide +kernel
theorem d_ThumbCore_perform_53 : decode b_ThumbCore_perform 53 = .ok (.tableswitch 276 0 30 #[139, 139, 139, 145, 151, 151, 151, 151, 157, 180, 186, 186, 192, 192, 192, 192, 192, 192, 180, 180, 180, 180, 198, 198, 204, 221, 238, 238, 252, 276, 270], 139) := by decide +kernel
theorem d_ThumbCore_perform_192 : decode b_ThumbCore_perform 192 = .ok (.aload_n 0, 1) := by decide +kernel
theorem d_ThumbCore_perform_193 : decode b_ThumbCore_perform 193 = .ok (.iload_n 1, 1) := by decide +kernel
theorem d_ThumbCore_perform_194 : decode b_ThumbCore_perform 194 = .ok (.invokevirtual 158, 3) := by decide +kernel
theorem d_ThumbCore_perform_197 : decode b_ThumbCore_perform 197 = .ok (.ireturn, 1) := by decide +kernel
theorem d_ThumbCore_perform_198 : decode b_ThumbCore_perform 198 = .ok (.aload_n 0, 1) := by decide +kernel
theorem d_ThumbCore_perform_199 : decode b_ThumbCore_perform 199 = .ok (.iload_n 1, 1) := by decide +kernel
theorem d_ThumbCore_perform_200 : decode b_ThumbCore_perform 200 = .ok (.invokevirtual 161, 3) := by decide +kernel
theorem d_ThumbCore_perform_203 : decode b_ThumbCore_perform 203 = .ok (.ireturn, 1) := by decide +kernel
theorem d_ThumbCore_perform_204 : decode b_ThumbCore_perform 204 = .ok (.aload_n 0, 1) := by decide +kernel
theorem d_ThumbCore_perform_205 : decode b_ThumbCore_perform 205 = .ok (.iload_n 1, 1) := by decide +kernel
theorem d_ThumbCore_perform_206 : decode b_ThumbCore_perform 206 = .ok (.invokevirtual 164, 3) := by decide +kernel
theorem d_ThumbCore_perform_209 : decode b_ThumbCore_perform 209 = .ok (.ireturn, 1) := by decide +kernel
theorem d_ThumbCore_perform_210 : decode b_ThumbCore_perform 210 = .ok (.iload_n 1, 1) := by decide +kernel
theorem d_ThumbCore_perform_211 : decode b_ThumbCore_perform 211 = .ok (.bipush 10, 2) := by decide +kernel
theorem d_ThumbCore_perform_213 : decode b_ThumbCore_perform 213 = .ok (.iushr, 1) := by decide +kernel
theorem d_ThumbCore_perform_214 : decode b_ThumbCore_perform 214 = .ok (.bipush 16, 2) := by decide +kernel
theorem d_ThumbCore_perform_216 : decode b_ThumbCore_perform 216 = .ok (.if_icmp .ne 11, 3) := by decide +kernel
theorem d_ThumbCore_perform_219 : decode b_ThumbCore_perform 219 = .ok (.aload_n 0, 1) := by decide +kernel
theorem d_ThumbCore_perform_220 : decode b_ThumbCore_perform 220 = .ok (.iload_n 1, 1) := by decide +kernel
theorem d_ThumbCore_perform_221 : decode b_ThumbCore_perform 221 = .ok (.invokevirtual 167, 3) := by decide +kernel
theorem d_ThumbCore_perform_224 : decode b_ThumbCore_perform 224 = .ok (.goto 8, 3) := by decide +kernel
theorem d_ThumbCore_perform_227 : decode b_ThumbCore_perform 227 = .ok (.aload_n 0, 1) := by decide +kernel
theorem d_ThumbCore_perform_228 : decode b_ThumbCore_perform 228 = .ok (.iload_n 1, 1) := by decide +kernel
theorem d_ThumbCore_perform_229 : decode b_ThumbCore_perform 229 = .ok (.invokevirtual 170, 3) := by decide +kernel
theorem d_ThumbCore_perform_232 : decode b_ThumbCore_perform 232 = .ok (.ireturn, 1) := by decide +kernel
theorem d_ThumbCore_perform_233 : decode b_ThumbCore_perform 233 = .ok (.aload_n 0, 1) := by decide +kernel
theorem d_ThumbCore_perform_234 : decode b_ThumbCore_perform 234 = .ok (.iload_n 1, 1) := by decide +kernel
theorem d_ThumbCore_perform_235 : decode b_ThumbCore_perform 235 = .ok (.invokevirtual 173, 3) := by decide +kernel
theorem d_ThumbCore_perform_238 : decode b_ThumbCore_perform 238 = .ok (.ireturn, 1) := by decide +kernel
theorem d_ThumbCore_perform_239 : decode b_ThumbCore_perform 239 = .ok (.aload_n 0, 1) := by decide +kernel
theorem d_ThumbCore_perform_240 : decode b_ThumbCore_perform 240 = .ok (.iload_n 1, 1) := by decide +kernel
theorem d_ThumbCore_perform_241 : decode b_ThumbCore_perform 241 = .ok (.invokevirtual 176, 3) := by decide +kernel
theorem d_ThumbCore_perform_244 : decode b_ThumbCore_perform 244 = .ok (.ireturn, 1) := by decide +kernel
theorem d_ThumbCore_perform_245 : decode b_ThumbCore_perform 245 = .ok (.aload_n 0, 1) := by decide +kernel
theorem d_ThumbCore_perform_246 : decode b_ThumbCore_perform 246 = .ok (.iload_n 1, 1) := by decide +kernel
theorem d_ThumbCore_perform_247 : decode b_ThumbCore_perform 247 = .ok (.invokevirtual 179, 3) := by decide +kernel
theorem d_ThumbCore_perform_250 : decode b_ThumbCore_perform 250 = .ok (.ireturn, 1) := by decide +kernel
theorem d_ThumbCore_perform_251 : decode b_ThumbCore_perform 251 = .ok (.aload_n 0, 1) := by decide +kernel
theorem d_ThumbCore_perform_252 : decode b_ThumbCore_perform 252 = .ok (.iload_n 1, 1) := by decide +kernel
theorem d_ThumbCore_perform_253 : decode b_ThumbCore_perform 253 = .ok (.invokevirtual 182, 3) := by decide +kernel
theorem d_ThumbCore_perform_256 : decode b_ThumbCore_perform 256 = .ok (.ireturn, 1) := by decide +kernel
theorem d_ThumbCore_perform_257 : decode b_ThumbCore_perform 257 = .ok (.aload_n 0, 1) := by decide +kernel
theorem d_ThumbCore_perform_258 : decode b_ThumbCore_perform 258 = .ok (.iload_n 1, 1) := by decide +kernel
theorem d_ThumbCore_perform_259 : decode b_ThumbCore_perform 259 = .ok (.bipush 8, 2) := by decide +kernel
theorem d_ThumbCore_perform_261 : decode b_ThumbCore_perform 261 = .ok (.iushr, 1) := by decide +kernel
theorem d_ThumbCore_perform_262 : decode b_ThumbCore_perform 262 = .ok (.bipush 7, 2) := by decide +kernel
theorem d_ThumbCore_perform_264 : decode b_ThumbCore_perform 264 = .ok (.iand, 1) := by decide +kernel
theorem d_ThumbCore_perform_265 : decode b_ThumbCore_perform 265 = .ok (.iload_n 1, 1) := by decide +kernel
theorem d_ThumbCore_perform_266 : decode b_ThumbCore_perform 266 = .ok (.sipush 255, 3) := by decide +kernel
theorem d_ThumbCore_perform_269 : decode b_ThumbCore_perform 269 = .ok (.iand, 1) := by decide +kernel
theorem d_ThumbCore_perform_270 : decode b_ThumbCore_perform 270 = .ok (.invokevirtual 185, 3) := by decide +kernel
theorem d_ThumbCore_perform_273 : decode b_ThumbCore_perform 273 = .ok (.ireturn, 1) := by decide +kernel
theorem d_ThumbCore_perform_274 : decode b_ThumbCore_perform 274 = .ok (.aload_n 0, 1) := by decide +kernel
theorem d_ThumbCore_perform_275 : decode b_ThumbCore_perform 275 = .ok (.iload_n 1, 1) := by decide +kernel
theorem d_ThumbCore_perform_276 : decode b_ThumbCore_perform 276 = .ok (.bipush 8, 2) := by decide +kernel
theorem d_ThumbCore_perform_278 : decode b_ThumbCore_perform 278 = .ok (.iushr, 1) := by decide +kernel
theorem d_ThumbCore_perform_279 : decode b_ThumbCore_perform 279 = .ok (.bipush 7, 2) := by decide +kernel
theorem d_ThumbCore_perform_281 : decode b_ThumbCore_perform 281 = .ok (.iand, 1) := by decide +kernel
theorem d_ThumbCore_perform_282 : decode b_ThumbCore_perform 282 = .ok (.iload_n 1, 1) := by decide +kernel
theorem d_ThumbCore_perform_283 : decode b_ThumbCore_perform 283 = .ok (.sipush 255, 3) := by decide +kernel
theorem d_ThumbCore_perform_286 : decode b_ThumbCore_perform 286 = .ok (.iand, 1) := by decide +kernel
theorem d_ThumbCore_perform_287 : decode b_ThumbCore_perform 287 = .ok (.invokevirtual 188, 3) := by decide +kernel
theorem d_ThumbCore_perform_290 : decode b_ThumbCore_perform 290 = .ok (.ireturn, 1) := by decide +kernel
theorem d_ThumbCore_perform_291 : decode b_ThumbCore_perform 291 = .ok (.aload_n 0, 1) := by decide +kernel
theorem d_ThumbCore_perform_292 : decode b_ThumbCore_perform 292 = .ok (.iload_n 1, 1) := by decide +kernel
theorem d_ThumbCore_perform_293 : decode b_ThumbCore_perform 293 = .ok (.bipush 8, 2) := by decide +kernel
theorem d_ThumbCore_perform_295 : decode b_ThumbCore_perform 295 = .ok (.iushr, 1) := by decide +kernel
theorem d_ThumbCore_perform_296 : decode b_ThumbCore_perform 296 = .ok (.bipush 15, 2) := by decide +kernel
theorem d_ThumbCore_perform_298 : decode b_ThumbCore_perform 298 = .ok (.iand, 1) := by decide +kernel
theorem d_ThumbCore_perform_299 : decode b_ThumbCore_perform 299 = .ok (.iload_n 1, 1) := by decide +kernel
theorem d_ThumbCore_perform_300 : decode b_ThumbCore_perform 300 = .ok (.i2b, 1) := by decide +kernel
theorem d_ThumbCore_perform_301 : decode b_ThumbCore_perform 301 = .ok (.invokevirtual 191, 3) := by decide +kernel
theorem d_ThumbCore_perform_304 : decode b_ThumbCore_perform 304 = .ok (.ireturn, 1) := by decide +kernel
theorem d_ThumbCore_perform_305 : decode b_ThumbCore_perform 305 = .ok (.aload_n 0, 1) := by decide +kernel
theorem d_ThumbCore_perform_306 : decode b_ThumbCore_perform 306 = .ok (.aload_n 0, 1) := by decide +kernel
theorem d_ThumbCore_perform_307 : decode b_ThumbCore_perform 307 = .ok (.invokevirtual 194, 3) := by decide +kernel
theorem d_ThumbCore_perform_310 : decode b_ThumbCore_perform 310 = .ok (.iload_n 1, 1) := by decide +kernel
theorem d_ThumbCore_perform_311 : decode b_ThumbCore_perform 311 = .ok (.bipush 21, 2) := by decide +kernel
theorem d_ThumbCore_perform_313 : decode b_ThumbCore_perform 313 = .ok (.ishl, 1) := by decide +kernel
theorem d_ThumbCore_perform_314 : decode b_ThumbCore_perform 314 = .ok (.bipush 20, 2) := by decide +kernel
theorem d_ThumbCore_perform_316 : decode b_ThumbCore_perform 316 = .ok (.ishr, 1) := by decide +kernel
theorem d_ThumbCore_perform_317 : decode b_ThumbCore_perform 317 = .ok (.iadd, 1) := by decide +kernel
theorem d_ThumbCore_perform_318 : decode b_ThumbCore_perform 318 = .ok (.putfield 111, 3) := by decide +kernel
theorem d_ThumbCore_perform_321 : decode b_ThumbCore_perform 321 = .ok (.iconst 1, 1) := by decide +kernel
theorem d_ThumbCore_perform_322 : decode b_ThumbCore_perform 322 = .ok (.ireturn, 1) := by decide +kernel
theorem d_ThumbCore_perform_323 : decode b_ThumbCore_perform 323 = .ok (.aload_n 0, 1) := by decide +kernel
theorem d_ThumbCore_perform_324 : decode b_ThumbCore_perform 324 = .ok (.iload_n 1, 1) := by decide +kernel
theorem d_ThumbCore_perform_325 : decode b_ThumbCore_perform 325 = .ok (.invokevirtual 197, 3) := by decide +kernel
theorem d_ThumbCore_perform_328 : decode b_ThumbCore_perform 328 = .ok (.ireturn, 1) := by decide +kernel
theorem d_ThumbCore_perform_329 : decode b_ThumbCore_perform 329 = .ok (.iconst 0, 1) := by decide +kernel
theorem d_ThumbCore_perform_330 : decode b_ThumbCore_perform 330 = .ok (.ireturn, 1) := by decide +kernel
theorem d_ThumbCore_here_0 : decode b_ThumbCore_here 0 = .ok (.aload_n 0, 1) := by decide +kernel
theorem d_ThumbCore_here_1 : decode b_ThumbCore_here 1 = .ok (.getfield 27, 3) := by decide +kernel
theorem d_ThumbCore_here_4 : decode b_ThumbCore_here 4 = .ok (.bipush 15, 2) := by decide +kernel
theorem d_ThumbCore_here_6 : decode b_ThumbCore_here 6 = .ok (.iaload, 1) := by decide +kernel
theorem d_ThumbCore_here_7 : decode b_ThumbCore_here 7 = .ok (.iconst 4, 1) := by decide +kernel
theorem d_ThumbCore_here_8 : decode b_ThumbCore_here 8 = .ok (.iadd, 1) := by decide +kernel
theorem d_ThumbCore_here_9 : decode b_ThumbCore_here 9 = .ok (.ireturn, 1) := by decide +kernel
theorem d_ThumbCore_moveByConstant_0 : decode b_ThumbCore_moveByConstant 0 = .ok (.iload_n 1, 1) := by decide +kernel
theorem d_ThumbCore_moveByConstant_1 : decode b_ThumbCore_moveByConstant 1 = .ok (.bipush 7, 2) := by decide +kernel
theorem d_ThumbCore_moveByConstant_3 : decode b_ThumbCore_moveByConstant 3 = .ok (.iand, 1) := by decide +kernel
theorem d_ThumbCore_moveByConstant_4 : decode b_ThumbCore_moveByConstant 4 = .ok (.istore_n 2, 1) := by decide +kernel
theorem d_ThumbCore_moveByConstant_5 : decode b_ThumbCore_moveByConstant 5 = .ok (.aload_n 0, 1) := by decide +kernel
theorem d_ThumbCore_moveByConstant_6 : decode b_ThumbCore_moveByConstant 6 = .ok (.getfield 27, 3) := by decide +kernel
theorem d_ThumbCore_moveByConstant_9 : decode b_ThumbCore_moveByConstant 9 = .ok (.iload_n 1, 1) := by decide +kernel
theorem d_ThumbCore_moveByConstant_10 : decode b_ThumbCore_moveByConstant 10 = .ok (.iconst 3, 1) := by decide +kernel
theorem d_ThumbCore_moveByConstant_11 : decode b_ThumbCore_moveByConstant 11 = .ok (.iushr, 1) := by decide +kernel
theorem d_ThumbCore_moveByConstant_12 : decode b_ThumbCore_moveByConstant 12 = .ok (.bipush 7, 2) := by decide +kernel
theorem d_ThumbCore_moveByConstant_14 : decode b_ThumbCore_moveByConstant 14 = .ok (.iand, 1) := by decide +kernel
theorem d_ThumbCore_moveByConstant_15 : decode b_ThumbCore_moveByConstant 15 = .ok (.iaload, 1) := by decide +kernel
theorem d_ThumbCore_moveByConstant_16 : decode b_ThumbCore_moveByConstant 16 = .ok (.istore_n 3, 1) := by decide +kernel
theorem d_ThumbCore_moveByConstant_17 : decode b_ThumbCore_moveByConstant 17 = .ok (.iload_n 1, 1) := by decide +kernel
theorem d_ThumbCore_moveByConstant_18 : decode b_ThumbCore_moveByConstant 18 = .ok (.bipush 6, 2) := by decide +kernel
theorem d_ThumbCore_moveByConstant_20 : decode b_ThumbCore_moveByConstant 20 = .ok (.iushr, 1) := by decide +kernel
theorem d_ThumbCore_moveByConstant_21 : decode b_ThumbCore_moveByConstant 21 = .ok (.bipush 31, 2) := by decide +kernel
theorem d_ThumbCore_moveByConstant_23 : decode b_ThumbCore_moveByConstant 23 = .ok (.iand, 1) := by decide +kernel
theorem d_ThumbCore_moveByConstant_24 : decode b_ThumbCore_moveByConstant 24 = .ok (.istore 4, 2) := by decide +kernel
theorem d_ThumbCore_moveByConstant_26 : decode b_ThumbCore_moveByConstant 26 = .ok (.iload_n 1, 1) := by decide +kernel
theorem d_ThumbCore_moveByConstant_27 : decode b_ThumbCore_moveByConstant 27 = .ok (.bipush 11, 2) := by decide +kernel
theorem d_ThumbCore_moveByConstant_29 : decode b_ThumbCore_moveByConstant 29 = .ok (.iushr, 1) := by decide +kernel
theorem d_ThumbCore_moveByConstant_30 : decode b_ThumbCore_moveByConstant 30 = .ok (.lookupswitch 72 #[(0, 26), (1, 44)], 26) := by decide +kernel
theorem d_ThumbCore_moveByConstant_56 : decode b_ThumbCore_moveByConstant 56 = .ok (.aload_n 0, 1) := by decide +kernel
theorem d_ThumbCore_moveByConstant_57 : decode b_ThumbCore_moveByConstant 57 = .ok (.getfield 27, 3) := by decide +kernel
theorem d_ThumbCore_moveByConstant_60 : decode b_ThumbCore_moveByConstant 60 = .ok (.iload_n 2, 1) := by decide +kernel
theorem d_ThumbCore_moveByConstant_61 : decode b_ThumbCore_moveByConstant 61 = .ok (.aload_n 0, 1) := by decide +kernel
theorem d_ThumbCore_moveByConstant_62 : decode b_ThumbCore_moveByConstant 62 = .ok (.getfield 34, 3) := by decide +kernel
theorem d_ThumbCore_moveByConstant_65 : decode b_ThumbCore_moveByConstant 65 = .ok (.iload_n 3, 1) := by decide +kernel
theorem d_ThumbCore_moveByConstant_66 : decode b_ThumbCore_moveByConstant 66 = .ok (.iload 4, 2) := by decide +kernel
theorem d_ThumbCore_moveByConstant_68 : decode b_ThumbCore_moveByConstant 68 = .ok (.invokevirtual 200, 3) := by decide +kernel
theorem d_ThumbCore_moveByConstant_71 : decode b_ThumbCore_moveByConstant 71 = .ok (.iastore, 1) := by decide +kernel
theorem d_ThumbCore_moveByConstant_72 : decode b_ThumbCore_moveByConstant 72 = .ok (.iconst 1, 1) := by decide +kernel
theorem d_ThumbCore_moveByConstant_73 : decode b_ThumbCore_moveByConstant 73 = .ok (.ireturn, 1) := by decide +kernel
theorem d_ThumbCore_moveByConstant_74 : decode b_ThumbCore_moveByConstant 74 = .ok (.aload_n 0, 1) := by decide +kernel
theorem d_ThumbCore_moveByConstant_75 : decode b_ThumbCore_moveByConstant 75 = .ok (.getfield 27, 3) := by decide +kernel
theorem d_ThumbCore_moveByConstant_78 : decode b_ThumbCore_moveByConstant 78 = .ok (.iload_n 2, 1) := by decide +kernel
theorem d_ThumbCore_moveByConstant_79 : decode b_ThumbCore_moveByConstant 79 = .ok (.aload_n 0, 1) := by decide +kernel
theorem d_ThumbCore_moveByConstant_80 : decode b_ThumbCore_moveByConstant 80 = .ok (.getfield 34, 3) := by decide +kernel
theorem d_ThumbCore_moveByConstant_83 : decode b_ThumbCore_moveByConstant 83 = .ok (.iload_n 3, 1) := by decide +kernel
theorem d_ThumbCore_moveByConstant_84 : decode b_ThumbCore_moveByConstant 84 = .ok (.iload 4, 2) := by decide +kernel
theorem d_ThumbCore_moveByConstant_86 : decode b_ThumbCore_moveByConstant 86 = .ok (.ifCond .ne 8, 3) := by decide +kernel
theorem d_ThumbCore_moveByConstant_89 : decode b_ThumbCore_moveByConstant 89 = .ok (.bipush 32, 2) := by decide +kernel
theorem d_ThumbCore_moveByConstant_91 : decode b_ThumbCore_moveByConstant 91 = .ok (.goto 5, 3) := by decide +kernel
theorem d_ThumbCore_moveByConstant_94 : decode b_ThumbCore_moveByConstant 94 = .ok (.iload 4, 2) := by decide +kernel
theorem d_ThumbCore_moveByConstant_96 : decode b_ThumbCore_moveByConstant 96 = .ok (.invokevirtual 203, 3) := by decide +kernel
theorem d_ThumbCore_moveByConstant_99 : decode b_ThumbCore_moveByConstant 99 = .ok (.iastore, 1) := by decide +kernel
theorem d_ThumbCore_moveByConstant_100 : decode b_ThumbCore_moveByConstant 100 = .ok (.iconst 1, 1) := by decide +kernel
theorem d_ThumbCore_moveByConstant_101 : decode b_ThumbCore_moveByConstant 101 = .ok (.ireturn, 1) := by decide +kernel
theorem d_ThumbCore_moveByConstant_102 : decode b_ThumbCore_moveByConstant 102 = .ok (.aload_n 0, 1) := by decide +kernel
theorem d_ThumbCore_moveByConstant_103 : decode b_ThumbCore_moveByConstant 103 = .ok (.getfield 27, 3) := by decide +kernel
theorem d_ThumbCore_moveByConstant_106 : decode b_ThumbCore_moveByConstant 106 = .ok (.iload_n 2, 1) := by decide +kernel
theorem d_ThumbCore_moveByConstant_107 : decode b_ThumbCore_moveByConstant 107 = .ok (.aload_n 0, 1) := by decide +kernel
theorem d_ThumbCore_moveByConstant_108 : decode b_ThumbCore_moveByConstant 108 = .ok (.getfield 34, 3) := by decide +kernel
theorem d_ThumbCore_moveByConstant_111 : decode b_ThumbCore_moveByConstant 111 = .ok (.iload_n 3, 1) := by decide +kernel
theorem d_ThumbCore_moveByConstant_112 : decode b_ThumbCore_moveByConstant 112 = .ok (.iload 4, 2) := by decide +kernel
theorem d_ThumbCore_moveByConstant_114 : decode b_ThumbCore_moveByConstant 114 = .ok (.ifCond .ne 8, 3) := by decide +kernel
theorem d_ThumbCore_moveByConstant_117 : decode b_ThumbCore_moveByConstant 117 = .ok (.bipush 32, 2) := by decide +kernel
theorem d_ThumbCore_moveByConstant_119 : decode b_ThumbCore_moveByConstant 119 = .ok (.goto 5, 3) := by decide +kernel
theorem d_ThumbCore_moveByConstant_122 : decode b_ThumbCore_moveByConstant 122 = .ok (.iload 4, 2) := by decide +kernel
theorem d_ThumbCore_moveByConstant_124 : decode b_ThumbCore_moveByConstant 124 = .ok (.invokevirtual 206, 3) := by decide +kernel
theorem d_ThumbCore_moveByConstant_127 : decode b_ThumbCore_moveByConstant 127 = .ok (.iastore, 1) := by decide +kernel
theorem d_ThumbCore_moveByConstant_128 : decode b_ThumbCore_moveByConstant 128 = .ok (.iconst 1, 1) := by decide +kernel
theorem d_ThumbCore_moveByConstant_129 : decode b_ThumbCore_moveByConstant 129 = .ok (.ireturn, 1) := by decide +kernel
theorem d_ThumbCore_addThree_0 : decode b_ThumbCore_addThree 0 = .ok (.iload_n 1, 1) := by decide +kernel
theorem d_ThumbCore_addThree_1 : decode b_ThumbCore_addThree 1 = .ok (.bipush 6, 2) := by decide +kernel
theorem d_ThumbCore_addThree_3 : decode b_ThumbCore_addThree 3 = .ok (.iushr, 1) := by decide +kernel
theorem d_ThumbCore_addThree_4 : decode b_ThumbCore_addThree 4 = .ok (.bipush 7, 2) := by decide +kernel
theorem d_ThumbCore_addThree_6 : decode b_ThumbCore_addThree 6 = .ok (.iand, 1) := by decide +kernel
theorem d_ThumbCore_addThree_7 : decode b_ThumbCore_addThree 7 = .ok (.istore_n 2, 1) := by decide +kernel
theorem d_ThumbCore_addThree_8 : decode b_ThumbCore_addThree 8 = .ok (.iload_n 1, 1) := by decide +kernel
theorem d_ThumbCore_addThree_9 : decode b_ThumbCore_addThree 9 = .ok (.bipush 10, 2) := by decide +kernel
theorem d_ThumbCore_addThree_11 : decode b_ThumbCore_addThree 11 = .ok (.iushr, 1) := by decide +kernel
theorem d_ThumbCore_addThree_12 : decode b_ThumbCore_addThree 12 = .ok (.iconst 1, 1) := by decide +kernel
theorem d_ThumbCore_addThree_13 : decode b_ThumbCore_addThree 13 = .ok (.iand, 1) := by decide +kernel
theorem d_ThumbCore_addThree_14 : decode b_ThumbCore_addThree 14 = .ok (.iconst 1, 1) := by decide +kernel
theorem d_ThumbCore_addThree_15 : decode b_ThumbCore_addThree 15 = .ok (.if_icmp .ne 7, 3) := by decide +kernel
theorem d_ThumbCore_addThree_18 : decode b_ThumbCore_addThree 18 = .ok (.iconst 1, 1) := by decide +kernel
theorem d_ThumbCore_addThree_19 : decode b_ThumbCore_addThree 19 = .ok (.goto 4, 3) := by decide +kernel
theorem d_ThumbCore_addThree_22 : decode b_ThumbCore_addThree 22 = .ok (.iconst 0, 1) := by decide +kernel
theorem d_ThumbCore_addThree_23 : decode b_ThumbCore_addThree 23 = .ok (.istore_n 3, 1) := by decide +kernel
theorem d_ThumbCore_addThree_24 : decode b_ThumbCore_addThree 24 = .ok (.iload_n 1, 1) := by decide +kernel
theorem d_ThumbCore_addThree_25 : decode b_ThumbCore_addThree 25 = .ok (.bipush 9, 2) := by decide +kernel
theorem d_ThumbCore_addThree_27 : decode b_ThumbCore_addThree 27 = .ok (.iushr, 1) := by decide +kernel
theorem d_ThumbCore_addThree_28 : decode b_ThumbCore_addThree 28 = .ok (.iconst 1, 1) := by decide +kernel
theorem d_ThumbCore_addThree_29 : decode b_ThumbCore_addThree 29 = .ok (.iand, 1) := by decide +kernel
theorem d_ThumbCore_addThree_30 : decode b_ThumbCore_addThree 30 = .ok (.iconst 1, 1) := by decide +kernel
theorem d_ThumbCore_addThree_31 : decode b_ThumbCore_addThree 31 = .ok (.if_icmp .ne 7, 3) := by decide +kernel
theorem d_ThumbCore_addThree_34 : decode b_ThumbCore_addThree 34 = .ok (.iconst 1, 1) := by decide +kernel
theorem d_ThumbCore_addThree_35 : decode b_ThumbCore_addThree 35 = .ok (.goto 4, 3) := by decide +kernel
theorem d_ThumbCore_addThree_38 : decode b_ThumbCore_addThree 38 = .ok (.iconst 0, 1) := by decide +kernel
theorem d_ThumbCore_addThree_39 : decode b_ThumbCore_addThree 39 = .ok (.istore 4, 2) := by decide +kernel
theorem d_ThumbCore_addThree_41 : decode b_ThumbCore_addThree 41 = .ok (.aload_n 0, 1) := by decide +kernel
theorem d_ThumbCore_addThree_42 : decode b_ThumbCore_addThree 42 = .ok (.getfield 27, 3) := by decide +kernel
theorem d_ThumbCore_addThree_45 : decode b_ThumbCore_addThree 45 = .ok (.iload_n 1, 1) := by decide +kernel
theorem d_ThumbCore_addThree_46 : decode b_ThumbCore_addThree 46 = .ok (.iconst 3, 1) := by decide +kernel
theorem d_ThumbCore_addThree_47 : decode b_ThumbCore_addThree 47 = .ok (.iushr, 1) := by decide +kernel
theorem d_ThumbCore_addThree_48 : decode b_ThumbCore_addThree 48 = .ok (.bipush 7, 2) := by decide +kernel
theorem d_ThumbCore_addThree_50 : decode b_ThumbCore_addThree 50 = .ok (.iand, 1) := by decide +kernel
theorem d_ThumbCore_addThree_51 : decode b_ThumbCore_addThree 51 = .ok (.iaload, 1) := by decide +kernel
theorem d_ThumbCore_addThree_52 : decode b_ThumbCore_addThree 52 = .ok (.istore 5, 2) := by decide +kernel
theorem d_ThumbCore_addThree_54 : decode b_ThumbCore_addThree 54 = .ok (.iload_n 3, 1) := by decide +kernel
theorem d_ThumbCore_addThree_55 : decode b_ThumbCore_addThree 55 = .ok (.ifCond .eq 7, 3) := by decide +kernel
theorem d_ThumbCore_addThree_58 : decode b_ThumbCore_addThree 58 = .ok (.iload_n 2, 1) := by decide +kernel
theorem d_ThumbCore_addThree_59 : decode b_ThumbCore_addThree 59 = .ok (.goto 9, 3) := by decide +kernel
theorem d_ThumbCore_addThree_62 : decode b_ThumbCore_addThree 62 = .ok (.aload_n 0, 1) := by decide +kernel
theorem d_ThumbCore_addThree_63 : decode b_ThumbCore_addThree 63 = .ok (.getfield 27, 3) := by decide +kernel
theorem d_ThumbCore_addThree_66 : decode b_ThumbCore_addThree 66 = .ok (.iload_n 2, 1) := by decide +kernel
theorem d_ThumbCore_addThree_67 : decode b_ThumbCore_addThree 67 = .ok (.iaload, 1) := by decide +kernel
theorem d_ThumbCore_addThree_68 : decode b_ThumbCore_addThree 68 = .ok (.istore 6, 2) := by decide +kernel
theorem d_ThumbCore_addThree_70 : decode b_ThumbCore_addThree 70 = .ok (.aload_n 0, 1) := by decide +kernel
theorem d_ThumbCore_addThree_71 : decode b_ThumbCore_addThree 71 = .ok (.getfield 27, 3) := by decide +kernel
theorem d_ThumbCore_addThree_74 : decode b_ThumbCore_addThree 74 = .ok (.iload_n 1, 1) := by decide +kernel
theorem d_ThumbCore_addThree_75 : decode b_ThumbCore_addThree 75 = .ok (.bipush 7, 2) := by decide +kernel
theorem d_ThumbCore_addThree_77 : decode b_ThumbCore_addThree 77 = .ok (.iand, 1) := by decide +kernel
theorem d_ThumbCore_addThree_78 : decode b_ThumbCore_addThree 78 = .ok (.iload 4, 2) := by decide +kernel
theorem d_ThumbCore_addThree_80 : decode b_ThumbCore_addThree 80 = .ok (.ifCond .eq 20, 3) := by decide +kernel
theorem d_ThumbCore_addThree_83 : decode b_ThumbCore_addThree 83 = .ok (.aload_n 0, 1) := by decide +kernel
theorem d_ThumbCore_addThree_84 : decode b_ThumbCore_addThree 84 = .ok (.getfield 34, 3) := by decide +kernel
theorem d_ThumbCore_addThree_87 : decode b_ThumbCore_addThree 87 = .ok (.iload 5, 2) := by decide +kernel
theorem d_ThumbCore_addThree_89 : decode b_ThumbCore_addThree 89 = .ok (.iload 6, 2) := by decide +kernel
theorem d_ThumbCore_addThree_91 : decode b_ThumbCore_addThree 91 = .ok (.iconst (-1), 1) := by decide +kernel
theorem d_ThumbCore_addThree_92 : decode b_ThumbCore_addThree 92 = .ok (.ixor, 1) := by decide +kernel
theorem d_ThumbCore_addThree_93 : decode b_ThumbCore_addThree 93 = .ok (.iconst 1, 1) := by decide +kernel
theorem d_ThumbCore_addThree_94 : decode b_ThumbCore_addThree 94 = .ok (.invokevirtual 209, 3) := by decide +kernel
theorem d_ThumbCore_addThree_97 : decode b_ThumbCore_addThree 97 = .ok (.goto 15, 3) := by decide +kernel
theorem d_ThumbCore_addThree_100 : decode b_ThumbCore_addThree 100 = .ok (.aload_n 0, 1) := by decide +kernel
theorem d_ThumbCore_addThree_101 : decode b_ThumbCore_addThree 101 = .ok (.getfield 34, 3) := by decide +kernel
theorem d_ThumbCore_addThree_104 : decode b_ThumbCore_addThree 104 = .ok (.iload 5, 2) := by decide +kernel
theorem d_ThumbCore_addThree_106 : decode b_ThumbCore_addThree 106 = .ok (.iload 6, 2) := by decide +kernel
theorem d_ThumbCore_addThree_108 : decode b_ThumbCore_addThree 108 = .ok (.iconst 0, 1) := by decide +kernel
theorem d_ThumbCore_addThree_109 : decode b_ThumbCore_addThree 109 = .ok (.invokevirtual 209, 3) := by decide +kernel
theorem d_ThumbCore_addThree_112 : decode b_ThumbCore_addThree 112 = .ok (.iastore, 1) := by decide +kernel
theorem d_ThumbCore_addThree_113 : decode b_ThumbCore_addThree 113 = .ok (.iconst 1, 1) := by decide +kernel
theorem d_ThumbCore_addThree_114 : decode b_ThumbCore_addThree 114 = .ok (.ireturn, 1) := by decide +kernel
theorem d_ThumbCore_withByte_0 : decode b_ThumbCore_withByte 0 = .ok (.iload_n 1, 1) := by decide +kernel
theorem d_ThumbCore_withByte_1 : decode b_ThumbCore_withByte 1 = .ok (.bipush 8, 2) := by decide +kernel
theorem d_ThumbCore_withByte_3 : decode b_ThumbCore_withByte 3 = .ok (.iushr, 1) := by decide +kernel
theorem d_ThumbCore_withByte_4 : decode b_ThumbCore_withByte 4 = .ok (.bipush 7, 2) := by decide +kernel
theorem d_ThumbCore_withByte_6 : decode b_ThumbCore_withByte 6 = .ok (.iand, 1) := by decide +kernel
theorem d_ThumbCore_withByte_7 : decode b_ThumbCore_withByte 7 = .ok (.istore_n 2, 1) := by decide +kernel
theorem d_ThumbCore_withByte_8 : decode b_ThumbCore_withByte 8 = .ok (.iload_n 1, 1) := by decide +kernel
theorem d_ThumbCore_withByte_9 : decode b_ThumbCore_withByte 9 = .ok (.sipush 255, 3) := by decide +kernel
theorem d_ThumbCore_withByte_12 : decode b_ThumbCore_withByte 12 = .ok (.iand, 1) := by decide +kernel
theorem d_ThumbCore_withByte_13 : decode b_ThumbCore_withByte 13 = .ok (.istore_n 3, 1) := by decide +kernel
theorem d_ThumbCore_withByte_14 : decode b_ThumbCore_withByte 14 = .ok (.iload_n 1, 1) := by decide +kernel
theorem d_ThumbCore_withByte_15 : decode b_ThumbCore_withByte 15 = .ok (.bipush 11, 2) := by decide +kernel
theorem d_ThumbCore_withByte_17 : decode b_ThumbCore_withByte 17 = .ok (.iushr, 1) := by decide +kernel
theorem d_ThumbCore_withByte_18 : decode b_ThumbCore_withByte 18 = .ok (.tableswitch 85 4 6 #[26, 42, 62], 26) := by decide +kernel
theorem d_ThumbCore_withByte_44 : decode b_ThumbCore_withByte 44 = .ok (.aload_n 0, 1) := by decide +kernel
theorem d_ThumbCore_withByte_45 : decode b_ThumbCore_withByte 45 = .ok (.getfield 27, 3) := by decide +kernel
theorem d_ThumbCore_withByte_48 : decode b_ThumbCore_withByte 48 = .ok (.iload_n 2, 1) := by decide +kernel
theorem d_ThumbCore_withByte_49 : decode b_ThumbCore_withByte 49 = .ok (.aload_n 0, 1) := by decide +kernel
theorem d_ThumbCore_withByte_50 : decode b_ThumbCore_withByte 50 = .ok (.getfield 34, 3) := by decide +kernel
theorem d_ThumbCore_withByte_53 : decode b_ThumbCore_withByte 53 = .ok (.iload_n 3, 1) := by decide +kernel
