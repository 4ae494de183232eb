theorem d_Exceptions_init_0 : decode b_Exceptions_init 0 = .ok (.aload_n 0, 1) := by decide +kernel
theorem d_Exceptions_init_1 : decode b_Exceptions_init 1 = .ok (.invokespecial 3, 3) := by decide +kernel
theorem d_Exceptions_init_4 : decode b_Exceptions_init 4 = .ok (.aload_n 0, 1) := by decide +kernel
theorem d_Exceptions_init_5 : decode b_Exceptions_init 5 = .ok (.bipush 16, 2) := by decide +kernel
theorem d_Exceptions_init_7 : decode b_Exceptions_init 7 = .ok (.newarray .int, 2) := by decide +kernel
theorem d_Exceptions_init_9 : decode b_Exceptions_init 9 = .ok (.putfield 11, 3) := by decide +kernel
theorem d_Exceptions_init_12 : decode b_Exceptions_init 12 = .ok (.aload_n 0, 1) := by decide +kernel
theorem d_Exceptions_init_13 : decode b_Exceptions_init 13 = .ok (.getfield 11, 3) := by decide +kernel
theorem d_Exceptions_init_16 : decode b_Exceptions_init 16 = .ok (.iconst 2, 1) := by decide +kernel
theorem d_Exceptions_init_17 : decode b_Exceptions_init 17 = .ok (.bipush (-2), 2) := by decide +kernel
theorem d_Exceptions_init_19 : decode b_Exceptions_init 19 = .ok (.iastore, 1) := by decide +kernel
theorem d_Exceptions_init_20 : decode b_Exceptions_init 20 = .ok (.aload_n 0, 1) := by decide +kernel
theorem d_Exceptions_init_21 : decode b_Exceptions_init 21 = .ok (.getfield 11, 3) := by decide +kernel
theorem d_Exceptions_init_24 : decode b_Exceptions_init 24 = .ok (.iconst 3, 1) := by decide +kernel
theorem d_Exceptions_init_25 : decode b_Exceptions_init 25 = .ok (.iconst (-1), 1) := by decide +kernel
theorem d_Exceptions_init_26 : decode b_Exceptions_init 26 = .ok (.iastore, 1) := by decide +kernel
theorem d_Exceptions_init_27 : decode b_Exceptions_init 27 = .ok (.return_, 1) := by decide +kernel
theorem d_Exceptions_clear_0 : decode b_Exceptions_clear 0 = .ok (.aload_n 0, 1) := by decide +kernel
theorem d_Exceptions_clear_1 : decode b_Exceptions_clear 1 = .ok (.iconst 0, 1) := by decide +kernel
theorem d_Exceptions_clear_2 : decode b_Exceptions_clear 2 = .ok (.putfield 15, 3) := by decide +kernel
theorem d_Exceptions_clear_5 : decode b_Exceptions_clear 5 = .ok (.aload_n 0, 1) := by decide +kernel
theorem d_Exceptions_clear_6 : decode b_Exceptions_clear 6 = .ok (.iconst 0, 1) := by decide +kernel
theorem d_Exceptions_clear_7 : decode b_Exceptions_clear 7 = .ok (.putfield 19, 3) := by decide +kernel
theorem d_Exceptions_clear_10 : decode b_Exceptions_clear 10 = .ok (.aload_n 0, 1) := by decide +kernel
theorem d_Exceptions_clear_11 : decode b_Exceptions_clear 11 = .ok (.iconst 0, 1) := by decide +kernel
theorem d_Exceptions_clear_12 : decode b_Exceptions_clear 12 = .ok (.putfield 22, 3) := by decide +kernel
theorem d_Exceptions_clear_15 : decode b_Exceptions_clear 15 = .ok (.aload_n 0, 1) := by decide +kernel
theorem d_Exceptions_clear_16 : decode b_Exceptions_clear 16 = .ok (.iconst 0, 1) := by decide +kernel
theorem d_Exceptions_clear_17 : decode b_Exceptions_clear 17 = .ok (.putfield 25, 3) := by decide +kernel
theorem d_Exceptions_clear_20 : decode b_Exceptions_clear 20 = .ok (.return_, 1) := by decide +kernel
theorem d_Exceptions_await_0 : decode b_Exceptions_await 0 = .ok (.aload_n 0, 1) := by decide +kernel
theorem d_Exceptions_await_1 : decode b_Exceptions_await 1 = .ok (.dup, 1) := by decide +kernel
theorem d_Exceptions_await_2 : decode b_Exceptions_await 2 = .ok (.getfield 15, 3) := by decide +kernel
theorem d_Exceptions_await_5 : decode b_Exceptions_await 5 = .ok (.iconst 1, 1) := by decide +kernel
theorem d_Exceptions_await_6 : decode b_Exceptions_await 6 = .ok (.iload_n 1, 1) := by decide +kernel
theorem d_Exceptions_await_7 : decode b_Exceptions_await 7 = .ok (.ishl, 1) := by decide +kernel
theorem d_Exceptions_await_8 : decode b_Exceptions_await 8 = .ok (.ior, 1) := by decide +kernel
theorem d_Exceptions_await_9 : decode b_Exceptions_await 9 = .ok (.putfield 15, 3) := by decide +kernel
theorem d_Exceptions_await_12 : decode b_Exceptions_await 12 = .ok (.return_, 1) := by decide +kernel
theorem d_Exceptions_isPending_0 : decode b_Exceptions_isPending 0 = .ok (.iload_n 1, 1) := by decide +kernel
theorem d_Exceptions_isPending_1 : decode b_Exceptions_isPending 1 = .ok (.ifCond .lt 25, 3) := by decide +kernel
theorem d_Exceptions_isPending_4 : decode b_Exceptions_isPending 4 = .ok (.iload_n 1, 1) := by decide +kernel
theorem d_Exceptions_isPending_5 : decode b_Exceptions_isPending 5 = .ok (.bipush 15, 2) := by decide +kernel
theorem d_Exceptions_isPending_7 : decode b_Exceptions_isPending 7 = .ok (.if_icmp .gt 19, 3) := by decide +kernel
theorem d_Exceptions_isPending_10 : decode b_Exceptions_isPending 10 = .ok (.aload_n 0, 1) := by decide +kernel
theorem d_Exceptions_isPending_11 : decode b_Exceptions_isPending 11 = .ok (.getfield 15, 3) := by decide +kernel
theorem d_Exceptions_isPending_14 : decode b_Exceptions_isPending 14 = .ok (.iload_n 1, 1) := by decide +kernel
theorem d_Exceptions_isPending_15 : decode b_Exceptions_isPending 15 = .ok (.iushr, 1) := by decide +kernel
theorem d_Exceptions_isPending_16 : decode b_Exceptions_isPending 16 = .ok (.iconst 1, 1) := by decide +kernel
theorem d_Exceptions_isPending_17 : decode b_Exceptions_isPending 17 = .ok (.iand, 1) := by decide +kernel
theorem d_Exceptions_isPending_18 : decode b_Exceptions_isPending 18 = .ok (.iconst 1, 1) := by decide +kernel
theorem d_Exceptions_isPending_19 : decode b_Exceptions_isPending 19 = .ok (.if_icmp .ne 7, 3) := by decide +kernel
theorem d_Exceptions_isPending_22 : decode b_Exceptions_isPending 22 = .ok (.iconst 1, 1) := by decide +kernel
theorem d_Exceptions_isPending_23 : decode b_Exceptions_isPending 23 = .ok (.goto 4, 3) := by decide +kernel
theorem d_Exceptions_isPending_26 : decode b_Exceptions_isPending 26 = .ok (.iconst 0, 1) := by decide +kernel
theorem d_Exceptions_isPending_27 : decode b_Exceptions_isPending 27 = .ok (.ireturn, 1) := by decide +kernel
theorem d_Exceptions_isActive_0 : decode b_Exceptions_isActive 0 = .ok (.iload_n 1, 1) := by decide +kernel
theorem d_Exceptions_isActive_1 : decode b_Exceptions_isActive 1 = .ok (.ifCond .lt 25, 3) := by decide +kernel
theorem d_Exceptions_isActive_4 : decode b_Exceptions_isActive 4 = .ok (.iload_n 1, 1) := by decide +kernel
theorem d_Exceptions_isActive_5 : decode b_Exceptions_isActive 5 = .ok (.bipush 15, 2) := by decide +kernel
theorem d_Exceptions_isActive_7 : decode b_Exceptions_isActive 7 = .ok (.if_icmp .gt 19, 3) := by decide +kernel
theorem d_Exceptions_isActive_10 : decode b_Exceptions_isActive 10 = .ok (.aload_n 0, 1) := by decide +kernel
theorem d_Exceptions_isActive_11 : decode b_Exceptions_isActive 11 = .ok (.getfield 19, 3) := by decide +kernel
theorem d_Exceptions_isActive_14 : decode b_Exceptions_isActive 14 = .ok (.iload_n 1, 1) := by decide +kernel
theorem d_Exceptions_isActive_15 : decode b_Exceptions_isActive 15 = .ok (.iushr, 1) := by decide +kernel
theorem d_Exceptions_isActive_16 : decode b_Exceptions_isActive 16 = .ok (.iconst 1, 1) := by decide +kernel
theorem d_Exceptions_isActive_17 : decode b_Exceptions_isActive 17 = .ok (.iand, 1) := by decide +kernel
theorem d_Exceptions_isActive_18 : decode b_Exceptions_isActive 18 = .ok (.iconst 1, 1) := by decide +kernel
theorem d_Exceptions_isActive_19 : decode b_Exceptions_isActive 19 = .ok (.if_icmp .ne 7, 3) := by decide +kernel
theorem d_Exceptions_isActive_22 : decode b_Exceptions_isActive 22 = .ok (.iconst 1, 1) := by decide +kernel
theorem d_Exceptions_isActive_23 : decode b_Exceptions_isActive 23 = .ok (.goto 4, 3) := by decide +kernel
theorem d_Exceptions_isActive_26 : decode b_Exceptions_isActive 26 = .ok (.iconst 0, 1) := by decide +kernel
theorem d_Exceptions_isActive_27 : decode b_Exceptions_isActive 27 = .ok (.ireturn, 1) := by decide +kernel
theorem d_Exceptions_presentUnmasked_0 : decode b_Exceptions_presentUnmasked 0 = .ok (.iconst 4, 1) := by decide +kernel
theorem d_Exceptions_presentUnmasked_1 : decode b_Exceptions_presentUnmasked 1 = .ok (.istore_n 1, 1) := by decide +kernel
theorem d_Exceptions_presentUnmasked_2 : decode b_Exceptions_presentUnmasked 2 = .ok (.iconst 0, 1) := by decide +kernel
theorem d_Exceptions_presentUnmasked_3 : decode b_Exceptions_presentUnmasked 3 = .ok (.istore_n 2, 1) := by decide +kernel
theorem d_Exceptions_presentUnmasked_4 : decode b_Exceptions_presentUnmasked 4 = .ok (.iload_n 2, 1) := by decide +kernel
theorem d_Exceptions_presentUnmasked_5 : decode b_Exceptions_presentUnmasked 5 = .ok (.bipush 15, 2) := by decide +kernel
theorem d_Exceptions_presentUnmasked_7 : decode b_Exceptions_presentUnmasked 7 = .ok (.if_icmp .gt 32, 3) := by decide +kernel
theorem d_Exceptions_presentUnmasked_10 : decode b_Exceptions_presentUnmasked 10 = .ok (.aload_n 0, 1) := by decide +kernel
theorem d_Exceptions_presentUnmasked_11 : decode b_Exceptions_presentUnmasked 11 = .ok (.getfield 19, 3) := by decide +kernel
theorem d_Exceptions_presentUnmasked_14 : decode b_Exceptions_presentUnmasked 14 = .ok (.iload_n 2, 1) := by decide +kernel
theorem d_Exceptions_presentUnmasked_15 : decode b_Exceptions_presentUnmasked 15 = .ok (.iushr, 1) := by decide +kernel
theorem d_Exceptions_presentUnmasked_16 : decode b_Exceptions_presentUnmasked 16 = .ok (.iconst 1, 1) := by decide +kernel
theorem d_Exceptions_presentUnmasked_17 : decode b_Exceptions_presentUnmasked 17 = .ok (.iand, 1) := by decide +kernel
theorem d_Exceptions_presentUnmasked_18 : decode b_Exceptions_presentUnmasked 18 = .ok (.iconst 1, 1) := by decide +kernel
theorem d_Exceptions_presentUnmasked_19 : decode b_Exceptions_presentUnmasked 19 = .ok (.if_icmp .ne 14, 3) := by decide +kernel
theorem d_Exceptions_presentUnmasked_22 : decode b_Exceptions_presentUnmasked 22 = .ok (.iload_n 1, 1) := by decide +kernel
theorem d_Exceptions_presentUnmasked_23 : decode b_Exceptions_presentUnmasked 23 = .ok (.aload_n 0, 1) := by decide +kernel
theorem d_Exceptions_presentUnmasked_24 : decode b_Exceptions_presentUnmasked 24 = .ok (.getfield 11, 3) := by decide +kernel
theorem d_Exceptions_presentUnmasked_27 : decode b_Exceptions_presentUnmasked 27 = .ok (.iload_n 2, 1) := by decide +kernel
theorem d_Exceptions_presentUnmasked_28 : decode b_Exceptions_presentUnmasked 28 = .ok (.iaload, 1) := by decide +kernel
theorem d_Exceptions_presentUnmasked_29 : decode b_Exceptions_presentUnmasked 29 = .ok (.invokestatic 29, 3) := by decide +kernel
theorem d_Exceptions_presentUnmasked_32 : decode b_Exceptions_presentUnmasked 32 = .ok (.istore_n 1, 1) := by decide +kernel
theorem d_Exceptions_presentUnmasked_33 : decode b_Exceptions_presentUnmasked 33 = .ok (.iinc 2 1, 3) := by decide +kernel
theorem d_Exceptions_presentUnmasked_36 : decode b_Exceptions_presentUnmasked 36 = .ok (.goto (-32), 3) := by decide +kernel
theorem d_Exceptions_presentUnmasked_39 : decode b_Exceptions_presentUnmasked 39 = .ok (.iload_n 1, 1) := by decide +kernel
theorem d_Exceptions_presentUnmasked_40 : decode b_Exceptions_presentUnmasked 40 = .ok (.ireturn, 1) := by decide +kernel
theorem d_Exceptions_present_0 : decode b_Exceptions_present 0 = .ok (.aload_n 0, 1) := by decide +kernel
theorem d_Exceptions_present_1 : decode b_Exceptions_present 1 = .ok (.invokevirtual 35, 3) := by decide +kernel
theorem d_Exceptions_present_4 : decode b_Exceptions_present 4 = .ok (.istore_n 1, 1) := by decide +kernel
theorem d_Exceptions_present_5 : decode b_Exceptions_present 5 = .ok (.aload_n 0, 1) := by decide +kernel
theorem d_Exceptions_present_6 : decode b_Exceptions_present 6 = .ok (.getfield 25, 3) := by decide +kernel
theorem d_Exceptions_present_9 : decode b_Exceptions_present 9 = .ok (.ifCond .eq 11, 3) := by decide +kernel
theorem d_Exceptions_present_12 : decode b_Exceptions_present 12 = .ok (.iload_n 1, 1) := by decide +kernel
theorem d_Exceptions_present_13 : decode b_Exceptions_present 13 = .ok (.iconst 0, 1) := by decide +kernel
theorem d_Exceptions_present_14 : decode b_Exceptions_present 14 = .ok (.invokestatic 29, 3) := by decide +kernel
theorem d_Exceptions_present_17 : decode b_Exceptions_present 17 = .ok (.goto 4, 3) := by decide +kernel
theorem d_Exceptions_present_20 : decode b_Exceptions_present 20 = .ok (.iload_n 1, 1) := by decide +kernel
theorem d_Exceptions_present_21 : decode b_Exceptions_present 21 = .ok (.ireturn, 1) := by decide +kernel
theorem d_Exceptions_mostUrgent_0 : decode b_Exceptions_mostUrgent 0 = .ok (.iconst 0, 1) := by decide +kernel
theorem d_Exceptions_mostUrgent_1 : decode b_Exceptions_mostUrgent 1 = .ok (.istore_n 2, 1) := by decide +kernel
theorem d_Exceptions_mostUrgent_2 : decode b_Exceptions_mostUrgent 2 = .ok (.iload_n 1, 1) := by decide +kernel
theorem d_Exceptions_mostUrgent_3 : decode b_Exceptions_mostUrgent 3 = .ok (.istore_n 3, 1) := by decide +kernel
theorem d_Exceptions_mostUrgent_4 : decode b_Exceptions_mostUrgent 4 = .ok (.iconst 0, 1) := by decide +kernel
theorem d_Exceptions_mostUrgent_5 : decode b_Exceptions_mostUrgent 5 = .ok (.istore 4, 2) := by decide +kernel
theorem d_Exceptions_mostUrgent_7 : decode b_Exceptions_mostUrgent 7 = .ok (.iload 4, 2) := by decide +kernel
theorem d_Exceptions_mostUrgent_9 : decode b_Exceptions_mostUrgent 9 = .ok (.bipush 15, 2) := by decide +kernel
theorem d_Exceptions_mostUrgent_11 : decode b_Exceptions_mostUrgent 11 = .ok (.if_icmp .gt 44, 3) := by decide +kernel
theorem d_Exceptions_mostUrgent_14 : decode b_Exceptions_mostUrgent 14 = .ok (.aload_n 0, 1) := by decide +kernel
theorem d_Exceptions_mostUrgent_15 : decode b_Exceptions_mostUrgent 15 = .ok (.getfield 15, 3) := by decide +kernel
theorem d_Exceptions_mostUrgent_18 : decode b_Exceptions_mostUrgent 18 = .ok (.iload 4, 2) := by decide +kernel
theorem d_Exceptions_mostUrgent_20 : decode b_Exceptions_mostUrgent 20 = .ok (.iushr, 1) := by decide +kernel
theorem d_Exceptions_mostUrgent_21 : decode b_Exceptions_mostUrgent 21 = .ok (.iconst 1, 1) := by decide +kernel
theorem d_Exceptions_mostUrgent_22 : decode b_Exceptions_mostUrgent 22 = .ok (.iand, 1) := by decide +kernel
theorem d_Exceptions_mostUrgent_23 : decode b_Exceptions_mostUrgent 23 = .ok (.iconst 1, 1) := by decide +kernel
theorem d_Exceptions_mostUrgent_24 : decode b_Exceptions_mostUrgent 24 = .ok (.if_icmp .ne 25, 3) := by decide +kernel
theorem d_Exceptions_mostUrgent_27 : decode b_Exceptions_mostUrgent 27 = .ok (.aload_n 0, 1) := by decide +kernel
theorem d_Exceptions_mostUrgent_28 : decode b_Exceptions_mostUrgent 28 = .ok (.getfield 11, 3) := by decide +kernel
theorem d_Exceptions_mostUrgent_31 : decode b_Exceptions_mostUrgent 31 = .ok (.iload 4, 2) := by decide +kernel
theorem d_Exceptions_mostUrgent_33 : decode b_Exceptions_mostUrgent 33 = .ok (.iaload, 1) := by decide +kernel
theorem d_Exceptions_mostUrgent_34 : decode b_Exceptions_mostUrgent 34 = .ok (.iload_n 3, 1) := by decide +kernel
theorem d_Exceptions_mostUrgent_35 : decode b_Exceptions_mostUrgent 35 = .ok (.if_icmp .ge 14, 3) := by decide +kernel
theorem d_Exceptions_mostUrgent_38 : decode b_Exceptions_mostUrgent 38 = .ok (.iload 4, 2) := by decide +kernel
theorem d_Exceptions_mostUrgent_40 : decode b_Exceptions_mostUrgent 40 = .ok (.istore_n 2, 1) := by decide +kernel
theorem d_Exceptions_mostUrgent_41 : decode b_Exceptions_mostUrgent 41 = .ok (.aload_n 0, 1) := by decide +kernel
theorem d_Exceptions_mostUrgent_42 : decode b_Exceptions_mostUrgent 42 = .ok (.getfield 11, 3) := by decide +kernel
theorem d_Exceptions_mostUrgent_45 : decode b_Exceptions_mostUrgent 45 = .ok (.iload 4, 2) := by decide +kernel
theorem d_Exceptions_mostUrgent_47 : decode b_Exceptions_mostUrgent 47 = .ok (.iaload, 1) := by decide +kernel
theorem d_Exceptions_mostUrgent_48 : decode b_Exceptions_mostUrgent 48 = .ok (.istore_n 3, 1) := by decide +kernel
theorem d_Exceptions_mostUrgent_49 : decode b_Exceptions_mostUrgent 49 = .ok (.iinc 4 1, 3) := by decide +kernel
theorem d_Exceptions_mostUrgent_52 : decode b_Exceptions_mostUrgent 52 = .ok (.goto (-45), 3) := by decide +kernel
theorem d_Exceptions_mostUrgent_55 : decode b_Exceptions_mostUrgent 55 = .ok (.iload_n 2, 1) := by decide +kernel
theorem d_Exceptions_mostUrgent_56 : decode b_Exceptions_mostUrgent 56 = .ok (.ireturn, 1) := by decide +kernel
theorem d_Exceptions_begin_0 : decode b_Exceptions_begin 0 = .ok (.aload_n 0, 1) := by decide +kernel
theorem d_Exceptions_begin_1 : decode b_Exceptions_begin 1 = .ok (.dup, 1) := by decide +kernel
theorem d_Exceptions_begin_2 : decode b_Exceptions_begin 2 = .ok (.getfield 15, 3) := by decide +kernel
theorem d_Exceptions_begin_5 : decode b_Exceptions_begin 5 = .ok (.iconst 1, 1) := by decide +kernel
theorem d_Exceptions_begin_6 : decode b_Exceptions_begin 6 = .ok (.iload_n 1, 1) := by decide +kernel
theorem d_Exceptions_begin_7 : decode b_Exceptions_begin 7 = .ok (.ishl, 1) := by decide +kernel
theorem d_Exceptions_begin_8 : decode b_Exceptions_begin 8 = .ok (.iconst (-1), 1) := by decide +kernel
theorem d_Exceptions_begin_9 : decode b_Exceptions_begin 9 = .ok (.ixor, 1) := by decide +kernel
theorem d_Exceptions_begin_10 : decode b_Exceptions_begin 10 = .ok (.iand, 1) := by decide +kernel
theorem d_Exceptions_begin_11 : decode b_Exceptions_begin 11 = .ok (.putfield 15, 3) := by decide +kernel
theorem d_Exceptions_begin_14 : decode b_Exceptions_begin 14 = .ok (.aload_n 0, 1) := by decide +kernel
theorem d_Exceptions_begin_15 : decode b_Exceptions_begin 15 = .ok (.dup, 1) := by decide +kernel
theorem d_Exceptions_begin_16 : decode b_Exceptions_begin 16 = .ok (.getfield 19, 3) := by decide +kernel
theorem d_Exceptions_begin_19 : decode b_Exceptions_begin 19 = .ok (.iconst 1, 1) := by decide +kernel
theorem d_Exceptions_begin_20 : decode b_Exceptions_begin 20 = .ok (.iload_n 1, 1) := by decide +kernel
theorem d_Exceptions_begin_21 : decode b_Exceptions_begin 21 = .ok (.ishl, 1) := by decide +kernel
theorem d_Exceptions_begin_22 : decode b_Exceptions_begin 22 = .ok (.ior, 1) := by decide +kernel
theorem d_Exceptions_begin_23 : decode b_Exceptions_begin 23 = .ok (.putfield 19, 3) := by decide +kernel
theorem d_Exceptions_begin_26 : decode b_Exceptions_begin 26 = .ok (.aload_n 0, 1) := by decide +kernel
theorem d_Exceptions_begin_27 : decode b_Exceptions_begin 27 = .ok (.iload_n 1, 1) := by decide +kernel
theorem d_Exceptions_begin_28 : decode b_Exceptions_begin 28 = .ok (.putfield 22, 3) := by decide +kernel
theorem d_Exceptions_begin_31 : decode b_Exceptions_begin 31 = .ok (.return_, 1) := by decide +kernel
theorem d_Exceptions_mayEndLast_0 : decode b_Exceptions_mayEndLast 0 = .ok (.iload_n 1, 1) := by decide +kernel
theorem d_Exceptions_mayEndLast_1 : decode b_Exceptions_mayEndLast 1 = .ok (.ifCond .ne 18, 3) := by decide +kernel
theorem d_Exceptions_mayEndLast_4 : decode b_Exceptions_mayEndLast 4 = .ok (.aload_n 0, 1) := by decide +kernel
theorem d_Exceptions_mayEndLast_5 : decode b_Exceptions_mayEndLast 5 = .ok (.getfield 19, 3) := by decide +kernel
theorem d_Exceptions_mayEndLast_8 : decode b_Exceptions_mayEndLast 8 = .ok (.invokestatic 39, 3) := by decide +kernel
theorem d_Exceptions_mayEndLast_11 : decode b_Exceptions_mayEndLast 11 = .ok (.iconst 1, 1) := by decide +kernel
theorem d_Exceptions_mayEndLast_12 : decode b_Exceptions_mayEndLast 12 = .ok (.if_icmp .ne 7, 3) := by decide +kernel
theorem d_Exceptions_mayEndLast_15 : decode b_Exceptions_mayEndLast 15 = .ok (.iconst 1, 1) := by decide +kernel
theorem d_Exceptions_mayEndLast_16 : decode b_Exceptions_mayEndLast 16 = .ok (.goto 4, 3) := by decide +kernel
theorem d_Exceptions_mayEndLast_19 : decode b_Exceptions_mayEndLast 19 = .ok (.iconst 0, 1) := by decide +kernel
theorem d_Exceptions_mayEndLast_20 : decode b_Exceptions_mayEndLast 20 = .ok (.ireturn, 1) := by decide +kernel
theorem d_Exceptions_mayEndFor_0 : decode b_Exceptions_mayEndFor 0 = .ok (.iload_n 1, 1) := by decide +kernel
theorem d_Exceptions_mayEndFor_1 : decode b_Exceptions_mayEndFor 1 = .ok (.aload_n 0, 1) := by decide +kernel
theorem d_Exceptions_mayEndFor_2 : decode b_Exceptions_mayEndFor 2 = .ok (.getfield 22, 3) := by decide +kernel
theorem d_Exceptions_mayEndFor_5 : decode b_Exceptions_mayEndFor 5 = .ok (.if_icmp .eq 26, 3) := by decide +kernel
theorem d_Exceptions_mayEndFor_8 : decode b_Exceptions_mayEndFor 8 = .ok (.aload_n 0, 1) := by decide +kernel
theorem d_Exceptions_mayEndFor_9 : decode b_Exceptions_mayEndFor 9 = .ok (.iload_n 1, 1) := by decide +kernel
theorem d_Exceptions_mayEndFor_10 : decode b_Exceptions_mayEndFor 10 = .ok (.invokevirtual 45, 3) := by decide +kernel
theorem d_Exceptions_mayEndFor_13 : decode b_Exceptions_mayEndFor 13 = .ok (.ifCond .eq 18, 3) := by decide +kernel
theorem d_Exceptions_mayEndFor_16 : decode b_Exceptions_mayEndFor 16 = .ok (.aload_n 0, 1) := by decide +kernel
theorem d_Exceptions_mayEndFor_17 : decode b_Exceptions_mayEndFor 17 = .ok (.getfield 19, 3) := by decide +kernel
theorem d_Exceptions_mayEndFor_20 : decode b_Exceptions_mayEndFor 20 = .ok (.invokestatic 39, 3) := by decide +kernel
theorem d_Exceptions_mayEndFor_23 : decode b_Exceptions_mayEndFor 23 = .ok (.iconst 1, 1) := by decide +kernel
theorem d_Exceptions_mayEndFor_24 : decode b_Exceptions_mayEndFor 24 = .ok (.if_icmp .le 7, 3) := by decide +kernel
theorem d_Exceptions_mayEndFor_27 : decode b_Exceptions_mayEndFor 27 = .ok (.iconst 1, 1) := by decide +kernel
theorem d_Exceptions_mayEndFor_28 : decode b_Exceptions_mayEndFor 28 = .ok (.goto 4, 3) := by decide +kernel
theorem d_Exceptions_mayEndFor_31 : decode b_Exceptions_mayEndFor 31 = .ok (.iconst 0, 1) := by decide +kernel
theorem d_Exceptions_mayEndFor_32 : decode b_Exceptions_mayEndFor 32 = .ok (.ireturn, 1) := by decide +kernel
theorem d_Exceptions_endFor_0 : decode b_Exceptions_endFor 0 = .ok (.aload_n 0, 1) := by decide +kernel
theorem d_Exceptions_endFor_1 : decode b_Exceptions_endFor 1 = .ok (.dup, 1) := by decide +kernel
theorem d_Exceptions_endFor_2 : decode b_Exceptions_endFor 2 = .ok (.getfield 19, 3) := by decide +kernel
theorem d_Exceptions_endFor_5 : decode b_Exceptions_endFor 5 = .ok (.iconst 1, 1) := by decide +kernel
theorem d_Exceptions_endFor_6 : decode b_Exceptions_endFor 6 = .ok (.aload_n 0, 1) := by decide +kernel
theorem d_Exceptions_endFor_7 : decode b_Exceptions_endFor 7 = .ok (.getfield 22, 3) := by decide +kernel
theorem d_Exceptions_endFor_10 : decode b_Exceptions_endFor 10 = .ok (.ishl, 1) := by decide +kernel
theorem d_Exceptions_endFor_11 : decode b_Exceptions_endFor 11 = .ok (.iconst (-1), 1) := by decide +kernel
theorem d_Exceptions_endFor_12 : decode b_Exceptions_endFor 12 = .ok (.ixor, 1) := by decide +kernel
theorem d_Exceptions_endFor_13 : decode b_Exceptions_endFor 13 = .ok (.iand, 1) := by decide +kernel
theorem d_Exceptions_endFor_14 : decode b_Exceptions_endFor 14 = .ok (.putfield 19, 3) := by decide +kernel
theorem d_Exceptions_endFor_17 : decode b_Exceptions_endFor 17 = .ok (.aload_n 0, 1) := by decide +kernel
theorem d_Exceptions_endFor_18 : decode b_Exceptions_endFor 18 = .ok (.iload_n 1, 1) := by decide +kernel
theorem d_Exceptions_endFor_19 : decode b_Exceptions_endFor 19 = .ok (.putfield 22, 3) := by decide +kernel
theorem d_Exceptions_endFor_22 : decode b_Exceptions_endFor 22 = .ok (.return_, 1) := by decide +kernel
