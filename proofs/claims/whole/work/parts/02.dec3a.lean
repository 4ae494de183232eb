theorem d_Memory_init_0 : decode b_Memory_init 0 = .ok (.aload_n 0, 1) := by decide +kernel
theorem d_Memory_init_1 : decode b_Memory_init 1 = .ok (.invokespecial 1, 3) := by decide +kernel
theorem d_Memory_init_4 : decode b_Memory_init 4 = .ok (.aload_n 0, 1) := by decide +kernel
theorem d_Memory_init_5 : decode b_Memory_init 5 = .ok (.iload_n 1, 1) := by decide +kernel
theorem d_Memory_init_6 : decode b_Memory_init 6 = .ok (.putfield 7, 3) := by decide +kernel
theorem d_Memory_init_9 : decode b_Memory_init 9 = .ok (.aload_n 0, 1) := by decide +kernel
theorem d_Memory_init_10 : decode b_Memory_init 10 = .ok (.iload_n 1, 1) := by decide +kernel
theorem d_Memory_init_11 : decode b_Memory_init 11 = .ok (.iconst 4, 1) := by decide +kernel
theorem d_Memory_init_12 : decode b_Memory_init 12 = .ok (.idiv, 1) := by decide +kernel
theorem d_Memory_init_13 : decode b_Memory_init 13 = .ok (.newarray .int, 2) := by decide +kernel
theorem d_Memory_init_15 : decode b_Memory_init 15 = .ok (.putfield 13, 3) := by decide +kernel
theorem d_Memory_init_18 : decode b_Memory_init 18 = .ok (.return_, 1) := by decide +kernel
theorem d_Memory_holds_0 : decode b_Memory_holds 0 = .ok (.iload_n 1, 1) := by decide +kernel
theorem d_Memory_holds_1 : decode b_Memory_holds 1 = .ok (.ifCond .lt 17, 3) := by decide +kernel
theorem d_Memory_holds_4 : decode b_Memory_holds 4 = .ok (.iload_n 1, 1) := by decide +kernel
theorem d_Memory_holds_5 : decode b_Memory_holds 5 = .ok (.aload_n 0, 1) := by decide +kernel
theorem d_Memory_holds_6 : decode b_Memory_holds 6 = .ok (.getfield 7, 3) := by decide +kernel
theorem d_Memory_holds_9 : decode b_Memory_holds 9 = .ok (.iload_n 2, 1) := by decide +kernel
theorem d_Memory_holds_10 : decode b_Memory_holds 10 = .ok (.isub, 1) := by decide +kernel
theorem d_Memory_holds_11 : decode b_Memory_holds 11 = .ok (.if_icmp .gt 7, 3) := by decide +kernel
theorem d_Memory_holds_14 : decode b_Memory_holds 14 = .ok (.iconst 1, 1) := by decide +kernel
theorem d_Memory_holds_15 : decode b_Memory_holds 15 = .ok (.goto 4, 3) := by decide +kernel
theorem d_Memory_holds_18 : decode b_Memory_holds 18 = .ok (.iconst 0, 1) := by decide +kernel
theorem d_Memory_holds_19 : decode b_Memory_holds 19 = .ok (.ireturn, 1) := by decide +kernel
theorem d_Memory_isThere_0 : decode b_Memory_isThere 0 = .ok (.iload_n 1, 1) := by decide +kernel
theorem d_Memory_isThere_1 : decode b_Memory_isThere 1 = .ok (.iload_n 2, 1) := by decide +kernel
theorem d_Memory_isThere_2 : decode b_Memory_isThere 2 = .ok (.iconst 1, 1) := by decide +kernel
theorem d_Memory_isThere_3 : decode b_Memory_isThere 3 = .ok (.isub, 1) := by decide +kernel
theorem d_Memory_isThere_4 : decode b_Memory_isThere 4 = .ok (.iand, 1) := by decide +kernel
theorem d_Memory_isThere_5 : decode b_Memory_isThere 5 = .ok (.ifCond .ne 16, 3) := by decide +kernel
theorem d_Memory_isThere_8 : decode b_Memory_isThere 8 = .ok (.aload_n 0, 1) := by decide +kernel
theorem d_Memory_isThere_9 : decode b_Memory_isThere 9 = .ok (.iload_n 1, 1) := by decide +kernel
theorem d_Memory_isThere_10 : decode b_Memory_isThere 10 = .ok (.iload_n 2, 1) := by decide +kernel
theorem d_Memory_isThere_11 : decode b_Memory_isThere 11 = .ok (.invokevirtual 17, 3) := by decide +kernel
theorem d_Memory_isThere_14 : decode b_Memory_isThere 14 = .ok (.ifCond .eq 7, 3) := by decide +kernel
theorem d_Memory_isThere_17 : decode b_Memory_isThere 17 = .ok (.iconst 1, 1) := by decide +kernel
theorem d_Memory_isThere_18 : decode b_Memory_isThere 18 = .ok (.goto 4, 3) := by decide +kernel
theorem d_Memory_isThere_21 : decode b_Memory_isThere 21 = .ok (.iconst 0, 1) := by decide +kernel
theorem d_Memory_isThere_22 : decode b_Memory_isThere 22 = .ok (.ireturn, 1) := by decide +kernel
theorem d_Memory_areThere_0 : decode b_Memory_areThere 0 = .ok (.iload_n 1, 1) := by decide +kernel
theorem d_Memory_areThere_1 : decode b_Memory_areThere 1 = .ok (.iconst 3, 1) := by decide +kernel
theorem d_Memory_areThere_2 : decode b_Memory_areThere 2 = .ok (.iand, 1) := by decide +kernel
theorem d_Memory_areThere_3 : decode b_Memory_areThere 3 = .ok (.ifCond .ne 23, 3) := by decide +kernel
theorem d_Memory_areThere_6 : decode b_Memory_areThere 6 = .ok (.iload_n 1, 1) := by decide +kernel
theorem d_Memory_areThere_7 : decode b_Memory_areThere 7 = .ok (.ifCond .lt 19, 3) := by decide +kernel
theorem d_Memory_areThere_10 : decode b_Memory_areThere 10 = .ok (.iload_n 1, 1) := by decide +kernel
theorem d_Memory_areThere_11 : decode b_Memory_areThere 11 = .ok (.aload_n 0, 1) := by decide +kernel
theorem d_Memory_areThere_12 : decode b_Memory_areThere 12 = .ok (.getfield 7, 3) := by decide +kernel
theorem d_Memory_areThere_15 : decode b_Memory_areThere 15 = .ok (.iconst 4, 1) := by decide +kernel
theorem d_Memory_areThere_16 : decode b_Memory_areThere 16 = .ok (.iload_n 2, 1) := by decide +kernel
theorem d_Memory_areThere_17 : decode b_Memory_areThere 17 = .ok (.imul, 1) := by decide +kernel
theorem d_Memory_areThere_18 : decode b_Memory_areThere 18 = .ok (.isub, 1) := by decide +kernel
theorem d_Memory_areThere_19 : decode b_Memory_areThere 19 = .ok (.if_icmp .gt 7, 3) := by decide +kernel
theorem d_Memory_areThere_22 : decode b_Memory_areThere 22 = .ok (.iconst 1, 1) := by decide +kernel
theorem d_Memory_areThere_23 : decode b_Memory_areThere 23 = .ok (.goto 4, 3) := by decide +kernel
theorem d_Memory_areThere_26 : decode b_Memory_areThere 26 = .ok (.iconst 0, 1) := by decide +kernel
theorem d_Memory_areThere_27 : decode b_Memory_areThere 27 = .ok (.ireturn, 1) := by decide +kernel
theorem d_Memory_word_0 : decode b_Memory_word 0 = .ok (.aload_n 0, 1) := by decide +kernel
theorem d_Memory_word_1 : decode b_Memory_word 1 = .ok (.getfield 13, 3) := by decide +kernel
theorem d_Memory_word_4 : decode b_Memory_word 4 = .ok (.iload_n 1, 1) := by decide +kernel
theorem d_Memory_word_5 : decode b_Memory_word 5 = .ok (.iconst 2, 1) := by decide +kernel
theorem d_Memory_word_6 : decode b_Memory_word 6 = .ok (.iushr, 1) := by decide +kernel
theorem d_Memory_word_7 : decode b_Memory_word 7 = .ok (.iaload, 1) := by decide +kernel
theorem d_Memory_word_8 : decode b_Memory_word 8 = .ok (.ireturn, 1) := by decide +kernel
theorem d_Memory_putWord_0 : decode b_Memory_putWord 0 = .ok (.aload_n 0, 1) := by decide +kernel
theorem d_Memory_putWord_1 : decode b_Memory_putWord 1 = .ok (.getfield 13, 3) := by decide +kernel
theorem d_Memory_putWord_4 : decode b_Memory_putWord 4 = .ok (.iload_n 1, 1) := by decide +kernel
theorem d_Memory_putWord_5 : decode b_Memory_putWord 5 = .ok (.iconst 2, 1) := by decide +kernel
theorem d_Memory_putWord_6 : decode b_Memory_putWord 6 = .ok (.iushr, 1) := by decide +kernel
theorem d_Memory_putWord_7 : decode b_Memory_putWord 7 = .ok (.iload_n 2, 1) := by decide +kernel
theorem d_Memory_putWord_8 : decode b_Memory_putWord 8 = .ok (.iastore, 1) := by decide +kernel
theorem d_Memory_putWord_9 : decode b_Memory_putWord 9 = .ok (.return_, 1) := by decide +kernel
theorem d_Memory_read_0 : decode b_Memory_read 0 = .ok (.aload_n 0, 1) := by decide +kernel
theorem d_Memory_read_1 : decode b_Memory_read 1 = .ok (.getfield 13, 3) := by decide +kernel
theorem d_Memory_read_4 : decode b_Memory_read 4 = .ok (.iload_n 1, 1) := by decide +kernel
theorem d_Memory_read_5 : decode b_Memory_read 5 = .ok (.iconst 2, 1) := by decide +kernel
theorem d_Memory_read_6 : decode b_Memory_read 6 = .ok (.iushr, 1) := by decide +kernel
theorem d_Memory_read_7 : decode b_Memory_read 7 = .ok (.iaload, 1) := by decide +kernel
theorem d_Memory_read_8 : decode b_Memory_read 8 = .ok (.bipush 8, 2) := by decide +kernel
theorem d_Memory_read_10 : decode b_Memory_read 10 = .ok (.iload_n 1, 1) := by decide +kernel
theorem d_Memory_read_11 : decode b_Memory_read 11 = .ok (.iconst 3, 1) := by decide +kernel
theorem d_Memory_read_12 : decode b_Memory_read 12 = .ok (.iand, 1) := by decide +kernel
theorem d_Memory_read_13 : decode b_Memory_read 13 = .ok (.imul, 1) := by decide +kernel
theorem d_Memory_read_14 : decode b_Memory_read 14 = .ok (.iushr, 1) := by decide +kernel
theorem d_Memory_read_15 : decode b_Memory_read 15 = .ok (.iload_n 2, 1) := by decide +kernel
theorem d_Memory_read_16 : decode b_Memory_read 16 = .ok (.invokestatic 21, 3) := by decide +kernel
theorem d_Memory_read_19 : decode b_Memory_read 19 = .ok (.iand, 1) := by decide +kernel
theorem d_Memory_read_20 : decode b_Memory_read 20 = .ok (.ireturn, 1) := by decide +kernel
theorem d_Memory_write_0 : decode b_Memory_write 0 = .ok (.bipush 8, 2) := by decide +kernel
theorem d_Memory_write_2 : decode b_Memory_write 2 = .ok (.iload_n 1, 1) := by decide +kernel
theorem d_Memory_write_3 : decode b_Memory_write 3 = .ok (.iconst 3, 1) := by decide +kernel
theorem d_Memory_write_4 : decode b_Memory_write 4 = .ok (.iand, 1) := by decide +kernel
theorem d_Memory_write_5 : decode b_Memory_write 5 = .ok (.imul, 1) := by decide +kernel
theorem d_Memory_write_6 : decode b_Memory_write 6 = .ok (.istore 4, 2) := by decide +kernel
theorem d_Memory_write_8 : decode b_Memory_write 8 = .ok (.iload_n 3, 1) := by decide +kernel
theorem d_Memory_write_9 : decode b_Memory_write 9 = .ok (.invokestatic 21, 3) := by decide +kernel
theorem d_Memory_write_12 : decode b_Memory_write 12 = .ok (.iload 4, 2) := by decide +kernel
theorem d_Memory_write_14 : decode b_Memory_write 14 = .ok (.ishl, 1) := by decide +kernel
theorem d_Memory_write_15 : decode b_Memory_write 15 = .ok (.istore 5, 2) := by decide +kernel
theorem d_Memory_write_17 : decode b_Memory_write 17 = .ok (.aload_n 0, 1) := by decide +kernel
theorem d_Memory_write_18 : decode b_Memory_write 18 = .ok (.getfield 13, 3) := by decide +kernel
theorem d_Memory_write_21 : decode b_Memory_write 21 = .ok (.iload_n 1, 1) := by decide +kernel
theorem d_Memory_write_22 : decode b_Memory_write 22 = .ok (.iconst 2, 1) := by decide +kernel
theorem d_Memory_write_23 : decode b_Memory_write 23 = .ok (.iushr, 1) := by decide +kernel
theorem d_Memory_write_24 : decode b_Memory_write 24 = .ok (.aload_n 0, 1) := by decide +kernel
theorem d_Memory_write_25 : decode b_Memory_write 25 = .ok (.getfield 13, 3) := by decide +kernel
theorem d_Memory_write_28 : decode b_Memory_write 28 = .ok (.iload_n 1, 1) := by decide +kernel
theorem d_Memory_write_29 : decode b_Memory_write 29 = .ok (.iconst 2, 1) := by decide +kernel
theorem d_Memory_write_30 : decode b_Memory_write 30 = .ok (.iushr, 1) := by decide +kernel
theorem d_Memory_write_31 : decode b_Memory_write 31 = .ok (.iaload, 1) := by decide +kernel
theorem d_Memory_write_32 : decode b_Memory_write 32 = .ok (.iload 5, 2) := by decide +kernel
theorem d_Memory_write_34 : decode b_Memory_write 34 = .ok (.iconst (-1), 1) := by decide +kernel
theorem d_Memory_write_35 : decode b_Memory_write 35 = .ok (.ixor, 1) := by decide +kernel
theorem d_Memory_write_36 : decode b_Memory_write 36 = .ok (.iand, 1) := by decide +kernel
theorem d_Memory_write_37 : decode b_Memory_write 37 = .ok (.iload_n 2, 1) := by decide +kernel
theorem d_Memory_write_38 : decode b_Memory_write 38 = .ok (.iload 4, 2) := by decide +kernel
theorem d_Memory_write_40 : decode b_Memory_write 40 = .ok (.ishl, 1) := by decide +kernel
theorem d_Memory_write_41 : decode b_Memory_write 41 = .ok (.iload 5, 2) := by decide +kernel
theorem d_Memory_write_43 : decode b_Memory_write 43 = .ok (.iand, 1) := by decide +kernel
theorem d_Memory_write_44 : decode b_Memory_write 44 = .ok (.ior, 1) := by decide +kernel
theorem d_Memory_write_45 : decode b_Memory_write 45 = .ok (.iastore, 1) := by decide +kernel
theorem d_Memory_write_46 : decode b_Memory_write 46 = .ok (.return_, 1) := by decide +kernel
theorem d_Memory_lowest_0 : decode b_Memory_lowest 0 = .ok (.iload_n 0, 1) := by decide +kernel
theorem d_Memory_lowest_1 : decode b_Memory_lowest 1 = .ok (.iconst 4, 1) := by decide +kernel
theorem d_Memory_lowest_2 : decode b_Memory_lowest 2 = .ok (.if_icmp .ne 7, 3) := by decide +kernel
theorem d_Memory_lowest_5 : decode b_Memory_lowest 5 = .ok (.iconst (-1), 1) := by decide +kernel
theorem d_Memory_lowest_6 : decode b_Memory_lowest 6 = .ok (.goto 11, 3) := by decide +kernel
theorem d_Memory_lowest_9 : decode b_Memory_lowest 9 = .ok (.iconst 1, 1) := by decide +kernel
theorem d_Memory_lowest_10 : decode b_Memory_lowest 10 = .ok (.bipush 8, 2) := by decide +kernel
theorem d_Memory_lowest_12 : decode b_Memory_lowest 12 = .ok (.iload_n 0, 1) := by decide +kernel
theorem d_Memory_lowest_13 : decode b_Memory_lowest 13 = .ok (.imul, 1) := by decide +kernel
theorem d_Memory_lowest_14 : decode b_Memory_lowest 14 = .ok (.ishl, 1) := by decide +kernel
theorem d_Memory_lowest_15 : decode b_Memory_lowest 15 = .ok (.iconst 1, 1) := by decide +kernel
theorem d_Memory_lowest_16 : decode b_Memory_lowest 16 = .ok (.isub, 1) := by decide +kernel
theorem d_Memory_lowest_17 : decode b_Memory_lowest 17 = .ok (.ireturn, 1) := by decide +kernel
