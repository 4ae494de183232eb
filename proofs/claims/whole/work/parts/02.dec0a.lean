theorem d_Counter_init_0 : decode b_Counter_init 0 = .ok (.aload_n 0, 1) := by decide +kernel
theorem d_Counter_init_1 : decode b_Counter_init 1 = .ok (.invokespecial 1, 3) := by decide +kernel
theorem d_Counter_init_4 : decode b_Counter_init 4 = .ok (.return_, 1) := by decide +kernel
theorem d_Counter_begin_0 : decode b_Counter_begin 0 = .ok (.aload_n 0, 1) := by decide +kernel
theorem d_Counter_begin_1 : decode b_Counter_begin 1 = .ok (.iconst 0, 1) := by decide +kernel
theorem d_Counter_begin_2 : decode b_Counter_begin 2 = .ok (.putfield 7, 3) := by decide +kernel
theorem d_Counter_begin_5 : decode b_Counter_begin 5 = .ok (.aload_n 0, 1) := by decide +kernel
theorem d_Counter_begin_6 : decode b_Counter_begin 6 = .ok (.iload_n 1, 1) := by decide +kernel
theorem d_Counter_begin_7 : decode b_Counter_begin 7 = .ok (.putfield 13, 3) := by decide +kernel
theorem d_Counter_begin_10 : decode b_Counter_begin 10 = .ok (.aload_n 0, 1) := by decide +kernel
theorem d_Counter_begin_11 : decode b_Counter_begin 11 = .ok (.iload_n 2, 1) := by decide +kernel
theorem d_Counter_begin_12 : decode b_Counter_begin 12 = .ok (.putfield 16, 3) := by decide +kernel
theorem d_Counter_begin_15 : decode b_Counter_begin 15 = .ok (.return_, 1) := by decide +kernel
theorem d_Counter_moves_0 : decode b_Counter_moves 0 = .ok (.aload_n 0, 1) := by decide +kernel
theorem d_Counter_moves_1 : decode b_Counter_moves 1 = .ok (.getfield 16, 3) := by decide +kernel
theorem d_Counter_moves_4 : decode b_Counter_moves 4 = .ok (.ifCond .ne 5, 3) := by decide +kernel
theorem d_Counter_moves_7 : decode b_Counter_moves 7 = .ok (.iconst 0, 1) := by decide +kernel
theorem d_Counter_moves_8 : decode b_Counter_moves 8 = .ok (.ireturn, 1) := by decide +kernel
theorem d_Counter_moves_9 : decode b_Counter_moves 9 = .ok (.aload_n 0, 1) := by decide +kernel
theorem d_Counter_moves_10 : decode b_Counter_moves 10 = .ok (.getfield 7, 3) := by decide +kernel
theorem d_Counter_moves_13 : decode b_Counter_moves 13 = .ok (.ifCond .ne 13, 3) := by decide +kernel
theorem d_Counter_moves_16 : decode b_Counter_moves 16 = .ok (.aload_n 0, 1) := by decide +kernel
theorem d_Counter_moves_17 : decode b_Counter_moves 17 = .ok (.aload_n 0, 1) := by decide +kernel
theorem d_Counter_moves_18 : decode b_Counter_moves 18 = .ok (.getfield 13, 3) := by decide +kernel
theorem d_Counter_moves_21 : decode b_Counter_moves 21 = .ok (.putfield 7, 3) := by decide +kernel
theorem d_Counter_moves_24 : decode b_Counter_moves 24 = .ok (.iconst 0, 1) := by decide +kernel
theorem d_Counter_moves_25 : decode b_Counter_moves 25 = .ok (.ireturn, 1) := by decide +kernel
theorem d_Counter_moves_26 : decode b_Counter_moves 26 = .ok (.aload_n 0, 1) := by decide +kernel
theorem d_Counter_moves_27 : decode b_Counter_moves 27 = .ok (.dup, 1) := by decide +kernel
theorem d_Counter_moves_28 : decode b_Counter_moves 28 = .ok (.getfield 7, 3) := by decide +kernel
theorem d_Counter_moves_31 : decode b_Counter_moves 31 = .ok (.iconst 1, 1) := by decide +kernel
theorem d_Counter_moves_32 : decode b_Counter_moves 32 = .ok (.isub, 1) := by decide +kernel
theorem d_Counter_moves_33 : decode b_Counter_moves 33 = .ok (.putfield 7, 3) := by decide +kernel
theorem d_Counter_moves_36 : decode b_Counter_moves 36 = .ok (.aload_n 0, 1) := by decide +kernel
theorem d_Counter_moves_37 : decode b_Counter_moves 37 = .ok (.getfield 7, 3) := by decide +kernel
theorem d_Counter_moves_40 : decode b_Counter_moves 40 = .ok (.ifCond .ne 7, 3) := by decide +kernel
theorem d_Counter_moves_43 : decode b_Counter_moves 43 = .ok (.iconst 1, 1) := by decide +kernel
theorem d_Counter_moves_44 : decode b_Counter_moves 44 = .ok (.goto 4, 3) := by decide +kernel
theorem d_Counter_moves_47 : decode b_Counter_moves 47 = .ok (.iconst 0, 1) := by decide +kernel
theorem d_Counter_moves_48 : decode b_Counter_moves 48 = .ok (.ireturn, 1) := by decide +kernel
