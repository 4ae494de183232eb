theorem d_ThumbCoreModel_init_0 : decode b_ThumbCoreModel_init 0 = .ok (.aload_n 0, 1) := by decide +kernel
theorem d_ThumbCoreModel_init_1 : decode b_ThumbCoreModel_init 1 = .ok (.invokespecial 1, 3) := by decide +kernel
theorem d_ThumbCoreModel_init_4 : decode b_ThumbCoreModel_init 4 = .ok (.aload_n 0, 1) := by decide +kernel
theorem d_ThumbCoreModel_init_5 : decode b_ThumbCoreModel_init 5 = .ok (.sipush 2048, 3) := by decide +kernel
theorem d_ThumbCoreModel_init_8 : decode b_ThumbCoreModel_init 8 = .ok (.newarray .byte, 2) := by decide +kernel
theorem d_ThumbCoreModel_init_10 : decode b_ThumbCoreModel_init 10 = .ok (.putfield 7, 3) := by decide +kernel
theorem d_ThumbCoreModel_init_13 : decode b_ThumbCoreModel_init 13 = .ok (.aload_n 0, 1) := by decide +kernel
theorem d_ThumbCoreModel_init_14 : decode b_ThumbCoreModel_init 14 = .ok (.bipush 16, 2) := by decide +kernel
theorem d_ThumbCoreModel_init_16 : decode b_ThumbCoreModel_init 16 = .ok (.newarray .int, 2) := by decide +kernel
theorem d_ThumbCoreModel_init_18 : decode b_ThumbCoreModel_init 18 = .ok (.putfield 13, 3) := by decide +kernel
theorem d_ThumbCoreModel_init_21 : decode b_ThumbCoreModel_init 21 = .ok (.aload_n 0, 1) := by decide +kernel
theorem d_ThumbCoreModel_init_22 : decode b_ThumbCoreModel_init 22 = .ok (.bipush 16, 2) := by decide +kernel
theorem d_ThumbCoreModel_init_24 : decode b_ThumbCoreModel_init 24 = .ok (.newarray .int, 2) := by decide +kernel
theorem d_ThumbCoreModel_init_26 : decode b_ThumbCoreModel_init 26 = .ok (.putfield 17, 3) := by decide +kernel
theorem d_ThumbCoreModel_init_29 : decode b_ThumbCoreModel_init 29 = .ok (.aload_n 0, 1) := by decide +kernel
theorem d_ThumbCoreModel_init_30 : decode b_ThumbCoreModel_init 30 = .ok (.bipush 16, 2) := by decide +kernel
theorem d_ThumbCoreModel_init_32 : decode b_ThumbCoreModel_init 32 = .ok (.newarray .boolean, 2) := by decide +kernel
theorem d_ThumbCoreModel_init_34 : decode b_ThumbCoreModel_init 34 = .ok (.putfield 20, 3) := by decide +kernel
theorem d_ThumbCoreModel_init_37 : decode b_ThumbCoreModel_init 37 = .ok (.aload_n 0, 1) := by decide +kernel
theorem d_ThumbCoreModel_init_38 : decode b_ThumbCoreModel_init 38 = .ok (.bipush 16, 2) := by decide +kernel
theorem d_ThumbCoreModel_init_40 : decode b_ThumbCoreModel_init 40 = .ok (.newarray .boolean, 2) := by decide +kernel
theorem d_ThumbCoreModel_init_42 : decode b_ThumbCoreModel_init 42 = .ok (.putfield 24, 3) := by decide +kernel
theorem d_ThumbCoreModel_init_45 : decode b_ThumbCoreModel_init 45 = .ok (.aload_n 0, 1) := by decide +kernel
theorem d_ThumbCoreModel_init_46 : decode b_ThumbCoreModel_init 46 = .ok (.bipush 16, 2) := by decide +kernel
theorem d_ThumbCoreModel_init_48 : decode b_ThumbCoreModel_init 48 = .ok (.newarray .int, 2) := by decide +kernel
theorem d_ThumbCoreModel_init_50 : decode b_ThumbCoreModel_init 50 = .ok (.putfield 27, 3) := by decide +kernel
theorem d_ThumbCoreModel_init_53 : decode b_ThumbCoreModel_init 53 = .ok (.iload_n 1, 1) := by decide +kernel
theorem d_ThumbCoreModel_init_54 : decode b_ThumbCoreModel_init 54 = .ok (.bipush (-4), 2) := by decide +kernel
theorem d_ThumbCoreModel_init_56 : decode b_ThumbCoreModel_init 56 = .ok (.iand, 1) := by decide +kernel
theorem d_ThumbCoreModel_init_57 : decode b_ThumbCoreModel_init 57 = .ok (.istore_n 2, 1) := by decide +kernel
theorem d_ThumbCoreModel_init_58 : decode b_ThumbCoreModel_init 58 = .ok (.aload_n 0, 1) := by decide +kernel
theorem d_ThumbCoreModel_init_59 : decode b_ThumbCoreModel_init 59 = .ok (.iload_n 2, 1) := by decide +kernel
theorem d_ThumbCoreModel_init_60 : decode b_ThumbCoreModel_init 60 = .ok (.sipush 128, 3) := by decide +kernel
theorem d_ThumbCoreModel_init_63 : decode b_ThumbCoreModel_init 63 = .ok (.if_icmp .ge 9, 3) := by decide +kernel
theorem d_ThumbCoreModel_init_66 : decode b_ThumbCoreModel_init 66 = .ok (.sipush 128, 3) := by decide +kernel
theorem d_ThumbCoreModel_init_69 : decode b_ThumbCoreModel_init 69 = .ok (.goto 17, 3) := by decide +kernel
theorem d_ThumbCoreModel_init_72 : decode b_ThumbCoreModel_init 72 = .ok (.iload_n 2, 1) := by decide +kernel
theorem d_ThumbCoreModel_init_73 : decode b_ThumbCoreModel_init 73 = .ok (.sipush 2048, 3) := by decide +kernel
theorem d_ThumbCoreModel_init_76 : decode b_ThumbCoreModel_init 76 = .ok (.if_icmp .le 9, 3) := by decide +kernel
theorem d_ThumbCoreModel_init_79 : decode b_ThumbCoreModel_init 79 = .ok (.sipush 2048, 3) := by decide +kernel
theorem d_ThumbCoreModel_init_82 : decode b_ThumbCoreModel_init 82 = .ok (.goto 4, 3) := by decide +kernel
theorem d_ThumbCoreModel_init_85 : decode b_ThumbCoreModel_init 85 = .ok (.iload_n 2, 1) := by decide +kernel
theorem d_ThumbCoreModel_init_86 : decode b_ThumbCoreModel_init 86 = .ok (.putfield 30, 3) := by decide +kernel
theorem d_ThumbCoreModel_init_89 : decode b_ThumbCoreModel_init 89 = .ok (.aload_n 0, 1) := by decide +kernel
theorem d_ThumbCoreModel_init_90 : decode b_ThumbCoreModel_init 90 = .ok (.getfield 27, 3) := by decide +kernel
theorem d_ThumbCoreModel_init_93 : decode b_ThumbCoreModel_init 93 = .ok (.iconst 2, 1) := by decide +kernel
theorem d_ThumbCoreModel_init_94 : decode b_ThumbCoreModel_init 94 = .ok (.bipush (-2), 2) := by decide +kernel
theorem d_ThumbCoreModel_init_96 : decode b_ThumbCoreModel_init 96 = .ok (.iastore, 1) := by decide +kernel
theorem d_ThumbCoreModel_init_97 : decode b_ThumbCoreModel_init 97 = .ok (.aload_n 0, 1) := by decide +kernel
theorem d_ThumbCoreModel_init_98 : decode b_ThumbCoreModel_init 98 = .ok (.getfield 27, 3) := by decide +kernel
theorem d_ThumbCoreModel_init_101 : decode b_ThumbCoreModel_init 101 = .ok (.iconst 3, 1) := by decide +kernel
theorem d_ThumbCoreModel_init_102 : decode b_ThumbCoreModel_init 102 = .ok (.iconst (-1), 1) := by decide +kernel
theorem d_ThumbCoreModel_init_103 : decode b_ThumbCoreModel_init 103 = .ok (.iastore, 1) := by decide +kernel
theorem d_ThumbCoreModel_init_104 : decode b_ThumbCoreModel_init 104 = .ok (.aload_n 0, 1) := by decide +kernel
theorem d_ThumbCoreModel_init_105 : decode b_ThumbCoreModel_init 105 = .ok (.invokevirtual 34, 3) := by decide +kernel
theorem d_ThumbCoreModel_init_108 : decode b_ThumbCoreModel_init 108 = .ok (.return_, 1) := by decide +kernel
theorem d_ThumbCoreModel_there_0 : decode b_ThumbCoreModel_there 0 = .ok (.iload_n 1, 1) := by decide +kernel
theorem d_ThumbCoreModel_there_1 : decode b_ThumbCoreModel_there 1 = .ok (.ifCond .lt 23, 3) := by decide +kernel
theorem d_ThumbCoreModel_there_4 : decode b_ThumbCoreModel_there 4 = .ok (.iload_n 1, 1) := by decide +kernel
theorem d_ThumbCoreModel_there_5 : decode b_ThumbCoreModel_there 5 = .ok (.iload_n 2, 1) := by decide +kernel
theorem d_ThumbCoreModel_there_6 : decode b_ThumbCoreModel_there 6 = .ok (.irem, 1) := by decide +kernel
theorem d_ThumbCoreModel_there_7 : decode b_ThumbCoreModel_there 7 = .ok (.ifCond .ne 17, 3) := by decide +kernel
theorem d_ThumbCoreModel_there_10 : decode b_ThumbCoreModel_there 10 = .ok (.iload_n 1, 1) := by decide +kernel
theorem d_ThumbCoreModel_there_11 : decode b_ThumbCoreModel_there 11 = .ok (.aload_n 0, 1) := by decide +kernel
theorem d_ThumbCoreModel_there_12 : decode b_ThumbCoreModel_there 12 = .ok (.getfield 30, 3) := by decide +kernel
theorem d_ThumbCoreModel_there_15 : decode b_ThumbCoreModel_there 15 = .ok (.iload_n 2, 1) := by decide +kernel
theorem d_ThumbCoreModel_there_16 : decode b_ThumbCoreModel_there 16 = .ok (.isub, 1) := by decide +kernel
theorem d_ThumbCoreModel_there_17 : decode b_ThumbCoreModel_there 17 = .ok (.if_icmp .gt 7, 3) := by decide +kernel
theorem d_ThumbCoreModel_there_20 : decode b_ThumbCoreModel_there 20 = .ok (.iconst 1, 1) := by decide +kernel
theorem d_ThumbCoreModel_there_21 : decode b_ThumbCoreModel_there 21 = .ok (.goto 4, 3) := by decide +kernel
theorem d_ThumbCoreModel_there_24 : decode b_ThumbCoreModel_there 24 = .ok (.iconst 0, 1) := by decide +kernel
theorem d_ThumbCoreModel_there_25 : decode b_ThumbCoreModel_there 25 = .ok (.ireturn, 1) := by decide +kernel
theorem d_ThumbCoreModel_read_0 : decode b_ThumbCoreModel_read 0 = .ok (.aload_n 0, 1) := by decide +kernel
theorem d_ThumbCoreModel_read_1 : decode b_ThumbCoreModel_read 1 = .ok (.iload_n 1, 1) := by decide +kernel
theorem d_ThumbCoreModel_read_2 : decode b_ThumbCoreModel_read 2 = .ok (.iload_n 2, 1) := by decide +kernel
theorem d_ThumbCoreModel_read_3 : decode b_ThumbCoreModel_read 3 = .ok (.invokevirtual 37, 3) := by decide +kernel
theorem d_ThumbCoreModel_read_6 : decode b_ThumbCoreModel_read 6 = .ok (.ifCond .ne 10, 3) := by decide +kernel
theorem d_ThumbCoreModel_read_9 : decode b_ThumbCoreModel_read 9 = .ok (.aload_n 0, 1) := by decide +kernel
theorem d_ThumbCoreModel_read_10 : decode b_ThumbCoreModel_read 10 = .ok (.iconst 1, 1) := by decide +kernel
theorem d_ThumbCoreModel_read_11 : decode b_ThumbCoreModel_read 11 = .ok (.putfield 41, 3) := by decide +kernel
theorem d_ThumbCoreModel_read_14 : decode b_ThumbCoreModel_read 14 = .ok (.iconst 0, 1) := by decide +kernel
theorem d_ThumbCoreModel_read_15 : decode b_ThumbCoreModel_read 15 = .ok (.ireturn, 1) := by decide +kernel
theorem d_ThumbCoreModel_read_16 : decode b_ThumbCoreModel_read 16 = .ok (.iconst 0, 1) := by decide +kernel
theorem d_ThumbCoreModel_read_17 : decode b_ThumbCoreModel_read 17 = .ok (.istore_n 3, 1) := by decide +kernel
theorem d_ThumbCoreModel_read_18 : decode b_ThumbCoreModel_read 18 = .ok (.iload_n 2, 1) := by decide +kernel
theorem d_ThumbCoreModel_read_19 : decode b_ThumbCoreModel_read 19 = .ok (.iconst 1, 1) := by decide +kernel
theorem d_ThumbCoreModel_read_20 : decode b_ThumbCoreModel_read 20 = .ok (.isub, 1) := by decide +kernel
theorem d_ThumbCoreModel_read_21 : decode b_ThumbCoreModel_read 21 = .ok (.istore 4, 2) := by decide +kernel
theorem d_ThumbCoreModel_read_23 : decode b_ThumbCoreModel_read 23 = .ok (.iload 4, 2) := by decide +kernel
theorem d_ThumbCoreModel_read_25 : decode b_ThumbCoreModel_read 25 = .ok (.ifCond .lt 28, 3) := by decide +kernel
theorem d_ThumbCoreModel_read_28 : decode b_ThumbCoreModel_read 28 = .ok (.iload_n 3, 1) := by decide +kernel
theorem d_ThumbCoreModel_read_29 : decode b_ThumbCoreModel_read 29 = .ok (.bipush 8, 2) := by decide +kernel
theorem d_ThumbCoreModel_read_31 : decode b_ThumbCoreModel_read 31 = .ok (.ishl, 1) := by decide +kernel
theorem d_ThumbCoreModel_read_32 : decode b_ThumbCoreModel_read 32 = .ok (.aload_n 0, 1) := by decide +kernel
theorem d_ThumbCoreModel_read_33 : decode b_ThumbCoreModel_read 33 = .ok (.getfield 7, 3) := by decide +kernel
theorem d_ThumbCoreModel_read_36 : decode b_ThumbCoreModel_read 36 = .ok (.iload_n 1, 1) := by decide +kernel
theorem d_ThumbCoreModel_read_37 : decode b_ThumbCoreModel_read 37 = .ok (.iload 4, 2) := by decide +kernel
theorem d_ThumbCoreModel_read_39 : decode b_ThumbCoreModel_read 39 = .ok (.iadd, 1) := by decide +kernel
theorem d_ThumbCoreModel_read_40 : decode b_ThumbCoreModel_read 40 = .ok (.baload, 1) := by decide +kernel
theorem d_ThumbCoreModel_read_41 : decode b_ThumbCoreModel_read 41 = .ok (.sipush 255, 3) := by decide +kernel
theorem d_ThumbCoreModel_read_44 : decode b_ThumbCoreModel_read 44 = .ok (.iand, 1) := by decide +kernel
theorem d_ThumbCoreModel_read_45 : decode b_ThumbCoreModel_read 45 = .ok (.ior, 1) := by decide +kernel
theorem d_ThumbCoreModel_read_46 : decode b_ThumbCoreModel_read 46 = .ok (.istore_n 3, 1) := by decide +kernel
theorem d_ThumbCoreModel_read_47 : decode b_ThumbCoreModel_read 47 = .ok (.iinc 4 (-1), 3) := by decide +kernel
theorem d_ThumbCoreModel_read_50 : decode b_ThumbCoreModel_read 50 = .ok (.goto (-27), 3) := by decide +kernel
theorem d_ThumbCoreModel_read_53 : decode b_ThumbCoreModel_read 53 = .ok (.iload_n 3, 1) := by decide +kernel
theorem d_ThumbCoreModel_read_54 : decode b_ThumbCoreModel_read 54 = .ok (.ireturn, 1) := by decide +kernel
theorem d_ThumbCoreModel_write_0 : decode b_ThumbCoreModel_write 0 = .ok (.aload_n 0, 1) := by decide +kernel
theorem d_ThumbCoreModel_write_1 : decode b_ThumbCoreModel_write 1 = .ok (.iload_n 1, 1) := by decide +kernel
theorem d_ThumbCoreModel_write_2 : decode b_ThumbCoreModel_write 2 = .ok (.iload_n 3, 1) := by decide +kernel
theorem d_ThumbCoreModel_write_3 : decode b_ThumbCoreModel_write 3 = .ok (.invokevirtual 37, 3) := by decide +kernel
theorem d_ThumbCoreModel_write_6 : decode b_ThumbCoreModel_write 6 = .ok (.ifCond .ne 9, 3) := by decide +kernel
theorem d_ThumbCoreModel_write_9 : decode b_ThumbCoreModel_write 9 = .ok (.aload_n 0, 1) := by decide +kernel
theorem d_ThumbCoreModel_write_10 : decode b_ThumbCoreModel_write 10 = .ok (.iconst 1, 1) := by decide +kernel
theorem d_ThumbCoreModel_write_11 : decode b_ThumbCoreModel_write 11 = .ok (.putfield 41, 3) := by decide +kernel
theorem d_ThumbCoreModel_write_14 : decode b_ThumbCoreModel_write 14 = .ok (.return_, 1) := by decide +kernel
theorem d_ThumbCoreModel_write_15 : decode b_ThumbCoreModel_write 15 = .ok (.iconst 0, 1) := by decide +kernel
theorem d_ThumbCoreModel_write_16 : decode b_ThumbCoreModel_write 16 = .ok (.istore 4, 2) := by decide +kernel
theorem d_ThumbCoreModel_write_18 : decode b_ThumbCoreModel_write 18 = .ok (.iload 4, 2) := by decide +kernel
theorem d_ThumbCoreModel_write_20 : decode b_ThumbCoreModel_write 20 = .ok (.iload_n 3, 1) := by decide +kernel
theorem d_ThumbCoreModel_write_21 : decode b_ThumbCoreModel_write 21 = .ok (.if_icmp .ge 26, 3) := by decide +kernel
theorem d_ThumbCoreModel_write_24 : decode b_ThumbCoreModel_write 24 = .ok (.aload_n 0, 1) := by decide +kernel
theorem d_ThumbCoreModel_write_25 : decode b_ThumbCoreModel_write 25 = .ok (.getfield 7, 3) := by decide +kernel
theorem d_ThumbCoreModel_write_28 : decode b_ThumbCoreModel_write 28 = .ok (.iload_n 1, 1) := by decide +kernel
theorem d_ThumbCoreModel_write_29 : decode b_ThumbCoreModel_write 29 = .ok (.iload 4, 2) := by decide +kernel
theorem d_ThumbCoreModel_write_31 : decode b_ThumbCoreModel_write 31 = .ok (.iadd, 1) := by decide +kernel
theorem d_ThumbCoreModel_write_32 : decode b_ThumbCoreModel_write 32 = .ok (.iload_n 2, 1) := by decide +kernel
theorem d_ThumbCoreModel_write_33 : decode b_ThumbCoreModel_write 33 = .ok (.bipush 8, 2) := by decide +kernel
theorem d_ThumbCoreModel_write_35 : decode b_ThumbCoreModel_write 35 = .ok (.iload 4, 2) := by decide +kernel
theorem d_ThumbCoreModel_write_37 : decode b_ThumbCoreModel_write 37 = .ok (.imul, 1) := by decide +kernel
theorem d_ThumbCoreModel_write_38 : decode b_ThumbCoreModel_write 38 = .ok (.ishr, 1) := by decide +kernel
theorem d_ThumbCoreModel_write_39 : decode b_ThumbCoreModel_write 39 = .ok (.i2b, 1) := by decide +kernel
theorem d_ThumbCoreModel_write_40 : decode b_ThumbCoreModel_write 40 = .ok (.bastore, 1) := by decide +kernel
theorem d_ThumbCoreModel_write_41 : decode b_ThumbCoreModel_write 41 = .ok (.iinc 4 1, 3) := by decide +kernel
theorem d_ThumbCoreModel_write_44 : decode b_ThumbCoreModel_write 44 = .ok (.goto (-26), 3) := by decide +kernel
theorem d_ThumbCoreModel_write_47 : decode b_ThumbCoreModel_write 47 = .ok (.return_, 1) := by decide +kernel
theorem d_ThumbCoreModel_poke_0 : decode b_ThumbCoreModel_poke 0 = .ok (.iload_n 3, 1) := by decide +kernel
theorem d_ThumbCoreModel_poke_1 : decode b_ThumbCoreModel_poke 1 = .ok (.iconst 1, 1) := by decide +kernel
theorem d_ThumbCoreModel_poke_2 : decode b_ThumbCoreModel_poke 2 = .ok (.if_icmp .eq 13, 3) := by decide +kernel
theorem d_ThumbCoreModel_poke_5 : decode b_ThumbCoreModel_poke 5 = .ok (.iload_n 3, 1) := by decide +kernel
theorem d_ThumbCoreModel_poke_6 : decode b_ThumbCoreModel_poke 6 = .ok (.iconst 2, 1) := by decide +kernel
theorem d_ThumbCoreModel_poke_7 : decode b_ThumbCoreModel_poke 7 = .ok (.if_icmp .eq 8, 3) := by decide +kernel
theorem d_ThumbCoreModel_poke_10 : decode b_ThumbCoreModel_poke 10 = .ok (.iload_n 3, 1) := by decide +kernel
theorem d_ThumbCoreModel_poke_11 : decode b_ThumbCoreModel_poke 11 = .ok (.iconst 4, 1) := by decide +kernel
theorem d_ThumbCoreModel_poke_12 : decode b_ThumbCoreModel_poke 12 = .ok (.if_icmp .ne 17, 3) := by decide +kernel
theorem d_ThumbCoreModel_poke_15 : decode b_ThumbCoreModel_poke 15 = .ok (.iload_n 1, 1) := by decide +kernel
theorem d_ThumbCoreModel_poke_16 : decode b_ThumbCoreModel_poke 16 = .ok (.ifCond .lt 13, 3) := by decide +kernel
theorem d_ThumbCoreModel_poke_19 : decode b_ThumbCoreModel_poke 19 = .ok (.iload_n 1, 1) := by decide +kernel
theorem d_ThumbCoreModel_poke_20 : decode b_ThumbCoreModel_poke 20 = .ok (.aload_n 0, 1) := by decide +kernel
theorem d_ThumbCoreModel_poke_21 : decode b_ThumbCoreModel_poke 21 = .ok (.getfield 30, 3) := by decide +kernel
theorem d_ThumbCoreModel_poke_24 : decode b_ThumbCoreModel_poke 24 = .ok (.iload_n 3, 1) := by decide +kernel
theorem d_ThumbCoreModel_poke_25 : decode b_ThumbCoreModel_poke 25 = .ok (.isub, 1) := by decide +kernel
theorem d_ThumbCoreModel_poke_26 : decode b_ThumbCoreModel_poke 26 = .ok (.if_icmp .le 5, 3) := by decide +kernel
theorem d_ThumbCoreModel_poke_29 : decode b_ThumbCoreModel_poke 29 = .ok (.iconst 0, 1) := by decide +kernel
theorem d_ThumbCoreModel_poke_30 : decode b_ThumbCoreModel_poke 30 = .ok (.ireturn, 1) := by decide +kernel
theorem d_ThumbCoreModel_poke_31 : decode b_ThumbCoreModel_poke 31 = .ok (.iconst 0, 1) := by decide +kernel
theorem d_ThumbCoreModel_poke_32 : decode b_ThumbCoreModel_poke 32 = .ok (.istore 4, 2) := by decide +kernel
theorem d_ThumbCoreModel_poke_34 : decode b_ThumbCoreModel_poke 34 = .ok (.iload 4, 2) := by decide +kernel
theorem d_ThumbCoreModel_poke_36 : decode b_ThumbCoreModel_poke 36 = .ok (.iload_n 3, 1) := by decide +kernel
theorem d_ThumbCoreModel_poke_37 : decode b_ThumbCoreModel_poke 37 = .ok (.if_icmp .ge 26, 3) := by decide +kernel
theorem d_ThumbCoreModel_poke_40 : decode b_ThumbCoreModel_poke 40 = .ok (.aload_n 0, 1) := by decide +kernel
theorem d_ThumbCoreModel_poke_41 : decode b_ThumbCoreModel_poke 41 = .ok (.getfield 7, 3) := by decide +kernel
theorem d_ThumbCoreModel_poke_44 : decode b_ThumbCoreModel_poke 44 = .ok (.iload_n 1, 1) := by decide +kernel
theorem d_ThumbCoreModel_poke_45 : decode b_ThumbCoreModel_poke 45 = .ok (.iload 4, 2) := by decide +kernel
theorem d_ThumbCoreModel_poke_47 : decode b_ThumbCoreModel_poke 47 = .ok (.iadd, 1) := by decide +kernel
theorem d_ThumbCoreModel_poke_48 : decode b_ThumbCoreModel_poke 48 = .ok (.iload_n 2, 1) := by decide +kernel
theorem d_ThumbCoreModel_poke_49 : decode b_ThumbCoreModel_poke 49 = .ok (.bipush 8, 2) := by decide +kernel
theorem d_ThumbCoreModel_poke_51 : decode b_ThumbCoreModel_poke 51 = .ok (.iload 4, 2) := by decide +kernel
theorem d_ThumbCoreModel_poke_53 : decode b_ThumbCoreModel_poke 53 = .ok (.imul, 1) := by decide +kernel
theorem d_ThumbCoreModel_poke_54 : decode b_ThumbCoreModel_poke 54 = .ok (.ishr, 1) := by decide +kernel
theorem d_ThumbCoreModel_poke_55 : decode b_ThumbCoreModel_poke 55 = .ok (.i2b, 1) := by decide +kernel
theorem d_ThumbCoreModel_poke_56 : decode b_ThumbCoreModel_poke 56 = .ok (.bastore, 1) := by decide +kernel
theorem d_ThumbCoreModel_poke_57 : decode b_ThumbCoreModel_poke 57 = .ok (.iinc 4 1, 3) := by decide +kernel
theorem d_ThumbCoreModel_poke_60 : decode b_ThumbCoreModel_poke 60 = .ok (.goto (-26), 3) := by decide +kernel
theorem d_ThumbCoreModel_poke_63 : decode b_ThumbCoreModel_poke 63 = .ok (.iconst 1, 1) := by decide +kernel
theorem d_ThumbCoreModel_poke_64 : decode b_ThumbCoreModel_poke 64 = .ok (.ireturn, 1) := by decide +kernel
theorem d_ThumbCoreModel_peek_0 : decode b_ThumbCoreModel_peek 0 = .ok (.iload_n 1, 1) := by decide +kernel
theorem d_ThumbCoreModel_peek_1 : decode b_ThumbCoreModel_peek 1 = .ok (.ifCond .lt 24, 3) := by decide +kernel
theorem d_ThumbCoreModel_peek_4 : decode b_ThumbCoreModel_peek 4 = .ok (.iload_n 1, 1) := by decide +kernel
theorem d_ThumbCoreModel_peek_5 : decode b_ThumbCoreModel_peek 5 = .ok (.aload_n 0, 1) := by decide +kernel
theorem d_ThumbCoreModel_peek_6 : decode b_ThumbCoreModel_peek 6 = .ok (.getfield 30, 3) := by decide +kernel
theorem d_ThumbCoreModel_peek_9 : decode b_ThumbCoreModel_peek 9 = .ok (.if_icmp .ge 16, 3) := by decide +kernel
theorem d_ThumbCoreModel_peek_12 : decode b_ThumbCoreModel_peek 12 = .ok (.aload_n 0, 1) := by decide +kernel
theorem d_ThumbCoreModel_peek_13 : decode b_ThumbCoreModel_peek 13 = .ok (.getfield 7, 3) := by decide +kernel
theorem d_ThumbCoreModel_peek_16 : decode b_ThumbCoreModel_peek 16 = .ok (.iload_n 1, 1) := by decide +kernel
theorem d_ThumbCoreModel_peek_17 : decode b_ThumbCoreModel_peek 17 = .ok (.baload, 1) := by decide +kernel
theorem d_ThumbCoreModel_peek_18 : decode b_ThumbCoreModel_peek 18 = .ok (.sipush 255, 3) := by decide +kernel
theorem d_ThumbCoreModel_peek_21 : decode b_ThumbCoreModel_peek 21 = .ok (.iand, 1) := by decide +kernel
theorem d_ThumbCoreModel_peek_22 : decode b_ThumbCoreModel_peek 22 = .ok (.goto 4, 3) := by decide +kernel
theorem d_ThumbCoreModel_peek_25 : decode b_ThumbCoreModel_peek 25 = .ok (.iconst (-1), 1) := by decide +kernel
theorem d_ThumbCoreModel_peek_26 : decode b_ThumbCoreModel_peek 26 = .ok (.ireturn, 1) := by decide +kernel
theorem d_ThumbCoreModel_reset_0 : decode b_ThumbCoreModel_reset 0 = .ok (.iconst 0, 1) := by decide +kernel
theorem d_ThumbCoreModel_reset_1 : decode b_ThumbCoreModel_reset 1 = .ok (.istore_n 1, 1) := by decide +kernel
theorem d_ThumbCoreModel_reset_2 : decode b_ThumbCoreModel_reset 2 = .ok (.iload_n 1, 1) := by decide +kernel
theorem d_ThumbCoreModel_reset_3 : decode b_ThumbCoreModel_reset 3 = .ok (.bipush 16, 2) := by decide +kernel
theorem d_ThumbCoreModel_reset_5 : decode b_ThumbCoreModel_reset 5 = .ok (.if_icmp .ge 30, 3) := by decide +kernel
theorem d_ThumbCoreModel_reset_8 : decode b_ThumbCoreModel_reset 8 = .ok (.aload_n 0, 1) := by decide +kernel
theorem d_ThumbCoreModel_reset_9 : decode b_ThumbCoreModel_reset 9 = .ok (.getfield 13, 3) := by decide +kernel
theorem d_ThumbCoreModel_reset_12 : decode b_ThumbCoreModel_reset 12 = .ok (.iload_n 1, 1) := by decide +kernel
theorem d_ThumbCoreModel_reset_13 : decode b_ThumbCoreModel_reset 13 = .ok (.iconst 0, 1) := by decide +kernel
theorem d_ThumbCoreModel_reset_14 : decode b_ThumbCoreModel_reset 14 = .ok (.iastore, 1) := by decide +kernel
theorem d_ThumbCoreModel_reset_15 : decode b_ThumbCoreModel_reset 15 = .ok (.aload_n 0, 1) := by decide +kernel
theorem d_ThumbCoreModel_reset_16 : decode b_ThumbCoreModel_reset 16 = .ok (.getfield 20, 3) := by decide +kernel
theorem d_ThumbCoreModel_reset_19 : decode b_ThumbCoreModel_reset 19 = .ok (.iload_n 1, 1) := by decide +kernel
theorem d_ThumbCoreModel_reset_20 : decode b_ThumbCoreModel_reset 20 = .ok (.iconst 0, 1) := by decide +kernel
theorem d_ThumbCoreModel_reset_21 : decode b_ThumbCoreModel_reset 21 = .ok (.bastore, 1) := by decide +kernel
theorem d_ThumbCoreModel_reset_22 : decode b_ThumbCoreModel_reset 22 = .ok (.aload_n 0, 1) := by decide +kernel
theorem d_ThumbCoreModel_reset_23 : decode b_ThumbCoreModel_reset 23 = .ok (.getfield 24, 3) := by decide +kernel
theorem d_ThumbCoreModel_reset_26 : decode b_ThumbCoreModel_reset 26 = .ok (.iload_n 1, 1) := by decide +kernel
theorem d_ThumbCoreModel_reset_27 : decode b_ThumbCoreModel_reset 27 = .ok (.iconst 0, 1) := by decide +kernel
theorem d_ThumbCoreModel_reset_28 : decode b_ThumbCoreModel_reset 28 = .ok (.bastore, 1) := by decide +kernel
theorem d_ThumbCoreModel_reset_29 : decode b_ThumbCoreModel_reset 29 = .ok (.iinc 1 1, 3) := by decide +kernel
theorem d_ThumbCoreModel_reset_32 : decode b_ThumbCoreModel_reset 32 = .ok (.goto (-30), 3) := by decide +kernel
theorem d_ThumbCoreModel_reset_35 : decode b_ThumbCoreModel_reset 35 = .ok (.aload_n 0, 1) := by decide +kernel
theorem d_ThumbCoreModel_reset_36 : decode b_ThumbCoreModel_reset 36 = .ok (.getfield 13, 3) := by decide +kernel
theorem d_ThumbCoreModel_reset_39 : decode b_ThumbCoreModel_reset 39 = .ok (.bipush 13, 2) := by decide +kernel
theorem d_ThumbCoreModel_reset_41 : decode b_ThumbCoreModel_reset 41 = .ok (.aload_n 0, 1) := by decide +kernel
theorem d_ThumbCoreModel_reset_42 : decode b_ThumbCoreModel_reset 42 = .ok (.iconst 0, 1) := by decide +kernel
theorem d_ThumbCoreModel_reset_43 : decode b_ThumbCoreModel_reset 43 = .ok (.iconst 4, 1) := by decide +kernel
theorem d_ThumbCoreModel_reset_44 : decode b_ThumbCoreModel_reset 44 = .ok (.invokevirtual 45, 3) := by decide +kernel
theorem d_ThumbCoreModel_reset_47 : decode b_ThumbCoreModel_reset 47 = .ok (.bipush (-4), 2) := by decide +kernel
theorem d_ThumbCoreModel_reset_49 : decode b_ThumbCoreModel_reset 49 = .ok (.iand, 1) := by decide +kernel
theorem d_ThumbCoreModel_reset_50 : decode b_ThumbCoreModel_reset 50 = .ok (.iastore, 1) := by decide +kernel
theorem d_ThumbCoreModel_reset_51 : decode b_ThumbCoreModel_reset 51 = .ok (.aload_n 0, 1) := by decide +kernel
theorem d_ThumbCoreModel_reset_52 : decode b_ThumbCoreModel_reset 52 = .ok (.getfield 13, 3) := by decide +kernel
theorem d_ThumbCoreModel_reset_55 : decode b_ThumbCoreModel_reset 55 = .ok (.bipush 15, 2) := by decide +kernel
theorem d_ThumbCoreModel_reset_57 : decode b_ThumbCoreModel_reset 57 = .ok (.aload_n 0, 1) := by decide +kernel
theorem d_ThumbCoreModel_reset_58 : decode b_ThumbCoreModel_reset 58 = .ok (.iconst 4, 1) := by decide +kernel
theorem d_ThumbCoreModel_reset_59 : decode b_ThumbCoreModel_reset 59 = .ok (.iconst 4, 1) := by decide +kernel
theorem d_ThumbCoreModel_reset_60 : decode b_ThumbCoreModel_reset 60 = .ok (.invokevirtual 45, 3) := by decide +kernel
theorem d_ThumbCoreModel_reset_63 : decode b_ThumbCoreModel_reset 63 = .ok (.bipush (-2), 2) := by decide +kernel
theorem d_ThumbCoreModel_reset_65 : decode b_ThumbCoreModel_reset 65 = .ok (.iand, 1) := by decide +kernel
theorem d_ThumbCoreModel_reset_66 : decode b_ThumbCoreModel_reset 66 = .ok (.iastore, 1) := by decide +kernel
theorem d_ThumbCoreModel_reset_67 : decode b_ThumbCoreModel_reset 67 = .ok (.aload_n 0, 1) := by decide +kernel
theorem d_ThumbCoreModel_reset_68 : decode b_ThumbCoreModel_reset 68 = .ok (.getfield 13, 3) := by decide +kernel
theorem d_ThumbCoreModel_reset_71 : decode b_ThumbCoreModel_reset 71 = .ok (.bipush 14, 2) := by decide +kernel
theorem d_ThumbCoreModel_reset_73 : decode b_ThumbCoreModel_reset 73 = .ok (.iconst (-1), 1) := by decide +kernel
theorem d_ThumbCoreModel_reset_74 : decode b_ThumbCoreModel_reset 74 = .ok (.iastore, 1) := by decide +kernel
theorem d_ThumbCoreModel_reset_75 : decode b_ThumbCoreModel_reset 75 = .ok (.aload_n 0, 1) := by decide +kernel
theorem d_ThumbCoreModel_reset_76 : decode b_ThumbCoreModel_reset 76 = .ok (.iconst 0, 1) := by decide +kernel
theorem d_ThumbCoreModel_reset_77 : decode b_ThumbCoreModel_reset 77 = .ok (.invokevirtual 49, 3) := by decide +kernel
theorem d_ThumbCoreModel_reset_80 : decode b_ThumbCoreModel_reset 80 = .ok (.aload_n 0, 1) := by decide +kernel
theorem d_ThumbCoreModel_reset_81 : decode b_ThumbCoreModel_reset 81 = .ok (.iconst 0, 1) := by decide +kernel
theorem d_ThumbCoreModel_reset_82 : decode b_ThumbCoreModel_reset 82 = .ok (.putfield 53, 3) := by decide +kernel
theorem d_ThumbCoreModel_reset_85 : decode b_ThumbCoreModel_reset 85 = .ok (.aload_n 0, 1) := by decide +kernel
theorem d_ThumbCoreModel_reset_86 : decode b_ThumbCoreModel_reset 86 = .ok (.iconst 0, 1) := by decide +kernel
theorem d_ThumbCoreModel_reset_87 : decode b_ThumbCoreModel_reset 87 = .ok (.putfield 56, 3) := by decide +kernel
theorem d_ThumbCoreModel_reset_90 : decode b_ThumbCoreModel_reset 90 = .ok (.aload_n 0, 1) := by decide +kernel
theorem d_ThumbCoreModel_reset_91 : decode b_ThumbCoreModel_reset 91 = .ok (.iconst 0, 1) := by decide +kernel
theorem d_ThumbCoreModel_reset_92 : decode b_ThumbCoreModel_reset 92 = .ok (.putfield 59, 3) := by decide +kernel
theorem d_ThumbCoreModel_reset_95 : decode b_ThumbCoreModel_reset 95 = .ok (.aload_n 0, 1) := by decide +kernel
theorem d_ThumbCoreModel_reset_96 : decode b_ThumbCoreModel_reset 96 = .ok (.iconst 0, 1) := by decide +kernel
theorem d_ThumbCoreModel_reset_97 : decode b_ThumbCoreModel_reset 97 = .ok (.putfield 62, 3) := by decide +kernel
theorem d_ThumbCoreModel_reset_100 : decode b_ThumbCoreModel_reset 100 = .ok (.aload_n 0, 1) := by decide +kernel
theorem d_ThumbCoreModel_reset_101 : decode b_ThumbCoreModel_reset 101 = .ok (.iconst 0, 1) := by decide +kernel
theorem d_ThumbCoreModel_reset_102 : decode b_ThumbCoreModel_reset 102 = .ok (.putfield 65, 3) := by decide +kernel
theorem d_ThumbCoreModel_reset_105 : decode b_ThumbCoreModel_reset 105 = .ok (.aload_n 0, 1) := by decide +kernel
theorem d_ThumbCoreModel_reset_106 : decode b_ThumbCoreModel_reset 106 = .ok (.iconst 0, 1) := by decide +kernel
theorem d_ThumbCoreModel_reset_107 : decode b_ThumbCoreModel_reset 107 = .ok (.putfield 68, 3) := by decide +kernel
theorem d_ThumbCoreModel_reset_110 : decode b_ThumbCoreModel_reset 110 = .ok (.aload_n 0, 1) := by decide +kernel
theorem d_ThumbCoreModel_reset_111 : decode b_ThumbCoreModel_reset 111 = .ok (.iconst 0, 1) := by decide +kernel
theorem d_ThumbCoreModel_reset_112 : decode b_ThumbCoreModel_reset 112 = .ok (.putfield 71, 3) := by decide +kernel
theorem d_ThumbCoreModel_reset_115 : decode b_ThumbCoreModel_reset 115 = .ok (.return_, 1) := by decide +kernel
theorem d_ThumbCoreModel_flags_0 : decode b_ThumbCoreModel_flags 0 = .ok (.aload_n 0, 1) := by decide +kernel
theorem d_ThumbCoreModel_flags_1 : decode b_ThumbCoreModel_flags 1 = .ok (.iload_n 1, 1) := by decide +kernel
theorem d_ThumbCoreModel_flags_2 : decode b_ThumbCoreModel_flags 2 = .ok (.bipush 8, 2) := by decide +kernel
theorem d_ThumbCoreModel_flags_4 : decode b_ThumbCoreModel_flags 4 = .ok (.iand, 1) := by decide +kernel
theorem d_ThumbCoreModel_flags_5 : decode b_ThumbCoreModel_flags 5 = .ok (.ifCond .eq 7, 3) := by decide +kernel
theorem d_ThumbCoreModel_flags_8 : decode b_ThumbCoreModel_flags 8 = .ok (.iconst 1, 1) := by decide +kernel
theorem d_ThumbCoreModel_flags_9 : decode b_ThumbCoreModel_flags 9 = .ok (.goto 4, 3) := by decide +kernel
theorem d_ThumbCoreModel_flags_12 : decode b_ThumbCoreModel_flags 12 = .ok (.iconst 0, 1) := by decide +kernel
theorem d_ThumbCoreModel_flags_13 : decode b_ThumbCoreModel_flags 13 = .ok (.putfield 74, 3) := by decide +kernel
theorem d_ThumbCoreModel_flags_16 : decode b_ThumbCoreModel_flags 16 = .ok (.aload_n 0, 1) := by decide +kernel
theorem d_ThumbCoreModel_flags_17 : decode b_ThumbCoreModel_flags 17 = .ok (.iload_n 1, 1) := by decide +kernel
theorem d_ThumbCoreModel_flags_18 : decode b_ThumbCoreModel_flags 18 = .ok (.iconst 4, 1) := by decide +kernel
theorem d_ThumbCoreModel_flags_19 : decode b_ThumbCoreModel_flags 19 = .ok (.iand, 1) := by decide +kernel
theorem d_ThumbCoreModel_flags_20 : decode b_ThumbCoreModel_flags 20 = .ok (.ifCond .eq 7, 3) := by decide +kernel
theorem d_ThumbCoreModel_flags_23 : decode b_ThumbCoreModel_flags 23 = .ok (.iconst 1, 1) := by decide +kernel
theorem d_ThumbCoreModel_flags_24 : decode b_ThumbCoreModel_flags 24 = .ok (.goto 4, 3) := by decide +kernel
theorem d_ThumbCoreModel_flags_27 : decode b_ThumbCoreModel_flags 27 = .ok (.iconst 0, 1) := by decide +kernel
theorem d_ThumbCoreModel_flags_28 : decode b_ThumbCoreModel_flags 28 = .ok (.putfield 77, 3) := by decide +kernel
theorem d_ThumbCoreModel_flags_31 : decode b_ThumbCoreModel_flags 31 = .ok (.aload_n 0, 1) := by decide +kernel
theorem d_ThumbCoreModel_flags_32 : decode b_ThumbCoreModel_flags 32 = .ok (.iload_n 1, 1) := by decide +kernel
theorem d_ThumbCoreModel_flags_33 : decode b_ThumbCoreModel_flags 33 = .ok (.iconst 2, 1) := by decide +kernel
theorem d_ThumbCoreModel_flags_34 : decode b_ThumbCoreModel_flags 34 = .ok (.iand, 1) := by decide +kernel
theorem d_ThumbCoreModel_flags_35 : decode b_ThumbCoreModel_flags 35 = .ok (.ifCond .eq 7, 3) := by decide +kernel
theorem d_ThumbCoreModel_flags_38 : decode b_ThumbCoreModel_flags 38 = .ok (.iconst 1, 1) := by decide +kernel
theorem d_ThumbCoreModel_flags_39 : decode b_ThumbCoreModel_flags 39 = .ok (.goto 4, 3) := by decide +kernel
theorem d_ThumbCoreModel_flags_42 : decode b_ThumbCoreModel_flags 42 = .ok (.iconst 0, 1) := by decide +kernel
theorem d_ThumbCoreModel_flags_43 : decode b_ThumbCoreModel_flags 43 = .ok (.putfield 80, 3) := by decide +kernel
theorem d_ThumbCoreModel_flags_46 : decode b_ThumbCoreModel_flags 46 = .ok (.aload_n 0, 1) := by decide +kernel
theorem d_ThumbCoreModel_flags_47 : decode b_ThumbCoreModel_flags 47 = .ok (.iload_n 1, 1) := by decide +kernel
theorem d_ThumbCoreModel_flags_48 : decode b_ThumbCoreModel_flags 48 = .ok (.iconst 1, 1) := by decide +kernel
theorem d_ThumbCoreModel_flags_49 : decode b_ThumbCoreModel_flags 49 = .ok (.iand, 1) := by decide +kernel
theorem d_ThumbCoreModel_flags_50 : decode b_ThumbCoreModel_flags 50 = .ok (.ifCond .eq 7, 3) := by decide +kernel
theorem d_ThumbCoreModel_flags_53 : decode b_ThumbCoreModel_flags 53 = .ok (.iconst 1, 1) := by decide +kernel
theorem d_ThumbCoreModel_flags_54 : decode b_ThumbCoreModel_flags 54 = .ok (.goto 4, 3) := by decide +kernel
theorem d_ThumbCoreModel_flags_57 : decode b_ThumbCoreModel_flags 57 = .ok (.iconst 0, 1) := by decide +kernel
theorem d_ThumbCoreModel_flags_58 : decode b_ThumbCoreModel_flags 58 = .ok (.putfield 83, 3) := by decide +kernel
theorem d_ThumbCoreModel_flags_61 : decode b_ThumbCoreModel_flags 61 = .ok (.return_, 1) := by decide +kernel
theorem d_ThumbCoreModel_bits_0 : decode b_ThumbCoreModel_bits 0 = .ok (.aload_n 0, 1) := by decide +kernel
theorem d_ThumbCoreModel_bits_1 : decode b_ThumbCoreModel_bits 1 = .ok (.getfield 74, 3) := by decide +kernel
theorem d_ThumbCoreModel_bits_4 : decode b_ThumbCoreModel_bits 4 = .ok (.ifCond .eq 8, 3) := by decide +kernel
theorem d_ThumbCoreModel_bits_7 : decode b_ThumbCoreModel_bits 7 = .ok (.bipush 8, 2) := by decide +kernel
theorem d_ThumbCoreModel_bits_9 : decode b_ThumbCoreModel_bits 9 = .ok (.goto 4, 3) := by decide +kernel
theorem d_ThumbCoreModel_bits_12 : decode b_ThumbCoreModel_bits 12 = .ok (.iconst 0, 1) := by decide +kernel
theorem d_ThumbCoreModel_bits_13 : decode b_ThumbCoreModel_bits 13 = .ok (.aload_n 0, 1) := by decide +kernel
theorem d_ThumbCoreModel_bits_14 : decode b_ThumbCoreModel_bits 14 = .ok (.getfield 77, 3) := by decide +kernel
theorem d_ThumbCoreModel_bits_17 : decode b_ThumbCoreModel_bits 17 = .ok (.ifCond .eq 7, 3) := by decide +kernel
theorem d_ThumbCoreModel_bits_20 : decode b_ThumbCoreModel_bits 20 = .ok (.iconst 4, 1) := by decide +kernel
theorem d_ThumbCoreModel_bits_21 : decode b_ThumbCoreModel_bits 21 = .ok (.goto 4, 3) := by decide +kernel
theorem d_ThumbCoreModel_bits_24 : decode b_ThumbCoreModel_bits 24 = .ok (.iconst 0, 1) := by decide +kernel
theorem d_ThumbCoreModel_bits_25 : decode b_ThumbCoreModel_bits 25 = .ok (.iadd, 1) := by decide +kernel
theorem d_ThumbCoreModel_bits_26 : decode b_ThumbCoreModel_bits 26 = .ok (.aload_n 0, 1) := by decide +kernel
theorem d_ThumbCoreModel_bits_27 : decode b_ThumbCoreModel_bits 27 = .ok (.getfield 80, 3) := by decide +kernel
theorem d_ThumbCoreModel_bits_30 : decode b_ThumbCoreModel_bits 30 = .ok (.ifCond .eq 7, 3) := by decide +kernel
theorem d_ThumbCoreModel_bits_33 : decode b_ThumbCoreModel_bits 33 = .ok (.iconst 2, 1) := by decide +kernel
theorem d_ThumbCoreModel_bits_34 : decode b_ThumbCoreModel_bits 34 = .ok (.goto 4, 3) := by decide +kernel
theorem d_ThumbCoreModel_bits_37 : decode b_ThumbCoreModel_bits 37 = .ok (.iconst 0, 1) := by decide +kernel
theorem d_ThumbCoreModel_bits_38 : decode b_ThumbCoreModel_bits 38 = .ok (.iadd, 1) := by decide +kernel
theorem d_ThumbCoreModel_bits_39 : decode b_ThumbCoreModel_bits 39 = .ok (.aload_n 0, 1) := by decide +kernel
theorem d_ThumbCoreModel_bits_40 : decode b_ThumbCoreModel_bits 40 = .ok (.getfield 83, 3) := by decide +kernel
theorem d_ThumbCoreModel_bits_43 : decode b_ThumbCoreModel_bits 43 = .ok (.ifCond .eq 7, 3) := by decide +kernel
theorem d_ThumbCoreModel_bits_46 : decode b_ThumbCoreModel_bits 46 = .ok (.iconst 1, 1) := by decide +kernel
theorem d_ThumbCoreModel_bits_47 : decode b_ThumbCoreModel_bits 47 = .ok (.goto 4, 3) := by decide +kernel
theorem d_ThumbCoreModel_bits_50 : decode b_ThumbCoreModel_bits 50 = .ok (.iconst 0, 1) := by decide +kernel
theorem d_ThumbCoreModel_bits_51 : decode b_ThumbCoreModel_bits 51 = .ok (.iadd, 1) := by decide +kernel
theorem d_ThumbCoreModel_bits_52 : decode b_ThumbCoreModel_bits 52 = .ok (.ireturn, 1) := by decide +kernel
theorem d_ThumbCoreModel_status_0 : decode b_ThumbCoreModel_status 0 = .ok (.aload_n 0, 1) := by decide +kernel
theorem d_ThumbCoreModel_status_1 : decode b_ThumbCoreModel_status 1 = .ok (.invokevirtual 86, 3) := by decide +kernel
theorem d_ThumbCoreModel_status_4 : decode b_ThumbCoreModel_status 4 = .ok (.bipush 28, 2) := by decide +kernel
theorem d_ThumbCoreModel_status_6 : decode b_ThumbCoreModel_status 6 = .ok (.ishl, 1) := by decide +kernel
theorem d_ThumbCoreModel_status_7 : decode b_ThumbCoreModel_status 7 = .ok (.ldc 90, 2) := by decide +kernel
theorem d_ThumbCoreModel_status_9 : decode b_ThumbCoreModel_status 9 = .ok (.ior, 1) := by decide +kernel
theorem d_ThumbCoreModel_status_10 : decode b_ThumbCoreModel_status 10 = .ok (.aload_n 0, 1) := by decide +kernel
theorem d_ThumbCoreModel_status_11 : decode b_ThumbCoreModel_status 11 = .ok (.getfield 71, 3) := by decide +kernel
theorem d_ThumbCoreModel_status_14 : decode b_ThumbCoreModel_status 14 = .ok (.ior, 1) := by decide +kernel
theorem d_ThumbCoreModel_status_15 : decode b_ThumbCoreModel_status 15 = .ok (.ireturn, 1) := by decide +kernel
theorem d_ThumbCoreModel_shown_0 : decode b_ThumbCoreModel_shown 0 = .ok (.aload_n 0, 1) := by decide +kernel
theorem d_ThumbCoreModel_shown_1 : decode b_ThumbCoreModel_shown 1 = .ok (.iload_n 1, 1) := by decide +kernel
theorem d_ThumbCoreModel_shown_2 : decode b_ThumbCoreModel_shown 2 = .ok (.ifCond .ge 7, 3) := by decide +kernel
theorem d_ThumbCoreModel_shown_5 : decode b_ThumbCoreModel_shown 5 = .ok (.iconst 1, 1) := by decide +kernel
theorem d_ThumbCoreModel_shown_6 : decode b_ThumbCoreModel_shown 6 = .ok (.goto 4, 3) := by decide +kernel
theorem d_ThumbCoreModel_shown_9 : decode b_ThumbCoreModel_shown 9 = .ok (.iconst 0, 1) := by decide +kernel
theorem d_ThumbCoreModel_shown_10 : decode b_ThumbCoreModel_shown 10 = .ok (.putfield 74, 3) := by decide +kernel
theorem d_ThumbCoreModel_shown_13 : decode b_ThumbCoreModel_shown 13 = .ok (.aload_n 0, 1) := by decide +kernel
theorem d_ThumbCoreModel_shown_14 : decode b_ThumbCoreModel_shown 14 = .ok (.iload_n 1, 1) := by decide +kernel
theorem d_ThumbCoreModel_shown_15 : decode b_ThumbCoreModel_shown 15 = .ok (.ifCond .ne 7, 3) := by decide +kernel
theorem d_ThumbCoreModel_shown_18 : decode b_ThumbCoreModel_shown 18 = .ok (.iconst 1, 1) := by decide +kernel
theorem d_ThumbCoreModel_shown_19 : decode b_ThumbCoreModel_shown 19 = .ok (.goto 4, 3) := by decide +kernel
theorem d_ThumbCoreModel_shown_22 : decode b_ThumbCoreModel_shown 22 = .ok (.iconst 0, 1) := by decide +kernel
theorem d_ThumbCoreModel_shown_23 : decode b_ThumbCoreModel_shown 23 = .ok (.putfield 77, 3) := by decide +kernel
theorem d_ThumbCoreModel_shown_26 : decode b_ThumbCoreModel_shown 26 = .ok (.iload_n 1, 1) := by decide +kernel
theorem d_ThumbCoreModel_shown_27 : decode b_ThumbCoreModel_shown 27 = .ok (.ireturn, 1) := by decide +kernel
theorem d_ThumbCoreModel_sum_0 : decode b_ThumbCoreModel_sum 0 = .ok (.iload_n 1, 1) := by decide +kernel
theorem d_ThumbCoreModel_sum_1 : decode b_ThumbCoreModel_sum 1 = .ok (.iload_n 2, 1) := by decide +kernel
theorem d_ThumbCoreModel_sum_2 : decode b_ThumbCoreModel_sum 2 = .ok (.iadd, 1) := by decide +kernel
theorem d_ThumbCoreModel_sum_3 : decode b_ThumbCoreModel_sum 3 = .ok (.iload_n 3, 1) := by decide +kernel
theorem d_ThumbCoreModel_sum_4 : decode b_ThumbCoreModel_sum 4 = .ok (.iadd, 1) := by decide +kernel
theorem d_ThumbCoreModel_sum_5 : decode b_ThumbCoreModel_sum 5 = .ok (.istore 4, 2) := by decide +kernel
theorem d_ThumbCoreModel_sum_7 : decode b_ThumbCoreModel_sum 7 = .ok (.iload_n 1, 1) := by decide +kernel
theorem d_ThumbCoreModel_sum_8 : decode b_ThumbCoreModel_sum 8 = .ok (.i2l, 1) := by decide +kernel
theorem d_ThumbCoreModel_sum_9 : decode b_ThumbCoreModel_sum 9 = .ok (.ldc2_w 91, 3) := by decide +kernel
theorem d_ThumbCoreModel_sum_12 : decode b_ThumbCoreModel_sum 12 = .ok (.land, 1) := by decide +kernel
theorem d_ThumbCoreModel_sum_13 : decode b_ThumbCoreModel_sum 13 = .ok (.iload_n 2, 1) := by decide +kernel
theorem d_ThumbCoreModel_sum_14 : decode b_ThumbCoreModel_sum 14 = .ok (.i2l, 1) := by decide +kernel
theorem d_ThumbCoreModel_sum_15 : decode b_ThumbCoreModel_sum 15 = .ok (.ldc2_w 91, 3) := by decide +kernel
theorem d_ThumbCoreModel_sum_18 : decode b_ThumbCoreModel_sum 18 = .ok (.land, 1) := by decide +kernel
theorem d_ThumbCoreModel_sum_19 : decode b_ThumbCoreModel_sum 19 = .ok (.ladd, 1) := by decide +kernel
theorem d_ThumbCoreModel_sum_20 : decode b_ThumbCoreModel_sum 20 = .ok (.iload_n 3, 1) := by decide +kernel
theorem d_ThumbCoreModel_sum_21 : decode b_ThumbCoreModel_sum 21 = .ok (.i2l, 1) := by decide +kernel
theorem d_ThumbCoreModel_sum_22 : decode b_ThumbCoreModel_sum 22 = .ok (.ladd, 1) := by decide +kernel
theorem d_ThumbCoreModel_sum_23 : decode b_ThumbCoreModel_sum 23 = .ok (.lstore 5, 2) := by decide +kernel
theorem d_ThumbCoreModel_sum_25 : decode b_ThumbCoreModel_sum 25 = .ok (.iload_n 1, 1) := by decide +kernel
theorem d_ThumbCoreModel_sum_26 : decode b_ThumbCoreModel_sum 26 = .ok (.i2l, 1) := by decide +kernel
theorem d_ThumbCoreModel_sum_27 : decode b_ThumbCoreModel_sum 27 = .ok (.iload_n 2, 1) := by decide +kernel
theorem d_ThumbCoreModel_sum_28 : decode b_ThumbCoreModel_sum 28 = .ok (.i2l, 1) := by decide +kernel
theorem d_ThumbCoreModel_sum_29 : decode b_ThumbCoreModel_sum 29 = .ok (.ladd, 1) := by decide +kernel
theorem d_ThumbCoreModel_sum_30 : decode b_ThumbCoreModel_sum 30 = .ok (.iload_n 3, 1) := by decide +kernel
theorem d_ThumbCoreModel_sum_31 : decode b_ThumbCoreModel_sum 31 = .ok (.i2l, 1) := by decide +kernel
theorem d_ThumbCoreModel_sum_32 : decode b_ThumbCoreModel_sum 32 = .ok (.ladd, 1) := by decide +kernel
theorem d_ThumbCoreModel_sum_33 : decode b_ThumbCoreModel_sum 33 = .ok (.lstore 7, 2) := by decide +kernel
theorem d_ThumbCoreModel_sum_35 : decode b_ThumbCoreModel_sum 35 = .ok (.aload_n 0, 1) := by decide +kernel
theorem d_ThumbCoreModel_sum_36 : decode b_ThumbCoreModel_sum 36 = .ok (.lload 5, 2) := by decide +kernel
theorem d_ThumbCoreModel_sum_38 : decode b_ThumbCoreModel_sum 38 = .ok (.ldc2_w 91, 3) := by decide +kernel
theorem d_ThumbCoreModel_sum_41 : decode b_ThumbCoreModel_sum 41 = .ok (.lcmp, 1) := by decide +kernel
theorem d_ThumbCoreModel_sum_42 : decode b_ThumbCoreModel_sum 42 = .ok (.ifCond .le 7, 3) := by decide +kernel
theorem d_ThumbCoreModel_sum_45 : decode b_ThumbCoreModel_sum 45 = .ok (.iconst 1, 1) := by decide +kernel
theorem d_ThumbCoreModel_sum_46 : decode b_ThumbCoreModel_sum 46 = .ok (.goto 4, 3) := by decide +kernel
theorem d_ThumbCoreModel_sum_49 : decode b_ThumbCoreModel_sum 49 = .ok (.iconst 0, 1) := by decide +kernel
theorem d_ThumbCoreModel_sum_50 : decode b_ThumbCoreModel_sum 50 = .ok (.putfield 80, 3) := by decide +kernel
theorem d_ThumbCoreModel_sum_53 : decode b_ThumbCoreModel_sum 53 = .ok (.aload_n 0, 1) := by decide +kernel
theorem d_ThumbCoreModel_sum_54 : decode b_ThumbCoreModel_sum 54 = .ok (.lload 7, 2) := by decide +kernel
theorem d_ThumbCoreModel_sum_56 : decode b_ThumbCoreModel_sum 56 = .ok (.iload 4, 2) := by decide +kernel
theorem d_ThumbCoreModel_sum_58 : decode b_ThumbCoreModel_sum 58 = .ok (.i2l, 1) := by decide +kernel
theorem d_ThumbCoreModel_sum_59 : decode b_ThumbCoreModel_sum 59 = .ok (.lcmp, 1) := by decide +kernel
theorem d_ThumbCoreModel_sum_60 : decode b_ThumbCoreModel_sum 60 = .ok (.ifCond .eq 7, 3) := by decide +kernel
theorem d_ThumbCoreModel_sum_63 : decode b_ThumbCoreModel_sum 63 = .ok (.iconst 1, 1) := by decide +kernel
theorem d_ThumbCoreModel_sum_64 : decode b_ThumbCoreModel_sum 64 = .ok (.goto 4, 3) := by decide +kernel
theorem d_ThumbCoreModel_sum_67 : decode b_ThumbCoreModel_sum 67 = .ok (.iconst 0, 1) := by decide +kernel
theorem d_ThumbCoreModel_sum_68 : decode b_ThumbCoreModel_sum 68 = .ok (.putfield 83, 3) := by decide +kernel
theorem d_ThumbCoreModel_sum_71 : decode b_ThumbCoreModel_sum 71 = .ok (.aload_n 0, 1) := by decide +kernel
theorem d_ThumbCoreModel_sum_72 : decode b_ThumbCoreModel_sum 72 = .ok (.iload 4, 2) := by decide +kernel
theorem d_ThumbCoreModel_sum_74 : decode b_ThumbCoreModel_sum 74 = .ok (.invokevirtual 93, 3) := by decide +kernel
theorem d_ThumbCoreModel_sum_77 : decode b_ThumbCoreModel_sum 77 = .ok (.ireturn, 1) := by decide +kernel
theorem d_ThumbCoreModel_present_0 : decode b_ThumbCoreModel_present 0 = .ok (.iconst 4, 1) := by decide +kernel
theorem d_ThumbCoreModel_present_1 : decode b_ThumbCoreModel_present 1 = .ok (.istore_n 2, 1) := by decide +kernel
theorem d_ThumbCoreModel_present_2 : decode b_ThumbCoreModel_present 2 = .ok (.iconst 0, 1) := by decide +kernel
theorem d_ThumbCoreModel_present_3 : decode b_ThumbCoreModel_present 3 = .ok (.istore_n 3, 1) := by decide +kernel
theorem d_ThumbCoreModel_present_4 : decode b_ThumbCoreModel_present 4 = .ok (.iload_n 3, 1) := by decide +kernel
theorem d_ThumbCoreModel_present_5 : decode b_ThumbCoreModel_present 5 = .ok (.bipush 16, 2) := by decide +kernel
theorem d_ThumbCoreModel_present_7 : decode b_ThumbCoreModel_present 7 = .ok (.if_icmp .ge 39, 3) := by decide +kernel
theorem d_ThumbCoreModel_present_10 : decode b_ThumbCoreModel_present 10 = .ok (.aload_n 0, 1) := by decide +kernel
theorem d_ThumbCoreModel_present_11 : decode b_ThumbCoreModel_present 11 = .ok (.getfield 24, 3) := by decide +kernel
theorem d_ThumbCoreModel_present_14 : decode b_ThumbCoreModel_present 14 = .ok (.iload_n 3, 1) := by decide +kernel
theorem d_ThumbCoreModel_present_15 : decode b_ThumbCoreModel_present 15 = .ok (.baload, 1) := by decide +kernel
theorem d_ThumbCoreModel_present_16 : decode b_ThumbCoreModel_present 16 = .ok (.ifCond .eq 22, 3) := by decide +kernel
theorem d_ThumbCoreModel_present_19 : decode b_ThumbCoreModel_present 19 = .ok (.aload_n 0, 1) := by decide +kernel
theorem d_ThumbCoreModel_present_20 : decode b_ThumbCoreModel_present 20 = .ok (.getfield 27, 3) := by decide +kernel
theorem d_ThumbCoreModel_present_23 : decode b_ThumbCoreModel_present 23 = .ok (.iload_n 3, 1) := by decide +kernel
theorem d_ThumbCoreModel_present_24 : decode b_ThumbCoreModel_present 24 = .ok (.iaload, 1) := by decide +kernel
theorem d_ThumbCoreModel_present_25 : decode b_ThumbCoreModel_present 25 = .ok (.iload_n 2, 1) := by decide +kernel
theorem d_ThumbCoreModel_present_26 : decode b_ThumbCoreModel_present 26 = .ok (.if_icmp .ge 12, 3) := by decide +kernel
theorem d_ThumbCoreModel_present_29 : decode b_ThumbCoreModel_present 29 = .ok (.aload_n 0, 1) := by decide +kernel
theorem d_ThumbCoreModel_present_30 : decode b_ThumbCoreModel_present 30 = .ok (.getfield 27, 3) := by decide +kernel
theorem d_ThumbCoreModel_present_33 : decode b_ThumbCoreModel_present 33 = .ok (.iload_n 3, 1) := by decide +kernel
theorem d_ThumbCoreModel_present_34 : decode b_ThumbCoreModel_present 34 = .ok (.iaload, 1) := by decide +kernel
theorem d_ThumbCoreModel_present_35 : decode b_ThumbCoreModel_present 35 = .ok (.goto 4, 3) := by decide +kernel
theorem d_ThumbCoreModel_present_38 : decode b_ThumbCoreModel_present 38 = .ok (.iload_n 2, 1) := by decide +kernel
theorem d_ThumbCoreModel_present_39 : decode b_ThumbCoreModel_present 39 = .ok (.istore_n 2, 1) := by decide +kernel
theorem d_ThumbCoreModel_present_40 : decode b_ThumbCoreModel_present 40 = .ok (.iinc 3 1, 3) := by decide +kernel
theorem d_ThumbCoreModel_present_43 : decode b_ThumbCoreModel_present 43 = .ok (.goto (-39), 3) := by decide +kernel
theorem d_ThumbCoreModel_present_46 : decode b_ThumbCoreModel_present 46 = .ok (.iload_n 1, 1) := by decide +kernel
theorem d_ThumbCoreModel_present_47 : decode b_ThumbCoreModel_present 47 = .ok (.ifCond .eq 18, 3) := by decide +kernel
theorem d_ThumbCoreModel_present_50 : decode b_ThumbCoreModel_present 50 = .ok (.aload_n 0, 1) := by decide +kernel
theorem d_ThumbCoreModel_present_51 : decode b_ThumbCoreModel_present 51 = .ok (.getfield 53, 3) := by decide +kernel
theorem d_ThumbCoreModel_present_54 : decode b_ThumbCoreModel_present 54 = .ok (.ifCond .eq 11, 3) := by decide +kernel
theorem d_ThumbCoreModel_present_57 : decode b_ThumbCoreModel_present 57 = .ok (.iload_n 2, 1) := by decide +kernel
theorem d_ThumbCoreModel_present_58 : decode b_ThumbCoreModel_present 58 = .ok (.ifCond .le 7, 3) := by decide +kernel
theorem d_ThumbCoreModel_present_61 : decode b_ThumbCoreModel_present 61 = .ok (.iconst 0, 1) := by decide +kernel
theorem d_ThumbCoreModel_present_62 : decode b_ThumbCoreModel_present 62 = .ok (.goto 4, 3) := by decide +kernel
theorem d_ThumbCoreModel_present_65 : decode b_ThumbCoreModel_present 65 = .ok (.iload_n 2, 1) := by decide +kernel
theorem d_ThumbCoreModel_present_66 : decode b_ThumbCoreModel_present 66 = .ok (.ireturn, 1) := by decide +kernel
theorem d_ThumbCoreModel_actives_0 : decode b_ThumbCoreModel_actives 0 = .ok (.iconst 0, 1) := by decide +kernel
theorem d_ThumbCoreModel_actives_1 : decode b_ThumbCoreModel_actives 1 = .ok (.istore_n 1, 1) := by decide +kernel
theorem d_ThumbCoreModel_actives_2 : decode b_ThumbCoreModel_actives 2 = .ok (.iconst 0, 1) := by decide +kernel
theorem d_ThumbCoreModel_actives_3 : decode b_ThumbCoreModel_actives 3 = .ok (.istore_n 2, 1) := by decide +kernel
theorem d_ThumbCoreModel_actives_4 : decode b_ThumbCoreModel_actives 4 = .ok (.iload_n 2, 1) := by decide +kernel
theorem d_ThumbCoreModel_actives_5 : decode b_ThumbCoreModel_actives 5 = .ok (.bipush 16, 2) := by decide +kernel
theorem d_ThumbCoreModel_actives_7 : decode b_ThumbCoreModel_actives 7 = .ok (.if_icmp .ge 26, 3) := by decide +kernel
theorem d_ThumbCoreModel_actives_10 : decode b_ThumbCoreModel_actives 10 = .ok (.aload_n 0, 1) := by decide +kernel
theorem d_ThumbCoreModel_actives_11 : decode b_ThumbCoreModel_actives 11 = .ok (.getfield 24, 3) := by decide +kernel
theorem d_ThumbCoreModel_actives_14 : decode b_ThumbCoreModel_actives 14 = .ok (.iload_n 2, 1) := by decide +kernel
theorem d_ThumbCoreModel_actives_15 : decode b_ThumbCoreModel_actives 15 = .ok (.baload, 1) := by decide +kernel
theorem d_ThumbCoreModel_actives_16 : decode b_ThumbCoreModel_actives 16 = .ok (.ifCond .eq 9, 3) := by decide +kernel
theorem d_ThumbCoreModel_actives_19 : decode b_ThumbCoreModel_actives 19 = .ok (.iload_n 1, 1) := by decide +kernel
theorem d_ThumbCoreModel_actives_20 : decode b_ThumbCoreModel_actives 20 = .ok (.iconst 1, 1) := by decide +kernel
theorem d_ThumbCoreModel_actives_21 : decode b_ThumbCoreModel_actives 21 = .ok (.iadd, 1) := by decide +kernel
theorem d_ThumbCoreModel_actives_22 : decode b_ThumbCoreModel_actives 22 = .ok (.goto 4, 3) := by decide +kernel
theorem d_ThumbCoreModel_actives_25 : decode b_ThumbCoreModel_actives 25 = .ok (.iload_n 1, 1) := by decide +kernel
theorem d_ThumbCoreModel_actives_26 : decode b_ThumbCoreModel_actives 26 = .ok (.istore_n 1, 1) := by decide +kernel
theorem d_ThumbCoreModel_actives_27 : decode b_ThumbCoreModel_actives 27 = .ok (.iinc 2 1, 3) := by decide +kernel
theorem d_ThumbCoreModel_actives_30 : decode b_ThumbCoreModel_actives 30 = .ok (.goto (-26), 3) := by decide +kernel
theorem d_ThumbCoreModel_actives_33 : decode b_ThumbCoreModel_actives 33 = .ok (.iload_n 1, 1) := by decide +kernel
theorem d_ThumbCoreModel_actives_34 : decode b_ThumbCoreModel_actives 34 = .ok (.ireturn, 1) := by decide +kernel
theorem d_ThumbCoreModel_waiting_0 : decode b_ThumbCoreModel_waiting 0 = .ok (.iconst 0, 1) := by decide +kernel
theorem d_ThumbCoreModel_waiting_1 : decode b_ThumbCoreModel_waiting 1 = .ok (.istore_n 2, 1) := by decide +kernel
theorem d_ThumbCoreModel_waiting_2 : decode b_ThumbCoreModel_waiting 2 = .ok (.bipush 15, 2) := by decide +kernel
theorem d_ThumbCoreModel_waiting_4 : decode b_ThumbCoreModel_waiting 4 = .ok (.istore_n 3, 1) := by decide +kernel
theorem d_ThumbCoreModel_waiting_5 : decode b_ThumbCoreModel_waiting 5 = .ok (.iload_n 3, 1) := by decide +kernel
theorem d_ThumbCoreModel_waiting_6 : decode b_ThumbCoreModel_waiting 6 = .ok (.ifCond .le 65, 3) := by decide +kernel
theorem d_ThumbCoreModel_waiting_9 : decode b_ThumbCoreModel_waiting 9 = .ok (.aload_n 0, 1) := by decide +kernel
theorem d_ThumbCoreModel_waiting_10 : decode b_ThumbCoreModel_waiting 10 = .ok (.getfield 20, 3) := by decide +kernel
theorem d_ThumbCoreModel_waiting_13 : decode b_ThumbCoreModel_waiting 13 = .ok (.iload_n 3, 1) := by decide +kernel
theorem d_ThumbCoreModel_waiting_14 : decode b_ThumbCoreModel_waiting 14 = .ok (.baload, 1) := by decide +kernel
theorem d_ThumbCoreModel_waiting_15 : decode b_ThumbCoreModel_waiting 15 = .ok (.ifCond .eq 17, 3) := by decide +kernel
theorem d_ThumbCoreModel_waiting_18 : decode b_ThumbCoreModel_waiting 18 = .ok (.aload_n 0, 1) := by decide +kernel
theorem d_ThumbCoreModel_waiting_19 : decode b_ThumbCoreModel_waiting 19 = .ok (.getfield 27, 3) := by decide +kernel
theorem d_ThumbCoreModel_waiting_22 : decode b_ThumbCoreModel_waiting 22 = .ok (.iload_n 3, 1) := by decide +kernel
theorem d_ThumbCoreModel_waiting_23 : decode b_ThumbCoreModel_waiting 23 = .ok (.iaload, 1) := by decide +kernel
theorem d_ThumbCoreModel_waiting_24 : decode b_ThumbCoreModel_waiting 24 = .ok (.iload_n 1, 1) := by decide +kernel
theorem d_ThumbCoreModel_waiting_25 : decode b_ThumbCoreModel_waiting 25 = .ok (.if_icmp .ge 7, 3) := by decide +kernel
theorem d_ThumbCoreModel_waiting_28 : decode b_ThumbCoreModel_waiting 28 = .ok (.iconst 1, 1) := by decide +kernel
theorem d_ThumbCoreModel_waiting_29 : decode b_ThumbCoreModel_waiting 29 = .ok (.goto 4, 3) := by decide +kernel
theorem d_ThumbCoreModel_waiting_32 : decode b_ThumbCoreModel_waiting 32 = .ok (.iconst 0, 1) := by decide +kernel
theorem d_ThumbCoreModel_waiting_33 : decode b_ThumbCoreModel_waiting 33 = .ok (.istore 4, 2) := by decide +kernel
theorem d_ThumbCoreModel_waiting_35 : decode b_ThumbCoreModel_waiting 35 = .ok (.iload 4, 2) := by decide +kernel
theorem d_ThumbCoreModel_waiting_37 : decode b_ThumbCoreModel_waiting 37 = .ok (.ifCond .eq 26, 3) := by decide +kernel
theorem d_ThumbCoreModel_waiting_40 : decode b_ThumbCoreModel_waiting 40 = .ok (.iload_n 2, 1) := by decide +kernel
theorem d_ThumbCoreModel_waiting_41 : decode b_ThumbCoreModel_waiting 41 = .ok (.ifCond .eq 18, 3) := by decide +kernel
theorem d_ThumbCoreModel_waiting_44 : decode b_ThumbCoreModel_waiting 44 = .ok (.aload_n 0, 1) := by decide +kernel
theorem d_ThumbCoreModel_waiting_45 : decode b_ThumbCoreModel_waiting 45 = .ok (.getfield 27, 3) := by decide +kernel
theorem d_ThumbCoreModel_waiting_48 : decode b_ThumbCoreModel_waiting 48 = .ok (.iload_n 3, 1) := by decide +kernel
theorem d_ThumbCoreModel_waiting_49 : decode b_ThumbCoreModel_waiting 49 = .ok (.iaload, 1) := by decide +kernel
theorem d_ThumbCoreModel_waiting_50 : decode b_ThumbCoreModel_waiting 50 = .ok (.aload_n 0, 1) := by decide +kernel
theorem d_ThumbCoreModel_waiting_51 : decode b_ThumbCoreModel_waiting 51 = .ok (.getfield 27, 3) := by decide +kernel
theorem d_ThumbCoreModel_waiting_54 : decode b_ThumbCoreModel_waiting 54 = .ok (.iload_n 2, 1) := by decide +kernel
theorem d_ThumbCoreModel_waiting_55 : decode b_ThumbCoreModel_waiting 55 = .ok (.iaload, 1) := by decide +kernel
theorem d_ThumbCoreModel_waiting_56 : decode b_ThumbCoreModel_waiting 56 = .ok (.if_icmp .gt 7, 3) := by decide +kernel
theorem d_ThumbCoreModel_waiting_59 : decode b_ThumbCoreModel_waiting 59 = .ok (.iload_n 3, 1) := by decide +kernel
theorem d_ThumbCoreModel_waiting_60 : decode b_ThumbCoreModel_waiting 60 = .ok (.goto 4, 3) := by decide +kernel
theorem d_ThumbCoreModel_waiting_63 : decode b_ThumbCoreModel_waiting 63 = .ok (.iload_n 2, 1) := by decide +kernel
theorem d_ThumbCoreModel_waiting_64 : decode b_ThumbCoreModel_waiting 64 = .ok (.istore_n 2, 1) := by decide +kernel
theorem d_ThumbCoreModel_waiting_65 : decode b_ThumbCoreModel_waiting 65 = .ok (.iinc 3 (-1), 3) := by decide +kernel
theorem d_ThumbCoreModel_waiting_68 : decode b_ThumbCoreModel_waiting 68 = .ok (.goto (-63), 3) := by decide +kernel
theorem d_ThumbCoreModel_waiting_71 : decode b_ThumbCoreModel_waiting 71 = .ok (.iload_n 2, 1) := by decide +kernel
theorem d_ThumbCoreModel_waiting_72 : decode b_ThumbCoreModel_waiting 72 = .ok (.ireturn, 1) := by decide +kernel
theorem d_ThumbCoreModel_enter_0 : decode b_ThumbCoreModel_enter 0 = .ok (.aload_n 0, 1) := by decide +kernel
theorem d_ThumbCoreModel_enter_1 : decode b_ThumbCoreModel_enter 1 = .ok (.getfield 13, 3) := by decide +kernel
theorem d_ThumbCoreModel_enter_4 : decode b_ThumbCoreModel_enter 4 = .ok (.bipush 13, 2) := by decide +kernel
theorem d_ThumbCoreModel_enter_6 : decode b_ThumbCoreModel_enter 6 = .ok (.iaload, 1) := by decide +kernel
theorem d_ThumbCoreModel_enter_7 : decode b_ThumbCoreModel_enter 7 = .ok (.bipush 7, 2) := by decide +kernel
theorem d_ThumbCoreModel_enter_9 : decode b_ThumbCoreModel_enter 9 = .ok (.iand, 1) := by decide +kernel
theorem d_ThumbCoreModel_enter_10 : decode b_ThumbCoreModel_enter 10 = .ok (.ifCond .eq 7, 3) := by decide +kernel
theorem d_ThumbCoreModel_enter_13 : decode b_ThumbCoreModel_enter 13 = .ok (.iconst 4, 1) := by decide +kernel
theorem d_ThumbCoreModel_enter_14 : decode b_ThumbCoreModel_enter 14 = .ok (.goto 4, 3) := by decide +kernel
theorem d_ThumbCoreModel_enter_17 : decode b_ThumbCoreModel_enter 17 = .ok (.iconst 0, 1) := by decide +kernel
theorem d_ThumbCoreModel_enter_18 : decode b_ThumbCoreModel_enter 18 = .ok (.istore_n 3, 1) := by decide +kernel
theorem d_ThumbCoreModel_enter_19 : decode b_ThumbCoreModel_enter 19 = .ok (.aload_n 0, 1) := by decide +kernel
theorem d_ThumbCoreModel_enter_20 : decode b_ThumbCoreModel_enter 20 = .ok (.getfield 13, 3) := by decide +kernel
theorem d_ThumbCoreModel_enter_23 : decode b_ThumbCoreModel_enter 23 = .ok (.bipush 13, 2) := by decide +kernel
theorem d_ThumbCoreModel_enter_25 : decode b_ThumbCoreModel_enter 25 = .ok (.iaload, 1) := by decide +kernel
theorem d_ThumbCoreModel_enter_26 : decode b_ThumbCoreModel_enter 26 = .ok (.bipush 32, 2) := by decide +kernel
theorem d_ThumbCoreModel_enter_28 : decode b_ThumbCoreModel_enter 28 = .ok (.isub, 1) := by decide +kernel
theorem d_ThumbCoreModel_enter_29 : decode b_ThumbCoreModel_enter 29 = .ok (.iload_n 3, 1) := by decide +kernel
theorem d_ThumbCoreModel_enter_30 : decode b_ThumbCoreModel_enter 30 = .ok (.isub, 1) := by decide +kernel
theorem d_ThumbCoreModel_enter_31 : decode b_ThumbCoreModel_enter 31 = .ok (.istore 4, 2) := by decide +kernel
theorem d_ThumbCoreModel_enter_33 : decode b_ThumbCoreModel_enter 33 = .ok (.aload_n 0, 1) := by decide +kernel
theorem d_ThumbCoreModel_enter_34 : decode b_ThumbCoreModel_enter 34 = .ok (.iconst 4, 1) := by decide +kernel
theorem d_ThumbCoreModel_enter_35 : decode b_ThumbCoreModel_enter 35 = .ok (.iload_n 1, 1) := by decide +kernel
theorem d_ThumbCoreModel_enter_36 : decode b_ThumbCoreModel_enter 36 = .ok (.imul, 1) := by decide +kernel
theorem d_ThumbCoreModel_enter_37 : decode b_ThumbCoreModel_enter 37 = .ok (.iconst 4, 1) := by decide +kernel
theorem d_ThumbCoreModel_enter_38 : decode b_ThumbCoreModel_enter 38 = .ok (.invokevirtual 37, 3) := by decide +kernel
theorem d_ThumbCoreModel_enter_41 : decode b_ThumbCoreModel_enter 41 = .ok (.istore 5, 2) := by decide +kernel
theorem d_ThumbCoreModel_enter_43 : decode b_ThumbCoreModel_enter 43 = .ok (.iconst 0, 1) := by decide +kernel
theorem d_ThumbCoreModel_enter_44 : decode b_ThumbCoreModel_enter 44 = .ok (.istore 6, 2) := by decide +kernel
theorem d_ThumbCoreModel_enter_46 : decode b_ThumbCoreModel_enter 46 = .ok (.iload 6, 2) := by decide +kernel
theorem d_ThumbCoreModel_enter_48 : decode b_ThumbCoreModel_enter 48 = .ok (.bipush 8, 2) := by decide +kernel
theorem d_ThumbCoreModel_enter_50 : decode b_ThumbCoreModel_enter 50 = .ok (.if_icmp .ge 36, 3) := by decide +kernel
theorem d_ThumbCoreModel_enter_53 : decode b_ThumbCoreModel_enter 53 = .ok (.iload 5, 2) := by decide +kernel
theorem d_ThumbCoreModel_enter_55 : decode b_ThumbCoreModel_enter 55 = .ok (.ifCond .eq 22, 3) := by decide +kernel
theorem d_ThumbCoreModel_enter_58 : decode b_ThumbCoreModel_enter 58 = .ok (.aload_n 0, 1) := by decide +kernel
theorem d_ThumbCoreModel_enter_59 : decode b_ThumbCoreModel_enter 59 = .ok (.iload 4, 2) := by decide +kernel
theorem d_ThumbCoreModel_enter_61 : decode b_ThumbCoreModel_enter 61 = .ok (.iconst 4, 1) := by decide +kernel
theorem d_ThumbCoreModel_enter_62 : decode b_ThumbCoreModel_enter 62 = .ok (.iload 6, 2) := by decide +kernel
theorem d_ThumbCoreModel_enter_64 : decode b_ThumbCoreModel_enter 64 = .ok (.imul, 1) := by decide +kernel
theorem d_ThumbCoreModel_enter_65 : decode b_ThumbCoreModel_enter 65 = .ok (.iadd, 1) := by decide +kernel
theorem d_ThumbCoreModel_enter_66 : decode b_ThumbCoreModel_enter 66 = .ok (.iconst 4, 1) := by decide +kernel
theorem d_ThumbCoreModel_enter_67 : decode b_ThumbCoreModel_enter 67 = .ok (.invokevirtual 37, 3) := by decide +kernel
theorem d_ThumbCoreModel_enter_70 : decode b_ThumbCoreModel_enter 70 = .ok (.ifCond .eq 7, 3) := by decide +kernel
theorem d_ThumbCoreModel_enter_73 : decode b_ThumbCoreModel_enter 73 = .ok (.iconst 1, 1) := by decide +kernel
theorem d_ThumbCoreModel_enter_74 : decode b_ThumbCoreModel_enter 74 = .ok (.goto 4, 3) := by decide +kernel
theorem d_ThumbCoreModel_enter_77 : decode b_ThumbCoreModel_enter 77 = .ok (.iconst 0, 1) := by decide +kernel
theorem d_ThumbCoreModel_enter_78 : decode b_ThumbCoreModel_enter 78 = .ok (.istore 5, 2) := by decide +kernel
theorem d_ThumbCoreModel_enter_80 : decode b_ThumbCoreModel_enter 80 = .ok (.iinc 6 1, 3) := by decide +kernel
theorem d_ThumbCoreModel_enter_83 : decode b_ThumbCoreModel_enter 83 = .ok (.goto (-37), 3) := by decide +kernel
theorem d_ThumbCoreModel_enter_86 : decode b_ThumbCoreModel_enter 86 = .ok (.iload 5, 2) := by decide +kernel
theorem d_ThumbCoreModel_enter_88 : decode b_ThumbCoreModel_enter 88 = .ok (.ifCond .eq 14, 3) := by decide +kernel
theorem d_ThumbCoreModel_enter_91 : decode b_ThumbCoreModel_enter 91 = .ok (.aload_n 0, 1) := by decide +kernel
theorem d_ThumbCoreModel_enter_92 : decode b_ThumbCoreModel_enter 92 = .ok (.iconst 4, 1) := by decide +kernel
theorem d_ThumbCoreModel_enter_93 : decode b_ThumbCoreModel_enter 93 = .ok (.iload_n 1, 1) := by decide +kernel
theorem d_ThumbCoreModel_enter_94 : decode b_ThumbCoreModel_enter 94 = .ok (.imul, 1) := by decide +kernel
theorem d_ThumbCoreModel_enter_95 : decode b_ThumbCoreModel_enter 95 = .ok (.iconst 4, 1) := by decide +kernel
theorem d_ThumbCoreModel_enter_96 : decode b_ThumbCoreModel_enter 96 = .ok (.invokevirtual 45, 3) := by decide +kernel
theorem d_ThumbCoreModel_enter_99 : decode b_ThumbCoreModel_enter 99 = .ok (.goto 4, 3) := by decide +kernel
theorem d_ThumbCoreModel_enter_102 : decode b_ThumbCoreModel_enter 102 = .ok (.iconst 0, 1) := by decide +kernel
theorem d_ThumbCoreModel_enter_103 : decode b_ThumbCoreModel_enter 103 = .ok (.istore 6, 2) := by decide +kernel
theorem d_ThumbCoreModel_enter_105 : decode b_ThumbCoreModel_enter 105 = .ok (.iload 6, 2) := by decide +kernel
theorem d_ThumbCoreModel_enter_107 : decode b_ThumbCoreModel_enter 107 = .ok (.iconst 1, 1) := by decide +kernel
theorem d_ThumbCoreModel_enter_108 : decode b_ThumbCoreModel_enter 108 = .ok (.iand, 1) := by decide +kernel
theorem d_ThumbCoreModel_enter_109 : decode b_ThumbCoreModel_enter 109 = .ok (.ifCond .ne 9, 3) := by decide +kernel
theorem d_ThumbCoreModel_enter_112 : decode b_ThumbCoreModel_enter 112 = .ok (.aload_n 0, 1) := by decide +kernel
theorem d_ThumbCoreModel_enter_113 : decode b_ThumbCoreModel_enter 113 = .ok (.iconst 1, 1) := by decide +kernel
theorem d_ThumbCoreModel_enter_114 : decode b_ThumbCoreModel_enter 114 = .ok (.putfield 59, 3) := by decide +kernel
theorem d_ThumbCoreModel_enter_117 : decode b_ThumbCoreModel_enter 117 = .ok (.return_, 1) := by decide +kernel
theorem d_ThumbCoreModel_enter_118 : decode b_ThumbCoreModel_enter 118 = .ok (.iconst 0, 1) := by decide +kernel
theorem d_ThumbCoreModel_enter_119 : decode b_ThumbCoreModel_enter 119 = .ok (.istore 7, 2) := by decide +kernel
theorem d_ThumbCoreModel_enter_121 : decode b_ThumbCoreModel_enter 121 = .ok (.iload 7, 2) := by decide +kernel
theorem d_ThumbCoreModel_enter_123 : decode b_ThumbCoreModel_enter 123 = .ok (.bipush 8, 2) := by decide +kernel
theorem d_ThumbCoreModel_enter_125 : decode b_ThumbCoreModel_enter 125 = .ok (.if_icmp .ge 100, 3) := by decide +kernel
theorem d_ThumbCoreModel_enter_128 : decode b_ThumbCoreModel_enter 128 = .ok (.iload 7, 2) := by decide +kernel
theorem d_ThumbCoreModel_enter_130 : decode b_ThumbCoreModel_enter 130 = .ok (.iconst 4, 1) := by decide +kernel
theorem d_ThumbCoreModel_enter_131 : decode b_ThumbCoreModel_enter 131 = .ok (.if_icmp .ge 13, 3) := by decide +kernel
theorem d_ThumbCoreModel_enter_134 : decode b_ThumbCoreModel_enter 134 = .ok (.aload_n 0, 1) := by decide +kernel
theorem d_ThumbCoreModel_enter_135 : decode b_ThumbCoreModel_enter 135 = .ok (.getfield 13, 3) := by decide +kernel
theorem d_ThumbCoreModel_enter_138 : decode b_ThumbCoreModel_enter 138 = .ok (.iload 7, 2) := by decide +kernel
theorem d_ThumbCoreModel_enter_140 : decode b_ThumbCoreModel_enter 140 = .ok (.iaload, 1) := by decide +kernel
theorem d_ThumbCoreModel_enter_141 : decode b_ThumbCoreModel_enter 141 = .ok (.goto 62, 3) := by decide +kernel
theorem d_ThumbCoreModel_enter_144 : decode b_ThumbCoreModel_enter 144 = .ok (.iload 7, 2) := by decide +kernel
theorem d_ThumbCoreModel_enter_146 : decode b_ThumbCoreModel_enter 146 = .ok (.iconst 4, 1) := by decide +kernel
theorem d_ThumbCoreModel_enter_147 : decode b_ThumbCoreModel_enter 147 = .ok (.if_icmp .ne 13, 3) := by decide +kernel
theorem d_ThumbCoreModel_enter_150 : decode b_ThumbCoreModel_enter 150 = .ok (.aload_n 0, 1) := by decide +kernel
theorem d_ThumbCoreModel_enter_151 : decode b_ThumbCoreModel_enter 151 = .ok (.getfield 13, 3) := by decide +kernel
theorem d_ThumbCoreModel_enter_154 : decode b_ThumbCoreModel_enter 154 = .ok (.bipush 12, 2) := by decide +kernel
theorem d_ThumbCoreModel_enter_156 : decode b_ThumbCoreModel_enter 156 = .ok (.iaload, 1) := by decide +kernel
theorem d_ThumbCoreModel_enter_157 : decode b_ThumbCoreModel_enter 157 = .ok (.goto 46, 3) := by decide +kernel
theorem d_ThumbCoreModel_enter_160 : decode b_ThumbCoreModel_enter 160 = .ok (.iload 7, 2) := by decide +kernel
theorem d_ThumbCoreModel_enter_162 : decode b_ThumbCoreModel_enter 162 = .ok (.iconst 5, 1) := by decide +kernel
theorem d_ThumbCoreModel_enter_163 : decode b_ThumbCoreModel_enter 163 = .ok (.if_icmp .ne 13, 3) := by decide +kernel
theorem d_ThumbCoreModel_enter_166 : decode b_ThumbCoreModel_enter 166 = .ok (.aload_n 0, 1) := by decide +kernel
theorem d_ThumbCoreModel_enter_167 : decode b_ThumbCoreModel_enter 167 = .ok (.getfield 13, 3) := by decide +kernel
theorem d_ThumbCoreModel_enter_170 : decode b_ThumbCoreModel_enter 170 = .ok (.bipush 14, 2) := by decide +kernel
theorem d_ThumbCoreModel_enter_172 : decode b_ThumbCoreModel_enter 172 = .ok (.iaload, 1) := by decide +kernel
theorem d_ThumbCoreModel_enter_173 : decode b_ThumbCoreModel_enter 173 = .ok (.goto 30, 3) := by decide +kernel
theorem d_ThumbCoreModel_enter_176 : decode b_ThumbCoreModel_enter 176 = .ok (.iload 7, 2) := by decide +kernel
theorem d_ThumbCoreModel_enter_178 : decode b_ThumbCoreModel_enter 178 = .ok (.bipush 6, 2) := by decide +kernel
theorem d_ThumbCoreModel_enter_180 : decode b_ThumbCoreModel_enter 180 = .ok (.if_icmp .ne 7, 3) := by decide +kernel
theorem d_ThumbCoreModel_enter_183 : decode b_ThumbCoreModel_enter 183 = .ok (.iload_n 2, 1) := by decide +kernel
theorem d_ThumbCoreModel_enter_184 : decode b_ThumbCoreModel_enter 184 = .ok (.goto 19, 3) := by decide +kernel
theorem d_ThumbCoreModel_enter_187 : decode b_ThumbCoreModel_enter 187 = .ok (.aload_n 0, 1) := by decide +kernel
theorem d_ThumbCoreModel_enter_188 : decode b_ThumbCoreModel_enter 188 = .ok (.invokevirtual 97, 3) := by decide +kernel
theorem d_ThumbCoreModel_enter_191 : decode b_ThumbCoreModel_enter 191 = .ok (.iload_n 3, 1) := by decide +kernel
theorem d_ThumbCoreModel_enter_192 : decode b_ThumbCoreModel_enter 192 = .ok (.ifCond .le 9, 3) := by decide +kernel
theorem d_ThumbCoreModel_enter_195 : decode b_ThumbCoreModel_enter 195 = .ok (.sipush 512, 3) := by decide +kernel
theorem d_ThumbCoreModel_enter_198 : decode b_ThumbCoreModel_enter 198 = .ok (.goto 4, 3) := by decide +kernel
theorem d_ThumbCoreModel_enter_201 : decode b_ThumbCoreModel_enter 201 = .ok (.iconst 0, 1) := by decide +kernel
theorem d_ThumbCoreModel_enter_202 : decode b_ThumbCoreModel_enter 202 = .ok (.ior, 1) := by decide +kernel
theorem d_ThumbCoreModel_enter_203 : decode b_ThumbCoreModel_enter 203 = .ok (.istore 8, 2) := by decide +kernel
theorem d_ThumbCoreModel_enter_205 : decode b_ThumbCoreModel_enter 205 = .ok (.aload_n 0, 1) := by decide +kernel
theorem d_ThumbCoreModel_enter_206 : decode b_ThumbCoreModel_enter 206 = .ok (.iload 4, 2) := by decide +kernel
theorem d_ThumbCoreModel_enter_208 : decode b_ThumbCoreModel_enter 208 = .ok (.iconst 4, 1) := by decide +kernel
theorem d_ThumbCoreModel_enter_209 : decode b_ThumbCoreModel_enter 209 = .ok (.iload 7, 2) := by decide +kernel
theorem d_ThumbCoreModel_enter_211 : decode b_ThumbCoreModel_enter 211 = .ok (.imul, 1) := by decide +kernel
theorem d_ThumbCoreModel_enter_212 : decode b_ThumbCoreModel_enter 212 = .ok (.iadd, 1) := by decide +kernel
theorem d_ThumbCoreModel_enter_213 : decode b_ThumbCoreModel_enter 213 = .ok (.iload 8, 2) := by decide +kernel
theorem d_ThumbCoreModel_enter_215 : decode b_ThumbCoreModel_enter 215 = .ok (.iconst 4, 1) := by decide +kernel
theorem d_ThumbCoreModel_enter_216 : decode b_ThumbCoreModel_enter 216 = .ok (.invokevirtual 100, 3) := by decide +kernel
theorem d_ThumbCoreModel_enter_219 : decode b_ThumbCoreModel_enter 219 = .ok (.iinc 7 1, 3) := by decide +kernel
theorem d_ThumbCoreModel_enter_222 : decode b_ThumbCoreModel_enter 222 = .ok (.goto (-101), 3) := by decide +kernel
theorem d_ThumbCoreModel_enter_225 : decode b_ThumbCoreModel_enter 225 = .ok (.aload_n 0, 1) := by decide +kernel
theorem d_ThumbCoreModel_enter_226 : decode b_ThumbCoreModel_enter 226 = .ok (.getfield 13, 3) := by decide +kernel
theorem d_ThumbCoreModel_enter_229 : decode b_ThumbCoreModel_enter 229 = .ok (.bipush 14, 2) := by decide +kernel
theorem d_ThumbCoreModel_enter_231 : decode b_ThumbCoreModel_enter 231 = .ok (.aload_n 0, 1) := by decide +kernel
theorem d_ThumbCoreModel_enter_232 : decode b_ThumbCoreModel_enter 232 = .ok (.invokevirtual 104, 3) := by decide +kernel
theorem d_ThumbCoreModel_enter_235 : decode b_ThumbCoreModel_enter 235 = .ok (.ifCond .ne 8, 3) := by decide +kernel
theorem d_ThumbCoreModel_enter_238 : decode b_ThumbCoreModel_enter 238 = .ok (.bipush (-7), 2) := by decide +kernel
theorem d_ThumbCoreModel_enter_240 : decode b_ThumbCoreModel_enter 240 = .ok (.goto 5, 3) := by decide +kernel
theorem d_ThumbCoreModel_enter_243 : decode b_ThumbCoreModel_enter 243 = .ok (.bipush (-15), 2) := by decide +kernel
theorem d_ThumbCoreModel_enter_245 : decode b_ThumbCoreModel_enter 245 = .ok (.iastore, 1) := by decide +kernel
theorem d_ThumbCoreModel_enter_246 : decode b_ThumbCoreModel_enter 246 = .ok (.aload_n 0, 1) := by decide +kernel
theorem d_ThumbCoreModel_enter_247 : decode b_ThumbCoreModel_enter 247 = .ok (.getfield 13, 3) := by decide +kernel
theorem d_ThumbCoreModel_enter_250 : decode b_ThumbCoreModel_enter 250 = .ok (.bipush 13, 2) := by decide +kernel
theorem d_ThumbCoreModel_enter_252 : decode b_ThumbCoreModel_enter 252 = .ok (.iload 4, 2) := by decide +kernel
theorem d_ThumbCoreModel_enter_254 : decode b_ThumbCoreModel_enter 254 = .ok (.iastore, 1) := by decide +kernel
theorem d_ThumbCoreModel_enter_255 : decode b_ThumbCoreModel_enter 255 = .ok (.aload_n 0, 1) := by decide +kernel
theorem d_ThumbCoreModel_enter_256 : decode b_ThumbCoreModel_enter 256 = .ok (.getfield 13, 3) := by decide +kernel
theorem d_ThumbCoreModel_enter_259 : decode b_ThumbCoreModel_enter 259 = .ok (.bipush 15, 2) := by decide +kernel
theorem d_ThumbCoreModel_enter_261 : decode b_ThumbCoreModel_enter 261 = .ok (.iload 6, 2) := by decide +kernel
theorem d_ThumbCoreModel_enter_263 : decode b_ThumbCoreModel_enter 263 = .ok (.bipush (-2), 2) := by decide +kernel
theorem d_ThumbCoreModel_enter_265 : decode b_ThumbCoreModel_enter 265 = .ok (.iand, 1) := by decide +kernel
theorem d_ThumbCoreModel_enter_266 : decode b_ThumbCoreModel_enter 266 = .ok (.iastore, 1) := by decide +kernel
theorem d_ThumbCoreModel_enter_267 : decode b_ThumbCoreModel_enter 267 = .ok (.aload_n 0, 1) := by decide +kernel
theorem d_ThumbCoreModel_enter_268 : decode b_ThumbCoreModel_enter 268 = .ok (.getfield 20, 3) := by decide +kernel
theorem d_ThumbCoreModel_enter_271 : decode b_ThumbCoreModel_enter 271 = .ok (.iload_n 1, 1) := by decide +kernel
theorem d_ThumbCoreModel_enter_272 : decode b_ThumbCoreModel_enter 272 = .ok (.iconst 0, 1) := by decide +kernel
theorem d_ThumbCoreModel_enter_273 : decode b_ThumbCoreModel_enter 273 = .ok (.bastore, 1) := by decide +kernel
theorem d_ThumbCoreModel_enter_274 : decode b_ThumbCoreModel_enter 274 = .ok (.aload_n 0, 1) := by decide +kernel
theorem d_ThumbCoreModel_enter_275 : decode b_ThumbCoreModel_enter 275 = .ok (.getfield 24, 3) := by decide +kernel
theorem d_ThumbCoreModel_enter_278 : decode b_ThumbCoreModel_enter 278 = .ok (.iload_n 1, 1) := by decide +kernel
theorem d_ThumbCoreModel_enter_279 : decode b_ThumbCoreModel_enter 279 = .ok (.iconst 1, 1) := by decide +kernel
theorem d_ThumbCoreModel_enter_280 : decode b_ThumbCoreModel_enter 280 = .ok (.bastore, 1) := by decide +kernel
theorem d_ThumbCoreModel_enter_281 : decode b_ThumbCoreModel_enter 281 = .ok (.aload_n 0, 1) := by decide +kernel
theorem d_ThumbCoreModel_enter_282 : decode b_ThumbCoreModel_enter 282 = .ok (.iload_n 1, 1) := by decide +kernel
theorem d_ThumbCoreModel_enter_283 : decode b_ThumbCoreModel_enter 283 = .ok (.putfield 71, 3) := by decide +kernel
theorem d_ThumbCoreModel_enter_286 : decode b_ThumbCoreModel_enter 286 = .ok (.return_, 1) := by decide +kernel
theorem d_ThumbCoreModel_fault_0 : decode b_ThumbCoreModel_fault 0 = .ok (.aload_n 0, 1) := by decide +kernel
theorem d_ThumbCoreModel_fault_1 : decode b_ThumbCoreModel_fault 1 = .ok (.iconst 1, 1) := by decide +kernel
theorem d_ThumbCoreModel_fault_2 : decode b_ThumbCoreModel_fault 2 = .ok (.invokevirtual 107, 3) := by decide +kernel
theorem d_ThumbCoreModel_fault_5 : decode b_ThumbCoreModel_fault 5 = .ok (.ifCond .ge 11, 3) := by decide +kernel
theorem d_ThumbCoreModel_fault_8 : decode b_ThumbCoreModel_fault 8 = .ok (.aload_n 0, 1) := by decide +kernel
theorem d_ThumbCoreModel_fault_9 : decode b_ThumbCoreModel_fault 9 = .ok (.iconst 1, 1) := by decide +kernel
theorem d_ThumbCoreModel_fault_10 : decode b_ThumbCoreModel_fault 10 = .ok (.putfield 59, 3) := by decide +kernel
theorem d_ThumbCoreModel_fault_13 : decode b_ThumbCoreModel_fault 13 = .ok (.goto 15, 3) := by decide +kernel
theorem d_ThumbCoreModel_fault_16 : decode b_ThumbCoreModel_fault 16 = .ok (.aload_n 0, 1) := by decide +kernel
theorem d_ThumbCoreModel_fault_17 : decode b_ThumbCoreModel_fault 17 = .ok (.iconst 3, 1) := by decide +kernel
theorem d_ThumbCoreModel_fault_18 : decode b_ThumbCoreModel_fault 18 = .ok (.aload_n 0, 1) := by decide +kernel
theorem d_ThumbCoreModel_fault_19 : decode b_ThumbCoreModel_fault 19 = .ok (.getfield 13, 3) := by decide +kernel
theorem d_ThumbCoreModel_fault_22 : decode b_ThumbCoreModel_fault 22 = .ok (.bipush 15, 2) := by decide +kernel
theorem d_ThumbCoreModel_fault_24 : decode b_ThumbCoreModel_fault 24 = .ok (.iaload, 1) := by decide +kernel
theorem d_ThumbCoreModel_fault_25 : decode b_ThumbCoreModel_fault 25 = .ok (.invokevirtual 111, 3) := by decide +kernel
theorem d_ThumbCoreModel_fault_28 : decode b_ThumbCoreModel_fault 28 = .ok (.return_, 1) := by decide +kernel
theorem d_ThumbCoreModel_comeBack_0 : decode b_ThumbCoreModel_comeBack 0 = .ok (.aload_n 0, 1) := by decide +kernel
theorem d_ThumbCoreModel_comeBack_1 : decode b_ThumbCoreModel_comeBack 1 = .ok (.getfield 13, 3) := by decide +kernel
theorem d_ThumbCoreModel_comeBack_4 : decode b_ThumbCoreModel_comeBack 4 = .ok (.bipush 13, 2) := by decide +kernel
theorem d_ThumbCoreModel_comeBack_6 : decode b_ThumbCoreModel_comeBack 6 = .ok (.iaload, 1) := by decide +kernel
theorem d_ThumbCoreModel_comeBack_7 : decode b_ThumbCoreModel_comeBack 7 = .ok (.istore_n 2, 1) := by decide +kernel
theorem d_ThumbCoreModel_comeBack_8 : decode b_ThumbCoreModel_comeBack 8 = .ok (.iconst 0, 1) := by decide +kernel
theorem d_ThumbCoreModel_comeBack_9 : decode b_ThumbCoreModel_comeBack 9 = .ok (.istore_n 3, 1) := by decide +kernel
theorem d_ThumbCoreModel_comeBack_10 : decode b_ThumbCoreModel_comeBack 10 = .ok (.iload_n 3, 1) := by decide +kernel
theorem d_ThumbCoreModel_comeBack_11 : decode b_ThumbCoreModel_comeBack 11 = .ok (.bipush 8, 2) := by decide +kernel
theorem d_ThumbCoreModel_comeBack_13 : decode b_ThumbCoreModel_comeBack 13 = .ok (.if_icmp .ge 38, 3) := by decide +kernel
theorem d_ThumbCoreModel_comeBack_16 : decode b_ThumbCoreModel_comeBack 16 = .ok (.aload_n 0, 1) := by decide +kernel
theorem d_ThumbCoreModel_comeBack_17 : decode b_ThumbCoreModel_comeBack 17 = .ok (.aload_n 0, 1) := by decide +kernel
theorem d_ThumbCoreModel_comeBack_18 : decode b_ThumbCoreModel_comeBack 18 = .ok (.getfield 41, 3) := by decide +kernel
theorem d_ThumbCoreModel_comeBack_21 : decode b_ThumbCoreModel_comeBack 21 = .ok (.ifCond .ne 16, 3) := by decide +kernel
theorem d_ThumbCoreModel_comeBack_24 : decode b_ThumbCoreModel_comeBack 24 = .ok (.aload_n 0, 1) := by decide +kernel
theorem d_ThumbCoreModel_comeBack_25 : decode b_ThumbCoreModel_comeBack 25 = .ok (.iload_n 2, 1) := by decide +kernel
theorem d_ThumbCoreModel_comeBack_26 : decode b_ThumbCoreModel_comeBack 26 = .ok (.iconst 4, 1) := by decide +kernel
theorem d_ThumbCoreModel_comeBack_27 : decode b_ThumbCoreModel_comeBack 27 = .ok (.iload_n 3, 1) := by decide +kernel
theorem d_ThumbCoreModel_comeBack_28 : decode b_ThumbCoreModel_comeBack 28 = .ok (.imul, 1) := by decide +kernel
