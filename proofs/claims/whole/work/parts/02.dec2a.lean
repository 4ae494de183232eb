theorem d_Flags_init_0 : decode b_Flags_init 0 = .ok (.aload_n 0, 1) := by decide +kernel
theorem d_Flags_init_1 : decode b_Flags_init 1 = .ok (.invokespecial 1, 3) := by decide +kernel
theorem d_Flags_init_4 : decode b_Flags_init 4 = .ok (.return_, 1) := by decide +kernel
theorem d_Flags_bits_0 : decode b_Flags_bits 0 = .ok (.aload_n 0, 1) := by decide +kernel
theorem d_Flags_bits_1 : decode b_Flags_bits 1 = .ok (.getfield 7, 3) := by decide +kernel
theorem d_Flags_bits_4 : decode b_Flags_bits 4 = .ok (.ifCond .eq 8, 3) := by decide +kernel
theorem d_Flags_bits_7 : decode b_Flags_bits 7 = .ok (.ldc 13, 2) := by decide +kernel
theorem d_Flags_bits_9 : decode b_Flags_bits 9 = .ok (.goto 4, 3) := by decide +kernel
theorem d_Flags_bits_12 : decode b_Flags_bits 12 = .ok (.iconst 0, 1) := by decide +kernel
theorem d_Flags_bits_13 : decode b_Flags_bits 13 = .ok (.aload_n 0, 1) := by decide +kernel
theorem d_Flags_bits_14 : decode b_Flags_bits 14 = .ok (.getfield 14, 3) := by decide +kernel
theorem d_Flags_bits_17 : decode b_Flags_bits 17 = .ok (.ifCond .eq 8, 3) := by decide +kernel
theorem d_Flags_bits_20 : decode b_Flags_bits 20 = .ok (.ldc 17, 2) := by decide +kernel
theorem d_Flags_bits_22 : decode b_Flags_bits 22 = .ok (.goto 4, 3) := by decide +kernel
theorem d_Flags_bits_25 : decode b_Flags_bits 25 = .ok (.iconst 0, 1) := by decide +kernel
theorem d_Flags_bits_26 : decode b_Flags_bits 26 = .ok (.ior, 1) := by decide +kernel
theorem d_Flags_bits_27 : decode b_Flags_bits 27 = .ok (.aload_n 0, 1) := by decide +kernel
theorem d_Flags_bits_28 : decode b_Flags_bits 28 = .ok (.getfield 18, 3) := by decide +kernel
theorem d_Flags_bits_31 : decode b_Flags_bits 31 = .ok (.ifCond .eq 8, 3) := by decide +kernel
theorem d_Flags_bits_34 : decode b_Flags_bits 34 = .ok (.ldc 21, 2) := by decide +kernel
theorem d_Flags_bits_36 : decode b_Flags_bits 36 = .ok (.goto 4, 3) := by decide +kernel
theorem d_Flags_bits_39 : decode b_Flags_bits 39 = .ok (.iconst 0, 1) := by decide +kernel
theorem d_Flags_bits_40 : decode b_Flags_bits 40 = .ok (.ior, 1) := by decide +kernel
theorem d_Flags_bits_41 : decode b_Flags_bits 41 = .ok (.aload_n 0, 1) := by decide +kernel
theorem d_Flags_bits_42 : decode b_Flags_bits 42 = .ok (.getfield 22, 3) := by decide +kernel
theorem d_Flags_bits_45 : decode b_Flags_bits 45 = .ok (.ifCond .eq 8, 3) := by decide +kernel
theorem d_Flags_bits_48 : decode b_Flags_bits 48 = .ok (.ldc 25, 2) := by decide +kernel
theorem d_Flags_bits_50 : decode b_Flags_bits 50 = .ok (.goto 4, 3) := by decide +kernel
theorem d_Flags_bits_53 : decode b_Flags_bits 53 = .ok (.iconst 0, 1) := by decide +kernel
theorem d_Flags_bits_54 : decode b_Flags_bits 54 = .ok (.ior, 1) := by decide +kernel
theorem d_Flags_bits_55 : decode b_Flags_bits 55 = .ok (.ireturn, 1) := by decide +kernel
theorem d_Flags_take_0 : decode b_Flags_take 0 = .ok (.aload_n 0, 1) := by decide +kernel
theorem d_Flags_take_1 : decode b_Flags_take 1 = .ok (.iload_n 1, 1) := by decide +kernel
theorem d_Flags_take_2 : decode b_Flags_take 2 = .ok (.ifCond .ge 7, 3) := by decide +kernel
theorem d_Flags_take_5 : decode b_Flags_take 5 = .ok (.iconst 1, 1) := by decide +kernel
theorem d_Flags_take_6 : decode b_Flags_take 6 = .ok (.goto 4, 3) := by decide +kernel
theorem d_Flags_take_9 : decode b_Flags_take 9 = .ok (.iconst 0, 1) := by decide +kernel
theorem d_Flags_take_10 : decode b_Flags_take 10 = .ok (.putfield 7, 3) := by decide +kernel
theorem d_Flags_take_13 : decode b_Flags_take 13 = .ok (.aload_n 0, 1) := by decide +kernel
theorem d_Flags_take_14 : decode b_Flags_take 14 = .ok (.iload_n 1, 1) := by decide +kernel
theorem d_Flags_take_15 : decode b_Flags_take 15 = .ok (.bipush 30, 2) := by decide +kernel
theorem d_Flags_take_17 : decode b_Flags_take 17 = .ok (.iushr, 1) := by decide +kernel
theorem d_Flags_take_18 : decode b_Flags_take 18 = .ok (.iconst 1, 1) := by decide +kernel
theorem d_Flags_take_19 : decode b_Flags_take 19 = .ok (.iand, 1) := by decide +kernel
theorem d_Flags_take_20 : decode b_Flags_take 20 = .ok (.iconst 1, 1) := by decide +kernel
theorem d_Flags_take_21 : decode b_Flags_take 21 = .ok (.if_icmp .ne 7, 3) := by decide +kernel
theorem d_Flags_take_24 : decode b_Flags_take 24 = .ok (.iconst 1, 1) := by decide +kernel
theorem d_Flags_take_25 : decode b_Flags_take 25 = .ok (.goto 4, 3) := by decide +kernel
theorem d_Flags_take_28 : decode b_Flags_take 28 = .ok (.iconst 0, 1) := by decide +kernel
theorem d_Flags_take_29 : decode b_Flags_take 29 = .ok (.putfield 14, 3) := by decide +kernel
theorem d_Flags_take_32 : decode b_Flags_take 32 = .ok (.aload_n 0, 1) := by decide +kernel
theorem d_Flags_take_33 : decode b_Flags_take 33 = .ok (.iload_n 1, 1) := by decide +kernel
theorem d_Flags_take_34 : decode b_Flags_take 34 = .ok (.bipush 29, 2) := by decide +kernel
theorem d_Flags_take_36 : decode b_Flags_take 36 = .ok (.iushr, 1) := by decide +kernel
theorem d_Flags_take_37 : decode b_Flags_take 37 = .ok (.iconst 1, 1) := by decide +kernel
theorem d_Flags_take_38 : decode b_Flags_take 38 = .ok (.iand, 1) := by decide +kernel
theorem d_Flags_take_39 : decode b_Flags_take 39 = .ok (.iconst 1, 1) := by decide +kernel
theorem d_Flags_take_40 : decode b_Flags_take 40 = .ok (.if_icmp .ne 7, 3) := by decide +kernel
theorem d_Flags_take_43 : decode b_Flags_take 43 = .ok (.iconst 1, 1) := by decide +kernel
theorem d_Flags_take_44 : decode b_Flags_take 44 = .ok (.goto 4, 3) := by decide +kernel
theorem d_Flags_take_47 : decode b_Flags_take 47 = .ok (.iconst 0, 1) := by decide +kernel
theorem d_Flags_take_48 : decode b_Flags_take 48 = .ok (.putfield 18, 3) := by decide +kernel
theorem d_Flags_take_51 : decode b_Flags_take 51 = .ok (.aload_n 0, 1) := by decide +kernel
theorem d_Flags_take_52 : decode b_Flags_take 52 = .ok (.iload_n 1, 1) := by decide +kernel
theorem d_Flags_take_53 : decode b_Flags_take 53 = .ok (.bipush 28, 2) := by decide +kernel
theorem d_Flags_take_55 : decode b_Flags_take 55 = .ok (.iushr, 1) := by decide +kernel
theorem d_Flags_take_56 : decode b_Flags_take 56 = .ok (.iconst 1, 1) := by decide +kernel
theorem d_Flags_take_57 : decode b_Flags_take 57 = .ok (.iand, 1) := by decide +kernel
theorem d_Flags_take_58 : decode b_Flags_take 58 = .ok (.iconst 1, 1) := by decide +kernel
theorem d_Flags_take_59 : decode b_Flags_take 59 = .ok (.if_icmp .ne 7, 3) := by decide +kernel
theorem d_Flags_take_62 : decode b_Flags_take 62 = .ok (.iconst 1, 1) := by decide +kernel
theorem d_Flags_take_63 : decode b_Flags_take 63 = .ok (.goto 4, 3) := by decide +kernel
theorem d_Flags_take_66 : decode b_Flags_take 66 = .ok (.iconst 0, 1) := by decide +kernel
theorem d_Flags_take_67 : decode b_Flags_take 67 = .ok (.putfield 22, 3) := by decide +kernel
theorem d_Flags_take_70 : decode b_Flags_take 70 = .ok (.return_, 1) := by decide +kernel
theorem d_Flags_mark_0 : decode b_Flags_mark 0 = .ok (.aload_n 0, 1) := by decide +kernel
theorem d_Flags_mark_1 : decode b_Flags_mark 1 = .ok (.iload_n 1, 1) := by decide +kernel
theorem d_Flags_mark_2 : decode b_Flags_mark 2 = .ok (.ifCond .ge 7, 3) := by decide +kernel
theorem d_Flags_mark_5 : decode b_Flags_mark 5 = .ok (.iconst 1, 1) := by decide +kernel
theorem d_Flags_mark_6 : decode b_Flags_mark 6 = .ok (.goto 4, 3) := by decide +kernel
theorem d_Flags_mark_9 : decode b_Flags_mark 9 = .ok (.iconst 0, 1) := by decide +kernel
theorem d_Flags_mark_10 : decode b_Flags_mark 10 = .ok (.putfield 7, 3) := by decide +kernel
theorem d_Flags_mark_13 : decode b_Flags_mark 13 = .ok (.aload_n 0, 1) := by decide +kernel
theorem d_Flags_mark_14 : decode b_Flags_mark 14 = .ok (.iload_n 1, 1) := by decide +kernel
theorem d_Flags_mark_15 : decode b_Flags_mark 15 = .ok (.ifCond .ne 7, 3) := by decide +kernel
theorem d_Flags_mark_18 : decode b_Flags_mark 18 = .ok (.iconst 1, 1) := by decide +kernel
theorem d_Flags_mark_19 : decode b_Flags_mark 19 = .ok (.goto 4, 3) := by decide +kernel
theorem d_Flags_mark_22 : decode b_Flags_mark 22 = .ok (.iconst 0, 1) := by decide +kernel
theorem d_Flags_mark_23 : decode b_Flags_mark 23 = .ok (.putfield 14, 3) := by decide +kernel
theorem d_Flags_mark_26 : decode b_Flags_mark 26 = .ok (.iload_n 1, 1) := by decide +kernel
theorem d_Flags_mark_27 : decode b_Flags_mark 27 = .ok (.ireturn, 1) := by decide +kernel
theorem d_Flags_add_0 : decode b_Flags_add 0 = .ok (.iload_n 1, 1) := by decide +kernel
theorem d_Flags_add_1 : decode b_Flags_add 1 = .ok (.i2l, 1) := by decide +kernel
theorem d_Flags_add_2 : decode b_Flags_add 2 = .ok (.ldc2_w 26, 3) := by decide +kernel
theorem d_Flags_add_5 : decode b_Flags_add 5 = .ok (.land, 1) := by decide +kernel
theorem d_Flags_add_6 : decode b_Flags_add 6 = .ok (.iload_n 2, 1) := by decide +kernel
theorem d_Flags_add_7 : decode b_Flags_add 7 = .ok (.i2l, 1) := by decide +kernel
theorem d_Flags_add_8 : decode b_Flags_add 8 = .ok (.ldc2_w 26, 3) := by decide +kernel
theorem d_Flags_add_11 : decode b_Flags_add 11 = .ok (.land, 1) := by decide +kernel
theorem d_Flags_add_12 : decode b_Flags_add 12 = .ok (.ladd, 1) := by decide +kernel
theorem d_Flags_add_13 : decode b_Flags_add 13 = .ok (.iload_n 3, 1) := by decide +kernel
theorem d_Flags_add_14 : decode b_Flags_add 14 = .ok (.i2l, 1) := by decide +kernel
theorem d_Flags_add_15 : decode b_Flags_add 15 = .ok (.ladd, 1) := by decide +kernel
theorem d_Flags_add_16 : decode b_Flags_add 16 = .ok (.lstore 4, 2) := by decide +kernel
theorem d_Flags_add_18 : decode b_Flags_add 18 = .ok (.iload_n 1, 1) := by decide +kernel
theorem d_Flags_add_19 : decode b_Flags_add 19 = .ok (.i2l, 1) := by decide +kernel
theorem d_Flags_add_20 : decode b_Flags_add 20 = .ok (.iload_n 2, 1) := by decide +kernel
theorem d_Flags_add_21 : decode b_Flags_add 21 = .ok (.i2l, 1) := by decide +kernel
theorem d_Flags_add_22 : decode b_Flags_add 22 = .ok (.ladd, 1) := by decide +kernel
theorem d_Flags_add_23 : decode b_Flags_add 23 = .ok (.iload_n 3, 1) := by decide +kernel
theorem d_Flags_add_24 : decode b_Flags_add 24 = .ok (.i2l, 1) := by decide +kernel
theorem d_Flags_add_25 : decode b_Flags_add 25 = .ok (.ladd, 1) := by decide +kernel
theorem d_Flags_add_26 : decode b_Flags_add 26 = .ok (.lstore 6, 2) := by decide +kernel
theorem d_Flags_add_28 : decode b_Flags_add 28 = .ok (.lload 4, 2) := by decide +kernel
theorem d_Flags_add_30 : decode b_Flags_add 30 = .ok (.l2i, 1) := by decide +kernel
theorem d_Flags_add_31 : decode b_Flags_add 31 = .ok (.istore 8, 2) := by decide +kernel
theorem d_Flags_add_33 : decode b_Flags_add 33 = .ok (.aload_n 0, 1) := by decide +kernel
theorem d_Flags_add_34 : decode b_Flags_add 34 = .ok (.lload 4, 2) := by decide +kernel
theorem d_Flags_add_36 : decode b_Flags_add 36 = .ok (.bipush 32, 2) := by decide +kernel
theorem d_Flags_add_38 : decode b_Flags_add 38 = .ok (.lushr, 1) := by decide +kernel
theorem d_Flags_add_39 : decode b_Flags_add 39 = .ok (.lconst 0, 1) := by decide +kernel
theorem d_Flags_add_40 : decode b_Flags_add 40 = .ok (.lcmp, 1) := by decide +kernel
theorem d_Flags_add_41 : decode b_Flags_add 41 = .ok (.ifCond .eq 7, 3) := by decide +kernel
theorem d_Flags_add_44 : decode b_Flags_add 44 = .ok (.iconst 1, 1) := by decide +kernel
theorem d_Flags_add_45 : decode b_Flags_add 45 = .ok (.goto 4, 3) := by decide +kernel
theorem d_Flags_add_48 : decode b_Flags_add 48 = .ok (.iconst 0, 1) := by decide +kernel
theorem d_Flags_add_49 : decode b_Flags_add 49 = .ok (.putfield 18, 3) := by decide +kernel
theorem d_Flags_add_52 : decode b_Flags_add 52 = .ok (.aload_n 0, 1) := by decide +kernel
theorem d_Flags_add_53 : decode b_Flags_add 53 = .ok (.lload 6, 2) := by decide +kernel
theorem d_Flags_add_55 : decode b_Flags_add 55 = .ok (.iload 8, 2) := by decide +kernel
theorem d_Flags_add_57 : decode b_Flags_add 57 = .ok (.i2l, 1) := by decide +kernel
theorem d_Flags_add_58 : decode b_Flags_add 58 = .ok (.lcmp, 1) := by decide +kernel
theorem d_Flags_add_59 : decode b_Flags_add 59 = .ok (.ifCond .eq 7, 3) := by decide +kernel
theorem d_Flags_add_62 : decode b_Flags_add 62 = .ok (.iconst 1, 1) := by decide +kernel
theorem d_Flags_add_63 : decode b_Flags_add 63 = .ok (.goto 4, 3) := by decide +kernel
theorem d_Flags_add_66 : decode b_Flags_add 66 = .ok (.iconst 0, 1) := by decide +kernel
theorem d_Flags_add_67 : decode b_Flags_add 67 = .ok (.putfield 22, 3) := by decide +kernel
theorem d_Flags_add_70 : decode b_Flags_add 70 = .ok (.aload_n 0, 1) := by decide +kernel
theorem d_Flags_add_71 : decode b_Flags_add 71 = .ok (.iload 8, 2) := by decide +kernel
theorem d_Flags_add_73 : decode b_Flags_add 73 = .ok (.invokevirtual 28, 3) := by decide +kernel
theorem d_Flags_add_76 : decode b_Flags_add 76 = .ok (.ireturn, 1) := by decide +kernel
theorem d_Flags_moveUp_0 : decode b_Flags_moveUp 0 = .ok (.iload_n 2, 1) := by decide +kernel
theorem d_Flags_moveUp_1 : decode b_Flags_moveUp 1 = .ok (.ifCond .eq 30, 3) := by decide +kernel
theorem d_Flags_moveUp_4 : decode b_Flags_moveUp 4 = .ok (.aload_n 0, 1) := by decide +kernel
theorem d_Flags_moveUp_5 : decode b_Flags_moveUp 5 = .ok (.iload_n 2, 1) := by decide +kernel
theorem d_Flags_moveUp_6 : decode b_Flags_moveUp 6 = .ok (.bipush 32, 2) := by decide +kernel
theorem d_Flags_moveUp_8 : decode b_Flags_moveUp 8 = .ok (.if_icmp .gt 19, 3) := by decide +kernel
theorem d_Flags_moveUp_11 : decode b_Flags_moveUp 11 = .ok (.iload_n 1, 1) := by decide +kernel
theorem d_Flags_moveUp_12 : decode b_Flags_moveUp 12 = .ok (.bipush 32, 2) := by decide +kernel
theorem d_Flags_moveUp_14 : decode b_Flags_moveUp 14 = .ok (.iload_n 2, 1) := by decide +kernel
theorem d_Flags_moveUp_15 : decode b_Flags_moveUp 15 = .ok (.isub, 1) := by decide +kernel
theorem d_Flags_moveUp_16 : decode b_Flags_moveUp 16 = .ok (.iushr, 1) := by decide +kernel
theorem d_Flags_moveUp_17 : decode b_Flags_moveUp 17 = .ok (.iconst 1, 1) := by decide +kernel
theorem d_Flags_moveUp_18 : decode b_Flags_moveUp 18 = .ok (.iand, 1) := by decide +kernel
theorem d_Flags_moveUp_19 : decode b_Flags_moveUp 19 = .ok (.iconst 1, 1) := by decide +kernel
theorem d_Flags_moveUp_20 : decode b_Flags_moveUp 20 = .ok (.if_icmp .ne 7, 3) := by decide +kernel
theorem d_Flags_moveUp_23 : decode b_Flags_moveUp 23 = .ok (.iconst 1, 1) := by decide +kernel
theorem d_Flags_moveUp_24 : decode b_Flags_moveUp 24 = .ok (.goto 4, 3) := by decide +kernel
theorem d_Flags_moveUp_27 : decode b_Flags_moveUp 27 = .ok (.iconst 0, 1) := by decide +kernel
theorem d_Flags_moveUp_28 : decode b_Flags_moveUp 28 = .ok (.putfield 18, 3) := by decide +kernel
theorem d_Flags_moveUp_31 : decode b_Flags_moveUp 31 = .ok (.aload_n 0, 1) := by decide +kernel
theorem d_Flags_moveUp_32 : decode b_Flags_moveUp 32 = .ok (.iload_n 2, 1) := by decide +kernel
theorem d_Flags_moveUp_33 : decode b_Flags_moveUp 33 = .ok (.bipush 32, 2) := by decide +kernel
theorem d_Flags_moveUp_35 : decode b_Flags_moveUp 35 = .ok (.if_icmp .ge 9, 3) := by decide +kernel
theorem d_Flags_moveUp_38 : decode b_Flags_moveUp 38 = .ok (.iload_n 1, 1) := by decide +kernel
theorem d_Flags_moveUp_39 : decode b_Flags_moveUp 39 = .ok (.iload_n 2, 1) := by decide +kernel
theorem d_Flags_moveUp_40 : decode b_Flags_moveUp 40 = .ok (.ishl, 1) := by decide +kernel
theorem d_Flags_moveUp_41 : decode b_Flags_moveUp 41 = .ok (.goto 4, 3) := by decide +kernel
theorem d_Flags_moveUp_44 : decode b_Flags_moveUp 44 = .ok (.iconst 0, 1) := by decide +kernel
theorem d_Flags_moveUp_45 : decode b_Flags_moveUp 45 = .ok (.invokevirtual 28, 3) := by decide +kernel
theorem d_Flags_moveUp_48 : decode b_Flags_moveUp 48 = .ok (.ireturn, 1) := by decide +kernel
theorem d_Flags_moveDown_0 : decode b_Flags_moveDown 0 = .ok (.iload_n 2, 1) := by decide +kernel
theorem d_Flags_moveDown_1 : decode b_Flags_moveDown 1 = .ok (.ifCond .eq 29, 3) := by decide +kernel
theorem d_Flags_moveDown_4 : decode b_Flags_moveDown 4 = .ok (.aload_n 0, 1) := by decide +kernel
theorem d_Flags_moveDown_5 : decode b_Flags_moveDown 5 = .ok (.iload_n 2, 1) := by decide +kernel
theorem d_Flags_moveDown_6 : decode b_Flags_moveDown 6 = .ok (.bipush 32, 2) := by decide +kernel
theorem d_Flags_moveDown_8 : decode b_Flags_moveDown 8 = .ok (.if_icmp .gt 18, 3) := by decide +kernel
theorem d_Flags_moveDown_11 : decode b_Flags_moveDown 11 = .ok (.iload_n 1, 1) := by decide +kernel
theorem d_Flags_moveDown_12 : decode b_Flags_moveDown 12 = .ok (.iload_n 2, 1) := by decide +kernel
theorem d_Flags_moveDown_13 : decode b_Flags_moveDown 13 = .ok (.iconst 1, 1) := by decide +kernel
theorem d_Flags_moveDown_14 : decode b_Flags_moveDown 14 = .ok (.isub, 1) := by decide +kernel
theorem d_Flags_moveDown_15 : decode b_Flags_moveDown 15 = .ok (.iushr, 1) := by decide +kernel
theorem d_Flags_moveDown_16 : decode b_Flags_moveDown 16 = .ok (.iconst 1, 1) := by decide +kernel
theorem d_Flags_moveDown_17 : decode b_Flags_moveDown 17 = .ok (.iand, 1) := by decide +kernel
theorem d_Flags_moveDown_18 : decode b_Flags_moveDown 18 = .ok (.iconst 1, 1) := by decide +kernel
theorem d_Flags_moveDown_19 : decode b_Flags_moveDown 19 = .ok (.if_icmp .ne 7, 3) := by decide +kernel
theorem d_Flags_moveDown_22 : decode b_Flags_moveDown 22 = .ok (.iconst 1, 1) := by decide +kernel
theorem d_Flags_moveDown_23 : decode b_Flags_moveDown 23 = .ok (.goto 4, 3) := by decide +kernel
theorem d_Flags_moveDown_26 : decode b_Flags_moveDown 26 = .ok (.iconst 0, 1) := by decide +kernel
theorem d_Flags_moveDown_27 : decode b_Flags_moveDown 27 = .ok (.putfield 18, 3) := by decide +kernel
theorem d_Flags_moveDown_30 : decode b_Flags_moveDown 30 = .ok (.aload_n 0, 1) := by decide +kernel
theorem d_Flags_moveDown_31 : decode b_Flags_moveDown 31 = .ok (.iload_n 2, 1) := by decide +kernel
theorem d_Flags_moveDown_32 : decode b_Flags_moveDown 32 = .ok (.bipush 32, 2) := by decide +kernel
theorem d_Flags_moveDown_34 : decode b_Flags_moveDown 34 = .ok (.if_icmp .ge 9, 3) := by decide +kernel
theorem d_Flags_moveDown_37 : decode b_Flags_moveDown 37 = .ok (.iload_n 1, 1) := by decide +kernel
theorem d_Flags_moveDown_38 : decode b_Flags_moveDown 38 = .ok (.iload_n 2, 1) := by decide +kernel
theorem d_Flags_moveDown_39 : decode b_Flags_moveDown 39 = .ok (.iushr, 1) := by decide +kernel
theorem d_Flags_moveDown_40 : decode b_Flags_moveDown 40 = .ok (.goto 4, 3) := by decide +kernel
theorem d_Flags_moveDown_43 : decode b_Flags_moveDown 43 = .ok (.iconst 0, 1) := by decide +kernel
theorem d_Flags_moveDown_44 : decode b_Flags_moveDown 44 = .ok (.invokevirtual 28, 3) := by decide +kernel
theorem d_Flags_moveDown_47 : decode b_Flags_moveDown 47 = .ok (.ireturn, 1) := by decide +kernel
theorem d_Flags_moveDownSigned_0 : decode b_Flags_moveDownSigned 0 = .ok (.iload_n 2, 1) := by decide +kernel
theorem d_Flags_moveDownSigned_1 : decode b_Flags_moveDownSigned 1 = .ok (.ifCond .eq 28, 3) := by decide +kernel
theorem d_Flags_moveDownSigned_4 : decode b_Flags_moveDownSigned 4 = .ok (.aload_n 0, 1) := by decide +kernel
theorem d_Flags_moveDownSigned_5 : decode b_Flags_moveDownSigned 5 = .ok (.iload_n 1, 1) := by decide +kernel
theorem d_Flags_moveDownSigned_6 : decode b_Flags_moveDownSigned 6 = .ok (.iload_n 2, 1) := by decide +kernel
theorem d_Flags_moveDownSigned_7 : decode b_Flags_moveDownSigned 7 = .ok (.iconst 1, 1) := by decide +kernel
theorem d_Flags_moveDownSigned_8 : decode b_Flags_moveDownSigned 8 = .ok (.isub, 1) := by decide +kernel
theorem d_Flags_moveDownSigned_9 : decode b_Flags_moveDownSigned 9 = .ok (.bipush 31, 2) := by decide +kernel
theorem d_Flags_moveDownSigned_11 : decode b_Flags_moveDownSigned 11 = .ok (.invokestatic 32, 3) := by decide +kernel
theorem d_Flags_moveDownSigned_14 : decode b_Flags_moveDownSigned 14 = .ok (.ishr, 1) := by decide +kernel
theorem d_Flags_moveDownSigned_15 : decode b_Flags_moveDownSigned 15 = .ok (.iconst 1, 1) := by decide +kernel
theorem d_Flags_moveDownSigned_16 : decode b_Flags_moveDownSigned 16 = .ok (.iand, 1) := by decide +kernel
theorem d_Flags_moveDownSigned_17 : decode b_Flags_moveDownSigned 17 = .ok (.iconst 1, 1) := by decide +kernel
theorem d_Flags_moveDownSigned_18 : decode b_Flags_moveDownSigned 18 = .ok (.if_icmp .ne 7, 3) := by decide +kernel
theorem d_Flags_moveDownSigned_21 : decode b_Flags_moveDownSigned 21 = .ok (.iconst 1, 1) := by decide +kernel
theorem d_Flags_moveDownSigned_22 : decode b_Flags_moveDownSigned 22 = .ok (.goto 4, 3) := by decide +kernel
theorem d_Flags_moveDownSigned_25 : decode b_Flags_moveDownSigned 25 = .ok (.iconst 0, 1) := by decide +kernel
theorem d_Flags_moveDownSigned_26 : decode b_Flags_moveDownSigned 26 = .ok (.putfield 18, 3) := by decide +kernel
theorem d_Flags_moveDownSigned_29 : decode b_Flags_moveDownSigned 29 = .ok (.aload_n 0, 1) := by decide +kernel
theorem d_Flags_moveDownSigned_30 : decode b_Flags_moveDownSigned 30 = .ok (.iload_n 1, 1) := by decide +kernel
theorem d_Flags_moveDownSigned_31 : decode b_Flags_moveDownSigned 31 = .ok (.iload_n 2, 1) := by decide +kernel
theorem d_Flags_moveDownSigned_32 : decode b_Flags_moveDownSigned 32 = .ok (.bipush 31, 2) := by decide +kernel
theorem d_Flags_moveDownSigned_34 : decode b_Flags_moveDownSigned 34 = .ok (.invokestatic 32, 3) := by decide +kernel
theorem d_Flags_moveDownSigned_37 : decode b_Flags_moveDownSigned 37 = .ok (.ishr, 1) := by decide +kernel
theorem d_Flags_moveDownSigned_38 : decode b_Flags_moveDownSigned 38 = .ok (.invokevirtual 28, 3) := by decide +kernel
theorem d_Flags_moveDownSigned_41 : decode b_Flags_moveDownSigned 41 = .ok (.ireturn, 1) := by decide +kernel
theorem d_Flags_turnRound_0 : decode b_Flags_turnRound 0 = .ok (.iload_n 2, 1) := by decide +kernel
theorem d_Flags_turnRound_1 : decode b_Flags_turnRound 1 = .ok (.bipush 31, 2) := by decide +kernel
theorem d_Flags_turnRound_3 : decode b_Flags_turnRound 3 = .ok (.iand, 1) := by decide +kernel
theorem d_Flags_turnRound_4 : decode b_Flags_turnRound 4 = .ok (.istore_n 3, 1) := by decide +kernel
theorem d_Flags_turnRound_5 : decode b_Flags_turnRound 5 = .ok (.iload_n 3, 1) := by decide +kernel
theorem d_Flags_turnRound_6 : decode b_Flags_turnRound 6 = .ok (.ifCond .ne 7, 3) := by decide +kernel
theorem d_Flags_turnRound_9 : decode b_Flags_turnRound 9 = .ok (.iload_n 1, 1) := by decide +kernel
theorem d_Flags_turnRound_10 : decode b_Flags_turnRound 10 = .ok (.goto 13, 3) := by decide +kernel
theorem d_Flags_turnRound_13 : decode b_Flags_turnRound 13 = .ok (.iload_n 1, 1) := by decide +kernel
theorem d_Flags_turnRound_14 : decode b_Flags_turnRound 14 = .ok (.iload_n 3, 1) := by decide +kernel
theorem d_Flags_turnRound_15 : decode b_Flags_turnRound 15 = .ok (.iushr, 1) := by decide +kernel
theorem d_Flags_turnRound_16 : decode b_Flags_turnRound 16 = .ok (.iload_n 1, 1) := by decide +kernel
theorem d_Flags_turnRound_17 : decode b_Flags_turnRound 17 = .ok (.bipush 32, 2) := by decide +kernel
theorem d_Flags_turnRound_19 : decode b_Flags_turnRound 19 = .ok (.iload_n 3, 1) := by decide +kernel
theorem d_Flags_turnRound_20 : decode b_Flags_turnRound 20 = .ok (.isub, 1) := by decide +kernel
theorem d_Flags_turnRound_21 : decode b_Flags_turnRound 21 = .ok (.ishl, 1) := by decide +kernel
theorem d_Flags_turnRound_22 : decode b_Flags_turnRound 22 = .ok (.ior, 1) := by decide +kernel
theorem d_Flags_turnRound_23 : decode b_Flags_turnRound 23 = .ok (.istore 4, 2) := by decide +kernel
theorem d_Flags_turnRound_25 : decode b_Flags_turnRound 25 = .ok (.iload_n 2, 1) := by decide +kernel
theorem d_Flags_turnRound_26 : decode b_Flags_turnRound 26 = .ok (.ifCond .eq 17, 3) := by decide +kernel
theorem d_Flags_turnRound_29 : decode b_Flags_turnRound 29 = .ok (.aload_n 0, 1) := by decide +kernel
theorem d_Flags_turnRound_30 : decode b_Flags_turnRound 30 = .ok (.iload 4, 2) := by decide +kernel
theorem d_Flags_turnRound_32 : decode b_Flags_turnRound 32 = .ok (.ifCond .ge 7, 3) := by decide +kernel
theorem d_Flags_turnRound_35 : decode b_Flags_turnRound 35 = .ok (.iconst 1, 1) := by decide +kernel
theorem d_Flags_turnRound_36 : decode b_Flags_turnRound 36 = .ok (.goto 4, 3) := by decide +kernel
theorem d_Flags_turnRound_39 : decode b_Flags_turnRound 39 = .ok (.iconst 0, 1) := by decide +kernel
theorem d_Flags_turnRound_40 : decode b_Flags_turnRound 40 = .ok (.putfield 18, 3) := by decide +kernel
theorem d_Flags_turnRound_43 : decode b_Flags_turnRound 43 = .ok (.aload_n 0, 1) := by decide +kernel
theorem d_Flags_turnRound_44 : decode b_Flags_turnRound 44 = .ok (.iload 4, 2) := by decide +kernel
theorem d_Flags_turnRound_46 : decode b_Flags_turnRound 46 = .ok (.invokevirtual 28, 3) := by decide +kernel
theorem d_Flags_turnRound_49 : decode b_Flags_turnRound 49 = .ok (.ireturn, 1) := by decide +kernel
theorem d_Flags_meet_0 : decode b_Flags_meet 0 = .ok (.aload_n 0, 1) := by decide +kernel
theorem d_Flags_meet_1 : decode b_Flags_meet 1 = .ok (.iload_n 1, 1) := by decide +kernel
theorem d_Flags_meet_2 : decode b_Flags_meet 2 = .ok (.iconst 1, 1) := by decide +kernel
theorem d_Flags_meet_3 : decode b_Flags_meet 3 = .ok (.iushr, 1) := by decide +kernel
theorem d_Flags_meet_4 : decode b_Flags_meet 4 = .ok (.invokevirtual 38, 3) := by decide +kernel
theorem d_Flags_meet_7 : decode b_Flags_meet 7 = .ok (.iload_n 1, 1) := by decide +kernel
theorem d_Flags_meet_8 : decode b_Flags_meet 8 = .ok (.iconst 1, 1) := by decide +kernel
theorem d_Flags_meet_9 : decode b_Flags_meet 9 = .ok (.iand, 1) := by decide +kernel
theorem d_Flags_meet_10 : decode b_Flags_meet 10 = .ok (.iconst 1, 1) := by decide +kernel
theorem d_Flags_meet_11 : decode b_Flags_meet 11 = .ok (.if_icmp .ne 7, 3) := by decide +kernel
theorem d_Flags_meet_14 : decode b_Flags_meet 14 = .ok (.iconst 1, 1) := by decide +kernel
theorem d_Flags_meet_15 : decode b_Flags_meet 15 = .ok (.goto 4, 3) := by decide +kernel
theorem d_Flags_meet_18 : decode b_Flags_meet 18 = .ok (.iconst 0, 1) := by decide +kernel
theorem d_Flags_meet_19 : decode b_Flags_meet 19 = .ok (.if_icmp .eq 7, 3) := by decide +kernel
theorem d_Flags_meet_22 : decode b_Flags_meet 22 = .ok (.iconst 1, 1) := by decide +kernel
theorem d_Flags_meet_23 : decode b_Flags_meet 23 = .ok (.goto 4, 3) := by decide +kernel
theorem d_Flags_meet_26 : decode b_Flags_meet 26 = .ok (.iconst 0, 1) := by decide +kernel
theorem d_Flags_meet_27 : decode b_Flags_meet 27 = .ok (.ireturn, 1) := by decide +kernel
theorem d_Flags_even_0 : decode b_Flags_even 0 = .ok (.iload_n 1, 1) := by decide +kernel
theorem d_Flags_even_1 : decode b_Flags_even 1 = .ok (.tableswitch 96 0 5 #[39, 44, 49, 54, 59, 79], 39) := by decide +kernel
theorem d_Flags_even_40 : decode b_Flags_even 40 = .ok (.aload_n 0, 1) := by decide +kernel
theorem d_Flags_even_41 : decode b_Flags_even 41 = .ok (.getfield 14, 3) := by decide +kernel
theorem d_Flags_even_44 : decode b_Flags_even 44 = .ok (.ireturn, 1) := by decide +kernel
theorem d_Flags_even_45 : decode b_Flags_even 45 = .ok (.aload_n 0, 1) := by decide +kernel
theorem d_Flags_even_46 : decode b_Flags_even 46 = .ok (.getfield 18, 3) := by decide +kernel
theorem d_Flags_even_49 : decode b_Flags_even 49 = .ok (.ireturn, 1) := by decide +kernel
theorem d_Flags_even_50 : decode b_Flags_even 50 = .ok (.aload_n 0, 1) := by decide +kernel
theorem d_Flags_even_51 : decode b_Flags_even 51 = .ok (.getfield 7, 3) := by decide +kernel
theorem d_Flags_even_54 : decode b_Flags_even 54 = .ok (.ireturn, 1) := by decide +kernel
theorem d_Flags_even_55 : decode b_Flags_even 55 = .ok (.aload_n 0, 1) := by decide +kernel
theorem d_Flags_even_56 : decode b_Flags_even 56 = .ok (.getfield 22, 3) := by decide +kernel
theorem d_Flags_even_59 : decode b_Flags_even 59 = .ok (.ireturn, 1) := by decide +kernel
theorem d_Flags_even_60 : decode b_Flags_even 60 = .ok (.aload_n 0, 1) := by decide +kernel
theorem d_Flags_even_61 : decode b_Flags_even 61 = .ok (.getfield 18, 3) := by decide +kernel
theorem d_Flags_even_64 : decode b_Flags_even 64 = .ok (.ifCond .eq 14, 3) := by decide +kernel
theorem d_Flags_even_67 : decode b_Flags_even 67 = .ok (.aload_n 0, 1) := by decide +kernel
theorem d_Flags_even_68 : decode b_Flags_even 68 = .ok (.getfield 14, 3) := by decide +kernel
theorem d_Flags_even_71 : decode b_Flags_even 71 = .ok (.ifCond .ne 7, 3) := by decide +kernel
theorem d_Flags_even_74 : decode b_Flags_even 74 = .ok (.iconst 1, 1) := by decide +kernel
theorem d_Flags_even_75 : decode b_Flags_even 75 = .ok (.goto 4, 3) := by decide +kernel
theorem d_Flags_even_78 : decode b_Flags_even 78 = .ok (.iconst 0, 1) := by decide +kernel
theorem d_Flags_even_79 : decode b_Flags_even 79 = .ok (.ireturn, 1) := by decide +kernel
theorem d_Flags_even_80 : decode b_Flags_even 80 = .ok (.aload_n 0, 1) := by decide +kernel
theorem d_Flags_even_81 : decode b_Flags_even 81 = .ok (.getfield 7, 3) := by decide +kernel
theorem d_Flags_even_84 : decode b_Flags_even 84 = .ok (.aload_n 0, 1) := by decide +kernel
theorem d_Flags_even_85 : decode b_Flags_even 85 = .ok (.getfield 22, 3) := by decide +kernel
theorem d_Flags_even_88 : decode b_Flags_even 88 = .ok (.if_icmp .ne 7, 3) := by decide +kernel
theorem d_Flags_even_91 : decode b_Flags_even 91 = .ok (.iconst 1, 1) := by decide +kernel
theorem d_Flags_even_92 : decode b_Flags_even 92 = .ok (.goto 4, 3) := by decide +kernel
theorem d_Flags_even_95 : decode b_Flags_even 95 = .ok (.iconst 0, 1) := by decide +kernel
theorem d_Flags_even_96 : decode b_Flags_even 96 = .ok (.ireturn, 1) := by decide +kernel
theorem d_Flags_even_97 : decode b_Flags_even 97 = .ok (.aload_n 0, 1) := by decide +kernel
theorem d_Flags_even_98 : decode b_Flags_even 98 = .ok (.getfield 14, 3) := by decide +kernel
theorem d_Flags_even_101 : decode b_Flags_even 101 = .ok (.ifCond .ne 18, 3) := by decide +kernel
theorem d_Flags_even_104 : decode b_Flags_even 104 = .ok (.aload_n 0, 1) := by decide +kernel
theorem d_Flags_even_105 : decode b_Flags_even 105 = .ok (.getfield 7, 3) := by decide +kernel
theorem d_Flags_even_108 : decode b_Flags_even 108 = .ok (.aload_n 0, 1) := by decide +kernel
theorem d_Flags_even_109 : decode b_Flags_even 109 = .ok (.getfield 22, 3) := by decide +kernel
theorem d_Flags_even_112 : decode b_Flags_even 112 = .ok (.if_icmp .ne 7, 3) := by decide +kernel
theorem d_Flags_even_115 : decode b_Flags_even 115 = .ok (.iconst 1, 1) := by decide +kernel
theorem d_Flags_even_116 : decode b_Flags_even 116 = .ok (.goto 4, 3) := by decide +kernel
theorem d_Flags_even_119 : decode b_Flags_even 119 = .ok (.iconst 0, 1) := by decide +kernel
theorem d_Flags_even_120 : decode b_Flags_even 120 = .ok (.ireturn, 1) := by decide +kernel
