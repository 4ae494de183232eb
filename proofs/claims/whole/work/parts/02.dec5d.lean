theorem d_ThumbCoreModel_meets_21 : decode b_ThumbCoreModel_meets 21 = .ok (.goto 105, 3) := by decide +kernel
theorem d_ThumbCoreModel_meets_24 : decode b_ThumbCoreModel_meets 24 = .ok (.iload_n 1, 1) := by decide +kernel
theorem d_ThumbCoreModel_meets_25 : decode b_ThumbCoreModel_meets 25 = .ok (.bipush 6, 2) := by decide +kernel
theorem d_ThumbCoreModel_meets_27 : decode b_ThumbCoreModel_meets 27 = .ok (.if_icmp .ge 10, 3) := by decide +kernel
theorem d_ThumbCoreModel_meets_30 : decode b_ThumbCoreModel_meets 30 = .ok (.aload_n 0, 1) := by decide +kernel
theorem d_ThumbCoreModel_meets_31 : decode b_ThumbCoreModel_meets 31 = .ok (.getfield 74, 3) := by decide +kernel
theorem d_ThumbCoreModel_meets_34 : decode b_ThumbCoreModel_meets 34 = .ok (.goto 92, 3) := by decide +kernel
theorem d_ThumbCoreModel_meets_37 : decode b_ThumbCoreModel_meets 37 = .ok (.iload_n 1, 1) := by decide +kernel
theorem d_ThumbCoreModel_meets_38 : decode b_ThumbCoreModel_meets 38 = .ok (.bipush 8, 2) := by decide +kernel
theorem d_ThumbCoreModel_meets_40 : decode b_ThumbCoreModel_meets 40 = .ok (.if_icmp .ge 10, 3) := by decide +kernel
theorem d_ThumbCoreModel_meets_43 : decode b_ThumbCoreModel_meets 43 = .ok (.aload_n 0, 1) := by decide +kernel
theorem d_ThumbCoreModel_meets_44 : decode b_ThumbCoreModel_meets 44 = .ok (.getfield 83, 3) := by decide +kernel
theorem d_ThumbCoreModel_meets_47 : decode b_ThumbCoreModel_meets 47 = .ok (.goto 79, 3) := by decide +kernel
theorem d_ThumbCoreModel_meets_50 : decode b_ThumbCoreModel_meets 50 = .ok (.iload_n 1, 1) := by decide +kernel
theorem d_ThumbCoreModel_meets_51 : decode b_ThumbCoreModel_meets 51 = .ok (.bipush 10, 2) := by decide +kernel
theorem d_ThumbCoreModel_meets_53 : decode b_ThumbCoreModel_meets 53 = .ok (.if_icmp .ge 25, 3) := by decide +kernel
theorem d_ThumbCoreModel_meets_56 : decode b_ThumbCoreModel_meets 56 = .ok (.aload_n 0, 1) := by decide +kernel
theorem d_ThumbCoreModel_meets_57 : decode b_ThumbCoreModel_meets 57 = .ok (.getfield 80, 3) := by decide +kernel
theorem d_ThumbCoreModel_meets_60 : decode b_ThumbCoreModel_meets 60 = .ok (.ifCond .eq 14, 3) := by decide +kernel
theorem d_ThumbCoreModel_meets_63 : decode b_ThumbCoreModel_meets 63 = .ok (.aload_n 0, 1) := by decide +kernel
theorem d_ThumbCoreModel_meets_64 : decode b_ThumbCoreModel_meets 64 = .ok (.getfield 77, 3) := by decide +kernel
theorem d_ThumbCoreModel_meets_67 : decode b_ThumbCoreModel_meets 67 = .ok (.ifCond .ne 7, 3) := by decide +kernel
theorem d_ThumbCoreModel_meets_70 : decode b_ThumbCoreModel_meets 70 = .ok (.iconst 1, 1) := by decide +kernel
theorem d_ThumbCoreModel_meets_71 : decode b_ThumbCoreModel_meets 71 = .ok (.goto 55, 3) := by decide +kernel
theorem d_ThumbCoreModel_meets_74 : decode b_ThumbCoreModel_meets 74 = .ok (.iconst 0, 1) := by decide +kernel
theorem d_ThumbCoreModel_meets_75 : decode b_ThumbCoreModel_meets 75 = .ok (.goto 51, 3) := by decide +kernel
theorem d_ThumbCoreModel_meets_78 : decode b_ThumbCoreModel_meets 78 = .ok (.iload_n 1, 1) := by decide +kernel
theorem d_ThumbCoreModel_meets_79 : decode b_ThumbCoreModel_meets 79 = .ok (.bipush 12, 2) := by decide +kernel
theorem d_ThumbCoreModel_meets_81 : decode b_ThumbCoreModel_meets 81 = .ok (.if_icmp .ge 22, 3) := by decide +kernel
theorem d_ThumbCoreModel_meets_84 : decode b_ThumbCoreModel_meets 84 = .ok (.aload_n 0, 1) := by decide +kernel
theorem d_ThumbCoreModel_meets_85 : decode b_ThumbCoreModel_meets 85 = .ok (.getfield 74, 3) := by decide +kernel
theorem d_ThumbCoreModel_meets_88 : decode b_ThumbCoreModel_meets 88 = .ok (.aload_n 0, 1) := by decide +kernel
theorem d_ThumbCoreModel_meets_89 : decode b_ThumbCoreModel_meets 89 = .ok (.getfield 83, 3) := by decide +kernel
theorem d_ThumbCoreModel_meets_92 : decode b_ThumbCoreModel_meets 92 = .ok (.if_icmp .ne 7, 3) := by decide +kernel
theorem d_ThumbCoreModel_meets_95 : decode b_ThumbCoreModel_meets 95 = .ok (.iconst 1, 1) := by decide +kernel
theorem d_ThumbCoreModel_meets_96 : decode b_ThumbCoreModel_meets 96 = .ok (.goto 30, 3) := by decide +kernel
theorem d_ThumbCoreModel_meets_99 : decode b_ThumbCoreModel_meets 99 = .ok (.iconst 0, 1) := by decide +kernel
theorem d_ThumbCoreModel_meets_100 : decode b_ThumbCoreModel_meets 100 = .ok (.goto 26, 3) := by decide +kernel
theorem d_ThumbCoreModel_meets_103 : decode b_ThumbCoreModel_meets 103 = .ok (.aload_n 0, 1) := by decide +kernel
theorem d_ThumbCoreModel_meets_104 : decode b_ThumbCoreModel_meets 104 = .ok (.getfield 77, 3) := by decide +kernel
theorem d_ThumbCoreModel_meets_107 : decode b_ThumbCoreModel_meets 107 = .ok (.ifCond .ne 18, 3) := by decide +kernel
theorem d_ThumbCoreModel_meets_110 : decode b_ThumbCoreModel_meets 110 = .ok (.aload_n 0, 1) := by decide +kernel
theorem d_ThumbCoreModel_meets_111 : decode b_ThumbCoreModel_meets 111 = .ok (.getfield 74, 3) := by decide +kernel
theorem d_ThumbCoreModel_meets_114 : decode b_ThumbCoreModel_meets 114 = .ok (.aload_n 0, 1) := by decide +kernel
theorem d_ThumbCoreModel_meets_115 : decode b_ThumbCoreModel_meets 115 = .ok (.getfield 83, 3) := by decide +kernel
theorem d_ThumbCoreModel_meets_118 : decode b_ThumbCoreModel_meets 118 = .ok (.if_icmp .ne 7, 3) := by decide +kernel
theorem d_ThumbCoreModel_meets_121 : decode b_ThumbCoreModel_meets 121 = .ok (.iconst 1, 1) := by decide +kernel
theorem d_ThumbCoreModel_meets_122 : decode b_ThumbCoreModel_meets 122 = .ok (.goto 4, 3) := by decide +kernel
theorem d_ThumbCoreModel_meets_125 : decode b_ThumbCoreModel_meets 125 = .ok (.iconst 0, 1) := by decide +kernel
theorem d_ThumbCoreModel_meets_126 : decode b_ThumbCoreModel_meets 126 = .ok (.istore_n 2, 1) := by decide +kernel
theorem d_ThumbCoreModel_meets_127 : decode b_ThumbCoreModel_meets 127 = .ok (.iload_n 2, 1) := by decide +kernel
theorem d_ThumbCoreModel_meets_128 : decode b_ThumbCoreModel_meets 128 = .ok (.iload_n 1, 1) := by decide +kernel
theorem d_ThumbCoreModel_meets_129 : decode b_ThumbCoreModel_meets 129 = .ok (.iconst 2, 1) := by decide +kernel
theorem d_ThumbCoreModel_meets_130 : decode b_ThumbCoreModel_meets 130 = .ok (.irem, 1) := by decide +kernel
theorem d_ThumbCoreModel_meets_131 : decode b_ThumbCoreModel_meets 131 = .ok (.ifCond .ne 7, 3) := by decide +kernel
theorem d_ThumbCoreModel_meets_134 : decode b_ThumbCoreModel_meets 134 = .ok (.iconst 1, 1) := by decide +kernel
theorem d_ThumbCoreModel_meets_135 : decode b_ThumbCoreModel_meets 135 = .ok (.goto 4, 3) := by decide +kernel
theorem d_ThumbCoreModel_meets_138 : decode b_ThumbCoreModel_meets 138 = .ok (.iconst 0, 1) := by decide +kernel
theorem d_ThumbCoreModel_meets_139 : decode b_ThumbCoreModel_meets 139 = .ok (.if_icmp .ne 7, 3) := by decide +kernel
theorem d_ThumbCoreModel_meets_142 : decode b_ThumbCoreModel_meets 142 = .ok (.iconst 1, 1) := by decide +kernel
theorem d_ThumbCoreModel_meets_143 : decode b_ThumbCoreModel_meets 143 = .ok (.goto 4, 3) := by decide +kernel
theorem d_ThumbCoreModel_meets_146 : decode b_ThumbCoreModel_meets 146 = .ok (.iconst 0, 1) := by decide +kernel
theorem d_ThumbCoreModel_meets_147 : decode b_ThumbCoreModel_meets 147 = .ok (.ireturn, 1) := by decide +kernel
theorem d_ThumbCoreModel_branch_0 : decode b_ThumbCoreModel_branch 0 = .ok (.aload_n 0, 1) := by decide +kernel
theorem d_ThumbCoreModel_branch_1 : decode b_ThumbCoreModel_branch 1 = .ok (.getfield 125, 3) := by decide +kernel
theorem d_ThumbCoreModel_branch_4 : decode b_ThumbCoreModel_branch 4 = .ok (.bipush 8, 2) := by decide +kernel
theorem d_ThumbCoreModel_branch_6 : decode b_ThumbCoreModel_branch 6 = .ok (.ishr, 1) := by decide +kernel
theorem d_ThumbCoreModel_branch_7 : decode b_ThumbCoreModel_branch 7 = .ok (.bipush 15, 2) := by decide +kernel
theorem d_ThumbCoreModel_branch_9 : decode b_ThumbCoreModel_branch 9 = .ok (.iand, 1) := by decide +kernel
theorem d_ThumbCoreModel_branch_10 : decode b_ThumbCoreModel_branch 10 = .ok (.istore_n 1, 1) := by decide +kernel
theorem d_ThumbCoreModel_branch_11 : decode b_ThumbCoreModel_branch 11 = .ok (.iload_n 1, 1) := by decide +kernel
theorem d_ThumbCoreModel_branch_12 : decode b_ThumbCoreModel_branch 12 = .ok (.bipush 14, 2) := by decide +kernel
theorem d_ThumbCoreModel_branch_14 : decode b_ThumbCoreModel_branch 14 = .ok (.if_icmp .ge 42, 3) := by decide +kernel
theorem d_ThumbCoreModel_branch_17 : decode b_ThumbCoreModel_branch 17 = .ok (.aload_n 0, 1) := by decide +kernel
theorem d_ThumbCoreModel_branch_18 : decode b_ThumbCoreModel_branch 18 = .ok (.aload_n 0, 1) := by decide +kernel
theorem d_ThumbCoreModel_branch_19 : decode b_ThumbCoreModel_branch 19 = .ok (.iload_n 1, 1) := by decide +kernel
theorem d_ThumbCoreModel_branch_20 : decode b_ThumbCoreModel_branch 20 = .ok (.invokevirtual 164, 3) := by decide +kernel
theorem d_ThumbCoreModel_branch_23 : decode b_ThumbCoreModel_branch 23 = .ok (.ifCond .eq 23, 3) := by decide +kernel
theorem d_ThumbCoreModel_branch_26 : decode b_ThumbCoreModel_branch 26 = .ok (.aload_n 0, 1) := by decide +kernel
theorem d_ThumbCoreModel_branch_27 : decode b_ThumbCoreModel_branch 27 = .ok (.getfield 13, 3) := by decide +kernel
theorem d_ThumbCoreModel_branch_30 : decode b_ThumbCoreModel_branch 30 = .ok (.bipush 15, 2) := by decide +kernel
theorem d_ThumbCoreModel_branch_32 : decode b_ThumbCoreModel_branch 32 = .ok (.iaload, 1) := by decide +kernel
theorem d_ThumbCoreModel_branch_33 : decode b_ThumbCoreModel_branch 33 = .ok (.iconst 4, 1) := by decide +kernel
theorem d_ThumbCoreModel_branch_34 : decode b_ThumbCoreModel_branch 34 = .ok (.iadd, 1) := by decide +kernel
theorem d_ThumbCoreModel_branch_35 : decode b_ThumbCoreModel_branch 35 = .ok (.iconst 2, 1) := by decide +kernel
theorem d_ThumbCoreModel_branch_36 : decode b_ThumbCoreModel_branch 36 = .ok (.aload_n 0, 1) := by decide +kernel
theorem d_ThumbCoreModel_branch_37 : decode b_ThumbCoreModel_branch 37 = .ok (.getfield 125, 3) := by decide +kernel
theorem d_ThumbCoreModel_branch_40 : decode b_ThumbCoreModel_branch 40 = .ok (.i2b, 1) := by decide +kernel
theorem d_ThumbCoreModel_branch_41 : decode b_ThumbCoreModel_branch 41 = .ok (.imul, 1) := by decide +kernel
theorem d_ThumbCoreModel_branch_42 : decode b_ThumbCoreModel_branch 42 = .ok (.iadd, 1) := by decide +kernel
theorem d_ThumbCoreModel_branch_43 : decode b_ThumbCoreModel_branch 43 = .ok (.goto 7, 3) := by decide +kernel
theorem d_ThumbCoreModel_branch_46 : decode b_ThumbCoreModel_branch 46 = .ok (.aload_n 0, 1) := by decide +kernel
theorem d_ThumbCoreModel_branch_47 : decode b_ThumbCoreModel_branch 47 = .ok (.getfield 115, 3) := by decide +kernel
theorem d_ThumbCoreModel_branch_50 : decode b_ThumbCoreModel_branch 50 = .ok (.putfield 115, 3) := by decide +kernel
theorem d_ThumbCoreModel_branch_53 : decode b_ThumbCoreModel_branch 53 = .ok (.goto 55, 3) := by decide +kernel
theorem d_ThumbCoreModel_branch_56 : decode b_ThumbCoreModel_branch 56 = .ok (.aload_n 0, 1) := by decide +kernel
theorem d_ThumbCoreModel_branch_57 : decode b_ThumbCoreModel_branch 57 = .ok (.iload_n 1, 1) := by decide +kernel
theorem d_ThumbCoreModel_branch_58 : decode b_ThumbCoreModel_branch 58 = .ok (.bipush 14, 2) := by decide +kernel
theorem d_ThumbCoreModel_branch_60 : decode b_ThumbCoreModel_branch 60 = .ok (.if_icmp .eq 18, 3) := by decide +kernel
theorem d_ThumbCoreModel_branch_63 : decode b_ThumbCoreModel_branch 63 = .ok (.aload_n 0, 1) := by decide +kernel
theorem d_ThumbCoreModel_branch_64 : decode b_ThumbCoreModel_branch 64 = .ok (.getfield 27, 3) := by decide +kernel
theorem d_ThumbCoreModel_branch_67 : decode b_ThumbCoreModel_branch 67 = .ok (.bipush 11, 2) := by decide +kernel
theorem d_ThumbCoreModel_branch_69 : decode b_ThumbCoreModel_branch 69 = .ok (.iaload, 1) := by decide +kernel
theorem d_ThumbCoreModel_branch_70 : decode b_ThumbCoreModel_branch 70 = .ok (.aload_n 0, 1) := by decide +kernel
theorem d_ThumbCoreModel_branch_71 : decode b_ThumbCoreModel_branch 71 = .ok (.iconst 1, 1) := by decide +kernel
theorem d_ThumbCoreModel_branch_72 : decode b_ThumbCoreModel_branch 72 = .ok (.invokevirtual 107, 3) := by decide +kernel
theorem d_ThumbCoreModel_branch_75 : decode b_ThumbCoreModel_branch 75 = .ok (.if_icmp .lt 7, 3) := by decide +kernel
theorem d_ThumbCoreModel_branch_78 : decode b_ThumbCoreModel_branch 78 = .ok (.iconst 1, 1) := by decide +kernel
theorem d_ThumbCoreModel_branch_79 : decode b_ThumbCoreModel_branch 79 = .ok (.goto 4, 3) := by decide +kernel
theorem d_ThumbCoreModel_branch_82 : decode b_ThumbCoreModel_branch 82 = .ok (.iconst 0, 1) := by decide +kernel
theorem d_ThumbCoreModel_branch_83 : decode b_ThumbCoreModel_branch 83 = .ok (.putfield 41, 3) := by decide +kernel
theorem d_ThumbCoreModel_branch_86 : decode b_ThumbCoreModel_branch 86 = .ok (.aload_n 0, 1) := by decide +kernel
theorem d_ThumbCoreModel_branch_87 : decode b_ThumbCoreModel_branch 87 = .ok (.getfield 41, 3) := by decide +kernel
theorem d_ThumbCoreModel_branch_90 : decode b_ThumbCoreModel_branch 90 = .ok (.ifCond .ne 18, 3) := by decide +kernel
theorem d_ThumbCoreModel_branch_93 : decode b_ThumbCoreModel_branch 93 = .ok (.aload_n 0, 1) := by decide +kernel
theorem d_ThumbCoreModel_branch_94 : decode b_ThumbCoreModel_branch 94 = .ok (.iconst 1, 1) := by decide +kernel
theorem d_ThumbCoreModel_branch_95 : decode b_ThumbCoreModel_branch 95 = .ok (.putfield 167, 3) := by decide +kernel
theorem d_ThumbCoreModel_branch_98 : decode b_ThumbCoreModel_branch 98 = .ok (.aload_n 0, 1) := by decide +kernel
theorem d_ThumbCoreModel_branch_99 : decode b_ThumbCoreModel_branch 99 = .ok (.bipush 11, 2) := by decide +kernel
theorem d_ThumbCoreModel_branch_101 : decode b_ThumbCoreModel_branch 101 = .ok (.aload_n 0, 1) := by decide +kernel
theorem d_ThumbCoreModel_branch_102 : decode b_ThumbCoreModel_branch 102 = .ok (.getfield 115, 3) := by decide +kernel
theorem d_ThumbCoreModel_branch_105 : decode b_ThumbCoreModel_branch 105 = .ok (.invokevirtual 111, 3) := by decide +kernel
theorem d_ThumbCoreModel_branch_108 : decode b_ThumbCoreModel_branch 108 = .ok (.return_, 1) := by decide +kernel
theorem d_ThumbCoreModel_far_0 : decode b_ThumbCoreModel_far 0 = .ok (.aload_n 0, 1) := by decide +kernel
theorem d_ThumbCoreModel_far_1 : decode b_ThumbCoreModel_far 1 = .ok (.aload_n 0, 1) := by decide +kernel
theorem d_ThumbCoreModel_far_2 : decode b_ThumbCoreModel_far 2 = .ok (.getfield 13, 3) := by decide +kernel
theorem d_ThumbCoreModel_far_5 : decode b_ThumbCoreModel_far 5 = .ok (.bipush 15, 2) := by decide +kernel
theorem d_ThumbCoreModel_far_7 : decode b_ThumbCoreModel_far 7 = .ok (.iaload, 1) := by decide +kernel
theorem d_ThumbCoreModel_far_8 : decode b_ThumbCoreModel_far 8 = .ok (.iconst 2, 1) := by decide +kernel
theorem d_ThumbCoreModel_far_9 : decode b_ThumbCoreModel_far 9 = .ok (.iadd, 1) := by decide +kernel
theorem d_ThumbCoreModel_far_10 : decode b_ThumbCoreModel_far 10 = .ok (.iconst 2, 1) := by decide +kernel
theorem d_ThumbCoreModel_far_11 : decode b_ThumbCoreModel_far 11 = .ok (.invokevirtual 45, 3) := by decide +kernel
theorem d_ThumbCoreModel_far_14 : decode b_ThumbCoreModel_far 14 = .ok (.istore_n 1, 1) := by decide +kernel
theorem d_ThumbCoreModel_far_15 : decode b_ThumbCoreModel_far 15 = .ok (.aload_n 0, 1) := by decide +kernel
theorem d_ThumbCoreModel_far_16 : decode b_ThumbCoreModel_far 16 = .ok (.aload_n 0, 1) := by decide +kernel
theorem d_ThumbCoreModel_far_17 : decode b_ThumbCoreModel_far 17 = .ok (.getfield 41, 3) := by decide +kernel
theorem d_ThumbCoreModel_far_20 : decode b_ThumbCoreModel_far 20 = .ok (.ifCond .ne 18, 3) := by decide +kernel
theorem d_ThumbCoreModel_far_23 : decode b_ThumbCoreModel_far 23 = .ok (.iload_n 1, 1) := by decide +kernel
theorem d_ThumbCoreModel_far_24 : decode b_ThumbCoreModel_far 24 = .ok (.ldc 170, 2) := by decide +kernel
theorem d_ThumbCoreModel_far_26 : decode b_ThumbCoreModel_far 26 = .ok (.if_icmp .lt 12, 3) := by decide +kernel
theorem d_ThumbCoreModel_far_29 : decode b_ThumbCoreModel_far 29 = .ok (.iload_n 1, 1) := by decide +kernel
theorem d_ThumbCoreModel_far_30 : decode b_ThumbCoreModel_far 30 = .ok (.bipush 12, 2) := by decide +kernel
theorem d_ThumbCoreModel_far_32 : decode b_ThumbCoreModel_far 32 = .ok (.ishr, 1) := by decide +kernel
theorem d_ThumbCoreModel_far_33 : decode b_ThumbCoreModel_far 33 = .ok (.iconst 1, 1) := by decide +kernel
theorem d_ThumbCoreModel_far_34 : decode b_ThumbCoreModel_far 34 = .ok (.iand, 1) := by decide +kernel
theorem d_ThumbCoreModel_far_35 : decode b_ThumbCoreModel_far 35 = .ok (.ifCond .ne 7, 3) := by decide +kernel
theorem d_ThumbCoreModel_far_38 : decode b_ThumbCoreModel_far 38 = .ok (.iconst 1, 1) := by decide +kernel
theorem d_ThumbCoreModel_far_39 : decode b_ThumbCoreModel_far 39 = .ok (.goto 4, 3) := by decide +kernel
theorem d_ThumbCoreModel_far_42 : decode b_ThumbCoreModel_far 42 = .ok (.iconst 0, 1) := by decide +kernel
theorem d_ThumbCoreModel_far_43 : decode b_ThumbCoreModel_far 43 = .ok (.putfield 41, 3) := by decide +kernel
theorem d_ThumbCoreModel_far_46 : decode b_ThumbCoreModel_far 46 = .ok (.aload_n 0, 1) := by decide +kernel
theorem d_ThumbCoreModel_far_47 : decode b_ThumbCoreModel_far 47 = .ok (.getfield 125, 3) := by decide +kernel
theorem d_ThumbCoreModel_far_50 : decode b_ThumbCoreModel_far 50 = .ok (.bipush 10, 2) := by decide +kernel
theorem d_ThumbCoreModel_far_52 : decode b_ThumbCoreModel_far 52 = .ok (.ishr, 1) := by decide +kernel
theorem d_ThumbCoreModel_far_53 : decode b_ThumbCoreModel_far 53 = .ok (.iconst 1, 1) := by decide +kernel
theorem d_ThumbCoreModel_far_54 : decode b_ThumbCoreModel_far 54 = .ok (.iand, 1) := by decide +kernel
theorem d_ThumbCoreModel_far_55 : decode b_ThumbCoreModel_far 55 = .ok (.istore_n 2, 1) := by decide +kernel
theorem d_ThumbCoreModel_far_56 : decode b_ThumbCoreModel_far 56 = .ok (.iload_n 1, 1) := by decide +kernel
theorem d_ThumbCoreModel_far_57 : decode b_ThumbCoreModel_far 57 = .ok (.bipush 13, 2) := by decide +kernel
theorem d_ThumbCoreModel_far_59 : decode b_ThumbCoreModel_far 59 = .ok (.ishr, 1) := by decide +kernel
theorem d_ThumbCoreModel_far_60 : decode b_ThumbCoreModel_far 60 = .ok (.iconst 1, 1) := by decide +kernel
theorem d_ThumbCoreModel_far_61 : decode b_ThumbCoreModel_far 61 = .ok (.iand, 1) := by decide +kernel
theorem d_ThumbCoreModel_far_62 : decode b_ThumbCoreModel_far 62 = .ok (.iload_n 2, 1) := by decide +kernel
theorem d_ThumbCoreModel_far_63 : decode b_ThumbCoreModel_far 63 = .ok (.if_icmp .ne 7, 3) := by decide +kernel
theorem d_ThumbCoreModel_far_66 : decode b_ThumbCoreModel_far 66 = .ok (.iconst 1, 1) := by decide +kernel
theorem d_ThumbCoreModel_far_67 : decode b_ThumbCoreModel_far 67 = .ok (.goto 4, 3) := by decide +kernel
theorem d_ThumbCoreModel_far_70 : decode b_ThumbCoreModel_far 70 = .ok (.iconst 0, 1) := by decide +kernel
theorem d_ThumbCoreModel_far_71 : decode b_ThumbCoreModel_far 71 = .ok (.istore_n 3, 1) := by decide +kernel
theorem d_ThumbCoreModel_far_72 : decode b_ThumbCoreModel_far 72 = .ok (.iload_n 1, 1) := by decide +kernel
theorem d_ThumbCoreModel_far_73 : decode b_ThumbCoreModel_far 73 = .ok (.bipush 11, 2) := by decide +kernel
theorem d_ThumbCoreModel_far_75 : decode b_ThumbCoreModel_far 75 = .ok (.ishr, 1) := by decide +kernel
theorem d_ThumbCoreModel_far_76 : decode b_ThumbCoreModel_far 76 = .ok (.iconst 1, 1) := by decide +kernel
theorem d_ThumbCoreModel_far_77 : decode b_ThumbCoreModel_far 77 = .ok (.iand, 1) := by decide +kernel
theorem d_ThumbCoreModel_far_78 : decode b_ThumbCoreModel_far 78 = .ok (.iload_n 2, 1) := by decide +kernel
theorem d_ThumbCoreModel_far_79 : decode b_ThumbCoreModel_far 79 = .ok (.if_icmp .ne 7, 3) := by decide +kernel
theorem d_ThumbCoreModel_far_82 : decode b_ThumbCoreModel_far 82 = .ok (.iconst 1, 1) := by decide +kernel
theorem d_ThumbCoreModel_far_83 : decode b_ThumbCoreModel_far 83 = .ok (.goto 4, 3) := by decide +kernel
theorem d_ThumbCoreModel_far_86 : decode b_ThumbCoreModel_far 86 = .ok (.iconst 0, 1) := by decide +kernel
theorem d_ThumbCoreModel_far_87 : decode b_ThumbCoreModel_far 87 = .ok (.istore 4, 2) := by decide +kernel
theorem d_ThumbCoreModel_far_89 : decode b_ThumbCoreModel_far 89 = .ok (.iload_n 2, 1) := by decide +kernel
theorem d_ThumbCoreModel_far_90 : decode b_ThumbCoreModel_far 90 = .ok (.bipush 24, 2) := by decide +kernel
theorem d_ThumbCoreModel_far_92 : decode b_ThumbCoreModel_far 92 = .ok (.ishl, 1) := by decide +kernel
theorem d_ThumbCoreModel_far_93 : decode b_ThumbCoreModel_far 93 = .ok (.iload_n 3, 1) := by decide +kernel
theorem d_ThumbCoreModel_far_94 : decode b_ThumbCoreModel_far 94 = .ok (.bipush 23, 2) := by decide +kernel
theorem d_ThumbCoreModel_far_96 : decode b_ThumbCoreModel_far 96 = .ok (.ishl, 1) := by decide +kernel
theorem d_ThumbCoreModel_far_97 : decode b_ThumbCoreModel_far 97 = .ok (.ior, 1) := by decide +kernel
theorem d_ThumbCoreModel_far_98 : decode b_ThumbCoreModel_far 98 = .ok (.iload 4, 2) := by decide +kernel
theorem d_ThumbCoreModel_far_100 : decode b_ThumbCoreModel_far 100 = .ok (.bipush 22, 2) := by decide +kernel
theorem d_ThumbCoreModel_far_102 : decode b_ThumbCoreModel_far 102 = .ok (.ishl, 1) := by decide +kernel
theorem d_ThumbCoreModel_far_103 : decode b_ThumbCoreModel_far 103 = .ok (.ior, 1) := by decide +kernel
theorem d_ThumbCoreModel_far_104 : decode b_ThumbCoreModel_far 104 = .ok (.aload_n 0, 1) := by decide +kernel
theorem d_ThumbCoreModel_far_105 : decode b_ThumbCoreModel_far 105 = .ok (.getfield 125, 3) := by decide +kernel
theorem d_ThumbCoreModel_far_108 : decode b_ThumbCoreModel_far 108 = .ok (.sipush 1023, 3) := by decide +kernel
theorem d_ThumbCoreModel_far_111 : decode b_ThumbCoreModel_far 111 = .ok (.iand, 1) := by decide +kernel
theorem d_ThumbCoreModel_far_112 : decode b_ThumbCoreModel_far 112 = .ok (.bipush 12, 2) := by decide +kernel
theorem d_ThumbCoreModel_far_114 : decode b_ThumbCoreModel_far 114 = .ok (.ishl, 1) := by decide +kernel
theorem d_ThumbCoreModel_far_115 : decode b_ThumbCoreModel_far 115 = .ok (.ior, 1) := by decide +kernel
theorem d_ThumbCoreModel_far_116 : decode b_ThumbCoreModel_far 116 = .ok (.iload_n 1, 1) := by decide +kernel
theorem d_ThumbCoreModel_far_117 : decode b_ThumbCoreModel_far 117 = .ok (.sipush 2047, 3) := by decide +kernel
theorem d_ThumbCoreModel_far_120 : decode b_ThumbCoreModel_far 120 = .ok (.iand, 1) := by decide +kernel
theorem d_ThumbCoreModel_far_121 : decode b_ThumbCoreModel_far 121 = .ok (.iconst 1, 1) := by decide +kernel
theorem d_ThumbCoreModel_far_122 : decode b_ThumbCoreModel_far 122 = .ok (.ishl, 1) := by decide +kernel
theorem d_ThumbCoreModel_far_123 : decode b_ThumbCoreModel_far 123 = .ok (.ior, 1) := by decide +kernel
theorem d_ThumbCoreModel_far_124 : decode b_ThumbCoreModel_far 124 = .ok (.istore 5, 2) := by decide +kernel
theorem d_ThumbCoreModel_far_126 : decode b_ThumbCoreModel_far 126 = .ok (.iload 5, 2) := by decide +kernel
theorem d_ThumbCoreModel_far_128 : decode b_ThumbCoreModel_far 128 = .ok (.bipush 7, 2) := by decide +kernel
theorem d_ThumbCoreModel_far_130 : decode b_ThumbCoreModel_far 130 = .ok (.ishl, 1) := by decide +kernel
theorem d_ThumbCoreModel_far_131 : decode b_ThumbCoreModel_far 131 = .ok (.bipush 7, 2) := by decide +kernel
theorem d_ThumbCoreModel_far_133 : decode b_ThumbCoreModel_far 133 = .ok (.ishr, 1) := by decide +kernel
theorem d_ThumbCoreModel_far_134 : decode b_ThumbCoreModel_far 134 = .ok (.istore 6, 2) := by decide +kernel
theorem d_ThumbCoreModel_far_136 : decode b_ThumbCoreModel_far 136 = .ok (.aload_n 0, 1) := by decide +kernel
theorem d_ThumbCoreModel_far_137 : decode b_ThumbCoreModel_far 137 = .ok (.getfield 41, 3) := by decide +kernel
theorem d_ThumbCoreModel_far_140 : decode b_ThumbCoreModel_far 140 = .ok (.ifCond .ne 35, 3) := by decide +kernel
theorem d_ThumbCoreModel_far_143 : decode b_ThumbCoreModel_far 143 = .ok (.aload_n 0, 1) := by decide +kernel
theorem d_ThumbCoreModel_far_144 : decode b_ThumbCoreModel_far 144 = .ok (.getfield 13, 3) := by decide +kernel
theorem d_ThumbCoreModel_far_147 : decode b_ThumbCoreModel_far 147 = .ok (.bipush 14, 2) := by decide +kernel
theorem d_ThumbCoreModel_far_149 : decode b_ThumbCoreModel_far 149 = .ok (.aload_n 0, 1) := by decide +kernel
theorem d_ThumbCoreModel_far_150 : decode b_ThumbCoreModel_far 150 = .ok (.getfield 13, 3) := by decide +kernel
theorem d_ThumbCoreModel_far_153 : decode b_ThumbCoreModel_far 153 = .ok (.bipush 15, 2) := by decide +kernel
theorem d_ThumbCoreModel_far_155 : decode b_ThumbCoreModel_far 155 = .ok (.iaload, 1) := by decide +kernel
theorem d_ThumbCoreModel_far_156 : decode b_ThumbCoreModel_far 156 = .ok (.iconst 5, 1) := by decide +kernel
theorem d_ThumbCoreModel_far_157 : decode b_ThumbCoreModel_far 157 = .ok (.iadd, 1) := by decide +kernel
theorem d_ThumbCoreModel_far_158 : decode b_ThumbCoreModel_far 158 = .ok (.iastore, 1) := by decide +kernel
theorem d_ThumbCoreModel_far_159 : decode b_ThumbCoreModel_far 159 = .ok (.aload_n 0, 1) := by decide +kernel
theorem d_ThumbCoreModel_far_160 : decode b_ThumbCoreModel_far 160 = .ok (.aload_n 0, 1) := by decide +kernel
theorem d_ThumbCoreModel_far_161 : decode b_ThumbCoreModel_far 161 = .ok (.getfield 13, 3) := by decide +kernel
theorem d_ThumbCoreModel_far_164 : decode b_ThumbCoreModel_far 164 = .ok (.bipush 15, 2) := by decide +kernel
theorem d_ThumbCoreModel_far_166 : decode b_ThumbCoreModel_far 166 = .ok (.iaload, 1) := by decide +kernel
theorem d_ThumbCoreModel_far_167 : decode b_ThumbCoreModel_far 167 = .ok (.iconst 4, 1) := by decide +kernel
theorem d_ThumbCoreModel_far_168 : decode b_ThumbCoreModel_far 168 = .ok (.iadd, 1) := by decide +kernel
theorem d_ThumbCoreModel_far_169 : decode b_ThumbCoreModel_far 169 = .ok (.iload 6, 2) := by decide +kernel
theorem d_ThumbCoreModel_far_171 : decode b_ThumbCoreModel_far 171 = .ok (.iadd, 1) := by decide +kernel
theorem d_ThumbCoreModel_far_172 : decode b_ThumbCoreModel_far 172 = .ok (.putfield 115, 3) := by decide +kernel
theorem d_ThumbCoreModel_far_175 : decode b_ThumbCoreModel_far 175 = .ok (.return_, 1) := by decide +kernel
theorem d_ThumbCoreModel_perform_0 : decode b_ThumbCoreModel_perform 0 = .ok (.aload_n 0, 1) := by decide +kernel
theorem d_ThumbCoreModel_perform_1 : decode b_ThumbCoreModel_perform 1 = .ok (.getfield 125, 3) := by decide +kernel
theorem d_ThumbCoreModel_perform_4 : decode b_ThumbCoreModel_perform 4 = .ok (.bipush 11, 2) := by decide +kernel
theorem d_ThumbCoreModel_perform_6 : decode b_ThumbCoreModel_perform 6 = .ok (.ishr, 1) := by decide +kernel
theorem d_ThumbCoreModel_perform_7 : decode b_ThumbCoreModel_perform 7 = .ok (.istore_n 1, 1) := by decide +kernel
theorem d_ThumbCoreModel_perform_8 : decode b_ThumbCoreModel_perform 8 = .ok (.aload_n 0, 1) := by decide +kernel
theorem d_ThumbCoreModel_perform_9 : decode b_ThumbCoreModel_perform 9 = .ok (.getfield 125, 3) := by decide +kernel
theorem d_ThumbCoreModel_perform_12 : decode b_ThumbCoreModel_perform 12 = .ok (.bipush 6, 2) := by decide +kernel
theorem d_ThumbCoreModel_perform_14 : decode b_ThumbCoreModel_perform 14 = .ok (.ishr, 1) := by decide +kernel
theorem d_ThumbCoreModel_perform_15 : decode b_ThumbCoreModel_perform 15 = .ok (.bipush 31, 2) := by decide +kernel
theorem d_ThumbCoreModel_perform_17 : decode b_ThumbCoreModel_perform 17 = .ok (.iand, 1) := by decide +kernel
theorem d_ThumbCoreModel_perform_18 : decode b_ThumbCoreModel_perform 18 = .ok (.istore_n 2, 1) := by decide +kernel
theorem d_ThumbCoreModel_perform_19 : decode b_ThumbCoreModel_perform 19 = .ok (.aload_n 0, 1) := by decide +kernel
theorem d_ThumbCoreModel_perform_20 : decode b_ThumbCoreModel_perform 20 = .ok (.getfield 13, 3) := by decide +kernel
theorem d_ThumbCoreModel_perform_23 : decode b_ThumbCoreModel_perform 23 = .ok (.bipush 15, 2) := by decide +kernel
theorem d_ThumbCoreModel_perform_25 : decode b_ThumbCoreModel_perform 25 = .ok (.iaload, 1) := by decide +kernel
theorem d_ThumbCoreModel_perform_26 : decode b_ThumbCoreModel_perform 26 = .ok (.iconst 4, 1) := by decide +kernel
theorem d_ThumbCoreModel_perform_27 : decode b_ThumbCoreModel_perform 27 = .ok (.iadd, 1) := by decide +kernel
theorem d_ThumbCoreModel_perform_28 : decode b_ThumbCoreModel_perform 28 = .ok (.istore_n 3, 1) := by decide +kernel
theorem d_ThumbCoreModel_perform_29 : decode b_ThumbCoreModel_perform 29 = .ok (.aload_n 0, 1) := by decide +kernel
theorem d_ThumbCoreModel_perform_30 : decode b_ThumbCoreModel_perform 30 = .ok (.getfield 13, 3) := by decide +kernel
theorem d_ThumbCoreModel_perform_33 : decode b_ThumbCoreModel_perform 33 = .ok (.aload_n 0, 1) := by decide +kernel
theorem d_ThumbCoreModel_perform_34 : decode b_ThumbCoreModel_perform 34 = .ok (.iconst 3, 1) := by decide +kernel
theorem d_ThumbCoreModel_perform_35 : decode b_ThumbCoreModel_perform 35 = .ok (.invokevirtual 128, 3) := by decide +kernel
theorem d_ThumbCoreModel_perform_38 : decode b_ThumbCoreModel_perform 38 = .ok (.iaload, 1) := by decide +kernel
theorem d_ThumbCoreModel_perform_39 : decode b_ThumbCoreModel_perform 39 = .ok (.istore 4, 2) := by decide +kernel
theorem d_ThumbCoreModel_perform_41 : decode b_ThumbCoreModel_perform 41 = .ok (.iconst 4, 1) := by decide +kernel
theorem d_ThumbCoreModel_perform_42 : decode b_ThumbCoreModel_perform 42 = .ok (.aload_n 0, 1) := by decide +kernel
theorem d_ThumbCoreModel_perform_43 : decode b_ThumbCoreModel_perform 43 = .ok (.getfield 125, 3) := by decide +kernel
theorem d_ThumbCoreModel_perform_46 : decode b_ThumbCoreModel_perform 46 = .ok (.sipush 255, 3) := by decide +kernel
theorem d_ThumbCoreModel_perform_49 : decode b_ThumbCoreModel_perform 49 = .ok (.iand, 1) := by decide +kernel
theorem d_ThumbCoreModel_perform_50 : decode b_ThumbCoreModel_perform 50 = .ok (.imul, 1) := by decide +kernel
theorem d_ThumbCoreModel_perform_51 : decode b_ThumbCoreModel_perform 51 = .ok (.istore 5, 2) := by decide +kernel
theorem d_ThumbCoreModel_perform_53 : decode b_ThumbCoreModel_perform 53 = .ok (.iload_n 1, 1) := by decide +kernel
theorem d_ThumbCoreModel_perform_54 : decode b_ThumbCoreModel_perform 54 = .ok (.iconst 3, 1) := by decide +kernel
theorem d_ThumbCoreModel_perform_55 : decode b_ThumbCoreModel_perform 55 = .ok (.if_icmp .ge 37, 3) := by decide +kernel
theorem d_ThumbCoreModel_perform_58 : decode b_ThumbCoreModel_perform 58 = .ok (.aload_n 0, 1) := by decide +kernel
theorem d_ThumbCoreModel_perform_59 : decode b_ThumbCoreModel_perform 59 = .ok (.getfield 13, 3) := by decide +kernel
theorem d_ThumbCoreModel_perform_62 : decode b_ThumbCoreModel_perform 62 = .ok (.aload_n 0, 1) := by decide +kernel
theorem d_ThumbCoreModel_perform_63 : decode b_ThumbCoreModel_perform 63 = .ok (.iconst 0, 1) := by decide +kernel
theorem d_ThumbCoreModel_perform_64 : decode b_ThumbCoreModel_perform 64 = .ok (.invokevirtual 128, 3) := by decide +kernel
theorem d_ThumbCoreModel_perform_67 : decode b_ThumbCoreModel_perform 67 = .ok (.aload_n 0, 1) := by decide +kernel
theorem d_ThumbCoreModel_perform_68 : decode b_ThumbCoreModel_perform 68 = .ok (.iload_n 1, 1) := by decide +kernel
theorem d_ThumbCoreModel_perform_69 : decode b_ThumbCoreModel_perform 69 = .ok (.iload 4, 2) := by decide +kernel
theorem d_ThumbCoreModel_perform_71 : decode b_ThumbCoreModel_perform 71 = .ok (.iload_n 2, 1) := by decide +kernel
theorem d_ThumbCoreModel_perform_72 : decode b_ThumbCoreModel_perform 72 = .ok (.ifCond .ne 12, 3) := by decide +kernel
theorem d_ThumbCoreModel_perform_75 : decode b_ThumbCoreModel_perform 75 = .ok (.iload_n 1, 1) := by decide +kernel
theorem d_ThumbCoreModel_perform_76 : decode b_ThumbCoreModel_perform 76 = .ok (.ifCond .le 8, 3) := by decide +kernel
theorem d_ThumbCoreModel_perform_79 : decode b_ThumbCoreModel_perform 79 = .ok (.bipush 32, 2) := by decide +kernel
theorem d_ThumbCoreModel_perform_81 : decode b_ThumbCoreModel_perform 81 = .ok (.goto 4, 3) := by decide +kernel
theorem d_ThumbCoreModel_perform_84 : decode b_ThumbCoreModel_perform 84 = .ok (.iload_n 2, 1) := by decide +kernel
theorem d_ThumbCoreModel_perform_85 : decode b_ThumbCoreModel_perform 85 = .ok (.invokevirtual 135, 3) := by decide +kernel
theorem d_ThumbCoreModel_perform_88 : decode b_ThumbCoreModel_perform 88 = .ok (.iastore, 1) := by decide +kernel
theorem d_ThumbCoreModel_perform_89 : decode b_ThumbCoreModel_perform 89 = .ok (.goto 412, 3) := by decide +kernel
theorem d_ThumbCoreModel_perform_92 : decode b_ThumbCoreModel_perform 92 = .ok (.iload_n 1, 1) := by decide +kernel
theorem d_ThumbCoreModel_perform_93 : decode b_ThumbCoreModel_perform 93 = .ok (.iconst 3, 1) := by decide +kernel
theorem d_ThumbCoreModel_perform_94 : decode b_ThumbCoreModel_perform 94 = .ok (.if_icmp .ne 10, 3) := by decide +kernel
theorem d_ThumbCoreModel_perform_97 : decode b_ThumbCoreModel_perform 97 = .ok (.aload_n 0, 1) := by decide +kernel
theorem d_ThumbCoreModel_perform_98 : decode b_ThumbCoreModel_perform 98 = .ok (.invokevirtual 171, 3) := by decide +kernel
theorem d_ThumbCoreModel_perform_101 : decode b_ThumbCoreModel_perform 101 = .ok (.goto 400, 3) := by decide +kernel
theorem d_ThumbCoreModel_perform_104 : decode b_ThumbCoreModel_perform 104 = .ok (.iload_n 1, 1) := by decide +kernel
theorem d_ThumbCoreModel_perform_105 : decode b_ThumbCoreModel_perform 105 = .ok (.bipush 8, 2) := by decide +kernel
theorem d_ThumbCoreModel_perform_107 : decode b_ThumbCoreModel_perform 107 = .ok (.if_icmp .ge 11, 3) := by decide +kernel
theorem d_ThumbCoreModel_perform_110 : decode b_ThumbCoreModel_perform 110 = .ok (.aload_n 0, 1) := by decide +kernel
theorem d_ThumbCoreModel_perform_111 : decode b_ThumbCoreModel_perform 111 = .ok (.iload_n 1, 1) := by decide +kernel
theorem d_ThumbCoreModel_perform_112 : decode b_ThumbCoreModel_perform 112 = .ok (.invokevirtual 174, 3) := by decide +kernel
theorem d_ThumbCoreModel_perform_115 : decode b_ThumbCoreModel_perform 115 = .ok (.goto 386, 3) := by decide +kernel
theorem d_ThumbCoreModel_perform_118 : decode b_ThumbCoreModel_perform 118 = .ok (.iload_n 1, 1) := by decide +kernel
theorem d_ThumbCoreModel_perform_119 : decode b_ThumbCoreModel_perform 119 = .ok (.bipush 8, 2) := by decide +kernel
theorem d_ThumbCoreModel_perform_121 : decode b_ThumbCoreModel_perform 121 = .ok (.if_icmp .ne 29, 3) := by decide +kernel
theorem d_ThumbCoreModel_perform_124 : decode b_ThumbCoreModel_perform 124 = .ok (.aload_n 0, 1) := by decide +kernel
theorem d_ThumbCoreModel_perform_125 : decode b_ThumbCoreModel_perform 125 = .ok (.getfield 125, 3) := by decide +kernel
theorem d_ThumbCoreModel_perform_128 : decode b_ThumbCoreModel_perform 128 = .ok (.bipush 10, 2) := by decide +kernel
theorem d_ThumbCoreModel_perform_130 : decode b_ThumbCoreModel_perform 130 = .ok (.ishr, 1) := by decide +kernel
theorem d_ThumbCoreModel_perform_131 : decode b_ThumbCoreModel_perform 131 = .ok (.bipush 16, 2) := by decide +kernel
theorem d_ThumbCoreModel_perform_133 : decode b_ThumbCoreModel_perform 133 = .ok (.if_icmp .ne 10, 3) := by decide +kernel
theorem d_ThumbCoreModel_perform_136 : decode b_ThumbCoreModel_perform 136 = .ok (.aload_n 0, 1) := by decide +kernel
theorem d_ThumbCoreModel_perform_137 : decode b_ThumbCoreModel_perform 137 = .ok (.invokevirtual 177, 3) := by decide +kernel
theorem d_ThumbCoreModel_perform_140 : decode b_ThumbCoreModel_perform 140 = .ok (.goto 361, 3) := by decide +kernel
theorem d_ThumbCoreModel_perform_143 : decode b_ThumbCoreModel_perform 143 = .ok (.aload_n 0, 1) := by decide +kernel
theorem d_ThumbCoreModel_perform_144 : decode b_ThumbCoreModel_perform 144 = .ok (.invokevirtual 180, 3) := by decide +kernel
theorem d_ThumbCoreModel_perform_147 : decode b_ThumbCoreModel_perform 147 = .ok (.goto 354, 3) := by decide +kernel
theorem d_ThumbCoreModel_perform_150 : decode b_ThumbCoreModel_perform 150 = .ok (.iload_n 1, 1) := by decide +kernel
theorem d_ThumbCoreModel_perform_151 : decode b_ThumbCoreModel_perform 151 = .ok (.bipush 9, 2) := by decide +kernel
theorem d_ThumbCoreModel_perform_153 : decode b_ThumbCoreModel_perform 153 = .ok (.if_icmp .ne 24, 3) := by decide +kernel
theorem d_ThumbCoreModel_perform_156 : decode b_ThumbCoreModel_perform 156 = .ok (.aload_n 0, 1) := by decide +kernel
theorem d_ThumbCoreModel_perform_157 : decode b_ThumbCoreModel_perform 157 = .ok (.iconst 4, 1) := by decide +kernel
theorem d_ThumbCoreModel_perform_158 : decode b_ThumbCoreModel_perform 158 = .ok (.aload_n 0, 1) := by decide +kernel
theorem d_ThumbCoreModel_perform_159 : decode b_ThumbCoreModel_perform 159 = .ok (.bipush 8, 2) := by decide +kernel
theorem d_ThumbCoreModel_perform_161 : decode b_ThumbCoreModel_perform 161 = .ok (.invokevirtual 128, 3) := by decide +kernel
theorem d_ThumbCoreModel_perform_164 : decode b_ThumbCoreModel_perform 164 = .ok (.iload_n 3, 1) := by decide +kernel
theorem d_ThumbCoreModel_perform_165 : decode b_ThumbCoreModel_perform 165 = .ok (.bipush (-4), 2) := by decide +kernel
theorem d_ThumbCoreModel_perform_167 : decode b_ThumbCoreModel_perform 167 = .ok (.iand, 1) := by decide +kernel
theorem d_ThumbCoreModel_perform_168 : decode b_ThumbCoreModel_perform 168 = .ok (.iload 5, 2) := by decide +kernel
theorem d_ThumbCoreModel_perform_170 : decode b_ThumbCoreModel_perform 170 = .ok (.iadd, 1) := by decide +kernel
theorem d_ThumbCoreModel_perform_171 : decode b_ThumbCoreModel_perform 171 = .ok (.invokevirtual 183, 3) := by decide +kernel
theorem d_ThumbCoreModel_perform_174 : decode b_ThumbCoreModel_perform 174 = .ok (.goto 327, 3) := by decide +kernel
theorem d_ThumbCoreModel_perform_177 : decode b_ThumbCoreModel_perform 177 = .ok (.iload_n 1, 1) := by decide +kernel
theorem d_ThumbCoreModel_perform_178 : decode b_ThumbCoreModel_perform 178 = .ok (.bipush 12, 2) := by decide +kernel
theorem d_ThumbCoreModel_perform_180 : decode b_ThumbCoreModel_perform 180 = .ok (.if_icmp .ge 39, 3) := by decide +kernel
theorem d_ThumbCoreModel_perform_183 : decode b_ThumbCoreModel_perform 183 = .ok (.aload_n 0, 1) := by decide +kernel
theorem d_ThumbCoreModel_perform_184 : decode b_ThumbCoreModel_perform 184 = .ok (.aload_n 0, 1) := by decide +kernel
theorem d_ThumbCoreModel_perform_185 : decode b_ThumbCoreModel_perform 185 = .ok (.getfield 125, 3) := by decide +kernel
theorem d_ThumbCoreModel_perform_188 : decode b_ThumbCoreModel_perform 188 = .ok (.bipush 9, 2) := by decide +kernel
theorem d_ThumbCoreModel_perform_190 : decode b_ThumbCoreModel_perform 190 = .ok (.ishr, 1) := by decide +kernel
theorem d_ThumbCoreModel_perform_191 : decode b_ThumbCoreModel_perform 191 = .ok (.bipush 7, 2) := by decide +kernel
theorem d_ThumbCoreModel_perform_193 : decode b_ThumbCoreModel_perform 193 = .ok (.iand, 1) := by decide +kernel
theorem d_ThumbCoreModel_perform_194 : decode b_ThumbCoreModel_perform 194 = .ok (.aload_n 0, 1) := by decide +kernel
theorem d_ThumbCoreModel_perform_195 : decode b_ThumbCoreModel_perform 195 = .ok (.iconst 0, 1) := by decide +kernel
theorem d_ThumbCoreModel_perform_196 : decode b_ThumbCoreModel_perform 196 = .ok (.invokevirtual 128, 3) := by decide +kernel
theorem d_ThumbCoreModel_perform_199 : decode b_ThumbCoreModel_perform 199 = .ok (.iload 4, 2) := by decide +kernel
theorem d_ThumbCoreModel_perform_201 : decode b_ThumbCoreModel_perform 201 = .ok (.aload_n 0, 1) := by decide +kernel
theorem d_ThumbCoreModel_perform_202 : decode b_ThumbCoreModel_perform 202 = .ok (.getfield 13, 3) := by decide +kernel
theorem d_ThumbCoreModel_perform_205 : decode b_ThumbCoreModel_perform 205 = .ok (.aload_n 0, 1) := by decide +kernel
theorem d_ThumbCoreModel_perform_206 : decode b_ThumbCoreModel_perform 206 = .ok (.bipush 6, 2) := by decide +kernel
theorem d_ThumbCoreModel_perform_208 : decode b_ThumbCoreModel_perform 208 = .ok (.invokevirtual 128, 3) := by decide +kernel
theorem d_ThumbCoreModel_perform_211 : decode b_ThumbCoreModel_perform 211 = .ok (.iaload, 1) := by decide +kernel
theorem d_ThumbCoreModel_perform_212 : decode b_ThumbCoreModel_perform 212 = .ok (.iadd, 1) := by decide +kernel
theorem d_ThumbCoreModel_perform_213 : decode b_ThumbCoreModel_perform 213 = .ok (.invokevirtual 183, 3) := by decide +kernel
theorem d_ThumbCoreModel_perform_216 : decode b_ThumbCoreModel_perform 216 = .ok (.goto 285, 3) := by decide +kernel
theorem d_ThumbCoreModel_perform_219 : decode b_ThumbCoreModel_perform 219 = .ok (.iload_n 1, 1) := by decide +kernel
theorem d_ThumbCoreModel_perform_220 : decode b_ThumbCoreModel_perform 220 = .ok (.bipush 14, 2) := by decide +kernel
theorem d_ThumbCoreModel_perform_222 : decode b_ThumbCoreModel_perform 222 = .ok (.if_icmp .ge 32, 3) := by decide +kernel
theorem d_ThumbCoreModel_perform_225 : decode b_ThumbCoreModel_perform 225 = .ok (.aload_n 0, 1) := by decide +kernel
theorem d_ThumbCoreModel_perform_226 : decode b_ThumbCoreModel_perform 226 = .ok (.iload_n 1, 1) := by decide +kernel
theorem d_ThumbCoreModel_perform_227 : decode b_ThumbCoreModel_perform 227 = .ok (.bipush 12, 2) := by decide +kernel
theorem d_ThumbCoreModel_perform_229 : decode b_ThumbCoreModel_perform 229 = .ok (.if_icmp .ne 7, 3) := by decide +kernel
theorem d_ThumbCoreModel_perform_232 : decode b_ThumbCoreModel_perform 232 = .ok (.iconst 0, 1) := by decide +kernel
theorem d_ThumbCoreModel_perform_233 : decode b_ThumbCoreModel_perform 233 = .ok (.goto 4, 3) := by decide +kernel
theorem d_ThumbCoreModel_perform_236 : decode b_ThumbCoreModel_perform 236 = .ok (.iconst 4, 1) := by decide +kernel
theorem d_ThumbCoreModel_perform_237 : decode b_ThumbCoreModel_perform 237 = .ok (.aload_n 0, 1) := by decide +kernel
theorem d_ThumbCoreModel_perform_238 : decode b_ThumbCoreModel_perform 238 = .ok (.iconst 0, 1) := by decide +kernel
theorem d_ThumbCoreModel_perform_239 : decode b_ThumbCoreModel_perform 239 = .ok (.invokevirtual 128, 3) := by decide +kernel
theorem d_ThumbCoreModel_perform_242 : decode b_ThumbCoreModel_perform 242 = .ok (.iload 4, 2) := by decide +kernel
theorem d_ThumbCoreModel_perform_244 : decode b_ThumbCoreModel_perform 244 = .ok (.iconst 4, 1) := by decide +kernel
theorem d_ThumbCoreModel_perform_245 : decode b_ThumbCoreModel_perform 245 = .ok (.iload_n 2, 1) := by decide +kernel
theorem d_ThumbCoreModel_perform_246 : decode b_ThumbCoreModel_perform 246 = .ok (.imul, 1) := by decide +kernel
theorem d_ThumbCoreModel_perform_247 : decode b_ThumbCoreModel_perform 247 = .ok (.iadd, 1) := by decide +kernel
theorem d_ThumbCoreModel_perform_248 : decode b_ThumbCoreModel_perform 248 = .ok (.invokevirtual 183, 3) := by decide +kernel
theorem d_ThumbCoreModel_perform_251 : decode b_ThumbCoreModel_perform 251 = .ok (.goto 250, 3) := by decide +kernel
theorem d_ThumbCoreModel_perform_254 : decode b_ThumbCoreModel_perform 254 = .ok (.iload_n 1, 1) := by decide +kernel
theorem d_ThumbCoreModel_perform_255 : decode b_ThumbCoreModel_perform 255 = .ok (.bipush 16, 2) := by decide +kernel
theorem d_ThumbCoreModel_perform_257 : decode b_ThumbCoreModel_perform 257 = .ok (.if_icmp .ge 31, 3) := by decide +kernel
theorem d_ThumbCoreModel_perform_260 : decode b_ThumbCoreModel_perform 260 = .ok (.aload_n 0, 1) := by decide +kernel
theorem d_ThumbCoreModel_perform_261 : decode b_ThumbCoreModel_perform 261 = .ok (.iload_n 1, 1) := by decide +kernel
theorem d_ThumbCoreModel_perform_262 : decode b_ThumbCoreModel_perform 262 = .ok (.bipush 14, 2) := by decide +kernel
theorem d_ThumbCoreModel_perform_264 : decode b_ThumbCoreModel_perform 264 = .ok (.if_icmp .ne 7, 3) := by decide +kernel
theorem d_ThumbCoreModel_perform_267 : decode b_ThumbCoreModel_perform 267 = .ok (.iconst 2, 1) := by decide +kernel
theorem d_ThumbCoreModel_perform_268 : decode b_ThumbCoreModel_perform 268 = .ok (.goto 5, 3) := by decide +kernel
theorem d_ThumbCoreModel_perform_271 : decode b_ThumbCoreModel_perform 271 = .ok (.bipush 6, 2) := by decide +kernel
theorem d_ThumbCoreModel_perform_273 : decode b_ThumbCoreModel_perform 273 = .ok (.aload_n 0, 1) := by decide +kernel
theorem d_ThumbCoreModel_perform_274 : decode b_ThumbCoreModel_perform 274 = .ok (.iconst 0, 1) := by decide +kernel
theorem d_ThumbCoreModel_perform_275 : decode b_ThumbCoreModel_perform 275 = .ok (.invokevirtual 128, 3) := by decide +kernel
theorem d_ThumbCoreModel_perform_278 : decode b_ThumbCoreModel_perform 278 = .ok (.iload 4, 2) := by decide +kernel
theorem d_ThumbCoreModel_perform_280 : decode b_ThumbCoreModel_perform 280 = .ok (.iload_n 2, 1) := by decide +kernel
theorem d_ThumbCoreModel_perform_281 : decode b_ThumbCoreModel_perform 281 = .ok (.iadd, 1) := by decide +kernel
theorem d_ThumbCoreModel_perform_282 : decode b_ThumbCoreModel_perform 282 = .ok (.invokevirtual 183, 3) := by decide +kernel
theorem d_ThumbCoreModel_perform_285 : decode b_ThumbCoreModel_perform 285 = .ok (.goto 216, 3) := by decide +kernel
theorem d_ThumbCoreModel_perform_288 : decode b_ThumbCoreModel_perform 288 = .ok (.iload_n 1, 1) := by decide +kernel
theorem d_ThumbCoreModel_perform_289 : decode b_ThumbCoreModel_perform 289 = .ok (.bipush 18, 2) := by decide +kernel
theorem d_ThumbCoreModel_perform_291 : decode b_ThumbCoreModel_perform 291 = .ok (.if_icmp .ge 32, 3) := by decide +kernel
theorem d_ThumbCoreModel_perform_294 : decode b_ThumbCoreModel_perform 294 = .ok (.aload_n 0, 1) := by decide +kernel
theorem d_ThumbCoreModel_perform_295 : decode b_ThumbCoreModel_perform 295 = .ok (.iload_n 1, 1) := by decide +kernel
theorem d_ThumbCoreModel_perform_296 : decode b_ThumbCoreModel_perform 296 = .ok (.bipush 16, 2) := by decide +kernel
theorem d_ThumbCoreModel_perform_298 : decode b_ThumbCoreModel_perform 298 = .ok (.if_icmp .ne 7, 3) := by decide +kernel
theorem d_ThumbCoreModel_perform_301 : decode b_ThumbCoreModel_perform 301 = .ok (.iconst 1, 1) := by decide +kernel
theorem d_ThumbCoreModel_perform_302 : decode b_ThumbCoreModel_perform 302 = .ok (.goto 4, 3) := by decide +kernel
theorem d_ThumbCoreModel_perform_305 : decode b_ThumbCoreModel_perform 305 = .ok (.iconst 5, 1) := by decide +kernel
theorem d_ThumbCoreModel_perform_306 : decode b_ThumbCoreModel_perform 306 = .ok (.aload_n 0, 1) := by decide +kernel
theorem d_ThumbCoreModel_perform_307 : decode b_ThumbCoreModel_perform 307 = .ok (.iconst 0, 1) := by decide +kernel
theorem d_ThumbCoreModel_perform_308 : decode b_ThumbCoreModel_perform 308 = .ok (.invokevirtual 128, 3) := by decide +kernel
theorem d_ThumbCoreModel_perform_311 : decode b_ThumbCoreModel_perform 311 = .ok (.iload 4, 2) := by decide +kernel
theorem d_ThumbCoreModel_perform_313 : decode b_ThumbCoreModel_perform 313 = .ok (.iconst 2, 1) := by decide +kernel
theorem d_ThumbCoreModel_perform_314 : decode b_ThumbCoreModel_perform 314 = .ok (.iload_n 2, 1) := by decide +kernel
theorem d_ThumbCoreModel_perform_315 : decode b_ThumbCoreModel_perform 315 = .ok (.imul, 1) := by decide +kernel
theorem d_ThumbCoreModel_perform_316 : decode b_ThumbCoreModel_perform 316 = .ok (.iadd, 1) := by decide +kernel
theorem d_ThumbCoreModel_perform_317 : decode b_ThumbCoreModel_perform 317 = .ok (.invokevirtual 183, 3) := by decide +kernel
theorem d_ThumbCoreModel_perform_320 : decode b_ThumbCoreModel_perform 320 = .ok (.goto 181, 3) := by decide +kernel
theorem d_ThumbCoreModel_perform_323 : decode b_ThumbCoreModel_perform 323 = .ok (.iload_n 1, 1) := by decide +kernel
theorem d_ThumbCoreModel_perform_324 : decode b_ThumbCoreModel_perform 324 = .ok (.bipush 20, 2) := by decide +kernel
theorem d_ThumbCoreModel_perform_326 : decode b_ThumbCoreModel_perform 326 = .ok (.if_icmp .ge 37, 3) := by decide +kernel
theorem d_ThumbCoreModel_perform_329 : decode b_ThumbCoreModel_perform 329 = .ok (.aload_n 0, 1) := by decide +kernel
theorem d_ThumbCoreModel_perform_330 : decode b_ThumbCoreModel_perform 330 = .ok (.iload_n 1, 1) := by decide +kernel
theorem d_ThumbCoreModel_perform_331 : decode b_ThumbCoreModel_perform 331 = .ok (.bipush 18, 2) := by decide +kernel
theorem d_ThumbCoreModel_perform_333 : decode b_ThumbCoreModel_perform 333 = .ok (.if_icmp .ne 7, 3) := by decide +kernel
theorem d_ThumbCoreModel_perform_336 : decode b_ThumbCoreModel_perform 336 = .ok (.iconst 0, 1) := by decide +kernel
theorem d_ThumbCoreModel_perform_337 : decode b_ThumbCoreModel_perform 337 = .ok (.goto 4, 3) := by decide +kernel
theorem d_ThumbCoreModel_perform_340 : decode b_ThumbCoreModel_perform 340 = .ok (.iconst 4, 1) := by decide +kernel
theorem d_ThumbCoreModel_perform_341 : decode b_ThumbCoreModel_perform 341 = .ok (.aload_n 0, 1) := by decide +kernel
theorem d_ThumbCoreModel_perform_342 : decode b_ThumbCoreModel_perform 342 = .ok (.bipush 8, 2) := by decide +kernel
theorem d_ThumbCoreModel_perform_344 : decode b_ThumbCoreModel_perform 344 = .ok (.invokevirtual 128, 3) := by decide +kernel
theorem d_ThumbCoreModel_perform_347 : decode b_ThumbCoreModel_perform 347 = .ok (.aload_n 0, 1) := by decide +kernel
theorem d_ThumbCoreModel_perform_348 : decode b_ThumbCoreModel_perform 348 = .ok (.getfield 13, 3) := by decide +kernel
theorem d_ThumbCoreModel_perform_351 : decode b_ThumbCoreModel_perform 351 = .ok (.bipush 13, 2) := by decide +kernel
theorem d_ThumbCoreModel_perform_353 : decode b_ThumbCoreModel_perform 353 = .ok (.iaload, 1) := by decide +kernel
theorem d_ThumbCoreModel_perform_354 : decode b_ThumbCoreModel_perform 354 = .ok (.iload 5, 2) := by decide +kernel
theorem d_ThumbCoreModel_perform_356 : decode b_ThumbCoreModel_perform 356 = .ok (.iadd, 1) := by decide +kernel
theorem d_ThumbCoreModel_perform_357 : decode b_ThumbCoreModel_perform 357 = .ok (.invokevirtual 183, 3) := by decide +kernel
theorem d_ThumbCoreModel_perform_360 : decode b_ThumbCoreModel_perform 360 = .ok (.goto 141, 3) := by decide +kernel
theorem d_ThumbCoreModel_perform_363 : decode b_ThumbCoreModel_perform 363 = .ok (.iload_n 1, 1) := by decide +kernel
theorem d_ThumbCoreModel_perform_364 : decode b_ThumbCoreModel_perform 364 = .ok (.bipush 22, 2) := by decide +kernel
theorem d_ThumbCoreModel_perform_366 : decode b_ThumbCoreModel_perform 366 = .ok (.if_icmp .ge 40, 3) := by decide +kernel
theorem d_ThumbCoreModel_perform_369 : decode b_ThumbCoreModel_perform 369 = .ok (.aload_n 0, 1) := by decide +kernel
theorem d_ThumbCoreModel_perform_370 : decode b_ThumbCoreModel_perform 370 = .ok (.getfield 13, 3) := by decide +kernel
theorem d_ThumbCoreModel_perform_373 : decode b_ThumbCoreModel_perform 373 = .ok (.aload_n 0, 1) := by decide +kernel
theorem d_ThumbCoreModel_perform_374 : decode b_ThumbCoreModel_perform 374 = .ok (.bipush 8, 2) := by decide +kernel
theorem d_ThumbCoreModel_perform_376 : decode b_ThumbCoreModel_perform 376 = .ok (.invokevirtual 128, 3) := by decide +kernel
theorem d_ThumbCoreModel_perform_379 : decode b_ThumbCoreModel_perform 379 = .ok (.iload_n 1, 1) := by decide +kernel
theorem d_ThumbCoreModel_perform_380 : decode b_ThumbCoreModel_perform 380 = .ok (.bipush 20, 2) := by decide +kernel
theorem d_ThumbCoreModel_perform_382 : decode b_ThumbCoreModel_perform 382 = .ok (.if_icmp .ne 10, 3) := by decide +kernel
theorem d_ThumbCoreModel_perform_385 : decode b_ThumbCoreModel_perform 385 = .ok (.iload_n 3, 1) := by decide +kernel
theorem d_ThumbCoreModel_perform_386 : decode b_ThumbCoreModel_perform 386 = .ok (.bipush (-4), 2) := by decide +kernel
theorem d_ThumbCoreModel_perform_388 : decode b_ThumbCoreModel_perform 388 = .ok (.iand, 1) := by decide +kernel
theorem d_ThumbCoreModel_perform_389 : decode b_ThumbCoreModel_perform 389 = .ok (.goto 10, 3) := by decide +kernel
theorem d_ThumbCoreModel_perform_392 : decode b_ThumbCoreModel_perform 392 = .ok (.aload_n 0, 1) := by decide +kernel
theorem d_ThumbCoreModel_perform_393 : decode b_ThumbCoreModel_perform 393 = .ok (.getfield 13, 3) := by decide +kernel
theorem d_ThumbCoreModel_perform_396 : decode b_ThumbCoreModel_perform 396 = .ok (.bipush 13, 2) := by decide +kernel
theorem d_ThumbCoreModel_perform_398 : decode b_ThumbCoreModel_perform 398 = .ok (.iaload, 1) := by decide +kernel
theorem d_ThumbCoreModel_perform_399 : decode b_ThumbCoreModel_perform 399 = .ok (.iload 5, 2) := by decide +kernel
theorem d_ThumbCoreModel_perform_401 : decode b_ThumbCoreModel_perform 401 = .ok (.iadd, 1) := by decide +kernel
theorem d_ThumbCoreModel_perform_402 : decode b_ThumbCoreModel_perform 402 = .ok (.iastore, 1) := by decide +kernel
theorem d_ThumbCoreModel_perform_403 : decode b_ThumbCoreModel_perform 403 = .ok (.goto 98, 3) := by decide +kernel
theorem d_ThumbCoreModel_perform_406 : decode b_ThumbCoreModel_perform 406 = .ok (.iload_n 1, 1) := by decide +kernel
theorem d_ThumbCoreModel_perform_407 : decode b_ThumbCoreModel_perform 407 = .ok (.bipush 24, 2) := by decide +kernel
theorem d_ThumbCoreModel_perform_409 : decode b_ThumbCoreModel_perform 409 = .ok (.if_icmp .ge 10, 3) := by decide +kernel
theorem d_ThumbCoreModel_perform_412 : decode b_ThumbCoreModel_perform 412 = .ok (.aload_n 0, 1) := by decide +kernel
theorem d_ThumbCoreModel_perform_413 : decode b_ThumbCoreModel_perform 413 = .ok (.invokevirtual 186, 3) := by decide +kernel
theorem d_ThumbCoreModel_perform_416 : decode b_ThumbCoreModel_perform 416 = .ok (.goto 85, 3) := by decide +kernel
theorem d_ThumbCoreModel_perform_419 : decode b_ThumbCoreModel_perform 419 = .ok (.iload_n 1, 1) := by decide +kernel
theorem d_ThumbCoreModel_perform_420 : decode b_ThumbCoreModel_perform 420 = .ok (.bipush 26, 2) := by decide +kernel
theorem d_ThumbCoreModel_perform_422 : decode b_ThumbCoreModel_perform 422 = .ok (.if_icmp .ge 21, 3) := by decide +kernel
theorem d_ThumbCoreModel_perform_425 : decode b_ThumbCoreModel_perform 425 = .ok (.aload_n 0, 1) := by decide +kernel
theorem d_ThumbCoreModel_perform_426 : decode b_ThumbCoreModel_perform 426 = .ok (.iload_n 1, 1) := by decide +kernel
theorem d_ThumbCoreModel_perform_427 : decode b_ThumbCoreModel_perform 427 = .ok (.bipush 25, 2) := by decide +kernel
theorem d_ThumbCoreModel_perform_429 : decode b_ThumbCoreModel_perform 429 = .ok (.if_icmp .ne 7, 3) := by decide +kernel
theorem d_ThumbCoreModel_perform_432 : decode b_ThumbCoreModel_perform 432 = .ok (.iconst 1, 1) := by decide +kernel
theorem d_ThumbCoreModel_perform_433 : decode b_ThumbCoreModel_perform 433 = .ok (.goto 4, 3) := by decide +kernel
theorem d_ThumbCoreModel_perform_436 : decode b_ThumbCoreModel_perform 436 = .ok (.iconst 0, 1) := by decide +kernel
theorem d_ThumbCoreModel_perform_437 : decode b_ThumbCoreModel_perform 437 = .ok (.invokevirtual 189, 3) := by decide +kernel
theorem d_ThumbCoreModel_perform_440 : decode b_ThumbCoreModel_perform 440 = .ok (.goto 61, 3) := by decide +kernel
theorem d_ThumbCoreModel_perform_443 : decode b_ThumbCoreModel_perform 443 = .ok (.iload_n 1, 1) := by decide +kernel
theorem d_ThumbCoreModel_perform_444 : decode b_ThumbCoreModel_perform 444 = .ok (.bipush 28, 2) := by decide +kernel
theorem d_ThumbCoreModel_perform_446 : decode b_ThumbCoreModel_perform 446 = .ok (.if_icmp .ge 10, 3) := by decide +kernel
theorem d_ThumbCoreModel_perform_449 : decode b_ThumbCoreModel_perform 449 = .ok (.aload_n 0, 1) := by decide +kernel
theorem d_ThumbCoreModel_perform_450 : decode b_ThumbCoreModel_perform 450 = .ok (.invokevirtual 193, 3) := by decide +kernel
theorem d_ThumbCoreModel_perform_453 : decode b_ThumbCoreModel_perform 453 = .ok (.goto 48, 3) := by decide +kernel
theorem d_ThumbCoreModel_perform_456 : decode b_ThumbCoreModel_perform 456 = .ok (.iload_n 1, 1) := by decide +kernel
theorem d_ThumbCoreModel_perform_457 : decode b_ThumbCoreModel_perform 457 = .ok (.bipush 28, 2) := by decide +kernel
theorem d_ThumbCoreModel_perform_459 : decode b_ThumbCoreModel_perform 459 = .ok (.if_icmp .ne 24, 3) := by decide +kernel
theorem d_ThumbCoreModel_perform_462 : decode b_ThumbCoreModel_perform 462 = .ok (.aload_n 0, 1) := by decide +kernel
theorem d_ThumbCoreModel_perform_463 : decode b_ThumbCoreModel_perform 463 = .ok (.iload_n 3, 1) := by decide +kernel
theorem d_ThumbCoreModel_perform_464 : decode b_ThumbCoreModel_perform 464 = .ok (.iconst 2, 1) := by decide +kernel
theorem d_ThumbCoreModel_perform_465 : decode b_ThumbCoreModel_perform 465 = .ok (.aload_n 0, 1) := by decide +kernel
theorem d_ThumbCoreModel_perform_466 : decode b_ThumbCoreModel_perform 466 = .ok (.getfield 125, 3) := by decide +kernel
theorem d_ThumbCoreModel_perform_469 : decode b_ThumbCoreModel_perform 469 = .ok (.bipush 21, 2) := by decide +kernel
theorem d_ThumbCoreModel_perform_471 : decode b_ThumbCoreModel_perform 471 = .ok (.ishl, 1) := by decide +kernel
theorem d_ThumbCoreModel_perform_472 : decode b_ThumbCoreModel_perform 472 = .ok (.bipush 21, 2) := by decide +kernel
theorem d_ThumbCoreModel_perform_474 : decode b_ThumbCoreModel_perform 474 = .ok (.ishr, 1) := by decide +kernel
theorem d_ThumbCoreModel_perform_475 : decode b_ThumbCoreModel_perform 475 = .ok (.imul, 1) := by decide +kernel
theorem d_ThumbCoreModel_perform_476 : decode b_ThumbCoreModel_perform 476 = .ok (.iadd, 1) := by decide +kernel
theorem d_ThumbCoreModel_perform_477 : decode b_ThumbCoreModel_perform 477 = .ok (.putfield 115, 3) := by decide +kernel
theorem d_ThumbCoreModel_perform_480 : decode b_ThumbCoreModel_perform 480 = .ok (.goto 21, 3) := by decide +kernel
theorem d_ThumbCoreModel_perform_483 : decode b_ThumbCoreModel_perform 483 = .ok (.iload_n 1, 1) := by decide +kernel
theorem d_ThumbCoreModel_perform_484 : decode b_ThumbCoreModel_perform 484 = .ok (.bipush 30, 2) := by decide +kernel
theorem d_ThumbCoreModel_perform_486 : decode b_ThumbCoreModel_perform 486 = .ok (.if_icmp .ne 10, 3) := by decide +kernel
theorem d_ThumbCoreModel_perform_489 : decode b_ThumbCoreModel_perform 489 = .ok (.aload_n 0, 1) := by decide +kernel
theorem d_ThumbCoreModel_perform_490 : decode b_ThumbCoreModel_perform 490 = .ok (.invokevirtual 196, 3) := by decide +kernel
theorem d_ThumbCoreModel_perform_493 : decode b_ThumbCoreModel_perform 493 = .ok (.goto 8, 3) := by decide +kernel
theorem d_ThumbCoreModel_perform_496 : decode b_ThumbCoreModel_perform 496 = .ok (.aload_n 0, 1) := by decide +kernel
theorem d_ThumbCoreModel_perform_497 : decode b_ThumbCoreModel_perform 497 = .ok (.iconst 1, 1) := by decide +kernel
theorem d_ThumbCoreModel_perform_498 : decode b_ThumbCoreModel_perform 498 = .ok (.putfield 41, 3) := by decide +kernel
theorem d_ThumbCoreModel_perform_501 : decode b_ThumbCoreModel_perform 501 = .ok (.return_, 1) := by decide +kernel
theorem d_ThumbCoreModel_instruct_0 : decode b_ThumbCoreModel_instruct 0 = .ok (.iconst 0, 1) := by decide +kernel
theorem d_ThumbCoreModel_instruct_1 : decode b_ThumbCoreModel_instruct 1 = .ok (.istore_n 1, 1) := by decide +kernel
theorem d_ThumbCoreModel_instruct_2 : decode b_ThumbCoreModel_instruct 2 = .ok (.iload_n 1, 1) := by decide +kernel
theorem d_ThumbCoreModel_instruct_3 : decode b_ThumbCoreModel_instruct 3 = .ok (.bipush 16, 2) := by decide +kernel
theorem d_ThumbCoreModel_instruct_5 : decode b_ThumbCoreModel_instruct 5 = .ok (.if_icmp .ge 21, 3) := by decide +kernel
theorem d_ThumbCoreModel_instruct_8 : decode b_ThumbCoreModel_instruct 8 = .ok (.aload_n 0, 1) := by decide +kernel
theorem d_ThumbCoreModel_instruct_9 : decode b_ThumbCoreModel_instruct 9 = .ok (.getfield 17, 3) := by decide +kernel
theorem d_ThumbCoreModel_instruct_12 : decode b_ThumbCoreModel_instruct 12 = .ok (.iload_n 1, 1) := by decide +kernel
theorem d_ThumbCoreModel_instruct_13 : decode b_ThumbCoreModel_instruct 13 = .ok (.aload_n 0, 1) := by decide +kernel
theorem d_ThumbCoreModel_instruct_14 : decode b_ThumbCoreModel_instruct 14 = .ok (.getfield 13, 3) := by decide +kernel
theorem d_ThumbCoreModel_instruct_17 : decode b_ThumbCoreModel_instruct 17 = .ok (.iload_n 1, 1) := by decide +kernel
theorem d_ThumbCoreModel_instruct_18 : decode b_ThumbCoreModel_instruct 18 = .ok (.iaload, 1) := by decide +kernel
theorem d_ThumbCoreModel_instruct_19 : decode b_ThumbCoreModel_instruct 19 = .ok (.iastore, 1) := by decide +kernel
theorem d_ThumbCoreModel_instruct_20 : decode b_ThumbCoreModel_instruct 20 = .ok (.iinc 1 1, 3) := by decide +kernel
theorem d_ThumbCoreModel_instruct_23 : decode b_ThumbCoreModel_instruct 23 = .ok (.goto (-21), 3) := by decide +kernel
theorem d_ThumbCoreModel_instruct_26 : decode b_ThumbCoreModel_instruct 26 = .ok (.aload_n 0, 1) := by decide +kernel
theorem d_ThumbCoreModel_instruct_27 : decode b_ThumbCoreModel_instruct 27 = .ok (.aload_n 0, 1) := by decide +kernel
theorem d_ThumbCoreModel_instruct_28 : decode b_ThumbCoreModel_instruct 28 = .ok (.invokevirtual 86, 3) := by decide +kernel
theorem d_ThumbCoreModel_instruct_31 : decode b_ThumbCoreModel_instruct 31 = .ok (.putfield 199, 3) := by decide +kernel
theorem d_ThumbCoreModel_instruct_34 : decode b_ThumbCoreModel_instruct 34 = .ok (.aload_n 0, 1) := by decide +kernel
theorem d_ThumbCoreModel_instruct_35 : decode b_ThumbCoreModel_instruct 35 = .ok (.iconst 0, 1) := by decide +kernel
theorem d_ThumbCoreModel_instruct_36 : decode b_ThumbCoreModel_instruct 36 = .ok (.putfield 41, 3) := by decide +kernel
theorem d_ThumbCoreModel_instruct_39 : decode b_ThumbCoreModel_instruct 39 = .ok (.aload_n 0, 1) := by decide +kernel
theorem d_ThumbCoreModel_instruct_40 : decode b_ThumbCoreModel_instruct 40 = .ok (.iconst 0, 1) := by decide +kernel
theorem d_ThumbCoreModel_instruct_41 : decode b_ThumbCoreModel_instruct 41 = .ok (.putfield 167, 3) := by decide +kernel
theorem d_ThumbCoreModel_instruct_44 : decode b_ThumbCoreModel_instruct 44 = .ok (.aload_n 0, 1) := by decide +kernel
theorem d_ThumbCoreModel_instruct_45 : decode b_ThumbCoreModel_instruct 45 = .ok (.aload_n 0, 1) := by decide +kernel
theorem d_ThumbCoreModel_instruct_46 : decode b_ThumbCoreModel_instruct 46 = .ok (.aload_n 0, 1) := by decide +kernel
theorem d_ThumbCoreModel_instruct_47 : decode b_ThumbCoreModel_instruct 47 = .ok (.getfield 13, 3) := by decide +kernel
theorem d_ThumbCoreModel_instruct_50 : decode b_ThumbCoreModel_instruct 50 = .ok (.bipush 15, 2) := by decide +kernel
theorem d_ThumbCoreModel_instruct_52 : decode b_ThumbCoreModel_instruct 52 = .ok (.iaload, 1) := by decide +kernel
theorem d_ThumbCoreModel_instruct_53 : decode b_ThumbCoreModel_instruct 53 = .ok (.iconst 2, 1) := by decide +kernel
theorem d_ThumbCoreModel_instruct_54 : decode b_ThumbCoreModel_instruct 54 = .ok (.invokevirtual 45, 3) := by decide +kernel
theorem d_ThumbCoreModel_instruct_57 : decode b_ThumbCoreModel_instruct 57 = .ok (.putfield 125, 3) := by decide +kernel
theorem d_ThumbCoreModel_instruct_60 : decode b_ThumbCoreModel_instruct 60 = .ok (.aload_n 0, 1) := by decide +kernel
theorem d_ThumbCoreModel_instruct_61 : decode b_ThumbCoreModel_instruct 61 = .ok (.aload_n 0, 1) := by decide +kernel
theorem d_ThumbCoreModel_instruct_62 : decode b_ThumbCoreModel_instruct 62 = .ok (.getfield 13, 3) := by decide +kernel
theorem d_ThumbCoreModel_instruct_65 : decode b_ThumbCoreModel_instruct 65 = .ok (.bipush 15, 2) := by decide +kernel
theorem d_ThumbCoreModel_instruct_67 : decode b_ThumbCoreModel_instruct 67 = .ok (.iaload, 1) := by decide +kernel
theorem d_ThumbCoreModel_instruct_68 : decode b_ThumbCoreModel_instruct 68 = .ok (.iconst 2, 1) := by decide +kernel
theorem d_ThumbCoreModel_instruct_69 : decode b_ThumbCoreModel_instruct 69 = .ok (.iadd, 1) := by decide +kernel
theorem d_ThumbCoreModel_instruct_70 : decode b_ThumbCoreModel_instruct 70 = .ok (.putfield 115, 3) := by decide +kernel
theorem d_ThumbCoreModel_instruct_73 : decode b_ThumbCoreModel_instruct 73 = .ok (.aload_n 0, 1) := by decide +kernel
theorem d_ThumbCoreModel_instruct_74 : decode b_ThumbCoreModel_instruct 74 = .ok (.getfield 41, 3) := by decide +kernel
theorem d_ThumbCoreModel_instruct_77 : decode b_ThumbCoreModel_instruct 77 = .ok (.ifCond .ne 7, 3) := by decide +kernel
theorem d_ThumbCoreModel_instruct_80 : decode b_ThumbCoreModel_instruct 80 = .ok (.aload_n 0, 1) := by decide +kernel
theorem d_ThumbCoreModel_instruct_81 : decode b_ThumbCoreModel_instruct 81 = .ok (.invokevirtual 202, 3) := by decide +kernel
theorem d_ThumbCoreModel_instruct_84 : decode b_ThumbCoreModel_instruct 84 = .ok (.aload_n 0, 1) := by decide +kernel
theorem d_ThumbCoreModel_instruct_85 : decode b_ThumbCoreModel_instruct 85 = .ok (.getfield 41, 3) := by decide +kernel
theorem d_ThumbCoreModel_instruct_88 : decode b_ThumbCoreModel_instruct 88 = .ok (.ifCond .eq 44, 3) := by decide +kernel
theorem d_ThumbCoreModel_instruct_91 : decode b_ThumbCoreModel_instruct 91 = .ok (.iconst 0, 1) := by decide +kernel
theorem d_ThumbCoreModel_instruct_92 : decode b_ThumbCoreModel_instruct 92 = .ok (.istore_n 1, 1) := by decide +kernel
theorem d_ThumbCoreModel_instruct_93 : decode b_ThumbCoreModel_instruct 93 = .ok (.iload_n 1, 1) := by decide +kernel
theorem d_ThumbCoreModel_instruct_94 : decode b_ThumbCoreModel_instruct 94 = .ok (.bipush 16, 2) := by decide +kernel
theorem d_ThumbCoreModel_instruct_96 : decode b_ThumbCoreModel_instruct 96 = .ok (.if_icmp .ge 21, 3) := by decide +kernel
theorem d_ThumbCoreModel_instruct_99 : decode b_ThumbCoreModel_instruct 99 = .ok (.aload_n 0, 1) := by decide +kernel
theorem d_ThumbCoreModel_instruct_100 : decode b_ThumbCoreModel_instruct 100 = .ok (.getfield 13, 3) := by decide +kernel
theorem d_ThumbCoreModel_instruct_103 : decode b_ThumbCoreModel_instruct 103 = .ok (.iload_n 1, 1) := by decide +kernel
theorem d_ThumbCoreModel_instruct_104 : decode b_ThumbCoreModel_instruct 104 = .ok (.aload_n 0, 1) := by decide +kernel
theorem d_ThumbCoreModel_instruct_105 : decode b_ThumbCoreModel_instruct 105 = .ok (.getfield 17, 3) := by decide +kernel
theorem d_ThumbCoreModel_instruct_108 : decode b_ThumbCoreModel_instruct 108 = .ok (.iload_n 1, 1) := by decide +kernel
theorem d_ThumbCoreModel_instruct_109 : decode b_ThumbCoreModel_instruct 109 = .ok (.iaload, 1) := by decide +kernel
theorem d_ThumbCoreModel_instruct_110 : decode b_ThumbCoreModel_instruct 110 = .ok (.iastore, 1) := by decide +kernel
theorem d_ThumbCoreModel_instruct_111 : decode b_ThumbCoreModel_instruct 111 = .ok (.iinc 1 1, 3) := by decide +kernel
theorem d_ThumbCoreModel_instruct_114 : decode b_ThumbCoreModel_instruct 114 = .ok (.goto (-21), 3) := by decide +kernel
theorem d_ThumbCoreModel_instruct_117 : decode b_ThumbCoreModel_instruct 117 = .ok (.aload_n 0, 1) := by decide +kernel
theorem d_ThumbCoreModel_instruct_118 : decode b_ThumbCoreModel_instruct 118 = .ok (.aload_n 0, 1) := by decide +kernel
theorem d_ThumbCoreModel_instruct_119 : decode b_ThumbCoreModel_instruct 119 = .ok (.getfield 199, 3) := by decide +kernel
theorem d_ThumbCoreModel_instruct_122 : decode b_ThumbCoreModel_instruct 122 = .ok (.invokevirtual 49, 3) := by decide +kernel
theorem d_ThumbCoreModel_instruct_125 : decode b_ThumbCoreModel_instruct 125 = .ok (.aload_n 0, 1) := by decide +kernel
theorem d_ThumbCoreModel_instruct_126 : decode b_ThumbCoreModel_instruct 126 = .ok (.invokevirtual 205, 3) := by decide +kernel
theorem d_ThumbCoreModel_instruct_129 : decode b_ThumbCoreModel_instruct 129 = .ok (.goto 21, 3) := by decide +kernel
theorem d_ThumbCoreModel_instruct_132 : decode b_ThumbCoreModel_instruct 132 = .ok (.aload_n 0, 1) := by decide +kernel
theorem d_ThumbCoreModel_instruct_133 : decode b_ThumbCoreModel_instruct 133 = .ok (.getfield 167, 3) := by decide +kernel
theorem d_ThumbCoreModel_instruct_136 : decode b_ThumbCoreModel_instruct 136 = .ok (.ifCond .ne 14, 3) := by decide +kernel
theorem d_ThumbCoreModel_instruct_139 : decode b_ThumbCoreModel_instruct 139 = .ok (.aload_n 0, 1) := by decide +kernel
theorem d_ThumbCoreModel_instruct_140 : decode b_ThumbCoreModel_instruct 140 = .ok (.getfield 13, 3) := by decide +kernel
theorem d_ThumbCoreModel_instruct_143 : decode b_ThumbCoreModel_instruct 143 = .ok (.bipush 15, 2) := by decide +kernel
theorem d_ThumbCoreModel_instruct_145 : decode b_ThumbCoreModel_instruct 145 = .ok (.aload_n 0, 1) := by decide +kernel
theorem d_ThumbCoreModel_instruct_146 : decode b_ThumbCoreModel_instruct 146 = .ok (.getfield 115, 3) := by decide +kernel
theorem d_ThumbCoreModel_instruct_149 : decode b_ThumbCoreModel_instruct 149 = .ok (.iastore, 1) := by decide +kernel
theorem d_ThumbCoreModel_instruct_150 : decode b_ThumbCoreModel_instruct 150 = .ok (.return_, 1) := by decide +kernel
theorem d_ThumbCoreModel_tickOnce_0 : decode b_ThumbCoreModel_tickOnce 0 = .ok (.aload_n 0, 1) := by decide +kernel
theorem d_ThumbCoreModel_tickOnce_1 : decode b_ThumbCoreModel_tickOnce 1 = .ok (.getfield 62, 3) := by decide +kernel
theorem d_ThumbCoreModel_tickOnce_4 : decode b_ThumbCoreModel_tickOnce 4 = .ok (.ifCond .ne 4, 3) := by decide +kernel
theorem d_ThumbCoreModel_tickOnce_7 : decode b_ThumbCoreModel_tickOnce 7 = .ok (.return_, 1) := by decide +kernel
theorem d_ThumbCoreModel_tickOnce_8 : decode b_ThumbCoreModel_tickOnce 8 = .ok (.aload_n 0, 1) := by decide +kernel
theorem d_ThumbCoreModel_tickOnce_9 : decode b_ThumbCoreModel_tickOnce 9 = .ok (.getfield 65, 3) := by decide +kernel
theorem d_ThumbCoreModel_tickOnce_12 : decode b_ThumbCoreModel_tickOnce 12 = .ok (.ifCond .ne 7, 3) := by decide +kernel
theorem d_ThumbCoreModel_tickOnce_15 : decode b_ThumbCoreModel_tickOnce 15 = .ok (.iconst 1, 1) := by decide +kernel
theorem d_ThumbCoreModel_tickOnce_16 : decode b_ThumbCoreModel_tickOnce 16 = .ok (.goto 4, 3) := by decide +kernel
theorem d_ThumbCoreModel_tickOnce_19 : decode b_ThumbCoreModel_tickOnce 19 = .ok (.iconst 0, 1) := by decide +kernel
theorem d_ThumbCoreModel_tickOnce_20 : decode b_ThumbCoreModel_tickOnce 20 = .ok (.istore_n 1, 1) := by decide +kernel
theorem d_ThumbCoreModel_tickOnce_21 : decode b_ThumbCoreModel_tickOnce 21 = .ok (.aload_n 0, 1) := by decide +kernel
theorem d_ThumbCoreModel_tickOnce_22 : decode b_ThumbCoreModel_tickOnce 22 = .ok (.iload_n 1, 1) := by decide +kernel
theorem d_ThumbCoreModel_tickOnce_23 : decode b_ThumbCoreModel_tickOnce 23 = .ok (.ifCond .eq 10, 3) := by decide +kernel
theorem d_ThumbCoreModel_tickOnce_26 : decode b_ThumbCoreModel_tickOnce 26 = .ok (.aload_n 0, 1) := by decide +kernel
theorem d_ThumbCoreModel_tickOnce_27 : decode b_ThumbCoreModel_tickOnce 27 = .ok (.getfield 68, 3) := by decide +kernel
theorem d_ThumbCoreModel_tickOnce_30 : decode b_ThumbCoreModel_tickOnce 30 = .ok (.goto 9, 3) := by decide +kernel
theorem d_ThumbCoreModel_tickOnce_33 : decode b_ThumbCoreModel_tickOnce 33 = .ok (.aload_n 0, 1) := by decide +kernel
theorem d_ThumbCoreModel_tickOnce_34 : decode b_ThumbCoreModel_tickOnce 34 = .ok (.getfield 65, 3) := by decide +kernel
theorem d_ThumbCoreModel_tickOnce_37 : decode b_ThumbCoreModel_tickOnce 37 = .ok (.iconst 1, 1) := by decide +kernel
theorem d_ThumbCoreModel_tickOnce_38 : decode b_ThumbCoreModel_tickOnce 38 = .ok (.isub, 1) := by decide +kernel
theorem d_ThumbCoreModel_tickOnce_39 : decode b_ThumbCoreModel_tickOnce 39 = .ok (.putfield 65, 3) := by decide +kernel
theorem d_ThumbCoreModel_tickOnce_42 : decode b_ThumbCoreModel_tickOnce 42 = .ok (.aload_n 0, 1) := by decide +kernel
theorem d_ThumbCoreModel_tickOnce_43 : decode b_ThumbCoreModel_tickOnce 43 = .ok (.getfield 20, 3) := by decide +kernel
theorem d_ThumbCoreModel_tickOnce_46 : decode b_ThumbCoreModel_tickOnce 46 = .ok (.bipush 15, 2) := by decide +kernel
theorem d_ThumbCoreModel_tickOnce_48 : decode b_ThumbCoreModel_tickOnce 48 = .ok (.aload_n 0, 1) := by decide +kernel
theorem d_ThumbCoreModel_tickOnce_49 : decode b_ThumbCoreModel_tickOnce 49 = .ok (.getfield 20, 3) := by decide +kernel
theorem d_ThumbCoreModel_tickOnce_52 : decode b_ThumbCoreModel_tickOnce 52 = .ok (.bipush 15, 2) := by decide +kernel
theorem d_ThumbCoreModel_tickOnce_54 : decode b_ThumbCoreModel_tickOnce 54 = .ok (.baload, 1) := by decide +kernel
theorem d_ThumbCoreModel_tickOnce_55 : decode b_ThumbCoreModel_tickOnce 55 = .ok (.ifCond .ne 14, 3) := by decide +kernel
theorem d_ThumbCoreModel_tickOnce_58 : decode b_ThumbCoreModel_tickOnce 58 = .ok (.iload_n 1, 1) := by decide +kernel
theorem d_ThumbCoreModel_tickOnce_59 : decode b_ThumbCoreModel_tickOnce 59 = .ok (.ifCond .ne 14, 3) := by decide +kernel
theorem d_ThumbCoreModel_tickOnce_62 : decode b_ThumbCoreModel_tickOnce 62 = .ok (.aload_n 0, 1) := by decide +kernel
theorem d_ThumbCoreModel_tickOnce_63 : decode b_ThumbCoreModel_tickOnce 63 = .ok (.getfield 65, 3) := by decide +kernel
theorem d_ThumbCoreModel_tickOnce_66 : decode b_ThumbCoreModel_tickOnce 66 = .ok (.ifCond .ne 7, 3) := by decide +kernel
theorem d_ThumbCoreModel_tickOnce_69 : decode b_ThumbCoreModel_tickOnce 69 = .ok (.iconst 1, 1) := by decide +kernel
theorem d_ThumbCoreModel_tickOnce_70 : decode b_ThumbCoreModel_tickOnce 70 = .ok (.goto 4, 3) := by decide +kernel
theorem d_ThumbCoreModel_tickOnce_73 : decode b_ThumbCoreModel_tickOnce 73 = .ok (.iconst 0, 1) := by decide +kernel
theorem d_ThumbCoreModel_tickOnce_74 : decode b_ThumbCoreModel_tickOnce 74 = .ok (.bastore, 1) := by decide +kernel
theorem d_ThumbCoreModel_tickOnce_75 : decode b_ThumbCoreModel_tickOnce 75 = .ok (.return_, 1) := by decide +kernel
theorem d_ThumbCoreModel_step_0 : decode b_ThumbCoreModel_step 0 = .ok (.aload_n 0, 1) := by decide +kernel
theorem d_ThumbCoreModel_step_1 : decode b_ThumbCoreModel_step 1 = .ok (.getfield 59, 3) := by decide +kernel
theorem d_ThumbCoreModel_step_4 : decode b_ThumbCoreModel_step 4 = .ok (.ifCond .eq 5, 3) := by decide +kernel
theorem d_ThumbCoreModel_step_7 : decode b_ThumbCoreModel_step 7 = .ok (.iconst 3, 1) := by decide +kernel
theorem d_ThumbCoreModel_step_8 : decode b_ThumbCoreModel_step 8 = .ok (.ireturn, 1) := by decide +kernel
theorem d_ThumbCoreModel_step_9 : decode b_ThumbCoreModel_step 9 = .ok (.aload_n 0, 1) := by decide +kernel
theorem d_ThumbCoreModel_step_10 : decode b_ThumbCoreModel_step 10 = .ok (.invokevirtual 208, 3) := by decide +kernel
theorem d_ThumbCoreModel_step_13 : decode b_ThumbCoreModel_step 13 = .ok (.aload_n 0, 1) := by decide +kernel
theorem d_ThumbCoreModel_step_14 : decode b_ThumbCoreModel_step 14 = .ok (.getfield 56, 3) := by decide +kernel
theorem d_ThumbCoreModel_step_17 : decode b_ThumbCoreModel_step 17 = .ok (.ifCond .eq 17, 3) := by decide +kernel
theorem d_ThumbCoreModel_step_20 : decode b_ThumbCoreModel_step 20 = .ok (.aload_n 0, 1) := by decide +kernel
theorem d_ThumbCoreModel_step_21 : decode b_ThumbCoreModel_step 21 = .ok (.aload_n 0, 1) := by decide +kernel
theorem d_ThumbCoreModel_step_22 : decode b_ThumbCoreModel_step 22 = .ok (.iconst 0, 1) := by decide +kernel
theorem d_ThumbCoreModel_step_23 : decode b_ThumbCoreModel_step 23 = .ok (.invokevirtual 107, 3) := by decide +kernel
theorem d_ThumbCoreModel_step_26 : decode b_ThumbCoreModel_step 26 = .ok (.invokevirtual 211, 3) := by decide +kernel
theorem d_ThumbCoreModel_step_29 : decode b_ThumbCoreModel_step 29 = .ok (.ifCond .ne 5, 3) := by decide +kernel
theorem d_ThumbCoreModel_step_32 : decode b_ThumbCoreModel_step 32 = .ok (.iconst 2, 1) := by decide +kernel
theorem d_ThumbCoreModel_step_33 : decode b_ThumbCoreModel_step 33 = .ok (.ireturn, 1) := by decide +kernel
theorem d_ThumbCoreModel_step_34 : decode b_ThumbCoreModel_step 34 = .ok (.aload_n 0, 1) := by decide +kernel
theorem d_ThumbCoreModel_step_35 : decode b_ThumbCoreModel_step 35 = .ok (.iconst 0, 1) := by decide +kernel
theorem d_ThumbCoreModel_step_36 : decode b_ThumbCoreModel_step 36 = .ok (.putfield 56, 3) := by decide +kernel
theorem d_ThumbCoreModel_step_39 : decode b_ThumbCoreModel_step 39 = .ok (.aload_n 0, 1) := by decide +kernel
theorem d_ThumbCoreModel_step_40 : decode b_ThumbCoreModel_step 40 = .ok (.aload_n 0, 1) := by decide +kernel
theorem d_ThumbCoreModel_step_41 : decode b_ThumbCoreModel_step 41 = .ok (.iconst 1, 1) := by decide +kernel
theorem d_ThumbCoreModel_step_42 : decode b_ThumbCoreModel_step 42 = .ok (.invokevirtual 107, 3) := by decide +kernel
theorem d_ThumbCoreModel_step_45 : decode b_ThumbCoreModel_step 45 = .ok (.invokevirtual 211, 3) := by decide +kernel
theorem d_ThumbCoreModel_step_48 : decode b_ThumbCoreModel_step 48 = .ok (.istore_n 1, 1) := by decide +kernel
theorem d_ThumbCoreModel_step_49 : decode b_ThumbCoreModel_step 49 = .ok (.iload_n 1, 1) := by decide +kernel
theorem d_ThumbCoreModel_step_50 : decode b_ThumbCoreModel_step 50 = .ok (.ifCond .le 18, 3) := by decide +kernel
theorem d_ThumbCoreModel_step_53 : decode b_ThumbCoreModel_step 53 = .ok (.aload_n 0, 1) := by decide +kernel
theorem d_ThumbCoreModel_step_54 : decode b_ThumbCoreModel_step 54 = .ok (.iload_n 1, 1) := by decide +kernel
theorem d_ThumbCoreModel_step_55 : decode b_ThumbCoreModel_step 55 = .ok (.aload_n 0, 1) := by decide +kernel
theorem d_ThumbCoreModel_step_56 : decode b_ThumbCoreModel_step 56 = .ok (.getfield 13, 3) := by decide +kernel
theorem d_ThumbCoreModel_step_59 : decode b_ThumbCoreModel_step 59 = .ok (.bipush 15, 2) := by decide +kernel
theorem d_ThumbCoreModel_step_61 : decode b_ThumbCoreModel_step 61 = .ok (.iaload, 1) := by decide +kernel
theorem d_ThumbCoreModel_step_62 : decode b_ThumbCoreModel_step 62 = .ok (.invokevirtual 111, 3) := by decide +kernel
theorem d_ThumbCoreModel_step_65 : decode b_ThumbCoreModel_step 65 = .ok (.goto 7, 3) := by decide +kernel
theorem d_ThumbCoreModel_step_68 : decode b_ThumbCoreModel_step 68 = .ok (.aload_n 0, 1) := by decide +kernel
theorem d_ThumbCoreModel_step_69 : decode b_ThumbCoreModel_step 69 = .ok (.invokevirtual 214, 3) := by decide +kernel
theorem d_ThumbCoreModel_step_72 : decode b_ThumbCoreModel_step 72 = .ok (.aload_n 0, 1) := by decide +kernel
theorem d_ThumbCoreModel_step_73 : decode b_ThumbCoreModel_step 73 = .ok (.getfield 59, 3) := by decide +kernel
theorem d_ThumbCoreModel_step_76 : decode b_ThumbCoreModel_step 76 = .ok (.ifCond .eq 7, 3) := by decide +kernel
theorem d_ThumbCoreModel_step_79 : decode b_ThumbCoreModel_step 79 = .ok (.iconst 3, 1) := by decide +kernel
theorem d_ThumbCoreModel_step_80 : decode b_ThumbCoreModel_step 80 = .ok (.goto 12, 3) := by decide +kernel
theorem d_ThumbCoreModel_step_83 : decode b_ThumbCoreModel_step 83 = .ok (.iload_n 1, 1) := by decide +kernel
theorem d_ThumbCoreModel_step_84 : decode b_ThumbCoreModel_step 84 = .ok (.ifCond .le 7, 3) := by decide +kernel
theorem d_ThumbCoreModel_step_87 : decode b_ThumbCoreModel_step 87 = .ok (.iconst 1, 1) := by decide +kernel
theorem d_ThumbCoreModel_step_88 : decode b_ThumbCoreModel_step 88 = .ok (.goto 4, 3) := by decide +kernel
theorem d_ThumbCoreModel_step_91 : decode b_ThumbCoreModel_step 91 = .ok (.iconst 0, 1) := by decide +kernel
theorem d_ThumbCoreModel_step_92 : decode b_ThumbCoreModel_step 92 = .ok (.ireturn, 1) := by decide +kernel
theorem d_ThumbCoreModel_run_0 : decode b_ThumbCoreModel_run 0 = .ok (.iload_n 1, 1) := by decide +kernel
theorem d_ThumbCoreModel_run_1 : decode b_ThumbCoreModel_run 1 = .ok (.ifCond .lt 9, 3) := by decide +kernel
theorem d_ThumbCoreModel_run_4 : decode b_ThumbCoreModel_run 4 = .ok (.iload_n 1, 1) := by decide +kernel
theorem d_ThumbCoreModel_run_5 : decode b_ThumbCoreModel_run 5 = .ok (.bipush 100, 2) := by decide +kernel
theorem d_ThumbCoreModel_run_7 : decode b_ThumbCoreModel_run 7 = .ok (.if_icmp .le 5, 3) := by decide +kernel
theorem d_ThumbCoreModel_run_10 : decode b_ThumbCoreModel_run 10 = .ok (.iconst (-1), 1) := by decide +kernel
theorem d_ThumbCoreModel_run_11 : decode b_ThumbCoreModel_run 11 = .ok (.ireturn, 1) := by decide +kernel
theorem d_ThumbCoreModel_run_12 : decode b_ThumbCoreModel_run 12 = .ok (.iconst 0, 1) := by decide +kernel
theorem d_ThumbCoreModel_run_13 : decode b_ThumbCoreModel_run 13 = .ok (.istore_n 2, 1) := by decide +kernel
theorem d_ThumbCoreModel_run_14 : decode b_ThumbCoreModel_run 14 = .ok (.iconst 1, 1) := by decide +kernel
theorem d_ThumbCoreModel_run_15 : decode b_ThumbCoreModel_run 15 = .ok (.istore_n 3, 1) := by decide +kernel
theorem d_ThumbCoreModel_run_16 : decode b_ThumbCoreModel_run 16 = .ok (.iconst 0, 1) := by decide +kernel
theorem d_ThumbCoreModel_run_17 : decode b_ThumbCoreModel_run 17 = .ok (.istore 4, 2) := by decide +kernel
theorem d_ThumbCoreModel_run_19 : decode b_ThumbCoreModel_run 19 = .ok (.iload 4, 2) := by decide +kernel
theorem d_ThumbCoreModel_run_21 : decode b_ThumbCoreModel_run 21 = .ok (.iload_n 1, 1) := by decide +kernel
theorem d_ThumbCoreModel_run_22 : decode b_ThumbCoreModel_run 22 = .ok (.if_icmp .ge 39, 3) := by decide +kernel
theorem d_ThumbCoreModel_run_25 : decode b_ThumbCoreModel_run 25 = .ok (.iload_n 3, 1) := by decide +kernel
theorem d_ThumbCoreModel_run_26 : decode b_ThumbCoreModel_run 26 = .ok (.ifCond .eq 35, 3) := by decide +kernel
theorem d_ThumbCoreModel_run_29 : decode b_ThumbCoreModel_run 29 = .ok (.aload_n 0, 1) := by decide +kernel
theorem d_ThumbCoreModel_run_30 : decode b_ThumbCoreModel_run 30 = .ok (.invokevirtual 217, 3) := by decide +kernel
theorem d_ThumbCoreModel_run_33 : decode b_ThumbCoreModel_run 33 = .ok (.iconst 2, 1) := by decide +kernel
theorem d_ThumbCoreModel_run_34 : decode b_ThumbCoreModel_run 34 = .ok (.if_icmp .ge 7, 3) := by decide +kernel
