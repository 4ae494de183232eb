theorem d_ThumbCore_enter_166 : decode b_ThumbCore_enter 166 = .ok (.getfield 131, 3) := by decide +kernel
theorem d_ThumbCore_enter_169 : decode b_ThumbCore_enter 169 = .ok (.ifCond .ne 8, 3) := by decide +kernel
theorem d_ThumbCore_enter_172 : decode b_ThumbCore_enter 172 = .ok (.bipush (-7), 2) := by decide +kernel
theorem d_ThumbCore_enter_174 : decode b_ThumbCore_enter 174 = .ok (.goto 5, 3) := by decide +kernel
theorem d_ThumbCore_enter_177 : decode b_ThumbCore_enter 177 = .ok (.bipush (-15), 2) := by decide +kernel
theorem d_ThumbCore_enter_179 : decode b_ThumbCore_enter 179 = .ok (.iastore, 1) := by decide +kernel
theorem d_ThumbCore_enter_180 : decode b_ThumbCore_enter 180 = .ok (.aload_n 0, 1) := by decide +kernel
theorem d_ThumbCore_enter_181 : decode b_ThumbCore_enter 181 = .ok (.getfield 27, 3) := by decide +kernel
theorem d_ThumbCore_enter_184 : decode b_ThumbCore_enter 184 = .ok (.bipush 15, 2) := by decide +kernel
theorem d_ThumbCore_enter_186 : decode b_ThumbCore_enter 186 = .ok (.iload 5, 2) := by decide +kernel
theorem d_ThumbCore_enter_188 : decode b_ThumbCore_enter 188 = .ok (.bipush (-2), 2) := by decide +kernel
theorem d_ThumbCore_enter_190 : decode b_ThumbCore_enter 190 = .ok (.iand, 1) := by decide +kernel
theorem d_ThumbCore_enter_191 : decode b_ThumbCore_enter 191 = .ok (.iastore, 1) := by decide +kernel
theorem d_ThumbCore_enter_192 : decode b_ThumbCore_enter 192 = .ok (.aload_n 0, 1) := by decide +kernel
theorem d_ThumbCore_enter_193 : decode b_ThumbCore_enter 193 = .ok (.getfield 41, 3) := by decide +kernel
theorem d_ThumbCore_enter_196 : decode b_ThumbCore_enter 196 = .ok (.iload_n 1, 1) := by decide +kernel
theorem d_ThumbCore_enter_197 : decode b_ThumbCore_enter 197 = .ok (.invokevirtual 315, 3) := by decide +kernel
theorem d_ThumbCore_enter_200 : decode b_ThumbCore_enter 200 = .ok (.return_, 1) := by decide +kernel
theorem d_ThumbCore_isReturn_0 : decode b_ThumbCore_isReturn 0 = .ok (.aload_n 0, 1) := by decide +kernel
theorem d_ThumbCore_isReturn_1 : decode b_ThumbCore_isReturn 1 = .ok (.getfield 41, 3) := by decide +kernel
theorem d_ThumbCore_isReturn_4 : decode b_ThumbCore_isReturn 4 = .ok (.getfield 131, 3) := by decide +kernel
theorem d_ThumbCore_isReturn_7 : decode b_ThumbCore_isReturn 7 = .ok (.ifCond .eq 19, 3) := by decide +kernel
theorem d_ThumbCore_isReturn_10 : decode b_ThumbCore_isReturn 10 = .ok (.iload_n 1, 1) := by decide +kernel
theorem d_ThumbCore_isReturn_11 : decode b_ThumbCore_isReturn 11 = .ok (.bipush (-7), 2) := by decide +kernel
theorem d_ThumbCore_isReturn_13 : decode b_ThumbCore_isReturn 13 = .ok (.if_icmp .eq 9, 3) := by decide +kernel
theorem d_ThumbCore_isReturn_16 : decode b_ThumbCore_isReturn 16 = .ok (.iload_n 1, 1) := by decide +kernel
theorem d_ThumbCore_isReturn_17 : decode b_ThumbCore_isReturn 17 = .ok (.bipush (-15), 2) := by decide +kernel
theorem d_ThumbCore_isReturn_19 : decode b_ThumbCore_isReturn 19 = .ok (.if_icmp .ne 7, 3) := by decide +kernel
theorem d_ThumbCore_isReturn_22 : decode b_ThumbCore_isReturn 22 = .ok (.iconst 1, 1) := by decide +kernel
theorem d_ThumbCore_isReturn_23 : decode b_ThumbCore_isReturn 23 = .ok (.goto 4, 3) := by decide +kernel
theorem d_ThumbCore_isReturn_26 : decode b_ThumbCore_isReturn 26 = .ok (.iconst 0, 1) := by decide +kernel
theorem d_ThumbCore_isReturn_27 : decode b_ThumbCore_isReturn 27 = .ok (.ireturn, 1) := by decide +kernel
theorem d_ThumbCore_mayGoTo_0 : decode b_ThumbCore_mayGoTo 0 = .ok (.aload_n 0, 1) := by decide +kernel
theorem d_ThumbCore_mayGoTo_1 : decode b_ThumbCore_mayGoTo 1 = .ok (.iload_n 1, 1) := by decide +kernel
theorem d_ThumbCore_mayGoTo_2 : decode b_ThumbCore_mayGoTo 2 = .ok (.invokevirtual 238, 3) := by decide +kernel
theorem d_ThumbCore_mayGoTo_5 : decode b_ThumbCore_mayGoTo 5 = .ok (.ifCond .ne 16, 3) := by decide +kernel
theorem d_ThumbCore_mayGoTo_8 : decode b_ThumbCore_mayGoTo 8 = .ok (.iload_n 1, 1) := by decide +kernel
theorem d_ThumbCore_mayGoTo_9 : decode b_ThumbCore_mayGoTo 9 = .ok (.iconst 1, 1) := by decide +kernel
theorem d_ThumbCore_mayGoTo_10 : decode b_ThumbCore_mayGoTo 10 = .ok (.iand, 1) := by decide +kernel
theorem d_ThumbCore_mayGoTo_11 : decode b_ThumbCore_mayGoTo 11 = .ok (.iconst 1, 1) := by decide +kernel
theorem d_ThumbCore_mayGoTo_12 : decode b_ThumbCore_mayGoTo 12 = .ok (.if_icmp .ne 7, 3) := by decide +kernel
theorem d_ThumbCore_mayGoTo_15 : decode b_ThumbCore_mayGoTo 15 = .ok (.iconst 1, 1) := by decide +kernel
theorem d_ThumbCore_mayGoTo_16 : decode b_ThumbCore_mayGoTo 16 = .ok (.goto 4, 3) := by decide +kernel
theorem d_ThumbCore_mayGoTo_19 : decode b_ThumbCore_mayGoTo 19 = .ok (.iconst 0, 1) := by decide +kernel
theorem d_ThumbCore_mayGoTo_20 : decode b_ThumbCore_mayGoTo 20 = .ok (.ireturn, 1) := by decide +kernel
theorem d_ThumbCore_mayGoTo_21 : decode b_ThumbCore_mayGoTo 21 = .ok (.aload_n 0, 1) := by decide +kernel
theorem d_ThumbCore_mayGoTo_22 : decode b_ThumbCore_mayGoTo 22 = .ok (.getfield 21, 3) := by decide +kernel
theorem d_ThumbCore_mayGoTo_25 : decode b_ThumbCore_mayGoTo 25 = .ok (.iload_n 2, 1) := by decide +kernel
theorem d_ThumbCore_mayGoTo_26 : decode b_ThumbCore_mayGoTo 26 = .ok (.bipush 8, 2) := by decide +kernel
theorem d_ThumbCore_mayGoTo_28 : decode b_ThumbCore_mayGoTo 28 = .ok (.invokevirtual 295, 3) := by decide +kernel
theorem d_ThumbCore_mayGoTo_31 : decode b_ThumbCore_mayGoTo 31 = .ok (.ifCond .ne 5, 3) := by decide +kernel
theorem d_ThumbCore_mayGoTo_34 : decode b_ThumbCore_mayGoTo 34 = .ok (.iconst 0, 1) := by decide +kernel
theorem d_ThumbCore_mayGoTo_35 : decode b_ThumbCore_mayGoTo 35 = .ok (.ireturn, 1) := by decide +kernel
theorem d_ThumbCore_mayGoTo_36 : decode b_ThumbCore_mayGoTo 36 = .ok (.aload_n 0, 1) := by decide +kernel
theorem d_ThumbCore_mayGoTo_37 : decode b_ThumbCore_mayGoTo 37 = .ok (.getfield 21, 3) := by decide +kernel
theorem d_ThumbCore_mayGoTo_40 : decode b_ThumbCore_mayGoTo 40 = .ok (.iload_n 2, 1) := by decide +kernel
theorem d_ThumbCore_mayGoTo_41 : decode b_ThumbCore_mayGoTo 41 = .ok (.bipush 28, 2) := by decide +kernel
theorem d_ThumbCore_mayGoTo_43 : decode b_ThumbCore_mayGoTo 43 = .ok (.iadd, 1) := by decide +kernel
theorem d_ThumbCore_mayGoTo_44 : decode b_ThumbCore_mayGoTo 44 = .ok (.invokevirtual 66, 3) := by decide +kernel
theorem d_ThumbCore_mayGoTo_47 : decode b_ThumbCore_mayGoTo 47 = .ok (.bipush 63, 2) := by decide +kernel
theorem d_ThumbCore_mayGoTo_49 : decode b_ThumbCore_mayGoTo 49 = .ok (.iand, 1) := by decide +kernel
theorem d_ThumbCore_mayGoTo_50 : decode b_ThumbCore_mayGoTo 50 = .ok (.istore_n 3, 1) := by decide +kernel
theorem d_ThumbCore_mayGoTo_51 : decode b_ThumbCore_mayGoTo 51 = .ok (.iload_n 1, 1) := by decide +kernel
theorem d_ThumbCore_mayGoTo_52 : decode b_ThumbCore_mayGoTo 52 = .ok (.bipush (-7), 2) := by decide +kernel
theorem d_ThumbCore_mayGoTo_54 : decode b_ThumbCore_mayGoTo 54 = .ok (.if_icmp .ne 14, 3) := by decide +kernel
theorem d_ThumbCore_mayGoTo_57 : decode b_ThumbCore_mayGoTo 57 = .ok (.aload_n 0, 1) := by decide +kernel
theorem d_ThumbCore_mayGoTo_58 : decode b_ThumbCore_mayGoTo 58 = .ok (.getfield 41, 3) := by decide +kernel
theorem d_ThumbCore_mayGoTo_61 : decode b_ThumbCore_mayGoTo 61 = .ok (.iload_n 3, 1) := by decide +kernel
theorem d_ThumbCore_mayGoTo_62 : decode b_ThumbCore_mayGoTo 62 = .ok (.invokevirtual 317, 3) := by decide +kernel
theorem d_ThumbCore_mayGoTo_65 : decode b_ThumbCore_mayGoTo 65 = .ok (.goto 11, 3) := by decide +kernel
theorem d_ThumbCore_mayGoTo_68 : decode b_ThumbCore_mayGoTo 68 = .ok (.aload_n 0, 1) := by decide +kernel
theorem d_ThumbCore_mayGoTo_69 : decode b_ThumbCore_mayGoTo 69 = .ok (.getfield 41, 3) := by decide +kernel
theorem d_ThumbCore_mayGoTo_72 : decode b_ThumbCore_mayGoTo 72 = .ok (.iload_n 3, 1) := by decide +kernel
theorem d_ThumbCore_mayGoTo_73 : decode b_ThumbCore_mayGoTo 73 = .ok (.invokevirtual 320, 3) := by decide +kernel
theorem d_ThumbCore_mayGoTo_76 : decode b_ThumbCore_mayGoTo 76 = .ok (.ireturn, 1) := by decide +kernel
theorem d_ThumbCore_goTo_0 : decode b_ThumbCore_goTo 0 = .ok (.aload_n 0, 1) := by decide +kernel
theorem d_ThumbCore_goTo_1 : decode b_ThumbCore_goTo 1 = .ok (.iload_n 1, 1) := by decide +kernel
theorem d_ThumbCore_goTo_2 : decode b_ThumbCore_goTo 2 = .ok (.invokevirtual 238, 3) := by decide +kernel
theorem d_ThumbCore_goTo_5 : decode b_ThumbCore_goTo 5 = .ok (.ifCond .ne 11, 3) := by decide +kernel
theorem d_ThumbCore_goTo_8 : decode b_ThumbCore_goTo 8 = .ok (.aload_n 0, 1) := by decide +kernel
theorem d_ThumbCore_goTo_9 : decode b_ThumbCore_goTo 9 = .ok (.iload_n 1, 1) := by decide +kernel
theorem d_ThumbCore_goTo_10 : decode b_ThumbCore_goTo 10 = .ok (.iconst 1, 1) := by decide +kernel
theorem d_ThumbCore_goTo_11 : decode b_ThumbCore_goTo 11 = .ok (.isub, 1) := by decide +kernel
theorem d_ThumbCore_goTo_12 : decode b_ThumbCore_goTo 12 = .ok (.putfield 111, 3) := by decide +kernel
theorem d_ThumbCore_goTo_15 : decode b_ThumbCore_goTo 15 = .ok (.return_, 1) := by decide +kernel
theorem d_ThumbCore_goTo_16 : decode b_ThumbCore_goTo 16 = .ok (.aload_n 0, 1) := by decide +kernel
theorem d_ThumbCore_goTo_17 : decode b_ThumbCore_goTo 17 = .ok (.getfield 27, 3) := by decide +kernel
theorem d_ThumbCore_goTo_20 : decode b_ThumbCore_goTo 20 = .ok (.bipush 13, 2) := by decide +kernel
theorem d_ThumbCore_goTo_22 : decode b_ThumbCore_goTo 22 = .ok (.iaload, 1) := by decide +kernel
theorem d_ThumbCore_goTo_23 : decode b_ThumbCore_goTo 23 = .ok (.istore_n 2, 1) := by decide +kernel
theorem d_ThumbCore_goTo_24 : decode b_ThumbCore_goTo 24 = .ok (.aload_n 0, 1) := by decide +kernel
theorem d_ThumbCore_goTo_25 : decode b_ThumbCore_goTo 25 = .ok (.getfield 21, 3) := by decide +kernel
theorem d_ThumbCore_goTo_28 : decode b_ThumbCore_goTo 28 = .ok (.iload_n 2, 1) := by decide +kernel
theorem d_ThumbCore_goTo_29 : decode b_ThumbCore_goTo 29 = .ok (.bipush 28, 2) := by decide +kernel
theorem d_ThumbCore_goTo_31 : decode b_ThumbCore_goTo 31 = .ok (.iadd, 1) := by decide +kernel
theorem d_ThumbCore_goTo_32 : decode b_ThumbCore_goTo 32 = .ok (.invokevirtual 66, 3) := by decide +kernel
theorem d_ThumbCore_goTo_35 : decode b_ThumbCore_goTo 35 = .ok (.istore_n 3, 1) := by decide +kernel
theorem d_ThumbCore_goTo_36 : decode b_ThumbCore_goTo 36 = .ok (.iconst 0, 1) := by decide +kernel
theorem d_ThumbCore_goTo_37 : decode b_ThumbCore_goTo 37 = .ok (.istore 4, 2) := by decide +kernel
theorem d_ThumbCore_goTo_39 : decode b_ThumbCore_goTo 39 = .ok (.iload 4, 2) := by decide +kernel
theorem d_ThumbCore_goTo_41 : decode b_ThumbCore_goTo 41 = .ok (.getstatic 309, 3) := by decide +kernel
theorem d_ThumbCore_goTo_44 : decode b_ThumbCore_goTo 44 = .ok (.arraylength, 1) := by decide +kernel
theorem d_ThumbCore_goTo_45 : decode b_ThumbCore_goTo 45 = .ok (.if_icmp .ge 33, 3) := by decide +kernel
theorem d_ThumbCore_goTo_48 : decode b_ThumbCore_goTo 48 = .ok (.aload_n 0, 1) := by decide +kernel
theorem d_ThumbCore_goTo_49 : decode b_ThumbCore_goTo 49 = .ok (.getfield 27, 3) := by decide +kernel
theorem d_ThumbCore_goTo_52 : decode b_ThumbCore_goTo 52 = .ok (.getstatic 309, 3) := by decide +kernel
theorem d_ThumbCore_goTo_55 : decode b_ThumbCore_goTo 55 = .ok (.iload 4, 2) := by decide +kernel
theorem d_ThumbCore_goTo_57 : decode b_ThumbCore_goTo 57 = .ok (.iaload, 1) := by decide +kernel
theorem d_ThumbCore_goTo_58 : decode b_ThumbCore_goTo 58 = .ok (.aload_n 0, 1) := by decide +kernel
theorem d_ThumbCore_goTo_59 : decode b_ThumbCore_goTo 59 = .ok (.getfield 21, 3) := by decide +kernel
theorem d_ThumbCore_goTo_62 : decode b_ThumbCore_goTo 62 = .ok (.iload_n 2, 1) := by decide +kernel
theorem d_ThumbCore_goTo_63 : decode b_ThumbCore_goTo 63 = .ok (.iconst 4, 1) := by decide +kernel
theorem d_ThumbCore_goTo_64 : decode b_ThumbCore_goTo 64 = .ok (.iload 4, 2) := by decide +kernel
theorem d_ThumbCore_goTo_66 : decode b_ThumbCore_goTo 66 = .ok (.imul, 1) := by decide +kernel
theorem d_ThumbCore_goTo_67 : decode b_ThumbCore_goTo 67 = .ok (.iadd, 1) := by decide +kernel
theorem d_ThumbCore_goTo_68 : decode b_ThumbCore_goTo 68 = .ok (.invokevirtual 66, 3) := by decide +kernel
theorem d_ThumbCore_goTo_71 : decode b_ThumbCore_goTo 71 = .ok (.iastore, 1) := by decide +kernel
theorem d_ThumbCore_goTo_72 : decode b_ThumbCore_goTo 72 = .ok (.iinc 4 1, 3) := by decide +kernel
theorem d_ThumbCore_goTo_75 : decode b_ThumbCore_goTo 75 = .ok (.goto (-36), 3) := by decide +kernel
theorem d_ThumbCore_goTo_78 : decode b_ThumbCore_goTo 78 = .ok (.aload_n 0, 1) := by decide +kernel
theorem d_ThumbCore_goTo_79 : decode b_ThumbCore_goTo 79 = .ok (.aload_n 0, 1) := by decide +kernel
theorem d_ThumbCore_goTo_80 : decode b_ThumbCore_goTo 80 = .ok (.getfield 21, 3) := by decide +kernel
theorem d_ThumbCore_goTo_83 : decode b_ThumbCore_goTo 83 = .ok (.iload_n 2, 1) := by decide +kernel
theorem d_ThumbCore_goTo_84 : decode b_ThumbCore_goTo 84 = .ok (.bipush 24, 2) := by decide +kernel
theorem d_ThumbCore_goTo_86 : decode b_ThumbCore_goTo 86 = .ok (.iadd, 1) := by decide +kernel
theorem d_ThumbCore_goTo_87 : decode b_ThumbCore_goTo 87 = .ok (.invokevirtual 66, 3) := by decide +kernel
theorem d_ThumbCore_goTo_90 : decode b_ThumbCore_goTo 90 = .ok (.bipush (-2), 2) := by decide +kernel
theorem d_ThumbCore_goTo_92 : decode b_ThumbCore_goTo 92 = .ok (.iand, 1) := by decide +kernel
theorem d_ThumbCore_goTo_93 : decode b_ThumbCore_goTo 93 = .ok (.putfield 111, 3) := by decide +kernel
theorem d_ThumbCore_goTo_96 : decode b_ThumbCore_goTo 96 = .ok (.aload_n 0, 1) := by decide +kernel
theorem d_ThumbCore_goTo_97 : decode b_ThumbCore_goTo 97 = .ok (.getfield 27, 3) := by decide +kernel
theorem d_ThumbCore_goTo_100 : decode b_ThumbCore_goTo 100 = .ok (.bipush 13, 2) := by decide +kernel
theorem d_ThumbCore_goTo_102 : decode b_ThumbCore_goTo 102 = .ok (.iload_n 2, 1) := by decide +kernel
theorem d_ThumbCore_goTo_103 : decode b_ThumbCore_goTo 103 = .ok (.bipush 32, 2) := by decide +kernel
theorem d_ThumbCore_goTo_105 : decode b_ThumbCore_goTo 105 = .ok (.iadd, 1) := by decide +kernel
theorem d_ThumbCore_goTo_106 : decode b_ThumbCore_goTo 106 = .ok (.iload_n 3, 1) := by decide +kernel
theorem d_ThumbCore_goTo_107 : decode b_ThumbCore_goTo 107 = .ok (.bipush 9, 2) := by decide +kernel
theorem d_ThumbCore_goTo_109 : decode b_ThumbCore_goTo 109 = .ok (.iushr, 1) := by decide +kernel
theorem d_ThumbCore_goTo_110 : decode b_ThumbCore_goTo 110 = .ok (.iconst 1, 1) := by decide +kernel
theorem d_ThumbCore_goTo_111 : decode b_ThumbCore_goTo 111 = .ok (.iand, 1) := by decide +kernel
theorem d_ThumbCore_goTo_112 : decode b_ThumbCore_goTo 112 = .ok (.iconst 1, 1) := by decide +kernel
theorem d_ThumbCore_goTo_113 : decode b_ThumbCore_goTo 113 = .ok (.if_icmp .ne 7, 3) := by decide +kernel
theorem d_ThumbCore_goTo_116 : decode b_ThumbCore_goTo 116 = .ok (.iconst 4, 1) := by decide +kernel
theorem d_ThumbCore_goTo_117 : decode b_ThumbCore_goTo 117 = .ok (.goto 4, 3) := by decide +kernel
theorem d_ThumbCore_goTo_120 : decode b_ThumbCore_goTo 120 = .ok (.iconst 0, 1) := by decide +kernel
theorem d_ThumbCore_goTo_121 : decode b_ThumbCore_goTo 121 = .ok (.iadd, 1) := by decide +kernel
theorem d_ThumbCore_goTo_122 : decode b_ThumbCore_goTo 122 = .ok (.iastore, 1) := by decide +kernel
theorem d_ThumbCore_goTo_123 : decode b_ThumbCore_goTo 123 = .ok (.aload_n 0, 1) := by decide +kernel
theorem d_ThumbCore_goTo_124 : decode b_ThumbCore_goTo 124 = .ok (.getfield 34, 3) := by decide +kernel
theorem d_ThumbCore_goTo_127 : decode b_ThumbCore_goTo 127 = .ok (.iload_n 3, 1) := by decide +kernel
theorem d_ThumbCore_goTo_128 : decode b_ThumbCore_goTo 128 = .ok (.invokevirtual 70, 3) := by decide +kernel
theorem d_ThumbCore_goTo_131 : decode b_ThumbCore_goTo 131 = .ok (.aload_n 0, 1) := by decide +kernel
theorem d_ThumbCore_goTo_132 : decode b_ThumbCore_goTo 132 = .ok (.getfield 41, 3) := by decide +kernel
theorem d_ThumbCore_goTo_135 : decode b_ThumbCore_goTo 135 = .ok (.iload_n 3, 1) := by decide +kernel
theorem d_ThumbCore_goTo_136 : decode b_ThumbCore_goTo 136 = .ok (.bipush 63, 2) := by decide +kernel
theorem d_ThumbCore_goTo_138 : decode b_ThumbCore_goTo 138 = .ok (.iand, 1) := by decide +kernel
theorem d_ThumbCore_goTo_139 : decode b_ThumbCore_goTo 139 = .ok (.invokevirtual 323, 3) := by decide +kernel
theorem d_ThumbCore_goTo_142 : decode b_ThumbCore_goTo 142 = .ok (.return_, 1) := by decide +kernel
