theorem d_ThumbCore_miscellaneous_106 : decode b_ThumbCore_miscellaneous 106 = .ok (.getfield 27, 3) := by decide +kernel
theorem d_ThumbCore_miscellaneous_109 : decode b_ThumbCore_miscellaneous 109 = .ok (.iload_n 1, 1) := by decide +kernel
theorem d_ThumbCore_miscellaneous_110 : decode b_ThumbCore_miscellaneous 110 = .ok (.iconst 3, 1) := by decide +kernel
theorem d_ThumbCore_miscellaneous_111 : decode b_ThumbCore_miscellaneous 111 = .ok (.iushr, 1) := by decide +kernel
theorem d_ThumbCore_miscellaneous_112 : decode b_ThumbCore_miscellaneous 112 = .ok (.bipush 7, 2) := by decide +kernel
theorem d_ThumbCore_miscellaneous_114 : decode b_ThumbCore_miscellaneous 114 = .ok (.iand, 1) := by decide +kernel
theorem d_ThumbCore_miscellaneous_115 : decode b_ThumbCore_miscellaneous 115 = .ok (.iaload, 1) := by decide +kernel
theorem d_ThumbCore_miscellaneous_116 : decode b_ThumbCore_miscellaneous 116 = .ok (.invokestatic 257, 3) := by decide +kernel
theorem d_ThumbCore_miscellaneous_119 : decode b_ThumbCore_miscellaneous 119 = .ok (.iastore, 1) := by decide +kernel
theorem d_ThumbCore_miscellaneous_120 : decode b_ThumbCore_miscellaneous 120 = .ok (.iconst 1, 1) := by decide +kernel
theorem d_ThumbCore_miscellaneous_121 : decode b_ThumbCore_miscellaneous 121 = .ok (.ireturn, 1) := by decide +kernel
theorem d_ThumbCore_miscellaneous_122 : decode b_ThumbCore_miscellaneous 122 = .ok (.aload_n 0, 1) := by decide +kernel
theorem d_ThumbCore_miscellaneous_123 : decode b_ThumbCore_miscellaneous 123 = .ok (.iload_n 1, 1) := by decide +kernel
theorem d_ThumbCore_miscellaneous_124 : decode b_ThumbCore_miscellaneous 124 = .ok (.sipush 255, 3) := by decide +kernel
theorem d_ThumbCore_miscellaneous_127 : decode b_ThumbCore_miscellaneous 127 = .ok (.iand, 1) := by decide +kernel
theorem d_ThumbCore_miscellaneous_128 : decode b_ThumbCore_miscellaneous 128 = .ok (.invokevirtual 260, 3) := by decide +kernel
theorem d_ThumbCore_miscellaneous_131 : decode b_ThumbCore_miscellaneous 131 = .ok (.ireturn, 1) := by decide +kernel
theorem d_ThumbCore_miscellaneous_132 : decode b_ThumbCore_miscellaneous 132 = .ok (.aload_n 0, 1) := by decide +kernel
theorem d_ThumbCore_miscellaneous_133 : decode b_ThumbCore_miscellaneous 133 = .ok (.iload_n 1, 1) := by decide +kernel
theorem d_ThumbCore_miscellaneous_134 : decode b_ThumbCore_miscellaneous 134 = .ok (.sipush 255, 3) := by decide +kernel
theorem d_ThumbCore_miscellaneous_137 : decode b_ThumbCore_miscellaneous 137 = .ok (.iand, 1) := by decide +kernel
theorem d_ThumbCore_miscellaneous_138 : decode b_ThumbCore_miscellaneous 138 = .ok (.sipush 16384, 3) := by decide +kernel
theorem d_ThumbCore_miscellaneous_141 : decode b_ThumbCore_miscellaneous 141 = .ok (.ior, 1) := by decide +kernel
theorem d_ThumbCore_miscellaneous_142 : decode b_ThumbCore_miscellaneous 142 = .ok (.invokevirtual 260, 3) := by decide +kernel
theorem d_ThumbCore_miscellaneous_145 : decode b_ThumbCore_miscellaneous 145 = .ok (.ireturn, 1) := by decide +kernel
theorem d_ThumbCore_miscellaneous_146 : decode b_ThumbCore_miscellaneous 146 = .ok (.aload_n 0, 1) := by decide +kernel
theorem d_ThumbCore_miscellaneous_147 : decode b_ThumbCore_miscellaneous 147 = .ok (.iload_n 1, 1) := by decide +kernel
theorem d_ThumbCore_miscellaneous_148 : decode b_ThumbCore_miscellaneous 148 = .ok (.invokevirtual 263, 3) := by decide +kernel
theorem d_ThumbCore_miscellaneous_151 : decode b_ThumbCore_miscellaneous 151 = .ok (.ireturn, 1) := by decide +kernel
theorem d_ThumbCore_miscellaneous_152 : decode b_ThumbCore_miscellaneous 152 = .ok (.aload_n 0, 1) := by decide +kernel
theorem d_ThumbCore_miscellaneous_153 : decode b_ThumbCore_miscellaneous 153 = .ok (.iload_n 1, 1) := by decide +kernel
theorem d_ThumbCore_miscellaneous_154 : decode b_ThumbCore_miscellaneous 154 = .ok (.invokevirtual 266, 3) := by decide +kernel
theorem d_ThumbCore_miscellaneous_157 : decode b_ThumbCore_miscellaneous 157 = .ok (.ireturn, 1) := by decide +kernel
theorem d_ThumbCore_miscellaneous_158 : decode b_ThumbCore_miscellaneous 158 = .ok (.aload_n 0, 1) := by decide +kernel
theorem d_ThumbCore_miscellaneous_159 : decode b_ThumbCore_miscellaneous 159 = .ok (.iload_n 1, 1) := by decide +kernel
theorem d_ThumbCore_miscellaneous_160 : decode b_ThumbCore_miscellaneous 160 = .ok (.sipush 255, 3) := by decide +kernel
theorem d_ThumbCore_miscellaneous_163 : decode b_ThumbCore_miscellaneous 163 = .ok (.iand, 1) := by decide +kernel
theorem d_ThumbCore_miscellaneous_164 : decode b_ThumbCore_miscellaneous 164 = .ok (.invokevirtual 269, 3) := by decide +kernel
theorem d_ThumbCore_miscellaneous_167 : decode b_ThumbCore_miscellaneous 167 = .ok (.ireturn, 1) := by decide +kernel
theorem d_ThumbCore_miscellaneous_168 : decode b_ThumbCore_miscellaneous 168 = .ok (.aload_n 0, 1) := by decide +kernel
theorem d_ThumbCore_miscellaneous_169 : decode b_ThumbCore_miscellaneous 169 = .ok (.iload_n 1, 1) := by decide +kernel
theorem d_ThumbCore_miscellaneous_170 : decode b_ThumbCore_miscellaneous 170 = .ok (.sipush 255, 3) := by decide +kernel
theorem d_ThumbCore_miscellaneous_173 : decode b_ThumbCore_miscellaneous 173 = .ok (.iand, 1) := by decide +kernel
theorem d_ThumbCore_miscellaneous_174 : decode b_ThumbCore_miscellaneous 174 = .ok (.invokevirtual 272, 3) := by decide +kernel
theorem d_ThumbCore_miscellaneous_177 : decode b_ThumbCore_miscellaneous 177 = .ok (.ireturn, 1) := by decide +kernel
theorem d_ThumbCore_miscellaneous_178 : decode b_ThumbCore_miscellaneous 178 = .ok (.aload_n 0, 1) := by decide +kernel
theorem d_ThumbCore_miscellaneous_179 : decode b_ThumbCore_miscellaneous 179 = .ok (.iload_n 1, 1) := by decide +kernel
theorem d_ThumbCore_miscellaneous_180 : decode b_ThumbCore_miscellaneous 180 = .ok (.invokevirtual 275, 3) := by decide +kernel
theorem d_ThumbCore_miscellaneous_183 : decode b_ThumbCore_miscellaneous 183 = .ok (.ireturn, 1) := by decide +kernel
theorem d_ThumbCore_miscellaneous_184 : decode b_ThumbCore_miscellaneous 184 = .ok (.iconst 0, 1) := by decide +kernel
theorem d_ThumbCore_miscellaneous_185 : decode b_ThumbCore_miscellaneous 185 = .ok (.ireturn, 1) := by decide +kernel
theorem d_ThumbCore_moveStack_0 : decode b_ThumbCore_moveStack 0 = .ok (.iconst 4, 1) := by decide +kernel
theorem d_ThumbCore_moveStack_1 : decode b_ThumbCore_moveStack 1 = .ok (.iload_n 1, 1) := by decide +kernel
theorem d_ThumbCore_moveStack_2 : decode b_ThumbCore_moveStack 2 = .ok (.bipush 127, 2) := by decide +kernel
theorem d_ThumbCore_moveStack_4 : decode b_ThumbCore_moveStack 4 = .ok (.iand, 1) := by decide +kernel
theorem d_ThumbCore_moveStack_5 : decode b_ThumbCore_moveStack 5 = .ok (.imul, 1) := by decide +kernel
theorem d_ThumbCore_moveStack_6 : decode b_ThumbCore_moveStack 6 = .ok (.istore_n 2, 1) := by decide +kernel
theorem d_ThumbCore_moveStack_7 : decode b_ThumbCore_moveStack 7 = .ok (.aload_n 0, 1) := by decide +kernel
theorem d_ThumbCore_moveStack_8 : decode b_ThumbCore_moveStack 8 = .ok (.getfield 27, 3) := by decide +kernel
theorem d_ThumbCore_moveStack_11 : decode b_ThumbCore_moveStack 11 = .ok (.bipush 13, 2) := by decide +kernel
theorem d_ThumbCore_moveStack_13 : decode b_ThumbCore_moveStack 13 = .ok (.dup2, 1) := by decide +kernel
theorem d_ThumbCore_moveStack_14 : decode b_ThumbCore_moveStack 14 = .ok (.iaload, 1) := by decide +kernel
theorem d_ThumbCore_moveStack_15 : decode b_ThumbCore_moveStack 15 = .ok (.iload_n 1, 1) := by decide +kernel
theorem d_ThumbCore_moveStack_16 : decode b_ThumbCore_moveStack 16 = .ok (.bipush 7, 2) := by decide +kernel
theorem d_ThumbCore_moveStack_18 : decode b_ThumbCore_moveStack 18 = .ok (.iushr, 1) := by decide +kernel
theorem d_ThumbCore_moveStack_19 : decode b_ThumbCore_moveStack 19 = .ok (.iconst 1, 1) := by decide +kernel
theorem d_ThumbCore_moveStack_20 : decode b_ThumbCore_moveStack 20 = .ok (.iand, 1) := by decide +kernel
theorem d_ThumbCore_moveStack_21 : decode b_ThumbCore_moveStack 21 = .ok (.iconst 1, 1) := by decide +kernel
theorem d_ThumbCore_moveStack_22 : decode b_ThumbCore_moveStack 22 = .ok (.if_icmp .ne 8, 3) := by decide +kernel
theorem d_ThumbCore_moveStack_25 : decode b_ThumbCore_moveStack 25 = .ok (.iload_n 2, 1) := by decide +kernel
theorem d_ThumbCore_moveStack_26 : decode b_ThumbCore_moveStack 26 = .ok (.ineg, 1) := by decide +kernel
theorem d_ThumbCore_moveStack_27 : decode b_ThumbCore_moveStack 27 = .ok (.goto 4, 3) := by decide +kernel
theorem d_ThumbCore_moveStack_30 : decode b_ThumbCore_moveStack 30 = .ok (.iload_n 2, 1) := by decide +kernel
theorem d_ThumbCore_moveStack_31 : decode b_ThumbCore_moveStack 31 = .ok (.iadd, 1) := by decide +kernel
theorem d_ThumbCore_moveStack_32 : decode b_ThumbCore_moveStack 32 = .ok (.iastore, 1) := by decide +kernel
theorem d_ThumbCore_moveStack_33 : decode b_ThumbCore_moveStack 33 = .ok (.return_, 1) := by decide +kernel
theorem d_ThumbCore_extended_0 : decode b_ThumbCore_extended 0 = .ok (.iload_n 0, 1) := by decide +kernel
theorem d_ThumbCore_extended_1 : decode b_ThumbCore_extended 1 = .ok (.tableswitch 39 0 2 #[27, 30, 33], 27) := by decide +kernel
theorem d_ThumbCore_extended_28 : decode b_ThumbCore_extended 28 = .ok (.iload_n 1, 1) := by decide +kernel
theorem d_ThumbCore_extended_29 : decode b_ThumbCore_extended 29 = .ok (.i2s, 1) := by decide +kernel
theorem d_ThumbCore_extended_30 : decode b_ThumbCore_extended 30 = .ok (.ireturn, 1) := by decide +kernel
theorem d_ThumbCore_extended_31 : decode b_ThumbCore_extended 31 = .ok (.iload_n 1, 1) := by decide +kernel
theorem d_ThumbCore_extended_32 : decode b_ThumbCore_extended 32 = .ok (.i2b, 1) := by decide +kernel
theorem d_ThumbCore_extended_33 : decode b_ThumbCore_extended 33 = .ok (.ireturn, 1) := by decide +kernel
theorem d_ThumbCore_extended_34 : decode b_ThumbCore_extended 34 = .ok (.iload_n 1, 1) := by decide +kernel
theorem d_ThumbCore_extended_35 : decode b_ThumbCore_extended 35 = .ok (.ldc_w 278, 3) := by decide +kernel
theorem d_ThumbCore_extended_38 : decode b_ThumbCore_extended 38 = .ok (.iand, 1) := by decide +kernel
theorem d_ThumbCore_extended_39 : decode b_ThumbCore_extended 39 = .ok (.ireturn, 1) := by decide +kernel
theorem d_ThumbCore_extended_40 : decode b_ThumbCore_extended 40 = .ok (.iload_n 1, 1) := by decide +kernel
theorem d_ThumbCore_extended_41 : decode b_ThumbCore_extended 41 = .ok (.sipush 255, 3) := by decide +kernel
theorem d_ThumbCore_extended_44 : decode b_ThumbCore_extended 44 = .ok (.iand, 1) := by decide +kernel
theorem d_ThumbCore_extended_45 : decode b_ThumbCore_extended 45 = .ok (.ireturn, 1) := by decide +kernel
theorem d_ThumbCore_changeMask_0 : decode b_ThumbCore_changeMask 0 = .ok (.iload_n 1, 1) := by decide +kernel
theorem d_ThumbCore_changeMask_1 : decode b_ThumbCore_changeMask 1 = .ok (.ldc_w 279, 3) := by decide +kernel
theorem d_ThumbCore_changeMask_4 : decode b_ThumbCore_changeMask 4 = .ok (.if_icmp .eq 12, 3) := by decide +kernel
theorem d_ThumbCore_changeMask_7 : decode b_ThumbCore_changeMask 7 = .ok (.iload_n 1, 1) := by decide +kernel
theorem d_ThumbCore_changeMask_8 : decode b_ThumbCore_changeMask 8 = .ok (.ldc_w 280, 3) := by decide +kernel
theorem d_ThumbCore_changeMask_11 : decode b_ThumbCore_changeMask 11 = .ok (.if_icmp .eq 5, 3) := by decide +kernel
theorem d_ThumbCore_changeMask_14 : decode b_ThumbCore_changeMask 14 = .ok (.iconst 0, 1) := by decide +kernel
theorem d_ThumbCore_changeMask_15 : decode b_ThumbCore_changeMask 15 = .ok (.ireturn, 1) := by decide +kernel
theorem d_ThumbCore_changeMask_16 : decode b_ThumbCore_changeMask 16 = .ok (.aload_n 0, 1) := by decide +kernel
theorem d_ThumbCore_changeMask_17 : decode b_ThumbCore_changeMask 17 = .ok (.getfield 41, 3) := by decide +kernel
theorem d_ThumbCore_changeMask_20 : decode b_ThumbCore_changeMask 20 = .ok (.iload_n 1, 1) := by decide +kernel
theorem d_ThumbCore_changeMask_21 : decode b_ThumbCore_changeMask 21 = .ok (.ldc_w 280, 3) := by decide +kernel
theorem d_ThumbCore_changeMask_24 : decode b_ThumbCore_changeMask 24 = .ok (.if_icmp .ne 7, 3) := by decide +kernel
theorem d_ThumbCore_changeMask_27 : decode b_ThumbCore_changeMask 27 = .ok (.iconst 1, 1) := by decide +kernel
theorem d_ThumbCore_changeMask_28 : decode b_ThumbCore_changeMask 28 = .ok (.goto 4, 3) := by decide +kernel
theorem d_ThumbCore_changeMask_31 : decode b_ThumbCore_changeMask 31 = .ok (.iconst 0, 1) := by decide +kernel
theorem d_ThumbCore_changeMask_32 : decode b_ThumbCore_changeMask 32 = .ok (.putfield 139, 3) := by decide +kernel
theorem d_ThumbCore_changeMask_35 : decode b_ThumbCore_changeMask 35 = .ok (.iconst 1, 1) := by decide +kernel
theorem d_ThumbCore_changeMask_36 : decode b_ThumbCore_changeMask 36 = .ok (.ireturn, 1) := by decide +kernel
theorem d_ThumbCore_swapBytes_0 : decode b_ThumbCore_swapBytes 0 = .ok (.iload_n 1, 1) := by decide +kernel
theorem d_ThumbCore_swapBytes_1 : decode b_ThumbCore_swapBytes 1 = .ok (.bipush 7, 2) := by decide +kernel
theorem d_ThumbCore_swapBytes_3 : decode b_ThumbCore_swapBytes 3 = .ok (.iand, 1) := by decide +kernel
theorem d_ThumbCore_swapBytes_4 : decode b_ThumbCore_swapBytes 4 = .ok (.istore_n 2, 1) := by decide +kernel
theorem d_ThumbCore_swapBytes_5 : decode b_ThumbCore_swapBytes 5 = .ok (.aload_n 0, 1) := by decide +kernel
theorem d_ThumbCore_swapBytes_6 : decode b_ThumbCore_swapBytes 6 = .ok (.getfield 27, 3) := by decide +kernel
theorem d_ThumbCore_swapBytes_9 : decode b_ThumbCore_swapBytes 9 = .ok (.iload_n 1, 1) := by decide +kernel
theorem d_ThumbCore_swapBytes_10 : decode b_ThumbCore_swapBytes 10 = .ok (.iconst 3, 1) := by decide +kernel
theorem d_ThumbCore_swapBytes_11 : decode b_ThumbCore_swapBytes 11 = .ok (.iushr, 1) := by decide +kernel
theorem d_ThumbCore_swapBytes_12 : decode b_ThumbCore_swapBytes 12 = .ok (.bipush 7, 2) := by decide +kernel
theorem d_ThumbCore_swapBytes_14 : decode b_ThumbCore_swapBytes 14 = .ok (.iand, 1) := by decide +kernel
theorem d_ThumbCore_swapBytes_15 : decode b_ThumbCore_swapBytes 15 = .ok (.iaload, 1) := by decide +kernel
theorem d_ThumbCore_swapBytes_16 : decode b_ThumbCore_swapBytes 16 = .ok (.istore_n 3, 1) := by decide +kernel
theorem d_ThumbCore_swapBytes_17 : decode b_ThumbCore_swapBytes 17 = .ok (.iload_n 3, 1) := by decide +kernel
theorem d_ThumbCore_swapBytes_18 : decode b_ThumbCore_swapBytes 18 = .ok (.ldc_w 281, 3) := by decide +kernel
theorem d_ThumbCore_swapBytes_21 : decode b_ThumbCore_swapBytes 21 = .ok (.iand, 1) := by decide +kernel
theorem d_ThumbCore_swapBytes_22 : decode b_ThumbCore_swapBytes 22 = .ok (.bipush 8, 2) := by decide +kernel
theorem d_ThumbCore_swapBytes_24 : decode b_ThumbCore_swapBytes 24 = .ok (.ishl, 1) := by decide +kernel
theorem d_ThumbCore_swapBytes_25 : decode b_ThumbCore_swapBytes 25 = .ok (.iload_n 3, 1) := by decide +kernel
theorem d_ThumbCore_swapBytes_26 : decode b_ThumbCore_swapBytes 26 = .ok (.bipush 8, 2) := by decide +kernel
theorem d_ThumbCore_swapBytes_28 : decode b_ThumbCore_swapBytes 28 = .ok (.iushr, 1) := by decide +kernel
theorem d_ThumbCore_swapBytes_29 : decode b_ThumbCore_swapBytes 29 = .ok (.ldc_w 281, 3) := by decide +kernel
theorem d_ThumbCore_swapBytes_32 : decode b_ThumbCore_swapBytes 32 = .ok (.iand, 1) := by decide +kernel
theorem d_ThumbCore_swapBytes_33 : decode b_ThumbCore_swapBytes 33 = .ok (.ior, 1) := by decide +kernel
theorem d_ThumbCore_swapBytes_34 : decode b_ThumbCore_swapBytes 34 = .ok (.istore 4, 2) := by decide +kernel
theorem d_ThumbCore_swapBytes_36 : decode b_ThumbCore_swapBytes 36 = .ok (.iload_n 1, 1) := by decide +kernel
theorem d_ThumbCore_swapBytes_37 : decode b_ThumbCore_swapBytes 37 = .ok (.bipush 6, 2) := by decide +kernel
theorem d_ThumbCore_swapBytes_39 : decode b_ThumbCore_swapBytes 39 = .ok (.iushr, 1) := by decide +kernel
theorem d_ThumbCore_swapBytes_40 : decode b_ThumbCore_swapBytes 40 = .ok (.iconst 3, 1) := by decide +kernel
theorem d_ThumbCore_swapBytes_41 : decode b_ThumbCore_swapBytes 41 = .ok (.iand, 1) := by decide +kernel
theorem d_ThumbCore_swapBytes_42 : decode b_ThumbCore_swapBytes 42 = .ok (.tableswitch 70 0 3 #[30, 49, 70, 59], 30) := by decide +kernel
theorem d_ThumbCore_swapBytes_72 : decode b_ThumbCore_swapBytes 72 = .ok (.aload_n 0, 1) := by decide +kernel
theorem d_ThumbCore_swapBytes_73 : decode b_ThumbCore_swapBytes 73 = .ok (.getfield 27, 3) := by decide +kernel
theorem d_ThumbCore_swapBytes_76 : decode b_ThumbCore_swapBytes 76 = .ok (.iload_n 2, 1) := by decide +kernel
theorem d_ThumbCore_swapBytes_77 : decode b_ThumbCore_swapBytes 77 = .ok (.iload 4, 2) := by decide +kernel
theorem d_ThumbCore_swapBytes_79 : decode b_ThumbCore_swapBytes 79 = .ok (.bipush 16, 2) := by decide +kernel
theorem d_ThumbCore_swapBytes_81 : decode b_ThumbCore_swapBytes 81 = .ok (.ishl, 1) := by decide +kernel
theorem d_ThumbCore_swapBytes_82 : decode b_ThumbCore_swapBytes 82 = .ok (.iload 4, 2) := by decide +kernel
theorem d_ThumbCore_swapBytes_84 : decode b_ThumbCore_swapBytes 84 = .ok (.bipush 16, 2) := by decide +kernel
theorem d_ThumbCore_swapBytes_86 : decode b_ThumbCore_swapBytes 86 = .ok (.iushr, 1) := by decide +kernel
theorem d_ThumbCore_swapBytes_87 : decode b_ThumbCore_swapBytes 87 = .ok (.ior, 1) := by decide +kernel
theorem d_ThumbCore_swapBytes_88 : decode b_ThumbCore_swapBytes 88 = .ok (.iastore, 1) := by decide +kernel
theorem d_ThumbCore_swapBytes_89 : decode b_ThumbCore_swapBytes 89 = .ok (.iconst 1, 1) := by decide +kernel
theorem d_ThumbCore_swapBytes_90 : decode b_ThumbCore_swapBytes 90 = .ok (.ireturn, 1) := by decide +kernel
theorem d_ThumbCore_swapBytes_91 : decode b_ThumbCore_swapBytes 91 = .ok (.aload_n 0, 1) := by decide +kernel
theorem d_ThumbCore_swapBytes_92 : decode b_ThumbCore_swapBytes 92 = .ok (.getfield 27, 3) := by decide +kernel
theorem d_ThumbCore_swapBytes_95 : decode b_ThumbCore_swapBytes 95 = .ok (.iload_n 2, 1) := by decide +kernel
theorem d_ThumbCore_swapBytes_96 : decode b_ThumbCore_swapBytes 96 = .ok (.iload 4, 2) := by decide +kernel
theorem d_ThumbCore_swapBytes_98 : decode b_ThumbCore_swapBytes 98 = .ok (.iastore, 1) := by decide +kernel
theorem d_ThumbCore_swapBytes_99 : decode b_ThumbCore_swapBytes 99 = .ok (.iconst 1, 1) := by decide +kernel
theorem d_ThumbCore_swapBytes_100 : decode b_ThumbCore_swapBytes 100 = .ok (.ireturn, 1) := by decide +kernel
theorem d_ThumbCore_swapBytes_101 : decode b_ThumbCore_swapBytes 101 = .ok (.aload_n 0, 1) := by decide +kernel
theorem d_ThumbCore_swapBytes_102 : decode b_ThumbCore_swapBytes 102 = .ok (.getfield 27, 3) := by decide +kernel
theorem d_ThumbCore_swapBytes_105 : decode b_ThumbCore_swapBytes 105 = .ok (.iload_n 2, 1) := by decide +kernel
theorem d_ThumbCore_swapBytes_106 : decode b_ThumbCore_swapBytes 106 = .ok (.iload 4, 2) := by decide +kernel
theorem d_ThumbCore_swapBytes_108 : decode b_ThumbCore_swapBytes 108 = .ok (.i2s, 1) := by decide +kernel
theorem d_ThumbCore_swapBytes_109 : decode b_ThumbCore_swapBytes 109 = .ok (.iastore, 1) := by decide +kernel
theorem d_ThumbCore_swapBytes_110 : decode b_ThumbCore_swapBytes 110 = .ok (.iconst 1, 1) := by decide +kernel
theorem d_ThumbCore_swapBytes_111 : decode b_ThumbCore_swapBytes 111 = .ok (.ireturn, 1) := by decide +kernel
theorem d_ThumbCore_swapBytes_112 : decode b_ThumbCore_swapBytes 112 = .ok (.iconst 0, 1) := by decide +kernel
theorem d_ThumbCore_swapBytes_113 : decode b_ThumbCore_swapBytes 113 = .ok (.ireturn, 1) := by decide +kernel
theorem d_ThumbCore_hint_0 : decode b_ThumbCore_hint 0 = .ok (.iload_n 1, 1) := by decide +kernel
theorem d_ThumbCore_hint_1 : decode b_ThumbCore_hint 1 = .ok (.bipush 15, 2) := by decide +kernel
theorem d_ThumbCore_hint_3 : decode b_ThumbCore_hint 3 = .ok (.iand, 1) := by decide +kernel
theorem d_ThumbCore_hint_4 : decode b_ThumbCore_hint 4 = .ok (.ifCond .eq 5, 3) := by decide +kernel
theorem d_ThumbCore_hint_7 : decode b_ThumbCore_hint 7 = .ok (.iconst 0, 1) := by decide +kernel
theorem d_ThumbCore_hint_8 : decode b_ThumbCore_hint 8 = .ok (.ireturn, 1) := by decide +kernel
theorem d_ThumbCore_hint_9 : decode b_ThumbCore_hint 9 = .ok (.aload_n 0, 1) := by decide +kernel
theorem d_ThumbCore_hint_10 : decode b_ThumbCore_hint 10 = .ok (.iload_n 1, 1) := by decide +kernel
theorem d_ThumbCore_hint_11 : decode b_ThumbCore_hint 11 = .ok (.ldc_w 282, 3) := by decide +kernel
theorem d_ThumbCore_hint_14 : decode b_ThumbCore_hint 14 = .ok (.if_icmp .ne 7, 3) := by decide +kernel
theorem d_ThumbCore_hint_17 : decode b_ThumbCore_hint 17 = .ok (.iconst 1, 1) := by decide +kernel
theorem d_ThumbCore_hint_18 : decode b_ThumbCore_hint 18 = .ok (.goto 4, 3) := by decide +kernel
theorem d_ThumbCore_hint_21 : decode b_ThumbCore_hint 21 = .ok (.iconst 0, 1) := by decide +kernel
theorem d_ThumbCore_hint_22 : decode b_ThumbCore_hint 22 = .ok (.putfield 80, 3) := by decide +kernel
theorem d_ThumbCore_hint_25 : decode b_ThumbCore_hint 25 = .ok (.iconst 1, 1) := by decide +kernel
theorem d_ThumbCore_hint_26 : decode b_ThumbCore_hint 26 = .ok (.ireturn, 1) := by decide +kernel
theorem d_ThumbCore_push_0 : decode b_ThumbCore_push 0 = .ok (.aload_n 0, 1) := by decide +kernel
theorem d_ThumbCore_push_1 : decode b_ThumbCore_push 1 = .ok (.getfield 27, 3) := by decide +kernel
theorem d_ThumbCore_push_4 : decode b_ThumbCore_push 4 = .ok (.bipush 13, 2) := by decide +kernel
theorem d_ThumbCore_push_6 : decode b_ThumbCore_push 6 = .ok (.iaload, 1) := by decide +kernel
theorem d_ThumbCore_push_7 : decode b_ThumbCore_push 7 = .ok (.iconst 4, 1) := by decide +kernel
theorem d_ThumbCore_push_8 : decode b_ThumbCore_push 8 = .ok (.iload_n 1, 1) := by decide +kernel
theorem d_ThumbCore_push_9 : decode b_ThumbCore_push 9 = .ok (.invokestatic 134, 3) := by decide +kernel
theorem d_ThumbCore_push_12 : decode b_ThumbCore_push 12 = .ok (.imul, 1) := by decide +kernel
theorem d_ThumbCore_push_13 : decode b_ThumbCore_push 13 = .ok (.isub, 1) := by decide +kernel
theorem d_ThumbCore_push_14 : decode b_ThumbCore_push 14 = .ok (.istore_n 2, 1) := by decide +kernel
theorem d_ThumbCore_push_15 : decode b_ThumbCore_push 15 = .ok (.aload_n 0, 1) := by decide +kernel
theorem d_ThumbCore_push_16 : decode b_ThumbCore_push 16 = .ok (.iload_n 1, 1) := by decide +kernel
theorem d_ThumbCore_push_17 : decode b_ThumbCore_push 17 = .ok (.iload_n 2, 1) := by decide +kernel
theorem d_ThumbCore_push_18 : decode b_ThumbCore_push 18 = .ok (.invokevirtual 283, 3) := by decide +kernel
theorem d_ThumbCore_push_21 : decode b_ThumbCore_push 21 = .ok (.ifCond .ne 5, 3) := by decide +kernel
theorem d_ThumbCore_push_24 : decode b_ThumbCore_push 24 = .ok (.iconst 0, 1) := by decide +kernel
theorem d_ThumbCore_push_25 : decode b_ThumbCore_push 25 = .ok (.ireturn, 1) := by decide +kernel
theorem d_ThumbCore_push_26 : decode b_ThumbCore_push 26 = .ok (.aload_n 0, 1) := by decide +kernel
theorem d_ThumbCore_push_27 : decode b_ThumbCore_push 27 = .ok (.iload_n 1, 1) := by decide +kernel
theorem d_ThumbCore_push_28 : decode b_ThumbCore_push 28 = .ok (.iload_n 2, 1) := by decide +kernel
theorem d_ThumbCore_push_29 : decode b_ThumbCore_push 29 = .ok (.invokevirtual 286, 3) := by decide +kernel
theorem d_ThumbCore_push_32 : decode b_ThumbCore_push 32 = .ok (.aload_n 0, 1) := by decide +kernel
theorem d_ThumbCore_push_33 : decode b_ThumbCore_push 33 = .ok (.getfield 27, 3) := by decide +kernel
theorem d_ThumbCore_push_36 : decode b_ThumbCore_push 36 = .ok (.bipush 13, 2) := by decide +kernel
theorem d_ThumbCore_push_38 : decode b_ThumbCore_push 38 = .ok (.iload_n 2, 1) := by decide +kernel
theorem d_ThumbCore_push_39 : decode b_ThumbCore_push 39 = .ok (.iastore, 1) := by decide +kernel
theorem d_ThumbCore_push_40 : decode b_ThumbCore_push 40 = .ok (.iconst 1, 1) := by decide +kernel
theorem d_ThumbCore_push_41 : decode b_ThumbCore_push 41 = .ok (.ireturn, 1) := by decide +kernel
theorem d_ThumbCore_pop_0 : decode b_ThumbCore_pop 0 = .ok (.aload_n 0, 1) := by decide +kernel
theorem d_ThumbCore_pop_1 : decode b_ThumbCore_pop 1 = .ok (.getfield 27, 3) := by decide +kernel
theorem d_ThumbCore_pop_4 : decode b_ThumbCore_pop 4 = .ok (.bipush 13, 2) := by decide +kernel
theorem d_ThumbCore_pop_6 : decode b_ThumbCore_pop 6 = .ok (.iaload, 1) := by decide +kernel
theorem d_ThumbCore_pop_7 : decode b_ThumbCore_pop 7 = .ok (.istore_n 2, 1) := by decide +kernel
theorem d_ThumbCore_pop_8 : decode b_ThumbCore_pop 8 = .ok (.aload_n 0, 1) := by decide +kernel
theorem d_ThumbCore_pop_9 : decode b_ThumbCore_pop 9 = .ok (.iload_n 1, 1) := by decide +kernel
theorem d_ThumbCore_pop_10 : decode b_ThumbCore_pop 10 = .ok (.iload_n 2, 1) := by decide +kernel
theorem d_ThumbCore_pop_11 : decode b_ThumbCore_pop 11 = .ok (.invokevirtual 283, 3) := by decide +kernel
theorem d_ThumbCore_pop_14 : decode b_ThumbCore_pop 14 = .ok (.ifCond .ne 5, 3) := by decide +kernel
theorem d_ThumbCore_pop_17 : decode b_ThumbCore_pop 17 = .ok (.iconst 0, 1) := by decide +kernel
theorem d_ThumbCore_pop_18 : decode b_ThumbCore_pop 18 = .ok (.ireturn, 1) := by decide +kernel
theorem d_ThumbCore_pop_19 : decode b_ThumbCore_pop 19 = .ok (.aload_n 0, 1) := by decide +kernel
theorem d_ThumbCore_pop_20 : decode b_ThumbCore_pop 20 = .ok (.iload_n 1, 1) := by decide +kernel
theorem d_ThumbCore_pop_21 : decode b_ThumbCore_pop 21 = .ok (.iload_n 2, 1) := by decide +kernel
theorem d_ThumbCore_pop_22 : decode b_ThumbCore_pop 22 = .ok (.invokevirtual 289, 3) := by decide +kernel
theorem d_ThumbCore_pop_25 : decode b_ThumbCore_pop 25 = .ok (.aload_n 0, 1) := by decide +kernel
theorem d_ThumbCore_pop_26 : decode b_ThumbCore_pop 26 = .ok (.getfield 27, 3) := by decide +kernel
theorem d_ThumbCore_pop_29 : decode b_ThumbCore_pop 29 = .ok (.bipush 13, 2) := by decide +kernel
theorem d_ThumbCore_pop_31 : decode b_ThumbCore_pop 31 = .ok (.iload_n 1, 1) := by decide +kernel
theorem d_ThumbCore_pop_32 : decode b_ThumbCore_pop 32 = .ok (.iload_n 2, 1) := by decide +kernel
theorem d_ThumbCore_pop_33 : decode b_ThumbCore_pop 33 = .ok (.invokestatic 292, 3) := by decide +kernel
theorem d_ThumbCore_pop_36 : decode b_ThumbCore_pop 36 = .ok (.iastore, 1) := by decide +kernel
theorem d_ThumbCore_pop_37 : decode b_ThumbCore_pop 37 = .ok (.iconst 1, 1) := by decide +kernel
theorem d_ThumbCore_pop_38 : decode b_ThumbCore_pop 38 = .ok (.ireturn, 1) := by decide +kernel
theorem d_ThumbCore_popAndGo_0 : decode b_ThumbCore_popAndGo 0 = .ok (.aload_n 0, 1) := by decide +kernel
theorem d_ThumbCore_popAndGo_1 : decode b_ThumbCore_popAndGo 1 = .ok (.getfield 27, 3) := by decide +kernel
theorem d_ThumbCore_popAndGo_4 : decode b_ThumbCore_popAndGo 4 = .ok (.bipush 13, 2) := by decide +kernel
theorem d_ThumbCore_popAndGo_6 : decode b_ThumbCore_popAndGo 6 = .ok (.iaload, 1) := by decide +kernel
theorem d_ThumbCore_popAndGo_7 : decode b_ThumbCore_popAndGo 7 = .ok (.istore_n 2, 1) := by decide +kernel
theorem d_ThumbCore_popAndGo_8 : decode b_ThumbCore_popAndGo 8 = .ok (.iload_n 1, 1) := by decide +kernel
theorem d_ThumbCore_popAndGo_9 : decode b_ThumbCore_popAndGo 9 = .ok (.iload_n 2, 1) := by decide +kernel
theorem d_ThumbCore_popAndGo_10 : decode b_ThumbCore_popAndGo 10 = .ok (.invokestatic 292, 3) := by decide +kernel
theorem d_ThumbCore_popAndGo_13 : decode b_ThumbCore_popAndGo 13 = .ok (.istore_n 3, 1) := by decide +kernel
theorem d_ThumbCore_popAndGo_14 : decode b_ThumbCore_popAndGo 14 = .ok (.aload_n 0, 1) := by decide +kernel
theorem d_ThumbCore_popAndGo_15 : decode b_ThumbCore_popAndGo 15 = .ok (.getfield 21, 3) := by decide +kernel
theorem d_ThumbCore_popAndGo_18 : decode b_ThumbCore_popAndGo 18 = .ok (.iload_n 2, 1) := by decide +kernel
theorem d_ThumbCore_popAndGo_19 : decode b_ThumbCore_popAndGo 19 = .ok (.iload_n 1, 1) := by decide +kernel
theorem d_ThumbCore_popAndGo_20 : decode b_ThumbCore_popAndGo 20 = .ok (.invokestatic 134, 3) := by decide +kernel
theorem d_ThumbCore_popAndGo_23 : decode b_ThumbCore_popAndGo 23 = .ok (.iconst 1, 1) := by decide +kernel
theorem d_ThumbCore_popAndGo_24 : decode b_ThumbCore_popAndGo 24 = .ok (.iadd, 1) := by decide +kernel
theorem d_ThumbCore_popAndGo_25 : decode b_ThumbCore_popAndGo 25 = .ok (.invokevirtual 295, 3) := by decide +kernel
theorem d_ThumbCore_popAndGo_28 : decode b_ThumbCore_popAndGo 28 = .ok (.ifCond .ne 5, 3) := by decide +kernel
theorem d_ThumbCore_popAndGo_31 : decode b_ThumbCore_popAndGo 31 = .ok (.iconst 0, 1) := by decide +kernel
theorem d_ThumbCore_popAndGo_32 : decode b_ThumbCore_popAndGo 32 = .ok (.ireturn, 1) := by decide +kernel
theorem d_ThumbCore_popAndGo_33 : decode b_ThumbCore_popAndGo 33 = .ok (.aload_n 0, 1) := by decide +kernel
theorem d_ThumbCore_popAndGo_34 : decode b_ThumbCore_popAndGo 34 = .ok (.getfield 21, 3) := by decide +kernel
theorem d_ThumbCore_popAndGo_37 : decode b_ThumbCore_popAndGo 37 = .ok (.iload_n 3, 1) := by decide +kernel
theorem d_ThumbCore_popAndGo_38 : decode b_ThumbCore_popAndGo 38 = .ok (.invokevirtual 66, 3) := by decide +kernel
theorem d_ThumbCore_popAndGo_41 : decode b_ThumbCore_popAndGo 41 = .ok (.istore 4, 2) := by decide +kernel
theorem d_ThumbCore_popAndGo_43 : decode b_ThumbCore_popAndGo 43 = .ok (.aload_n 0, 1) := by decide +kernel
theorem d_ThumbCore_popAndGo_44 : decode b_ThumbCore_popAndGo 44 = .ok (.iload 4, 2) := by decide +kernel
theorem d_ThumbCore_popAndGo_46 : decode b_ThumbCore_popAndGo 46 = .ok (.iload_n 3, 1) := by decide +kernel
theorem d_ThumbCore_popAndGo_47 : decode b_ThumbCore_popAndGo 47 = .ok (.iconst 4, 1) := by decide +kernel
theorem d_ThumbCore_popAndGo_48 : decode b_ThumbCore_popAndGo 48 = .ok (.iadd, 1) := by decide +kernel
theorem d_ThumbCore_popAndGo_49 : decode b_ThumbCore_popAndGo 49 = .ok (.invokevirtual 235, 3) := by decide +kernel
theorem d_ThumbCore_popAndGo_52 : decode b_ThumbCore_popAndGo 52 = .ok (.ifCond .ne 5, 3) := by decide +kernel
theorem d_ThumbCore_popAndGo_55 : decode b_ThumbCore_popAndGo 55 = .ok (.iconst 0, 1) := by decide +kernel
theorem d_ThumbCore_popAndGo_56 : decode b_ThumbCore_popAndGo 56 = .ok (.ireturn, 1) := by decide +kernel
theorem d_ThumbCore_popAndGo_57 : decode b_ThumbCore_popAndGo 57 = .ok (.aload_n 0, 1) := by decide +kernel
theorem d_ThumbCore_popAndGo_58 : decode b_ThumbCore_popAndGo 58 = .ok (.iload_n 1, 1) := by decide +kernel
theorem d_ThumbCore_popAndGo_59 : decode b_ThumbCore_popAndGo 59 = .ok (.iload_n 2, 1) := by decide +kernel
theorem d_ThumbCore_popAndGo_60 : decode b_ThumbCore_popAndGo 60 = .ok (.invokevirtual 289, 3) := by decide +kernel
theorem d_ThumbCore_popAndGo_63 : decode b_ThumbCore_popAndGo 63 = .ok (.aload_n 0, 1) := by decide +kernel
theorem d_ThumbCore_popAndGo_64 : decode b_ThumbCore_popAndGo 64 = .ok (.getfield 27, 3) := by decide +kernel
theorem d_ThumbCore_popAndGo_67 : decode b_ThumbCore_popAndGo 67 = .ok (.bipush 13, 2) := by decide +kernel
theorem d_ThumbCore_popAndGo_69 : decode b_ThumbCore_popAndGo 69 = .ok (.iload_n 3, 1) := by decide +kernel
theorem d_ThumbCore_popAndGo_70 : decode b_ThumbCore_popAndGo 70 = .ok (.iconst 4, 1) := by decide +kernel
theorem d_ThumbCore_popAndGo_71 : decode b_ThumbCore_popAndGo 71 = .ok (.iadd, 1) := by decide +kernel
theorem d_ThumbCore_popAndGo_72 : decode b_ThumbCore_popAndGo 72 = .ok (.iastore, 1) := by decide +kernel
theorem d_ThumbCore_popAndGo_73 : decode b_ThumbCore_popAndGo 73 = .ok (.aload_n 0, 1) := by decide +kernel
theorem d_ThumbCore_popAndGo_74 : decode b_ThumbCore_popAndGo 74 = .ok (.iload 4, 2) := by decide +kernel
theorem d_ThumbCore_popAndGo_76 : decode b_ThumbCore_popAndGo 76 = .ok (.invokevirtual 241, 3) := by decide +kernel
theorem d_ThumbCore_popAndGo_79 : decode b_ThumbCore_popAndGo 79 = .ok (.iconst 1, 1) := by decide +kernel
theorem d_ThumbCore_popAndGo_80 : decode b_ThumbCore_popAndGo 80 = .ok (.ireturn, 1) := by decide +kernel
theorem d_ThumbCore_storeMany_0 : decode b_ThumbCore_storeMany 0 = .ok (.aload_n 0, 1) := by decide +kernel
theorem d_ThumbCore_storeMany_1 : decode b_ThumbCore_storeMany 1 = .ok (.getfield 27, 3) := by decide +kernel
theorem d_ThumbCore_storeMany_4 : decode b_ThumbCore_storeMany 4 = .ok (.iload_n 1, 1) := by decide +kernel
theorem d_ThumbCore_storeMany_5 : decode b_ThumbCore_storeMany 5 = .ok (.iaload, 1) := by decide +kernel
theorem d_ThumbCore_storeMany_6 : decode b_ThumbCore_storeMany 6 = .ok (.istore_n 3, 1) := by decide +kernel
theorem d_ThumbCore_storeMany_7 : decode b_ThumbCore_storeMany 7 = .ok (.iload_n 2, 1) := by decide +kernel
theorem d_ThumbCore_storeMany_8 : decode b_ThumbCore_storeMany 8 = .ok (.iload_n 1, 1) := by decide +kernel
theorem d_ThumbCore_storeMany_9 : decode b_ThumbCore_storeMany 9 = .ok (.iushr, 1) := by decide +kernel
theorem d_ThumbCore_storeMany_10 : decode b_ThumbCore_storeMany 10 = .ok (.iconst 1, 1) := by decide +kernel
theorem d_ThumbCore_storeMany_11 : decode b_ThumbCore_storeMany 11 = .ok (.iand, 1) := by decide +kernel
theorem d_ThumbCore_storeMany_12 : decode b_ThumbCore_storeMany 12 = .ok (.iconst 1, 1) := by decide +kernel
theorem d_ThumbCore_storeMany_13 : decode b_ThumbCore_storeMany 13 = .ok (.if_icmp .ne 7, 3) := by decide +kernel
theorem d_ThumbCore_storeMany_16 : decode b_ThumbCore_storeMany 16 = .ok (.iconst 1, 1) := by decide +kernel
theorem d_ThumbCore_storeMany_17 : decode b_ThumbCore_storeMany 17 = .ok (.goto 4, 3) := by decide +kernel
theorem d_ThumbCore_storeMany_20 : decode b_ThumbCore_storeMany 20 = .ok (.iconst 0, 1) := by decide +kernel
theorem d_ThumbCore_storeMany_21 : decode b_ThumbCore_storeMany 21 = .ok (.istore 4, 2) := by decide +kernel
theorem d_ThumbCore_storeMany_23 : decode b_ThumbCore_storeMany 23 = .ok (.iload_n 2, 1) := by decide +kernel
theorem d_ThumbCore_storeMany_24 : decode b_ThumbCore_storeMany 24 = .ok (.iconst 1, 1) := by decide +kernel
theorem d_ThumbCore_storeMany_25 : decode b_ThumbCore_storeMany 25 = .ok (.iload_n 1, 1) := by decide +kernel
theorem d_ThumbCore_storeMany_26 : decode b_ThumbCore_storeMany 26 = .ok (.ishl, 1) := by decide +kernel
theorem d_ThumbCore_storeMany_27 : decode b_ThumbCore_storeMany 27 = .ok (.iconst 1, 1) := by decide +kernel
theorem d_ThumbCore_storeMany_28 : decode b_ThumbCore_storeMany 28 = .ok (.isub, 1) := by decide +kernel
theorem d_ThumbCore_storeMany_29 : decode b_ThumbCore_storeMany 29 = .ok (.iand, 1) := by decide +kernel
theorem d_ThumbCore_storeMany_30 : decode b_ThumbCore_storeMany 30 = .ok (.ifCond .eq 7, 3) := by decide +kernel
theorem d_ThumbCore_storeMany_33 : decode b_ThumbCore_storeMany 33 = .ok (.iconst 1, 1) := by decide +kernel
theorem d_ThumbCore_storeMany_34 : decode b_ThumbCore_storeMany 34 = .ok (.goto 4, 3) := by decide +kernel
theorem d_ThumbCore_storeMany_37 : decode b_ThumbCore_storeMany 37 = .ok (.iconst 0, 1) := by decide +kernel
theorem d_ThumbCore_storeMany_38 : decode b_ThumbCore_storeMany 38 = .ok (.istore 5, 2) := by decide +kernel
theorem d_ThumbCore_storeMany_40 : decode b_ThumbCore_storeMany 40 = .ok (.iload 4, 2) := by decide +kernel
theorem d_ThumbCore_storeMany_42 : decode b_ThumbCore_storeMany 42 = .ok (.ifCond .eq 8, 3) := by decide +kernel
theorem d_ThumbCore_storeMany_45 : decode b_ThumbCore_storeMany 45 = .ok (.iload 5, 2) := by decide +kernel
theorem d_ThumbCore_storeMany_47 : decode b_ThumbCore_storeMany 47 = .ok (.ifCond .ne 12, 3) := by decide +kernel
theorem d_ThumbCore_storeMany_50 : decode b_ThumbCore_storeMany 50 = .ok (.aload_n 0, 1) := by decide +kernel
theorem d_ThumbCore_storeMany_51 : decode b_ThumbCore_storeMany 51 = .ok (.iload_n 2, 1) := by decide +kernel
theorem d_ThumbCore_storeMany_52 : decode b_ThumbCore_storeMany 52 = .ok (.iload_n 3, 1) := by decide +kernel
theorem d_ThumbCore_storeMany_53 : decode b_ThumbCore_storeMany 53 = .ok (.invokevirtual 283, 3) := by decide +kernel
theorem d_ThumbCore_storeMany_56 : decode b_ThumbCore_storeMany 56 = .ok (.ifCond .ne 5, 3) := by decide +kernel
theorem d_ThumbCore_storeMany_59 : decode b_ThumbCore_storeMany 59 = .ok (.iconst 0, 1) := by decide +kernel
theorem d_ThumbCore_storeMany_60 : decode b_ThumbCore_storeMany 60 = .ok (.ireturn, 1) := by decide +kernel
theorem d_ThumbCore_storeMany_61 : decode b_ThumbCore_storeMany 61 = .ok (.aload_n 0, 1) := by decide +kernel
theorem d_ThumbCore_storeMany_62 : decode b_ThumbCore_storeMany 62 = .ok (.iload_n 2, 1) := by decide +kernel
theorem d_ThumbCore_storeMany_63 : decode b_ThumbCore_storeMany 63 = .ok (.iload_n 3, 1) := by decide +kernel
theorem d_ThumbCore_storeMany_64 : decode b_ThumbCore_storeMany 64 = .ok (.invokevirtual 286, 3) := by decide +kernel
theorem d_ThumbCore_storeMany_67 : decode b_ThumbCore_storeMany 67 = .ok (.aload_n 0, 1) := by decide +kernel
theorem d_ThumbCore_storeMany_68 : decode b_ThumbCore_storeMany 68 = .ok (.getfield 27, 3) := by decide +kernel
theorem d_ThumbCore_storeMany_71 : decode b_ThumbCore_storeMany 71 = .ok (.iload_n 1, 1) := by decide +kernel
theorem d_ThumbCore_storeMany_72 : decode b_ThumbCore_storeMany 72 = .ok (.iload_n 2, 1) := by decide +kernel
theorem d_ThumbCore_storeMany_73 : decode b_ThumbCore_storeMany 73 = .ok (.iload_n 3, 1) := by decide +kernel
theorem d_ThumbCore_storeMany_74 : decode b_ThumbCore_storeMany 74 = .ok (.invokestatic 292, 3) := by decide +kernel
theorem d_ThumbCore_storeMany_77 : decode b_ThumbCore_storeMany 77 = .ok (.iastore, 1) := by decide +kernel
theorem d_ThumbCore_storeMany_78 : decode b_ThumbCore_storeMany 78 = .ok (.iconst 1, 1) := by decide +kernel
theorem d_ThumbCore_storeMany_79 : decode b_ThumbCore_storeMany 79 = .ok (.ireturn, 1) := by decide +kernel
theorem d_ThumbCore_loadMany_0 : decode b_ThumbCore_loadMany 0 = .ok (.aload_n 0, 1) := by decide +kernel
theorem d_ThumbCore_loadMany_1 : decode b_ThumbCore_loadMany 1 = .ok (.getfield 27, 3) := by decide +kernel
theorem d_ThumbCore_loadMany_4 : decode b_ThumbCore_loadMany 4 = .ok (.iload_n 1, 1) := by decide +kernel
theorem d_ThumbCore_loadMany_5 : decode b_ThumbCore_loadMany 5 = .ok (.iaload, 1) := by decide +kernel
theorem d_ThumbCore_loadMany_6 : decode b_ThumbCore_loadMany 6 = .ok (.istore_n 3, 1) := by decide +kernel
theorem d_ThumbCore_loadMany_7 : decode b_ThumbCore_loadMany 7 = .ok (.aload_n 0, 1) := by decide +kernel
theorem d_ThumbCore_loadMany_8 : decode b_ThumbCore_loadMany 8 = .ok (.iload_n 2, 1) := by decide +kernel
theorem d_ThumbCore_loadMany_9 : decode b_ThumbCore_loadMany 9 = .ok (.iload_n 3, 1) := by decide +kernel
theorem d_ThumbCore_loadMany_10 : decode b_ThumbCore_loadMany 10 = .ok (.invokevirtual 283, 3) := by decide +kernel
theorem d_ThumbCore_loadMany_13 : decode b_ThumbCore_loadMany 13 = .ok (.ifCond .ne 5, 3) := by decide +kernel
theorem d_ThumbCore_loadMany_16 : decode b_ThumbCore_loadMany 16 = .ok (.iconst 0, 1) := by decide +kernel
theorem d_ThumbCore_loadMany_17 : decode b_ThumbCore_loadMany 17 = .ok (.ireturn, 1) := by decide +kernel
theorem d_ThumbCore_loadMany_18 : decode b_ThumbCore_loadMany 18 = .ok (.aload_n 0, 1) := by decide +kernel
theorem d_ThumbCore_loadMany_19 : decode b_ThumbCore_loadMany 19 = .ok (.getfield 27, 3) := by decide +kernel
theorem d_ThumbCore_loadMany_22 : decode b_ThumbCore_loadMany 22 = .ok (.iload_n 1, 1) := by decide +kernel
theorem d_ThumbCore_loadMany_23 : decode b_ThumbCore_loadMany 23 = .ok (.iload_n 2, 1) := by decide +kernel
theorem d_ThumbCore_loadMany_24 : decode b_ThumbCore_loadMany 24 = .ok (.iload_n 3, 1) := by decide +kernel
theorem d_ThumbCore_loadMany_25 : decode b_ThumbCore_loadMany 25 = .ok (.invokestatic 292, 3) := by decide +kernel
theorem d_ThumbCore_loadMany_28 : decode b_ThumbCore_loadMany 28 = .ok (.iastore, 1) := by decide +kernel
theorem d_ThumbCore_loadMany_29 : decode b_ThumbCore_loadMany 29 = .ok (.aload_n 0, 1) := by decide +kernel
theorem d_ThumbCore_loadMany_30 : decode b_ThumbCore_loadMany 30 = .ok (.iload_n 2, 1) := by decide +kernel
theorem d_ThumbCore_loadMany_31 : decode b_ThumbCore_loadMany 31 = .ok (.iload_n 3, 1) := by decide +kernel
theorem d_ThumbCore_loadMany_32 : decode b_ThumbCore_loadMany 32 = .ok (.invokevirtual 289, 3) := by decide +kernel
theorem d_ThumbCore_loadMany_35 : decode b_ThumbCore_loadMany 35 = .ok (.iconst 1, 1) := by decide +kernel
theorem d_ThumbCore_loadMany_36 : decode b_ThumbCore_loadMany 36 = .ok (.ireturn, 1) := by decide +kernel
theorem d_ThumbCore_areThere_0 : decode b_ThumbCore_areThere 0 = .ok (.iload_n 1, 1) := by decide +kernel
theorem d_ThumbCore_areThere_1 : decode b_ThumbCore_areThere 1 = .ok (.ifCond .eq 22, 3) := by decide +kernel
theorem d_ThumbCore_areThere_4 : decode b_ThumbCore_areThere 4 = .ok (.aload_n 0, 1) := by decide +kernel
theorem d_ThumbCore_areThere_5 : decode b_ThumbCore_areThere 5 = .ok (.getfield 21, 3) := by decide +kernel
theorem d_ThumbCore_areThere_8 : decode b_ThumbCore_areThere 8 = .ok (.iload_n 2, 1) := by decide +kernel
theorem d_ThumbCore_areThere_9 : decode b_ThumbCore_areThere 9 = .ok (.iload_n 1, 1) := by decide +kernel
theorem d_ThumbCore_areThere_10 : decode b_ThumbCore_areThere 10 = .ok (.invokestatic 134, 3) := by decide +kernel
theorem d_ThumbCore_areThere_13 : decode b_ThumbCore_areThere 13 = .ok (.invokevirtual 295, 3) := by decide +kernel
theorem d_ThumbCore_areThere_16 : decode b_ThumbCore_areThere 16 = .ok (.ifCond .eq 7, 3) := by decide +kernel
theorem d_ThumbCore_areThere_19 : decode b_ThumbCore_areThere 19 = .ok (.iconst 1, 1) := by decide +kernel
theorem d_ThumbCore_areThere_20 : decode b_ThumbCore_areThere 20 = .ok (.goto 4, 3) := by decide +kernel
theorem d_ThumbCore_areThere_23 : decode b_ThumbCore_areThere 23 = .ok (.iconst 0, 1) := by decide +kernel
theorem d_ThumbCore_areThere_24 : decode b_ThumbCore_areThere 24 = .ok (.ireturn, 1) := by decide +kernel
theorem d_ThumbCore_behind_0 : decode b_ThumbCore_behind 0 = .ok (.iload_n 1, 1) := by decide +kernel
theorem d_ThumbCore_behind_1 : decode b_ThumbCore_behind 1 = .ok (.iconst 4, 1) := by decide +kernel
theorem d_ThumbCore_behind_2 : decode b_ThumbCore_behind 2 = .ok (.iload_n 0, 1) := by decide +kernel
theorem d_ThumbCore_behind_3 : decode b_ThumbCore_behind 3 = .ok (.invokestatic 134, 3) := by decide +kernel
theorem d_ThumbCore_behind_6 : decode b_ThumbCore_behind 6 = .ok (.imul, 1) := by decide +kernel
theorem d_ThumbCore_behind_7 : decode b_ThumbCore_behind 7 = .ok (.iadd, 1) := by decide +kernel
theorem d_ThumbCore_behind_8 : decode b_ThumbCore_behind 8 = .ok (.ireturn, 1) := by decide +kernel
theorem d_ThumbCore_writeList_0 : decode b_ThumbCore_writeList 0 = .ok (.iload_n 2, 1) := by decide +kernel
theorem d_ThumbCore_writeList_1 : decode b_ThumbCore_writeList 1 = .ok (.istore_n 3, 1) := by decide +kernel
theorem d_ThumbCore_writeList_2 : decode b_ThumbCore_writeList 2 = .ok (.iconst 0, 1) := by decide +kernel
theorem d_ThumbCore_writeList_3 : decode b_ThumbCore_writeList 3 = .ok (.istore 4, 2) := by decide +kernel
theorem d_ThumbCore_writeList_5 : decode b_ThumbCore_writeList 5 = .ok (.iload 4, 2) := by decide +kernel
theorem d_ThumbCore_writeList_7 : decode b_ThumbCore_writeList 7 = .ok (.bipush 15, 2) := by decide +kernel
theorem d_ThumbCore_writeList_9 : decode b_ThumbCore_writeList 9 = .ok (.if_icmp .ge 37, 3) := by decide +kernel
theorem d_ThumbCore_writeList_12 : decode b_ThumbCore_writeList 12 = .ok (.iload_n 1, 1) := by decide +kernel
theorem d_ThumbCore_writeList_13 : decode b_ThumbCore_writeList 13 = .ok (.iload 4, 2) := by decide +kernel
theorem d_ThumbCore_writeList_15 : decode b_ThumbCore_writeList 15 = .ok (.iushr, 1) := by decide +kernel
theorem d_ThumbCore_writeList_16 : decode b_ThumbCore_writeList 16 = .ok (.iconst 1, 1) := by decide +kernel
theorem d_ThumbCore_writeList_17 : decode b_ThumbCore_writeList 17 = .ok (.iand, 1) := by decide +kernel
theorem d_ThumbCore_writeList_18 : decode b_ThumbCore_writeList 18 = .ok (.iconst 1, 1) := by decide +kernel
theorem d_ThumbCore_writeList_19 : decode b_ThumbCore_writeList 19 = .ok (.if_icmp .ne 21, 3) := by decide +kernel
theorem d_ThumbCore_writeList_22 : decode b_ThumbCore_writeList 22 = .ok (.aload_n 0, 1) := by decide +kernel
theorem d_ThumbCore_writeList_23 : decode b_ThumbCore_writeList 23 = .ok (.getfield 21, 3) := by decide +kernel
theorem d_ThumbCore_writeList_26 : decode b_ThumbCore_writeList 26 = .ok (.iload_n 3, 1) := by decide +kernel
theorem d_ThumbCore_writeList_27 : decode b_ThumbCore_writeList 27 = .ok (.aload_n 0, 1) := by decide +kernel
theorem d_ThumbCore_writeList_28 : decode b_ThumbCore_writeList 28 = .ok (.getfield 27, 3) := by decide +kernel
theorem d_ThumbCore_writeList_31 : decode b_ThumbCore_writeList 31 = .ok (.iload 4, 2) := by decide +kernel
theorem d_ThumbCore_writeList_33 : decode b_ThumbCore_writeList 33 = .ok (.iaload, 1) := by decide +kernel
theorem d_ThumbCore_writeList_34 : decode b_ThumbCore_writeList 34 = .ok (.invokevirtual 296, 3) := by decide +kernel
theorem d_ThumbCore_writeList_37 : decode b_ThumbCore_writeList 37 = .ok (.iinc 3 4, 3) := by decide +kernel
theorem d_ThumbCore_writeList_40 : decode b_ThumbCore_writeList 40 = .ok (.iinc 4 1, 3) := by decide +kernel
theorem d_ThumbCore_writeList_43 : decode b_ThumbCore_writeList 43 = .ok (.goto (-38), 3) := by decide +kernel
theorem d_ThumbCore_writeList_46 : decode b_ThumbCore_writeList 46 = .ok (.return_, 1) := by decide +kernel
theorem d_ThumbCore_readList_0 : decode b_ThumbCore_readList 0 = .ok (.iload_n 2, 1) := by decide +kernel
theorem d_ThumbCore_readList_1 : decode b_ThumbCore_readList 1 = .ok (.istore_n 3, 1) := by decide +kernel
theorem d_ThumbCore_readList_2 : decode b_ThumbCore_readList 2 = .ok (.iconst 0, 1) := by decide +kernel
theorem d_ThumbCore_readList_3 : decode b_ThumbCore_readList 3 = .ok (.istore 4, 2) := by decide +kernel
theorem d_ThumbCore_readList_5 : decode b_ThumbCore_readList 5 = .ok (.iload 4, 2) := by decide +kernel
theorem d_ThumbCore_readList_7 : decode b_ThumbCore_readList 7 = .ok (.bipush 15, 2) := by decide +kernel
theorem d_ThumbCore_readList_9 : decode b_ThumbCore_readList 9 = .ok (.if_icmp .ge 37, 3) := by decide +kernel
theorem d_ThumbCore_readList_12 : decode b_ThumbCore_readList 12 = .ok (.iload_n 1, 1) := by decide +kernel
theorem d_ThumbCore_readList_13 : decode b_ThumbCore_readList 13 = .ok (.iload 4, 2) := by decide +kernel
theorem d_ThumbCore_readList_15 : decode b_ThumbCore_readList 15 = .ok (.iushr, 1) := by decide +kernel
theorem d_ThumbCore_readList_16 : decode b_ThumbCore_readList 16 = .ok (.iconst 1, 1) := by decide +kernel
theorem d_ThumbCore_readList_17 : decode b_ThumbCore_readList 17 = .ok (.iand, 1) := by decide +kernel
theorem d_ThumbCore_readList_18 : decode b_ThumbCore_readList 18 = .ok (.iconst 1, 1) := by decide +kernel
theorem d_ThumbCore_readList_19 : decode b_ThumbCore_readList 19 = .ok (.if_icmp .ne 21, 3) := by decide +kernel
theorem d_ThumbCore_readList_22 : decode b_ThumbCore_readList 22 = .ok (.aload_n 0, 1) := by decide +kernel
theorem d_ThumbCore_readList_23 : decode b_ThumbCore_readList 23 = .ok (.getfield 27, 3) := by decide +kernel
theorem d_ThumbCore_readList_26 : decode b_ThumbCore_readList 26 = .ok (.iload 4, 2) := by decide +kernel
theorem d_ThumbCore_readList_28 : decode b_ThumbCore_readList 28 = .ok (.aload_n 0, 1) := by decide +kernel
theorem d_ThumbCore_readList_29 : decode b_ThumbCore_readList 29 = .ok (.getfield 21, 3) := by decide +kernel
theorem d_ThumbCore_readList_32 : decode b_ThumbCore_readList 32 = .ok (.iload_n 3, 1) := by decide +kernel
theorem d_ThumbCore_readList_33 : decode b_ThumbCore_readList 33 = .ok (.invokevirtual 66, 3) := by decide +kernel
theorem d_ThumbCore_readList_36 : decode b_ThumbCore_readList 36 = .ok (.iastore, 1) := by decide +kernel
theorem d_ThumbCore_readList_37 : decode b_ThumbCore_readList 37 = .ok (.iinc 3 4, 3) := by decide +kernel
theorem d_ThumbCore_readList_40 : decode b_ThumbCore_readList 40 = .ok (.iinc 4 1, 3) := by decide +kernel
theorem d_ThumbCore_readList_43 : decode b_ThumbCore_readList 43 = .ok (.goto (-38), 3) := by decide +kernel
theorem d_ThumbCore_readList_46 : decode b_ThumbCore_readList 46 = .ok (.return_, 1) := by decide +kernel
theorem d_ThumbCore_branchOrCall_0 : decode b_ThumbCore_branchOrCall 0 = .ok (.iload_n 1, 1) := by decide +kernel
theorem d_ThumbCore_branchOrCall_1 : decode b_ThumbCore_branchOrCall 1 = .ok (.bipush 14, 2) := by decide +kernel
theorem d_ThumbCore_branchOrCall_3 : decode b_ThumbCore_branchOrCall 3 = .ok (.if_icmp .ne 5, 3) := by decide +kernel
theorem d_ThumbCore_branchOrCall_6 : decode b_ThumbCore_branchOrCall 6 = .ok (.iconst 0, 1) := by decide +kernel
theorem d_ThumbCore_branchOrCall_7 : decode b_ThumbCore_branchOrCall 7 = .ok (.ireturn, 1) := by decide +kernel
theorem d_ThumbCore_branchOrCall_8 : decode b_ThumbCore_branchOrCall 8 = .ok (.iload_n 1, 1) := by decide +kernel
theorem d_ThumbCore_branchOrCall_9 : decode b_ThumbCore_branchOrCall 9 = .ok (.bipush 15, 2) := by decide +kernel
theorem d_ThumbCore_branchOrCall_11 : decode b_ThumbCore_branchOrCall 11 = .ok (.if_icmp .ne 8, 3) := by decide +kernel
theorem d_ThumbCore_branchOrCall_14 : decode b_ThumbCore_branchOrCall 14 = .ok (.aload_n 0, 1) := by decide +kernel
theorem d_ThumbCore_branchOrCall_15 : decode b_ThumbCore_branchOrCall 15 = .ok (.invokevirtual 299, 3) := by decide +kernel
theorem d_ThumbCore_branchOrCall_18 : decode b_ThumbCore_branchOrCall 18 = .ok (.ireturn, 1) := by decide +kernel
theorem d_ThumbCore_branchOrCall_19 : decode b_ThumbCore_branchOrCall 19 = .ok (.aload_n 0, 1) := by decide +kernel
theorem d_ThumbCore_branchOrCall_20 : decode b_ThumbCore_branchOrCall 20 = .ok (.getfield 34, 3) := by decide +kernel
theorem d_ThumbCore_branchOrCall_23 : decode b_ThumbCore_branchOrCall 23 = .ok (.iload_n 1, 1) := by decide +kernel
theorem d_ThumbCore_branchOrCall_24 : decode b_ThumbCore_branchOrCall 24 = .ok (.invokevirtual 302, 3) := by decide +kernel
theorem d_ThumbCore_branchOrCall_27 : decode b_ThumbCore_branchOrCall 27 = .ok (.ifCond .eq 15, 3) := by decide +kernel
theorem d_ThumbCore_branchOrCall_30 : decode b_ThumbCore_branchOrCall 30 = .ok (.aload_n 0, 1) := by decide +kernel
theorem d_ThumbCore_branchOrCall_31 : decode b_ThumbCore_branchOrCall 31 = .ok (.aload_n 0, 1) := by decide +kernel
theorem d_ThumbCore_branchOrCall_32 : decode b_ThumbCore_branchOrCall 32 = .ok (.invokevirtual 194, 3) := by decide +kernel
theorem d_ThumbCore_branchOrCall_35 : decode b_ThumbCore_branchOrCall 35 = .ok (.iconst 2, 1) := by decide +kernel
theorem d_ThumbCore_branchOrCall_36 : decode b_ThumbCore_branchOrCall 36 = .ok (.iload_n 2, 1) := by decide +kernel
theorem d_ThumbCore_branchOrCall_37 : decode b_ThumbCore_branchOrCall 37 = .ok (.imul, 1) := by decide +kernel
theorem d_ThumbCore_branchOrCall_38 : decode b_ThumbCore_branchOrCall 38 = .ok (.iadd, 1) := by decide +kernel
theorem d_ThumbCore_branchOrCall_39 : decode b_ThumbCore_branchOrCall 39 = .ok (.putfield 111, 3) := by decide +kernel
theorem d_ThumbCore_branchOrCall_42 : decode b_ThumbCore_branchOrCall 42 = .ok (.iconst 1, 1) := by decide +kernel
theorem d_ThumbCore_branchOrCall_43 : decode b_ThumbCore_branchOrCall 43 = .ok (.ireturn, 1) := by decide +kernel
theorem d_ThumbCore_call_0 : decode b_ThumbCore_call 0 = .ok (.aload_n 0, 1) := by decide +kernel
theorem d_ThumbCore_call_1 : decode b_ThumbCore_call 1 = .ok (.getfield 41, 3) := by decide +kernel
theorem d_ThumbCore_call_4 : decode b_ThumbCore_call 4 = .ok (.getfield 152, 3) := by decide +kernel
theorem d_ThumbCore_call_7 : decode b_ThumbCore_call 7 = .ok (.bipush 11, 2) := by decide +kernel
theorem d_ThumbCore_call_9 : decode b_ThumbCore_call 9 = .ok (.iaload, 1) := by decide +kernel
theorem d_ThumbCore_call_10 : decode b_ThumbCore_call 10 = .ok (.aload_n 0, 1) := by decide +kernel
theorem d_ThumbCore_call_11 : decode b_ThumbCore_call 11 = .ok (.getfield 41, 3) := by decide +kernel
theorem d_ThumbCore_call_14 : decode b_ThumbCore_call 14 = .ok (.invokevirtual 101, 3) := by decide +kernel
theorem d_ThumbCore_call_17 : decode b_ThumbCore_call 17 = .ok (.if_icmp .lt 5, 3) := by decide +kernel
theorem d_ThumbCore_call_20 : decode b_ThumbCore_call 20 = .ok (.iconst 0, 1) := by decide +kernel
theorem d_ThumbCore_call_21 : decode b_ThumbCore_call 21 = .ok (.ireturn, 1) := by decide +kernel
theorem d_ThumbCore_call_22 : decode b_ThumbCore_call 22 = .ok (.aload_n 0, 1) := by decide +kernel
theorem d_ThumbCore_call_23 : decode b_ThumbCore_call 23 = .ok (.bipush 11, 2) := by decide +kernel
theorem d_ThumbCore_call_25 : decode b_ThumbCore_call 25 = .ok (.aload_n 0, 1) := by decide +kernel
theorem d_ThumbCore_call_26 : decode b_ThumbCore_call 26 = .ok (.getfield 111, 3) := by decide +kernel
theorem d_ThumbCore_call_29 : decode b_ThumbCore_call 29 = .ok (.invokevirtual 104, 3) := by decide +kernel
theorem d_ThumbCore_call_32 : decode b_ThumbCore_call 32 = .ok (.aload_n 0, 1) := by decide +kernel
theorem d_ThumbCore_call_33 : decode b_ThumbCore_call 33 = .ok (.aload_n 0, 1) := by decide +kernel
theorem d_ThumbCore_call_34 : decode b_ThumbCore_call 34 = .ok (.getfield 27, 3) := by decide +kernel
theorem d_ThumbCore_call_37 : decode b_ThumbCore_call 37 = .ok (.bipush 15, 2) := by decide +kernel
theorem d_ThumbCore_call_39 : decode b_ThumbCore_call 39 = .ok (.iaload, 1) := by decide +kernel
theorem d_ThumbCore_call_40 : decode b_ThumbCore_call 40 = .ok (.putfield 111, 3) := by decide +kernel
theorem d_ThumbCore_call_43 : decode b_ThumbCore_call 43 = .ok (.iconst 1, 1) := by decide +kernel
theorem d_ThumbCore_call_44 : decode b_ThumbCore_call 44 = .ok (.ireturn, 1) := by decide +kernel
theorem d_ThumbCore_branchFar_0 : decode b_ThumbCore_branchFar 0 = .ok (.aload_n 0, 1) := by decide +kernel
theorem d_ThumbCore_branchFar_1 : decode b_ThumbCore_branchFar 1 = .ok (.getfield 27, 3) := by decide +kernel
theorem d_ThumbCore_branchFar_4 : decode b_ThumbCore_branchFar 4 = .ok (.bipush 15, 2) := by decide +kernel
theorem d_ThumbCore_branchFar_6 : decode b_ThumbCore_branchFar 6 = .ok (.iaload, 1) := by decide +kernel
theorem d_ThumbCore_branchFar_7 : decode b_ThumbCore_branchFar 7 = .ok (.istore_n 2, 1) := by decide +kernel
theorem d_ThumbCore_branchFar_8 : decode b_ThumbCore_branchFar 8 = .ok (.aload_n 0, 1) := by decide +kernel
theorem d_ThumbCore_branchFar_9 : decode b_ThumbCore_branchFar 9 = .ok (.getfield 21, 3) := by decide +kernel
theorem d_ThumbCore_branchFar_12 : decode b_ThumbCore_branchFar 12 = .ok (.iload_n 2, 1) := by decide +kernel
theorem d_ThumbCore_branchFar_13 : decode b_ThumbCore_branchFar 13 = .ok (.iconst 2, 1) := by decide +kernel
theorem d_ThumbCore_branchFar_14 : decode b_ThumbCore_branchFar 14 = .ok (.iadd, 1) := by decide +kernel
theorem d_ThumbCore_branchFar_15 : decode b_ThumbCore_branchFar 15 = .ok (.iconst 2, 1) := by decide +kernel
theorem d_ThumbCore_branchFar_16 : decode b_ThumbCore_branchFar 16 = .ok (.invokevirtual 155, 3) := by decide +kernel
theorem d_ThumbCore_branchFar_19 : decode b_ThumbCore_branchFar 19 = .ok (.ifCond .ne 5, 3) := by decide +kernel
theorem d_ThumbCore_branchFar_22 : decode b_ThumbCore_branchFar 22 = .ok (.iconst 0, 1) := by decide +kernel
theorem d_ThumbCore_branchFar_23 : decode b_ThumbCore_branchFar 23 = .ok (.ireturn, 1) := by decide +kernel
theorem d_ThumbCore_branchFar_24 : decode b_ThumbCore_branchFar 24 = .ok (.aload_n 0, 1) := by decide +kernel
theorem d_ThumbCore_branchFar_25 : decode b_ThumbCore_branchFar 25 = .ok (.getfield 21, 3) := by decide +kernel
theorem d_ThumbCore_branchFar_28 : decode b_ThumbCore_branchFar 28 = .ok (.iload_n 2, 1) := by decide +kernel
theorem d_ThumbCore_branchFar_29 : decode b_ThumbCore_branchFar 29 = .ok (.iconst 2, 1) := by decide +kernel
theorem d_ThumbCore_branchFar_30 : decode b_ThumbCore_branchFar 30 = .ok (.iadd, 1) := by decide +kernel
theorem d_ThumbCore_branchFar_31 : decode b_ThumbCore_branchFar 31 = .ok (.iconst 2, 1) := by decide +kernel
theorem d_ThumbCore_branchFar_32 : decode b_ThumbCore_branchFar 32 = .ok (.invokevirtual 63, 3) := by decide +kernel
theorem d_ThumbCore_branchFar_35 : decode b_ThumbCore_branchFar 35 = .ok (.istore_n 3, 1) := by decide +kernel
theorem d_ThumbCore_branchFar_36 : decode b_ThumbCore_branchFar 36 = .ok (.iload_n 3, 1) := by decide +kernel
theorem d_ThumbCore_branchFar_37 : decode b_ThumbCore_branchFar 37 = .ok (.ldc_w 305, 3) := by decide +kernel
theorem d_ThumbCore_branchFar_40 : decode b_ThumbCore_branchFar 40 = .ok (.if_icmp .lt 12, 3) := by decide +kernel
theorem d_ThumbCore_branchFar_43 : decode b_ThumbCore_branchFar 43 = .ok (.iload_n 3, 1) := by decide +kernel
theorem d_ThumbCore_branchFar_44 : decode b_ThumbCore_branchFar 44 = .ok (.bipush 12, 2) := by decide +kernel
theorem d_ThumbCore_branchFar_46 : decode b_ThumbCore_branchFar 46 = .ok (.iushr, 1) := by decide +kernel
theorem d_ThumbCore_branchFar_47 : decode b_ThumbCore_branchFar 47 = .ok (.iconst 1, 1) := by decide +kernel
theorem d_ThumbCore_branchFar_48 : decode b_ThumbCore_branchFar 48 = .ok (.iand, 1) := by decide +kernel
theorem d_ThumbCore_branchFar_49 : decode b_ThumbCore_branchFar 49 = .ok (.ifCond .ne 5, 3) := by decide +kernel
theorem d_ThumbCore_branchFar_52 : decode b_ThumbCore_branchFar 52 = .ok (.iconst 0, 1) := by decide +kernel
theorem d_ThumbCore_branchFar_53 : decode b_ThumbCore_branchFar 53 = .ok (.ireturn, 1) := by decide +kernel
theorem d_ThumbCore_branchFar_54 : decode b_ThumbCore_branchFar 54 = .ok (.aload_n 0, 1) := by decide +kernel
theorem d_ThumbCore_branchFar_55 : decode b_ThumbCore_branchFar 55 = .ok (.getfield 27, 3) := by decide +kernel
theorem d_ThumbCore_branchFar_58 : decode b_ThumbCore_branchFar 58 = .ok (.bipush 14, 2) := by decide +kernel
theorem d_ThumbCore_branchFar_60 : decode b_ThumbCore_branchFar 60 = .ok (.iload_n 2, 1) := by decide +kernel
theorem d_ThumbCore_branchFar_61 : decode b_ThumbCore_branchFar 61 = .ok (.iconst 5, 1) := by decide +kernel
theorem d_ThumbCore_branchFar_62 : decode b_ThumbCore_branchFar 62 = .ok (.iadd, 1) := by decide +kernel
theorem d_ThumbCore_branchFar_63 : decode b_ThumbCore_branchFar 63 = .ok (.iastore, 1) := by decide +kernel
theorem d_ThumbCore_branchFar_64 : decode b_ThumbCore_branchFar 64 = .ok (.aload_n 0, 1) := by decide +kernel
theorem d_ThumbCore_branchFar_65 : decode b_ThumbCore_branchFar 65 = .ok (.aload_n 0, 1) := by decide +kernel
theorem d_ThumbCore_branchFar_66 : decode b_ThumbCore_branchFar 66 = .ok (.invokevirtual 194, 3) := by decide +kernel
theorem d_ThumbCore_branchFar_69 : decode b_ThumbCore_branchFar 69 = .ok (.iload_n 1, 1) := by decide +kernel
theorem d_ThumbCore_branchFar_70 : decode b_ThumbCore_branchFar 70 = .ok (.iload_n 3, 1) := by decide +kernel
theorem d_ThumbCore_branchFar_71 : decode b_ThumbCore_branchFar 71 = .ok (.invokestatic 306, 3) := by decide +kernel
theorem d_ThumbCore_branchFar_74 : decode b_ThumbCore_branchFar 74 = .ok (.iadd, 1) := by decide +kernel
theorem d_ThumbCore_branchFar_75 : decode b_ThumbCore_branchFar 75 = .ok (.putfield 111, 3) := by decide +kernel
theorem d_ThumbCore_branchFar_78 : decode b_ThumbCore_branchFar 78 = .ok (.iconst 1, 1) := by decide +kernel
theorem d_ThumbCore_branchFar_79 : decode b_ThumbCore_branchFar 79 = .ok (.ireturn, 1) := by decide +kernel
theorem d_ThumbCore_farOffset_0 : decode b_ThumbCore_farOffset 0 = .ok (.iload_n 0, 1) := by decide +kernel
theorem d_ThumbCore_farOffset_1 : decode b_ThumbCore_farOffset 1 = .ok (.bipush 10, 2) := by decide +kernel
theorem d_ThumbCore_farOffset_3 : decode b_ThumbCore_farOffset 3 = .ok (.iushr, 1) := by decide +kernel
theorem d_ThumbCore_farOffset_4 : decode b_ThumbCore_farOffset 4 = .ok (.iconst 1, 1) := by decide +kernel
theorem d_ThumbCore_farOffset_5 : decode b_ThumbCore_farOffset 5 = .ok (.iand, 1) := by decide +kernel
theorem d_ThumbCore_farOffset_6 : decode b_ThumbCore_farOffset 6 = .ok (.istore_n 2, 1) := by decide +kernel
theorem d_ThumbCore_farOffset_7 : decode b_ThumbCore_farOffset 7 = .ok (.iload_n 1, 1) := by decide +kernel
theorem d_ThumbCore_farOffset_8 : decode b_ThumbCore_farOffset 8 = .ok (.bipush 13, 2) := by decide +kernel
theorem d_ThumbCore_farOffset_10 : decode b_ThumbCore_farOffset 10 = .ok (.iushr, 1) := by decide +kernel
theorem d_ThumbCore_farOffset_11 : decode b_ThumbCore_farOffset 11 = .ok (.iconst 1, 1) := by decide +kernel
theorem d_ThumbCore_farOffset_12 : decode b_ThumbCore_farOffset 12 = .ok (.iand, 1) := by decide +kernel
theorem d_ThumbCore_farOffset_13 : decode b_ThumbCore_farOffset 13 = .ok (.iload_n 2, 1) := by decide +kernel
theorem d_ThumbCore_farOffset_14 : decode b_ThumbCore_farOffset 14 = .ok (.if_icmp .ne 7, 3) := by decide +kernel
theorem d_ThumbCore_farOffset_17 : decode b_ThumbCore_farOffset 17 = .ok (.iconst 1, 1) := by decide +kernel
theorem d_ThumbCore_farOffset_18 : decode b_ThumbCore_farOffset 18 = .ok (.goto 4, 3) := by decide +kernel
theorem d_ThumbCore_farOffset_21 : decode b_ThumbCore_farOffset 21 = .ok (.iconst 0, 1) := by decide +kernel
theorem d_ThumbCore_farOffset_22 : decode b_ThumbCore_farOffset 22 = .ok (.istore_n 3, 1) := by decide +kernel
theorem d_ThumbCore_farOffset_23 : decode b_ThumbCore_farOffset 23 = .ok (.iload_n 1, 1) := by decide +kernel
theorem d_ThumbCore_farOffset_24 : decode b_ThumbCore_farOffset 24 = .ok (.bipush 11, 2) := by decide +kernel
theorem d_ThumbCore_farOffset_26 : decode b_ThumbCore_farOffset 26 = .ok (.iushr, 1) := by decide +kernel
theorem d_ThumbCore_farOffset_27 : decode b_ThumbCore_farOffset 27 = .ok (.iconst 1, 1) := by decide +kernel
theorem d_ThumbCore_farOffset_28 : decode b_ThumbCore_farOffset 28 = .ok (.iand, 1) := by decide +kernel
theorem d_ThumbCore_farOffset_29 : decode b_ThumbCore_farOffset 29 = .ok (.iload_n 2, 1) := by decide +kernel
theorem d_ThumbCore_farOffset_30 : decode b_ThumbCore_farOffset 30 = .ok (.if_icmp .ne 7, 3) := by decide +kernel
theorem d_ThumbCore_farOffset_33 : decode b_ThumbCore_farOffset 33 = .ok (.iconst 1, 1) := by decide +kernel
theorem d_ThumbCore_farOffset_34 : decode b_ThumbCore_farOffset 34 = .ok (.goto 4, 3) := by decide +kernel
theorem d_ThumbCore_farOffset_37 : decode b_ThumbCore_farOffset 37 = .ok (.iconst 0, 1) := by decide +kernel
theorem d_ThumbCore_farOffset_38 : decode b_ThumbCore_farOffset 38 = .ok (.istore 4, 2) := by decide +kernel
theorem d_ThumbCore_farOffset_40 : decode b_ThumbCore_farOffset 40 = .ok (.iload_n 2, 1) := by decide +kernel
theorem d_ThumbCore_farOffset_41 : decode b_ThumbCore_farOffset 41 = .ok (.ineg, 1) := by decide +kernel
theorem d_ThumbCore_farOffset_42 : decode b_ThumbCore_farOffset 42 = .ok (.bipush 24, 2) := by decide +kernel
theorem d_ThumbCore_farOffset_44 : decode b_ThumbCore_farOffset 44 = .ok (.ishl, 1) := by decide +kernel
theorem d_ThumbCore_farOffset_45 : decode b_ThumbCore_farOffset 45 = .ok (.iload_n 3, 1) := by decide +kernel
theorem d_ThumbCore_farOffset_46 : decode b_ThumbCore_farOffset 46 = .ok (.bipush 23, 2) := by decide +kernel
theorem d_ThumbCore_farOffset_48 : decode b_ThumbCore_farOffset 48 = .ok (.ishl, 1) := by decide +kernel
theorem d_ThumbCore_farOffset_49 : decode b_ThumbCore_farOffset 49 = .ok (.ior, 1) := by decide +kernel
theorem d_ThumbCore_farOffset_50 : decode b_ThumbCore_farOffset 50 = .ok (.iload 4, 2) := by decide +kernel
theorem d_ThumbCore_farOffset_52 : decode b_ThumbCore_farOffset 52 = .ok (.bipush 22, 2) := by decide +kernel
theorem d_ThumbCore_farOffset_54 : decode b_ThumbCore_farOffset 54 = .ok (.ishl, 1) := by decide +kernel
theorem d_ThumbCore_farOffset_55 : decode b_ThumbCore_farOffset 55 = .ok (.ior, 1) := by decide +kernel
theorem d_ThumbCore_farOffset_56 : decode b_ThumbCore_farOffset 56 = .ok (.iload_n 0, 1) := by decide +kernel
theorem d_ThumbCore_farOffset_57 : decode b_ThumbCore_farOffset 57 = .ok (.sipush 1023, 3) := by decide +kernel
theorem d_ThumbCore_farOffset_60 : decode b_ThumbCore_farOffset 60 = .ok (.iand, 1) := by decide +kernel
theorem d_ThumbCore_farOffset_61 : decode b_ThumbCore_farOffset 61 = .ok (.bipush 12, 2) := by decide +kernel
theorem d_ThumbCore_farOffset_63 : decode b_ThumbCore_farOffset 63 = .ok (.ishl, 1) := by decide +kernel
theorem d_ThumbCore_farOffset_64 : decode b_ThumbCore_farOffset 64 = .ok (.ior, 1) := by decide +kernel
theorem d_ThumbCore_farOffset_65 : decode b_ThumbCore_farOffset 65 = .ok (.iload_n 1, 1) := by decide +kernel
theorem d_ThumbCore_farOffset_66 : decode b_ThumbCore_farOffset 66 = .ok (.sipush 2047, 3) := by decide +kernel
theorem d_ThumbCore_farOffset_69 : decode b_ThumbCore_farOffset 69 = .ok (.iand, 1) := by decide +kernel
theorem d_ThumbCore_farOffset_70 : decode b_ThumbCore_farOffset 70 = .ok (.iconst 1, 1) := by decide +kernel
theorem d_ThumbCore_farOffset_71 : decode b_ThumbCore_farOffset 71 = .ok (.ishl, 1) := by decide +kernel
theorem d_ThumbCore_farOffset_72 : decode b_ThumbCore_farOffset 72 = .ok (.ior, 1) := by decide +kernel
theorem d_ThumbCore_farOffset_73 : decode b_ThumbCore_farOffset 73 = .ok (.ireturn, 1) := by decide +kernel
theorem d_ThumbCore_fault_0 : decode b_ThumbCore_fault 0 = .ok (.aload_n 0, 1) := by decide +kernel
theorem d_ThumbCore_fault_1 : decode b_ThumbCore_fault 1 = .ok (.getfield 41, 3) := by decide +kernel
theorem d_ThumbCore_fault_4 : decode b_ThumbCore_fault 4 = .ok (.invokevirtual 101, 3) := by decide +kernel
theorem d_ThumbCore_fault_7 : decode b_ThumbCore_fault 7 = .ok (.ifCond .ge 11, 3) := by decide +kernel
theorem d_ThumbCore_fault_10 : decode b_ThumbCore_fault 10 = .ok (.aload_n 0, 1) := by decide +kernel
theorem d_ThumbCore_fault_11 : decode b_ThumbCore_fault 11 = .ok (.iconst 1, 1) := by decide +kernel
theorem d_ThumbCore_fault_12 : decode b_ThumbCore_fault 12 = .ok (.putfield 84, 3) := by decide +kernel
theorem d_ThumbCore_fault_15 : decode b_ThumbCore_fault 15 = .ok (.goto 15, 3) := by decide +kernel
theorem d_ThumbCore_fault_18 : decode b_ThumbCore_fault 18 = .ok (.aload_n 0, 1) := by decide +kernel
theorem d_ThumbCore_fault_19 : decode b_ThumbCore_fault 19 = .ok (.iconst 3, 1) := by decide +kernel
theorem d_ThumbCore_fault_20 : decode b_ThumbCore_fault 20 = .ok (.aload_n 0, 1) := by decide +kernel
theorem d_ThumbCore_fault_21 : decode b_ThumbCore_fault 21 = .ok (.getfield 27, 3) := by decide +kernel
theorem d_ThumbCore_fault_24 : decode b_ThumbCore_fault 24 = .ok (.bipush 15, 2) := by decide +kernel
theorem d_ThumbCore_fault_26 : decode b_ThumbCore_fault 26 = .ok (.iaload, 1) := by decide +kernel
theorem d_ThumbCore_fault_27 : decode b_ThumbCore_fault 27 = .ok (.invokevirtual 104, 3) := by decide +kernel
theorem d_ThumbCore_fault_30 : decode b_ThumbCore_fault 30 = .ok (.return_, 1) := by decide +kernel
theorem d_ThumbCore_enter_0 : decode b_ThumbCore_enter 0 = .ok (.aload_n 0, 1) := by decide +kernel
theorem d_ThumbCore_enter_1 : decode b_ThumbCore_enter 1 = .ok (.getfield 27, 3) := by decide +kernel
theorem d_ThumbCore_enter_4 : decode b_ThumbCore_enter 4 = .ok (.bipush 13, 2) := by decide +kernel
theorem d_ThumbCore_enter_6 : decode b_ThumbCore_enter 6 = .ok (.iaload, 1) := by decide +kernel
theorem d_ThumbCore_enter_7 : decode b_ThumbCore_enter 7 = .ok (.iconst 4, 1) := by decide +kernel
theorem d_ThumbCore_enter_8 : decode b_ThumbCore_enter 8 = .ok (.iand, 1) := by decide +kernel
theorem d_ThumbCore_enter_9 : decode b_ThumbCore_enter 9 = .ok (.istore_n 3, 1) := by decide +kernel
theorem d_ThumbCore_enter_10 : decode b_ThumbCore_enter 10 = .ok (.aload_n 0, 1) := by decide +kernel
theorem d_ThumbCore_enter_11 : decode b_ThumbCore_enter 11 = .ok (.getfield 27, 3) := by decide +kernel
theorem d_ThumbCore_enter_14 : decode b_ThumbCore_enter 14 = .ok (.bipush 13, 2) := by decide +kernel
theorem d_ThumbCore_enter_16 : decode b_ThumbCore_enter 16 = .ok (.iaload, 1) := by decide +kernel
theorem d_ThumbCore_enter_17 : decode b_ThumbCore_enter 17 = .ok (.bipush 32, 2) := by decide +kernel
theorem d_ThumbCore_enter_19 : decode b_ThumbCore_enter 19 = .ok (.isub, 1) := by decide +kernel
theorem d_ThumbCore_enter_20 : decode b_ThumbCore_enter 20 = .ok (.iload_n 3, 1) := by decide +kernel
theorem d_ThumbCore_enter_21 : decode b_ThumbCore_enter 21 = .ok (.isub, 1) := by decide +kernel
theorem d_ThumbCore_enter_22 : decode b_ThumbCore_enter 22 = .ok (.istore 4, 2) := by decide +kernel
theorem d_ThumbCore_enter_24 : decode b_ThumbCore_enter 24 = .ok (.aload_n 0, 1) := by decide +kernel
theorem d_ThumbCore_enter_25 : decode b_ThumbCore_enter 25 = .ok (.getfield 21, 3) := by decide +kernel
theorem d_ThumbCore_enter_28 : decode b_ThumbCore_enter 28 = .ok (.iconst 4, 1) := by decide +kernel
theorem d_ThumbCore_enter_29 : decode b_ThumbCore_enter 29 = .ok (.iload_n 1, 1) := by decide +kernel
theorem d_ThumbCore_enter_30 : decode b_ThumbCore_enter 30 = .ok (.imul, 1) := by decide +kernel
theorem d_ThumbCore_enter_31 : decode b_ThumbCore_enter 31 = .ok (.invokevirtual 66, 3) := by decide +kernel
theorem d_ThumbCore_enter_34 : decode b_ThumbCore_enter 34 = .ok (.istore 5, 2) := by decide +kernel
theorem d_ThumbCore_enter_36 : decode b_ThumbCore_enter 36 = .ok (.aload_n 0, 1) := by decide +kernel
theorem d_ThumbCore_enter_37 : decode b_ThumbCore_enter 37 = .ok (.getfield 21, 3) := by decide +kernel
theorem d_ThumbCore_enter_40 : decode b_ThumbCore_enter 40 = .ok (.iload 4, 2) := by decide +kernel
theorem d_ThumbCore_enter_42 : decode b_ThumbCore_enter 42 = .ok (.bipush 8, 2) := by decide +kernel
theorem d_ThumbCore_enter_44 : decode b_ThumbCore_enter 44 = .ok (.invokevirtual 295, 3) := by decide +kernel
theorem d_ThumbCore_enter_47 : decode b_ThumbCore_enter 47 = .ok (.ifCond .eq 10, 3) := by decide +kernel
theorem d_ThumbCore_enter_50 : decode b_ThumbCore_enter 50 = .ok (.iload 5, 2) := by decide +kernel
theorem d_ThumbCore_enter_52 : decode b_ThumbCore_enter 52 = .ok (.iconst 1, 1) := by decide +kernel
theorem d_ThumbCore_enter_53 : decode b_ThumbCore_enter 53 = .ok (.iand, 1) := by decide +kernel
theorem d_ThumbCore_enter_54 : decode b_ThumbCore_enter 54 = .ok (.ifCond .ne 9, 3) := by decide +kernel
theorem d_ThumbCore_enter_57 : decode b_ThumbCore_enter 57 = .ok (.aload_n 0, 1) := by decide +kernel
theorem d_ThumbCore_enter_58 : decode b_ThumbCore_enter 58 = .ok (.iconst 1, 1) := by decide +kernel
theorem d_ThumbCore_enter_59 : decode b_ThumbCore_enter 59 = .ok (.putfield 84, 3) := by decide +kernel
theorem d_ThumbCore_enter_62 : decode b_ThumbCore_enter 62 = .ok (.return_, 1) := by decide +kernel
theorem d_ThumbCore_enter_63 : decode b_ThumbCore_enter 63 = .ok (.iconst 0, 1) := by decide +kernel
theorem d_ThumbCore_enter_64 : decode b_ThumbCore_enter 64 = .ok (.istore 6, 2) := by decide +kernel
theorem d_ThumbCore_enter_66 : decode b_ThumbCore_enter 66 = .ok (.iload 6, 2) := by decide +kernel
theorem d_ThumbCore_enter_68 : decode b_ThumbCore_enter 68 = .ok (.getstatic 309, 3) := by decide +kernel
theorem d_ThumbCore_enter_71 : decode b_ThumbCore_enter 71 = .ok (.arraylength, 1) := by decide +kernel
theorem d_ThumbCore_enter_72 : decode b_ThumbCore_enter 72 = .ok (.if_icmp .ge 34, 3) := by decide +kernel
theorem d_ThumbCore_enter_75 : decode b_ThumbCore_enter 75 = .ok (.aload_n 0, 1) := by decide +kernel
theorem d_ThumbCore_enter_76 : decode b_ThumbCore_enter 76 = .ok (.getfield 21, 3) := by decide +kernel
theorem d_ThumbCore_enter_79 : decode b_ThumbCore_enter 79 = .ok (.iload 4, 2) := by decide +kernel
theorem d_ThumbCore_enter_81 : decode b_ThumbCore_enter 81 = .ok (.iconst 4, 1) := by decide +kernel
theorem d_ThumbCore_enter_82 : decode b_ThumbCore_enter 82 = .ok (.iload 6, 2) := by decide +kernel
theorem d_ThumbCore_enter_84 : decode b_ThumbCore_enter 84 = .ok (.imul, 1) := by decide +kernel
theorem d_ThumbCore_enter_85 : decode b_ThumbCore_enter 85 = .ok (.iadd, 1) := by decide +kernel
theorem d_ThumbCore_enter_86 : decode b_ThumbCore_enter 86 = .ok (.aload_n 0, 1) := by decide +kernel
theorem d_ThumbCore_enter_87 : decode b_ThumbCore_enter 87 = .ok (.getfield 27, 3) := by decide +kernel
theorem d_ThumbCore_enter_90 : decode b_ThumbCore_enter 90 = .ok (.getstatic 309, 3) := by decide +kernel
theorem d_ThumbCore_enter_93 : decode b_ThumbCore_enter 93 = .ok (.iload 6, 2) := by decide +kernel
theorem d_ThumbCore_enter_95 : decode b_ThumbCore_enter 95 = .ok (.iaload, 1) := by decide +kernel
theorem d_ThumbCore_enter_96 : decode b_ThumbCore_enter 96 = .ok (.iaload, 1) := by decide +kernel
theorem d_ThumbCore_enter_97 : decode b_ThumbCore_enter 97 = .ok (.invokevirtual 296, 3) := by decide +kernel
theorem d_ThumbCore_enter_100 : decode b_ThumbCore_enter 100 = .ok (.iinc 6 1, 3) := by decide +kernel
theorem d_ThumbCore_enter_103 : decode b_ThumbCore_enter 103 = .ok (.goto (-37), 3) := by decide +kernel
theorem d_ThumbCore_enter_106 : decode b_ThumbCore_enter 106 = .ok (.aload_n 0, 1) := by decide +kernel
theorem d_ThumbCore_enter_107 : decode b_ThumbCore_enter 107 = .ok (.getfield 21, 3) := by decide +kernel
theorem d_ThumbCore_enter_110 : decode b_ThumbCore_enter 110 = .ok (.iload 4, 2) := by decide +kernel
theorem d_ThumbCore_enter_112 : decode b_ThumbCore_enter 112 = .ok (.bipush 24, 2) := by decide +kernel
theorem d_ThumbCore_enter_114 : decode b_ThumbCore_enter 114 = .ok (.iadd, 1) := by decide +kernel
theorem d_ThumbCore_enter_115 : decode b_ThumbCore_enter 115 = .ok (.iload_n 2, 1) := by decide +kernel
theorem d_ThumbCore_enter_116 : decode b_ThumbCore_enter 116 = .ok (.invokevirtual 296, 3) := by decide +kernel
theorem d_ThumbCore_enter_119 : decode b_ThumbCore_enter 119 = .ok (.aload_n 0, 1) := by decide +kernel
theorem d_ThumbCore_enter_120 : decode b_ThumbCore_enter 120 = .ok (.getfield 21, 3) := by decide +kernel
theorem d_ThumbCore_enter_123 : decode b_ThumbCore_enter 123 = .ok (.iload 4, 2) := by decide +kernel
theorem d_ThumbCore_enter_125 : decode b_ThumbCore_enter 125 = .ok (.bipush 28, 2) := by decide +kernel
theorem d_ThumbCore_enter_127 : decode b_ThumbCore_enter 127 = .ok (.iadd, 1) := by decide +kernel
theorem d_ThumbCore_enter_128 : decode b_ThumbCore_enter 128 = .ok (.aload_n 0, 1) := by decide +kernel
theorem d_ThumbCore_enter_129 : decode b_ThumbCore_enter 129 = .ok (.invokevirtual 312, 3) := by decide +kernel
theorem d_ThumbCore_enter_132 : decode b_ThumbCore_enter 132 = .ok (.iload_n 3, 1) := by decide +kernel
theorem d_ThumbCore_enter_133 : decode b_ThumbCore_enter 133 = .ok (.ifCond .eq 9, 3) := by decide +kernel
theorem d_ThumbCore_enter_136 : decode b_ThumbCore_enter 136 = .ok (.sipush 512, 3) := by decide +kernel
theorem d_ThumbCore_enter_139 : decode b_ThumbCore_enter 139 = .ok (.goto 4, 3) := by decide +kernel
theorem d_ThumbCore_enter_142 : decode b_ThumbCore_enter 142 = .ok (.iconst 0, 1) := by decide +kernel
theorem d_ThumbCore_enter_143 : decode b_ThumbCore_enter 143 = .ok (.ior, 1) := by decide +kernel
theorem d_ThumbCore_enter_144 : decode b_ThumbCore_enter 144 = .ok (.invokevirtual 296, 3) := by decide +kernel
theorem d_ThumbCore_enter_147 : decode b_ThumbCore_enter 147 = .ok (.aload_n 0, 1) := by decide +kernel
theorem d_ThumbCore_enter_148 : decode b_ThumbCore_enter 148 = .ok (.getfield 27, 3) := by decide +kernel
theorem d_ThumbCore_enter_151 : decode b_ThumbCore_enter 151 = .ok (.bipush 13, 2) := by decide +kernel
theorem d_ThumbCore_enter_153 : decode b_ThumbCore_enter 153 = .ok (.iload 4, 2) := by decide +kernel
theorem d_ThumbCore_enter_155 : decode b_ThumbCore_enter 155 = .ok (.iastore, 1) := by decide +kernel
theorem d_ThumbCore_enter_156 : decode b_ThumbCore_enter 156 = .ok (.aload_n 0, 1) := by decide +kernel
theorem d_ThumbCore_enter_157 : decode b_ThumbCore_enter 157 = .ok (.getfield 27, 3) := by decide +kernel
theorem d_ThumbCore_enter_160 : decode b_ThumbCore_enter 160 = .ok (.bipush 14, 2) := by decide +kernel
theorem d_ThumbCore_enter_162 : decode b_ThumbCore_enter 162 = .ok (.aload_n 0, 1) := by decide +kernel
theorem d_ThumbCore_enter_163 : decode b_ThumbCore_enter 163 = .ok (.getfield 41, 3) := by decide +kernel
