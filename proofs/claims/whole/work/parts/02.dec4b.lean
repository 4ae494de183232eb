theorem d_ThumbCore_withByte_54 : decode b_ThumbCore_withByte 54 = .ok (.invokevirtual 213, 3) := by decide +kernel
theorem d_ThumbCore_withByte_57 : decode b_ThumbCore_withByte 57 = .ok (.iastore, 1) := by decide +kernel
theorem d_ThumbCore_withByte_58 : decode b_ThumbCore_withByte 58 = .ok (.iconst 1, 1) := by decide +kernel
theorem d_ThumbCore_withByte_59 : decode b_ThumbCore_withByte 59 = .ok (.ireturn, 1) := by decide +kernel
theorem d_ThumbCore_withByte_60 : decode b_ThumbCore_withByte 60 = .ok (.aload_n 0, 1) := by decide +kernel
theorem d_ThumbCore_withByte_61 : decode b_ThumbCore_withByte 61 = .ok (.getfield 34, 3) := by decide +kernel
theorem d_ThumbCore_withByte_64 : decode b_ThumbCore_withByte 64 = .ok (.aload_n 0, 1) := by decide +kernel
theorem d_ThumbCore_withByte_65 : decode b_ThumbCore_withByte 65 = .ok (.getfield 27, 3) := by decide +kernel
theorem d_ThumbCore_withByte_68 : decode b_ThumbCore_withByte 68 = .ok (.iload_n 2, 1) := by decide +kernel
theorem d_ThumbCore_withByte_69 : decode b_ThumbCore_withByte 69 = .ok (.iaload, 1) := by decide +kernel
theorem d_ThumbCore_withByte_70 : decode b_ThumbCore_withByte 70 = .ok (.iload_n 3, 1) := by decide +kernel
theorem d_ThumbCore_withByte_71 : decode b_ThumbCore_withByte 71 = .ok (.iconst (-1), 1) := by decide +kernel
theorem d_ThumbCore_withByte_72 : decode b_ThumbCore_withByte 72 = .ok (.ixor, 1) := by decide +kernel
theorem d_ThumbCore_withByte_73 : decode b_ThumbCore_withByte 73 = .ok (.iconst 1, 1) := by decide +kernel
theorem d_ThumbCore_withByte_74 : decode b_ThumbCore_withByte 74 = .ok (.invokevirtual 209, 3) := by decide +kernel
theorem d_ThumbCore_withByte_77 : decode b_ThumbCore_withByte 77 = .ok (.pop, 1) := by decide +kernel
theorem d_ThumbCore_withByte_78 : decode b_ThumbCore_withByte 78 = .ok (.iconst 1, 1) := by decide +kernel
theorem d_ThumbCore_withByte_79 : decode b_ThumbCore_withByte 79 = .ok (.ireturn, 1) := by decide +kernel
theorem d_ThumbCore_withByte_80 : decode b_ThumbCore_withByte 80 = .ok (.aload_n 0, 1) := by decide +kernel
theorem d_ThumbCore_withByte_81 : decode b_ThumbCore_withByte 81 = .ok (.getfield 27, 3) := by decide +kernel
theorem d_ThumbCore_withByte_84 : decode b_ThumbCore_withByte 84 = .ok (.iload_n 2, 1) := by decide +kernel
theorem d_ThumbCore_withByte_85 : decode b_ThumbCore_withByte 85 = .ok (.aload_n 0, 1) := by decide +kernel
theorem d_ThumbCore_withByte_86 : decode b_ThumbCore_withByte 86 = .ok (.getfield 34, 3) := by decide +kernel
theorem d_ThumbCore_withByte_89 : decode b_ThumbCore_withByte 89 = .ok (.aload_n 0, 1) := by decide +kernel
theorem d_ThumbCore_withByte_90 : decode b_ThumbCore_withByte 90 = .ok (.getfield 27, 3) := by decide +kernel
theorem d_ThumbCore_withByte_93 : decode b_ThumbCore_withByte 93 = .ok (.iload_n 2, 1) := by decide +kernel
theorem d_ThumbCore_withByte_94 : decode b_ThumbCore_withByte 94 = .ok (.iaload, 1) := by decide +kernel
theorem d_ThumbCore_withByte_95 : decode b_ThumbCore_withByte 95 = .ok (.iload_n 3, 1) := by decide +kernel
theorem d_ThumbCore_withByte_96 : decode b_ThumbCore_withByte 96 = .ok (.iconst 0, 1) := by decide +kernel
theorem d_ThumbCore_withByte_97 : decode b_ThumbCore_withByte 97 = .ok (.invokevirtual 209, 3) := by decide +kernel
theorem d_ThumbCore_withByte_100 : decode b_ThumbCore_withByte 100 = .ok (.iastore, 1) := by decide +kernel
theorem d_ThumbCore_withByte_101 : decode b_ThumbCore_withByte 101 = .ok (.iconst 1, 1) := by decide +kernel
theorem d_ThumbCore_withByte_102 : decode b_ThumbCore_withByte 102 = .ok (.ireturn, 1) := by decide +kernel
theorem d_ThumbCore_withByte_103 : decode b_ThumbCore_withByte 103 = .ok (.aload_n 0, 1) := by decide +kernel
theorem d_ThumbCore_withByte_104 : decode b_ThumbCore_withByte 104 = .ok (.getfield 27, 3) := by decide +kernel
theorem d_ThumbCore_withByte_107 : decode b_ThumbCore_withByte 107 = .ok (.iload_n 2, 1) := by decide +kernel
theorem d_ThumbCore_withByte_108 : decode b_ThumbCore_withByte 108 = .ok (.aload_n 0, 1) := by decide +kernel
theorem d_ThumbCore_withByte_109 : decode b_ThumbCore_withByte 109 = .ok (.getfield 34, 3) := by decide +kernel
theorem d_ThumbCore_withByte_112 : decode b_ThumbCore_withByte 112 = .ok (.aload_n 0, 1) := by decide +kernel
theorem d_ThumbCore_withByte_113 : decode b_ThumbCore_withByte 113 = .ok (.getfield 27, 3) := by decide +kernel
theorem d_ThumbCore_withByte_116 : decode b_ThumbCore_withByte 116 = .ok (.iload_n 2, 1) := by decide +kernel
theorem d_ThumbCore_withByte_117 : decode b_ThumbCore_withByte 117 = .ok (.iaload, 1) := by decide +kernel
theorem d_ThumbCore_withByte_118 : decode b_ThumbCore_withByte 118 = .ok (.iload_n 3, 1) := by decide +kernel
theorem d_ThumbCore_withByte_119 : decode b_ThumbCore_withByte 119 = .ok (.iconst (-1), 1) := by decide +kernel
theorem d_ThumbCore_withByte_120 : decode b_ThumbCore_withByte 120 = .ok (.ixor, 1) := by decide +kernel
theorem d_ThumbCore_withByte_121 : decode b_ThumbCore_withByte 121 = .ok (.iconst 1, 1) := by decide +kernel
theorem d_ThumbCore_withByte_122 : decode b_ThumbCore_withByte 122 = .ok (.invokevirtual 209, 3) := by decide +kernel
theorem d_ThumbCore_withByte_125 : decode b_ThumbCore_withByte 125 = .ok (.iastore, 1) := by decide +kernel
theorem d_ThumbCore_withByte_126 : decode b_ThumbCore_withByte 126 = .ok (.iconst 1, 1) := by decide +kernel
theorem d_ThumbCore_withByte_127 : decode b_ThumbCore_withByte 127 = .ok (.ireturn, 1) := by decide +kernel
theorem d_ThumbCore_combine_0 : decode b_ThumbCore_combine 0 = .ok (.iload_n 1, 1) := by decide +kernel
theorem d_ThumbCore_combine_1 : decode b_ThumbCore_combine 1 = .ok (.bipush 7, 2) := by decide +kernel
theorem d_ThumbCore_combine_3 : decode b_ThumbCore_combine 3 = .ok (.iand, 1) := by decide +kernel
theorem d_ThumbCore_combine_4 : decode b_ThumbCore_combine 4 = .ok (.istore_n 2, 1) := by decide +kernel
theorem d_ThumbCore_combine_5 : decode b_ThumbCore_combine 5 = .ok (.iload_n 1, 1) := by decide +kernel
theorem d_ThumbCore_combine_6 : decode b_ThumbCore_combine 6 = .ok (.bipush 6, 2) := by decide +kernel
theorem d_ThumbCore_combine_8 : decode b_ThumbCore_combine 8 = .ok (.iushr, 1) := by decide +kernel
theorem d_ThumbCore_combine_9 : decode b_ThumbCore_combine 9 = .ok (.bipush 15, 2) := by decide +kernel
theorem d_ThumbCore_combine_11 : decode b_ThumbCore_combine 11 = .ok (.iand, 1) := by decide +kernel
theorem d_ThumbCore_combine_12 : decode b_ThumbCore_combine 12 = .ok (.istore_n 3, 1) := by decide +kernel
theorem d_ThumbCore_combine_13 : decode b_ThumbCore_combine 13 = .ok (.aload_n 0, 1) := by decide +kernel
theorem d_ThumbCore_combine_14 : decode b_ThumbCore_combine 14 = .ok (.iload_n 3, 1) := by decide +kernel
theorem d_ThumbCore_combine_15 : decode b_ThumbCore_combine 15 = .ok (.aload_n 0, 1) := by decide +kernel
theorem d_ThumbCore_combine_16 : decode b_ThumbCore_combine 16 = .ok (.getfield 27, 3) := by decide +kernel
theorem d_ThumbCore_combine_19 : decode b_ThumbCore_combine 19 = .ok (.iload_n 2, 1) := by decide +kernel
theorem d_ThumbCore_combine_20 : decode b_ThumbCore_combine 20 = .ok (.iaload, 1) := by decide +kernel
theorem d_ThumbCore_combine_21 : decode b_ThumbCore_combine 21 = .ok (.aload_n 0, 1) := by decide +kernel
theorem d_ThumbCore_combine_22 : decode b_ThumbCore_combine 22 = .ok (.getfield 27, 3) := by decide +kernel
theorem d_ThumbCore_combine_25 : decode b_ThumbCore_combine 25 = .ok (.iload_n 1, 1) := by decide +kernel
theorem d_ThumbCore_combine_26 : decode b_ThumbCore_combine 26 = .ok (.iconst 3, 1) := by decide +kernel
theorem d_ThumbCore_combine_27 : decode b_ThumbCore_combine 27 = .ok (.iushr, 1) := by decide +kernel
theorem d_ThumbCore_combine_28 : decode b_ThumbCore_combine 28 = .ok (.bipush 7, 2) := by decide +kernel
theorem d_ThumbCore_combine_30 : decode b_ThumbCore_combine 30 = .ok (.iand, 1) := by decide +kernel
theorem d_ThumbCore_combine_31 : decode b_ThumbCore_combine 31 = .ok (.iaload, 1) := by decide +kernel
theorem d_ThumbCore_combine_32 : decode b_ThumbCore_combine 32 = .ok (.invokevirtual 216, 3) := by decide +kernel
theorem d_ThumbCore_combine_35 : decode b_ThumbCore_combine 35 = .ok (.istore 4, 2) := by decide +kernel
theorem d_ThumbCore_combine_37 : decode b_ThumbCore_combine 37 = .ok (.iload_n 3, 1) := by decide +kernel
theorem d_ThumbCore_combine_38 : decode b_ThumbCore_combine 38 = .ok (.bipush 8, 2) := by decide +kernel
theorem d_ThumbCore_combine_40 : decode b_ThumbCore_combine 40 = .ok (.if_icmp .eq 15, 3) := by decide +kernel
theorem d_ThumbCore_combine_43 : decode b_ThumbCore_combine 43 = .ok (.iload_n 3, 1) := by decide +kernel
theorem d_ThumbCore_combine_44 : decode b_ThumbCore_combine 44 = .ok (.bipush 10, 2) := by decide +kernel
theorem d_ThumbCore_combine_46 : decode b_ThumbCore_combine 46 = .ok (.if_icmp .eq 9, 3) := by decide +kernel
theorem d_ThumbCore_combine_49 : decode b_ThumbCore_combine 49 = .ok (.iload_n 3, 1) := by decide +kernel
theorem d_ThumbCore_combine_50 : decode b_ThumbCore_combine 50 = .ok (.bipush 11, 2) := by decide +kernel
theorem d_ThumbCore_combine_52 : decode b_ThumbCore_combine 52 = .ok (.if_icmp .ne 7, 3) := by decide +kernel
theorem d_ThumbCore_combine_55 : decode b_ThumbCore_combine 55 = .ok (.iconst 1, 1) := by decide +kernel
theorem d_ThumbCore_combine_56 : decode b_ThumbCore_combine 56 = .ok (.goto 4, 3) := by decide +kernel
theorem d_ThumbCore_combine_59 : decode b_ThumbCore_combine 59 = .ok (.iconst 0, 1) := by decide +kernel
theorem d_ThumbCore_combine_60 : decode b_ThumbCore_combine 60 = .ok (.istore 5, 2) := by decide +kernel
theorem d_ThumbCore_combine_62 : decode b_ThumbCore_combine 62 = .ok (.iload 5, 2) := by decide +kernel
theorem d_ThumbCore_combine_64 : decode b_ThumbCore_combine 64 = .ok (.ifCond .ne 11, 3) := by decide +kernel
theorem d_ThumbCore_combine_67 : decode b_ThumbCore_combine 67 = .ok (.aload_n 0, 1) := by decide +kernel
theorem d_ThumbCore_combine_68 : decode b_ThumbCore_combine 68 = .ok (.getfield 27, 3) := by decide +kernel
theorem d_ThumbCore_combine_71 : decode b_ThumbCore_combine 71 = .ok (.iload_n 2, 1) := by decide +kernel
theorem d_ThumbCore_combine_72 : decode b_ThumbCore_combine 72 = .ok (.iload 4, 2) := by decide +kernel
theorem d_ThumbCore_combine_74 : decode b_ThumbCore_combine 74 = .ok (.iastore, 1) := by decide +kernel
theorem d_ThumbCore_combine_75 : decode b_ThumbCore_combine 75 = .ok (.iconst 1, 1) := by decide +kernel
theorem d_ThumbCore_combine_76 : decode b_ThumbCore_combine 76 = .ok (.ireturn, 1) := by decide +kernel
theorem d_ThumbCore_combined_0 : decode b_ThumbCore_combined 0 = .ok (.iload_n 1, 1) := by decide +kernel
theorem d_ThumbCore_combined_1 : decode b_ThumbCore_combined 1 = .ok (.tableswitch 277 0 14 #[75, 86, 97, 111, 125, 139, 164, 191, 75, 205, 218, 231, 242, 253, 264], 75) := by decide +kernel
theorem d_ThumbCore_combined_76 : decode b_ThumbCore_combined 76 = .ok (.aload_n 0, 1) := by decide +kernel
theorem d_ThumbCore_combined_77 : decode b_ThumbCore_combined 77 = .ok (.getfield 34, 3) := by decide +kernel
theorem d_ThumbCore_combined_80 : decode b_ThumbCore_combined 80 = .ok (.iload_n 2, 1) := by decide +kernel
theorem d_ThumbCore_combined_81 : decode b_ThumbCore_combined 81 = .ok (.iload_n 3, 1) := by decide +kernel
theorem d_ThumbCore_combined_82 : decode b_ThumbCore_combined 82 = .ok (.iand, 1) := by decide +kernel
theorem d_ThumbCore_combined_83 : decode b_ThumbCore_combined 83 = .ok (.invokevirtual 213, 3) := by decide +kernel
theorem d_ThumbCore_combined_86 : decode b_ThumbCore_combined 86 = .ok (.ireturn, 1) := by decide +kernel
theorem d_ThumbCore_combined_87 : decode b_ThumbCore_combined 87 = .ok (.aload_n 0, 1) := by decide +kernel
theorem d_ThumbCore_combined_88 : decode b_ThumbCore_combined 88 = .ok (.getfield 34, 3) := by decide +kernel
theorem d_ThumbCore_combined_91 : decode b_ThumbCore_combined 91 = .ok (.iload_n 2, 1) := by decide +kernel
theorem d_ThumbCore_combined_92 : decode b_ThumbCore_combined 92 = .ok (.iload_n 3, 1) := by decide +kernel
theorem d_ThumbCore_combined_93 : decode b_ThumbCore_combined 93 = .ok (.ixor, 1) := by decide +kernel
theorem d_ThumbCore_combined_94 : decode b_ThumbCore_combined 94 = .ok (.invokevirtual 213, 3) := by decide +kernel
theorem d_ThumbCore_combined_97 : decode b_ThumbCore_combined 97 = .ok (.ireturn, 1) := by decide +kernel
theorem d_ThumbCore_combined_98 : decode b_ThumbCore_combined 98 = .ok (.aload_n 0, 1) := by decide +kernel
theorem d_ThumbCore_combined_99 : decode b_ThumbCore_combined 99 = .ok (.getfield 34, 3) := by decide +kernel
theorem d_ThumbCore_combined_102 : decode b_ThumbCore_combined 102 = .ok (.iload_n 2, 1) := by decide +kernel
theorem d_ThumbCore_combined_103 : decode b_ThumbCore_combined 103 = .ok (.iload_n 3, 1) := by decide +kernel
theorem d_ThumbCore_combined_104 : decode b_ThumbCore_combined 104 = .ok (.sipush 255, 3) := by decide +kernel
theorem d_ThumbCore_combined_107 : decode b_ThumbCore_combined 107 = .ok (.iand, 1) := by decide +kernel
theorem d_ThumbCore_combined_108 : decode b_ThumbCore_combined 108 = .ok (.invokevirtual 200, 3) := by decide +kernel
theorem d_ThumbCore_combined_111 : decode b_ThumbCore_combined 111 = .ok (.ireturn, 1) := by decide +kernel
theorem d_ThumbCore_combined_112 : decode b_ThumbCore_combined 112 = .ok (.aload_n 0, 1) := by decide +kernel
theorem d_ThumbCore_combined_113 : decode b_ThumbCore_combined 113 = .ok (.getfield 34, 3) := by decide +kernel
theorem d_ThumbCore_combined_116 : decode b_ThumbCore_combined 116 = .ok (.iload_n 2, 1) := by decide +kernel
theorem d_ThumbCore_combined_117 : decode b_ThumbCore_combined 117 = .ok (.iload_n 3, 1) := by decide +kernel
theorem d_ThumbCore_combined_118 : decode b_ThumbCore_combined 118 = .ok (.sipush 255, 3) := by decide +kernel
theorem d_ThumbCore_combined_121 : decode b_ThumbCore_combined 121 = .ok (.iand, 1) := by decide +kernel
theorem d_ThumbCore_combined_122 : decode b_ThumbCore_combined 122 = .ok (.invokevirtual 203, 3) := by decide +kernel
theorem d_ThumbCore_combined_125 : decode b_ThumbCore_combined 125 = .ok (.ireturn, 1) := by decide +kernel
theorem d_ThumbCore_combined_126 : decode b_ThumbCore_combined 126 = .ok (.aload_n 0, 1) := by decide +kernel
theorem d_ThumbCore_combined_127 : decode b_ThumbCore_combined 127 = .ok (.getfield 34, 3) := by decide +kernel
theorem d_ThumbCore_combined_130 : decode b_ThumbCore_combined 130 = .ok (.iload_n 2, 1) := by decide +kernel
theorem d_ThumbCore_combined_131 : decode b_ThumbCore_combined 131 = .ok (.iload_n 3, 1) := by decide +kernel
theorem d_ThumbCore_combined_132 : decode b_ThumbCore_combined 132 = .ok (.sipush 255, 3) := by decide +kernel
theorem d_ThumbCore_combined_135 : decode b_ThumbCore_combined 135 = .ok (.iand, 1) := by decide +kernel
theorem d_ThumbCore_combined_136 : decode b_ThumbCore_combined 136 = .ok (.invokevirtual 206, 3) := by decide +kernel
theorem d_ThumbCore_combined_139 : decode b_ThumbCore_combined 139 = .ok (.ireturn, 1) := by decide +kernel
theorem d_ThumbCore_combined_140 : decode b_ThumbCore_combined 140 = .ok (.aload_n 0, 1) := by decide +kernel
theorem d_ThumbCore_combined_141 : decode b_ThumbCore_combined 141 = .ok (.getfield 34, 3) := by decide +kernel
theorem d_ThumbCore_combined_144 : decode b_ThumbCore_combined 144 = .ok (.iload_n 2, 1) := by decide +kernel
theorem d_ThumbCore_combined_145 : decode b_ThumbCore_combined 145 = .ok (.iload_n 3, 1) := by decide +kernel
theorem d_ThumbCore_combined_146 : decode b_ThumbCore_combined 146 = .ok (.aload_n 0, 1) := by decide +kernel
theorem d_ThumbCore_combined_147 : decode b_ThumbCore_combined 147 = .ok (.getfield 34, 3) := by decide +kernel
theorem d_ThumbCore_combined_150 : decode b_ThumbCore_combined 150 = .ok (.getfield 219, 3) := by decide +kernel
theorem d_ThumbCore_combined_153 : decode b_ThumbCore_combined 153 = .ok (.ifCond .eq 7, 3) := by decide +kernel
theorem d_ThumbCore_combined_156 : decode b_ThumbCore_combined 156 = .ok (.iconst 1, 1) := by decide +kernel
theorem d_ThumbCore_combined_157 : decode b_ThumbCore_combined 157 = .ok (.goto 4, 3) := by decide +kernel
theorem d_ThumbCore_combined_160 : decode b_ThumbCore_combined 160 = .ok (.iconst 0, 1) := by decide +kernel
theorem d_ThumbCore_combined_161 : decode b_ThumbCore_combined 161 = .ok (.invokevirtual 209, 3) := by decide +kernel
theorem d_ThumbCore_combined_164 : decode b_ThumbCore_combined 164 = .ok (.ireturn, 1) := by decide +kernel
theorem d_ThumbCore_combined_165 : decode b_ThumbCore_combined 165 = .ok (.aload_n 0, 1) := by decide +kernel
theorem d_ThumbCore_combined_166 : decode b_ThumbCore_combined 166 = .ok (.getfield 34, 3) := by decide +kernel
theorem d_ThumbCore_combined_169 : decode b_ThumbCore_combined 169 = .ok (.iload_n 2, 1) := by decide +kernel
theorem d_ThumbCore_combined_170 : decode b_ThumbCore_combined 170 = .ok (.iload_n 3, 1) := by decide +kernel
theorem d_ThumbCore_combined_171 : decode b_ThumbCore_combined 171 = .ok (.iconst (-1), 1) := by decide +kernel
theorem d_ThumbCore_combined_172 : decode b_ThumbCore_combined 172 = .ok (.ixor, 1) := by decide +kernel
theorem d_ThumbCore_combined_173 : decode b_ThumbCore_combined 173 = .ok (.aload_n 0, 1) := by decide +kernel
theorem d_ThumbCore_combined_174 : decode b_ThumbCore_combined 174 = .ok (.getfield 34, 3) := by decide +kernel
theorem d_ThumbCore_combined_177 : decode b_ThumbCore_combined 177 = .ok (.getfield 219, 3) := by decide +kernel
theorem d_ThumbCore_combined_180 : decode b_ThumbCore_combined 180 = .ok (.ifCond .eq 7, 3) := by decide +kernel
theorem d_ThumbCore_combined_183 : decode b_ThumbCore_combined 183 = .ok (.iconst 1, 1) := by decide +kernel
theorem d_ThumbCore_combined_184 : decode b_ThumbCore_combined 184 = .ok (.goto 4, 3) := by decide +kernel
theorem d_ThumbCore_combined_187 : decode b_ThumbCore_combined 187 = .ok (.iconst 0, 1) := by decide +kernel
theorem d_ThumbCore_combined_188 : decode b_ThumbCore_combined 188 = .ok (.invokevirtual 209, 3) := by decide +kernel
theorem d_ThumbCore_combined_191 : decode b_ThumbCore_combined 191 = .ok (.ireturn, 1) := by decide +kernel
theorem d_ThumbCore_combined_192 : decode b_ThumbCore_combined 192 = .ok (.aload_n 0, 1) := by decide +kernel
theorem d_ThumbCore_combined_193 : decode b_ThumbCore_combined 193 = .ok (.getfield 34, 3) := by decide +kernel
theorem d_ThumbCore_combined_196 : decode b_ThumbCore_combined 196 = .ok (.iload_n 2, 1) := by decide +kernel
theorem d_ThumbCore_combined_197 : decode b_ThumbCore_combined 197 = .ok (.iload_n 3, 1) := by decide +kernel
theorem d_ThumbCore_combined_198 : decode b_ThumbCore_combined 198 = .ok (.sipush 255, 3) := by decide +kernel
theorem d_ThumbCore_combined_201 : decode b_ThumbCore_combined 201 = .ok (.iand, 1) := by decide +kernel
theorem d_ThumbCore_combined_202 : decode b_ThumbCore_combined 202 = .ok (.invokevirtual 222, 3) := by decide +kernel
theorem d_ThumbCore_combined_205 : decode b_ThumbCore_combined 205 = .ok (.ireturn, 1) := by decide +kernel
theorem d_ThumbCore_combined_206 : decode b_ThumbCore_combined 206 = .ok (.aload_n 0, 1) := by decide +kernel
theorem d_ThumbCore_combined_207 : decode b_ThumbCore_combined 207 = .ok (.getfield 34, 3) := by decide +kernel
theorem d_ThumbCore_combined_210 : decode b_ThumbCore_combined 210 = .ok (.iload_n 3, 1) := by decide +kernel
theorem d_ThumbCore_combined_211 : decode b_ThumbCore_combined 211 = .ok (.iconst (-1), 1) := by decide +kernel
theorem d_ThumbCore_combined_212 : decode b_ThumbCore_combined 212 = .ok (.ixor, 1) := by decide +kernel
theorem d_ThumbCore_combined_213 : decode b_ThumbCore_combined 213 = .ok (.iconst 0, 1) := by decide +kernel
theorem d_ThumbCore_combined_214 : decode b_ThumbCore_combined 214 = .ok (.iconst 1, 1) := by decide +kernel
theorem d_ThumbCore_combined_215 : decode b_ThumbCore_combined 215 = .ok (.invokevirtual 209, 3) := by decide +kernel
theorem d_ThumbCore_combined_218 : decode b_ThumbCore_combined 218 = .ok (.ireturn, 1) := by decide +kernel
theorem d_ThumbCore_combined_219 : decode b_ThumbCore_combined 219 = .ok (.aload_n 0, 1) := by decide +kernel
theorem d_ThumbCore_combined_220 : decode b_ThumbCore_combined 220 = .ok (.getfield 34, 3) := by decide +kernel
theorem d_ThumbCore_combined_223 : decode b_ThumbCore_combined 223 = .ok (.iload_n 2, 1) := by decide +kernel
theorem d_ThumbCore_combined_224 : decode b_ThumbCore_combined 224 = .ok (.iload_n 3, 1) := by decide +kernel
theorem d_ThumbCore_combined_225 : decode b_ThumbCore_combined 225 = .ok (.iconst (-1), 1) := by decide +kernel
theorem d_ThumbCore_combined_226 : decode b_ThumbCore_combined 226 = .ok (.ixor, 1) := by decide +kernel
theorem d_ThumbCore_combined_227 : decode b_ThumbCore_combined 227 = .ok (.iconst 1, 1) := by decide +kernel
theorem d_ThumbCore_combined_228 : decode b_ThumbCore_combined 228 = .ok (.invokevirtual 209, 3) := by decide +kernel
theorem d_ThumbCore_combined_231 : decode b_ThumbCore_combined 231 = .ok (.ireturn, 1) := by decide +kernel
theorem d_ThumbCore_combined_232 : decode b_ThumbCore_combined 232 = .ok (.aload_n 0, 1) := by decide +kernel
theorem d_ThumbCore_combined_233 : decode b_ThumbCore_combined 233 = .ok (.getfield 34, 3) := by decide +kernel
theorem d_ThumbCore_combined_236 : decode b_ThumbCore_combined 236 = .ok (.iload_n 2, 1) := by decide +kernel
theorem d_ThumbCore_combined_237 : decode b_ThumbCore_combined 237 = .ok (.iload_n 3, 1) := by decide +kernel
theorem d_ThumbCore_combined_238 : decode b_ThumbCore_combined 238 = .ok (.iconst 0, 1) := by decide +kernel
theorem d_ThumbCore_combined_239 : decode b_ThumbCore_combined 239 = .ok (.invokevirtual 209, 3) := by decide +kernel
theorem d_ThumbCore_combined_242 : decode b_ThumbCore_combined 242 = .ok (.ireturn, 1) := by decide +kernel
theorem d_ThumbCore_combined_243 : decode b_ThumbCore_combined 243 = .ok (.aload_n 0, 1) := by decide +kernel
theorem d_ThumbCore_combined_244 : decode b_ThumbCore_combined 244 = .ok (.getfield 34, 3) := by decide +kernel
theorem d_ThumbCore_combined_247 : decode b_ThumbCore_combined 247 = .ok (.iload_n 2, 1) := by decide +kernel
theorem d_ThumbCore_combined_248 : decode b_ThumbCore_combined 248 = .ok (.iload_n 3, 1) := by decide +kernel
theorem d_ThumbCore_combined_249 : decode b_ThumbCore_combined 249 = .ok (.ior, 1) := by decide +kernel
theorem d_ThumbCore_combined_250 : decode b_ThumbCore_combined 250 = .ok (.invokevirtual 213, 3) := by decide +kernel
theorem d_ThumbCore_combined_253 : decode b_ThumbCore_combined 253 = .ok (.ireturn, 1) := by decide +kernel
theorem d_ThumbCore_combined_254 : decode b_ThumbCore_combined 254 = .ok (.aload_n 0, 1) := by decide +kernel
theorem d_ThumbCore_combined_255 : decode b_ThumbCore_combined 255 = .ok (.getfield 34, 3) := by decide +kernel
theorem d_ThumbCore_combined_258 : decode b_ThumbCore_combined 258 = .ok (.iload_n 2, 1) := by decide +kernel
theorem d_ThumbCore_combined_259 : decode b_ThumbCore_combined 259 = .ok (.iload_n 3, 1) := by decide +kernel
theorem d_ThumbCore_combined_260 : decode b_ThumbCore_combined 260 = .ok (.imul, 1) := by decide +kernel
theorem d_ThumbCore_combined_261 : decode b_ThumbCore_combined 261 = .ok (.invokevirtual 213, 3) := by decide +kernel
theorem d_ThumbCore_combined_264 : decode b_ThumbCore_combined 264 = .ok (.ireturn, 1) := by decide +kernel
theorem d_ThumbCore_combined_265 : decode b_ThumbCore_combined 265 = .ok (.aload_n 0, 1) := by decide +kernel
theorem d_ThumbCore_combined_266 : decode b_ThumbCore_combined 266 = .ok (.getfield 34, 3) := by decide +kernel
theorem d_ThumbCore_combined_269 : decode b_ThumbCore_combined 269 = .ok (.iload_n 2, 1) := by decide +kernel
theorem d_ThumbCore_combined_270 : decode b_ThumbCore_combined 270 = .ok (.iload_n 3, 1) := by decide +kernel
theorem d_ThumbCore_combined_271 : decode b_ThumbCore_combined 271 = .ok (.iconst (-1), 1) := by decide +kernel
theorem d_ThumbCore_combined_272 : decode b_ThumbCore_combined 272 = .ok (.ixor, 1) := by decide +kernel
theorem d_ThumbCore_combined_273 : decode b_ThumbCore_combined 273 = .ok (.iand, 1) := by decide +kernel
theorem d_ThumbCore_combined_274 : decode b_ThumbCore_combined 274 = .ok (.invokevirtual 213, 3) := by decide +kernel
theorem d_ThumbCore_combined_277 : decode b_ThumbCore_combined 277 = .ok (.ireturn, 1) := by decide +kernel
theorem d_ThumbCore_combined_278 : decode b_ThumbCore_combined 278 = .ok (.aload_n 0, 1) := by decide +kernel
theorem d_ThumbCore_combined_279 : decode b_ThumbCore_combined 279 = .ok (.getfield 34, 3) := by decide +kernel
theorem d_ThumbCore_combined_282 : decode b_ThumbCore_combined 282 = .ok (.iload_n 3, 1) := by decide +kernel
theorem d_ThumbCore_combined_283 : decode b_ThumbCore_combined 283 = .ok (.iconst (-1), 1) := by decide +kernel
theorem d_ThumbCore_combined_284 : decode b_ThumbCore_combined 284 = .ok (.ixor, 1) := by decide +kernel
theorem d_ThumbCore_combined_285 : decode b_ThumbCore_combined 285 = .ok (.invokevirtual 213, 3) := by decide +kernel
theorem d_ThumbCore_combined_288 : decode b_ThumbCore_combined 288 = .ok (.ireturn, 1) := by decide +kernel
theorem d_ThumbCore_withHigh_0 : decode b_ThumbCore_withHigh 0 = .ok (.iload_n 1, 1) := by decide +kernel
theorem d_ThumbCore_withHigh_1 : decode b_ThumbCore_withHigh 1 = .ok (.bipush 7, 2) := by decide +kernel
theorem d_ThumbCore_withHigh_3 : decode b_ThumbCore_withHigh 3 = .ok (.iand, 1) := by decide +kernel
theorem d_ThumbCore_withHigh_4 : decode b_ThumbCore_withHigh 4 = .ok (.iload_n 1, 1) := by decide +kernel
theorem d_ThumbCore_withHigh_5 : decode b_ThumbCore_withHigh 5 = .ok (.iconst 4, 1) := by decide +kernel
theorem d_ThumbCore_withHigh_6 : decode b_ThumbCore_withHigh 6 = .ok (.iushr, 1) := by decide +kernel
theorem d_ThumbCore_withHigh_7 : decode b_ThumbCore_withHigh 7 = .ok (.bipush 8, 2) := by decide +kernel
theorem d_ThumbCore_withHigh_9 : decode b_ThumbCore_withHigh 9 = .ok (.iand, 1) := by decide +kernel
theorem d_ThumbCore_withHigh_10 : decode b_ThumbCore_withHigh 10 = .ok (.ior, 1) := by decide +kernel
theorem d_ThumbCore_withHigh_11 : decode b_ThumbCore_withHigh 11 = .ok (.istore_n 2, 1) := by decide +kernel
theorem d_ThumbCore_withHigh_12 : decode b_ThumbCore_withHigh 12 = .ok (.iload_n 1, 1) := by decide +kernel
theorem d_ThumbCore_withHigh_13 : decode b_ThumbCore_withHigh 13 = .ok (.iconst 3, 1) := by decide +kernel
theorem d_ThumbCore_withHigh_14 : decode b_ThumbCore_withHigh 14 = .ok (.iushr, 1) := by decide +kernel
theorem d_ThumbCore_withHigh_15 : decode b_ThumbCore_withHigh 15 = .ok (.bipush 15, 2) := by decide +kernel
theorem d_ThumbCore_withHigh_17 : decode b_ThumbCore_withHigh 17 = .ok (.iand, 1) := by decide +kernel
theorem d_ThumbCore_withHigh_18 : decode b_ThumbCore_withHigh 18 = .ok (.istore_n 3, 1) := by decide +kernel
theorem d_ThumbCore_withHigh_19 : decode b_ThumbCore_withHigh 19 = .ok (.iload_n 1, 1) := by decide +kernel
theorem d_ThumbCore_withHigh_20 : decode b_ThumbCore_withHigh 20 = .ok (.bipush 8, 2) := by decide +kernel
theorem d_ThumbCore_withHigh_22 : decode b_ThumbCore_withHigh 22 = .ok (.iushr, 1) := by decide +kernel
theorem d_ThumbCore_withHigh_23 : decode b_ThumbCore_withHigh 23 = .ok (.iconst 3, 1) := by decide +kernel
theorem d_ThumbCore_withHigh_24 : decode b_ThumbCore_withHigh 24 = .ok (.iand, 1) := by decide +kernel
theorem d_ThumbCore_withHigh_25 : decode b_ThumbCore_withHigh 25 = .ok (.tableswitch 108 0 2 #[27, 45, 96], 27) := by decide +kernel
theorem d_ThumbCore_withHigh_52 : decode b_ThumbCore_withHigh 52 = .ok (.aload_n 0, 1) := by decide +kernel
theorem d_ThumbCore_withHigh_53 : decode b_ThumbCore_withHigh 53 = .ok (.iload_n 2, 1) := by decide +kernel
theorem d_ThumbCore_withHigh_54 : decode b_ThumbCore_withHigh 54 = .ok (.aload_n 0, 1) := by decide +kernel
theorem d_ThumbCore_withHigh_55 : decode b_ThumbCore_withHigh 55 = .ok (.iload_n 2, 1) := by decide +kernel
theorem d_ThumbCore_withHigh_56 : decode b_ThumbCore_withHigh 56 = .ok (.invokevirtual 225, 3) := by decide +kernel
theorem d_ThumbCore_withHigh_59 : decode b_ThumbCore_withHigh 59 = .ok (.aload_n 0, 1) := by decide +kernel
theorem d_ThumbCore_withHigh_60 : decode b_ThumbCore_withHigh 60 = .ok (.iload_n 3, 1) := by decide +kernel
theorem d_ThumbCore_withHigh_61 : decode b_ThumbCore_withHigh 61 = .ok (.invokevirtual 225, 3) := by decide +kernel
theorem d_ThumbCore_withHigh_64 : decode b_ThumbCore_withHigh 64 = .ok (.iadd, 1) := by decide +kernel
theorem d_ThumbCore_withHigh_65 : decode b_ThumbCore_withHigh 65 = .ok (.invokevirtual 228, 3) := by decide +kernel
theorem d_ThumbCore_withHigh_68 : decode b_ThumbCore_withHigh 68 = .ok (.iconst 1, 1) := by decide +kernel
theorem d_ThumbCore_withHigh_69 : decode b_ThumbCore_withHigh 69 = .ok (.ireturn, 1) := by decide +kernel
theorem d_ThumbCore_withHigh_70 : decode b_ThumbCore_withHigh 70 = .ok (.iload_n 2, 1) := by decide +kernel
theorem d_ThumbCore_withHigh_71 : decode b_ThumbCore_withHigh 71 = .ok (.bipush 8, 2) := by decide +kernel
theorem d_ThumbCore_withHigh_73 : decode b_ThumbCore_withHigh 73 = .ok (.if_icmp .ge 9, 3) := by decide +kernel
theorem d_ThumbCore_withHigh_76 : decode b_ThumbCore_withHigh 76 = .ok (.iload_n 3, 1) := by decide +kernel
theorem d_ThumbCore_withHigh_77 : decode b_ThumbCore_withHigh 77 = .ok (.bipush 8, 2) := by decide +kernel
theorem d_ThumbCore_withHigh_79 : decode b_ThumbCore_withHigh 79 = .ok (.if_icmp .lt 15, 3) := by decide +kernel
theorem d_ThumbCore_withHigh_82 : decode b_ThumbCore_withHigh 82 = .ok (.iload_n 2, 1) := by decide +kernel
theorem d_ThumbCore_withHigh_83 : decode b_ThumbCore_withHigh 83 = .ok (.bipush 15, 2) := by decide +kernel
theorem d_ThumbCore_withHigh_85 : decode b_ThumbCore_withHigh 85 = .ok (.if_icmp .eq 9, 3) := by decide +kernel
theorem d_ThumbCore_withHigh_88 : decode b_ThumbCore_withHigh 88 = .ok (.iload_n 3, 1) := by decide +kernel
theorem d_ThumbCore_withHigh_89 : decode b_ThumbCore_withHigh 89 = .ok (.bipush 15, 2) := by decide +kernel
theorem d_ThumbCore_withHigh_91 : decode b_ThumbCore_withHigh 91 = .ok (.if_icmp .ne 5, 3) := by decide +kernel
theorem d_ThumbCore_withHigh_94 : decode b_ThumbCore_withHigh 94 = .ok (.iconst 0, 1) := by decide +kernel
theorem d_ThumbCore_withHigh_95 : decode b_ThumbCore_withHigh 95 = .ok (.ireturn, 1) := by decide +kernel
theorem d_ThumbCore_withHigh_96 : decode b_ThumbCore_withHigh 96 = .ok (.aload_n 0, 1) := by decide +kernel
theorem d_ThumbCore_withHigh_97 : decode b_ThumbCore_withHigh 97 = .ok (.getfield 34, 3) := by decide +kernel
theorem d_ThumbCore_withHigh_100 : decode b_ThumbCore_withHigh 100 = .ok (.aload_n 0, 1) := by decide +kernel
theorem d_ThumbCore_withHigh_101 : decode b_ThumbCore_withHigh 101 = .ok (.getfield 27, 3) := by decide +kernel
theorem d_ThumbCore_withHigh_104 : decode b_ThumbCore_withHigh 104 = .ok (.iload_n 2, 1) := by decide +kernel
theorem d_ThumbCore_withHigh_105 : decode b_ThumbCore_withHigh 105 = .ok (.iaload, 1) := by decide +kernel
theorem d_ThumbCore_withHigh_106 : decode b_ThumbCore_withHigh 106 = .ok (.aload_n 0, 1) := by decide +kernel
theorem d_ThumbCore_withHigh_107 : decode b_ThumbCore_withHigh 107 = .ok (.getfield 27, 3) := by decide +kernel
theorem d_ThumbCore_withHigh_110 : decode b_ThumbCore_withHigh 110 = .ok (.iload_n 3, 1) := by decide +kernel
theorem d_ThumbCore_withHigh_111 : decode b_ThumbCore_withHigh 111 = .ok (.iaload, 1) := by decide +kernel
theorem d_ThumbCore_withHigh_112 : decode b_ThumbCore_withHigh 112 = .ok (.iconst (-1), 1) := by decide +kernel
theorem d_ThumbCore_withHigh_113 : decode b_ThumbCore_withHigh 113 = .ok (.ixor, 1) := by decide +kernel
theorem d_ThumbCore_withHigh_114 : decode b_ThumbCore_withHigh 114 = .ok (.iconst 1, 1) := by decide +kernel
theorem d_ThumbCore_withHigh_115 : decode b_ThumbCore_withHigh 115 = .ok (.invokevirtual 209, 3) := by decide +kernel
theorem d_ThumbCore_withHigh_118 : decode b_ThumbCore_withHigh 118 = .ok (.pop, 1) := by decide +kernel
theorem d_ThumbCore_withHigh_119 : decode b_ThumbCore_withHigh 119 = .ok (.iconst 1, 1) := by decide +kernel
theorem d_ThumbCore_withHigh_120 : decode b_ThumbCore_withHigh 120 = .ok (.ireturn, 1) := by decide +kernel
theorem d_ThumbCore_withHigh_121 : decode b_ThumbCore_withHigh 121 = .ok (.aload_n 0, 1) := by decide +kernel
theorem d_ThumbCore_withHigh_122 : decode b_ThumbCore_withHigh 122 = .ok (.iload_n 2, 1) := by decide +kernel
theorem d_ThumbCore_withHigh_123 : decode b_ThumbCore_withHigh 123 = .ok (.aload_n 0, 1) := by decide +kernel
theorem d_ThumbCore_withHigh_124 : decode b_ThumbCore_withHigh 124 = .ok (.iload_n 3, 1) := by decide +kernel
theorem d_ThumbCore_withHigh_125 : decode b_ThumbCore_withHigh 125 = .ok (.invokevirtual 225, 3) := by decide +kernel
theorem d_ThumbCore_withHigh_128 : decode b_ThumbCore_withHigh 128 = .ok (.invokevirtual 228, 3) := by decide +kernel
theorem d_ThumbCore_withHigh_131 : decode b_ThumbCore_withHigh 131 = .ok (.iconst 1, 1) := by decide +kernel
theorem d_ThumbCore_withHigh_132 : decode b_ThumbCore_withHigh 132 = .ok (.ireturn, 1) := by decide +kernel
theorem d_ThumbCore_withHigh_133 : decode b_ThumbCore_withHigh 133 = .ok (.iload_n 1, 1) := by decide +kernel
theorem d_ThumbCore_withHigh_134 : decode b_ThumbCore_withHigh 134 = .ok (.bipush 7, 2) := by decide +kernel
theorem d_ThumbCore_withHigh_136 : decode b_ThumbCore_withHigh 136 = .ok (.iand, 1) := by decide +kernel
theorem d_ThumbCore_withHigh_137 : decode b_ThumbCore_withHigh 137 = .ok (.ifCond .ne 9, 3) := by decide +kernel
theorem d_ThumbCore_withHigh_140 : decode b_ThumbCore_withHigh 140 = .ok (.iload_n 3, 1) := by decide +kernel
theorem d_ThumbCore_withHigh_141 : decode b_ThumbCore_withHigh 141 = .ok (.bipush 15, 2) := by decide +kernel
theorem d_ThumbCore_withHigh_143 : decode b_ThumbCore_withHigh 143 = .ok (.if_icmp .ne 5, 3) := by decide +kernel
theorem d_ThumbCore_withHigh_146 : decode b_ThumbCore_withHigh 146 = .ok (.iconst 0, 1) := by decide +kernel
theorem d_ThumbCore_withHigh_147 : decode b_ThumbCore_withHigh 147 = .ok (.ireturn, 1) := by decide +kernel
theorem d_ThumbCore_withHigh_148 : decode b_ThumbCore_withHigh 148 = .ok (.aload_n 0, 1) := by decide +kernel
theorem d_ThumbCore_withHigh_149 : decode b_ThumbCore_withHigh 149 = .ok (.aload_n 0, 1) := by decide +kernel
theorem d_ThumbCore_withHigh_150 : decode b_ThumbCore_withHigh 150 = .ok (.getfield 27, 3) := by decide +kernel
theorem d_ThumbCore_withHigh_153 : decode b_ThumbCore_withHigh 153 = .ok (.iload_n 3, 1) := by decide +kernel
theorem d_ThumbCore_withHigh_154 : decode b_ThumbCore_withHigh 154 = .ok (.iaload, 1) := by decide +kernel
theorem d_ThumbCore_withHigh_155 : decode b_ThumbCore_withHigh 155 = .ok (.iload_n 1, 1) := by decide +kernel
theorem d_ThumbCore_withHigh_156 : decode b_ThumbCore_withHigh 156 = .ok (.bipush 7, 2) := by decide +kernel
theorem d_ThumbCore_withHigh_158 : decode b_ThumbCore_withHigh 158 = .ok (.iushr, 1) := by decide +kernel
theorem d_ThumbCore_withHigh_159 : decode b_ThumbCore_withHigh 159 = .ok (.iconst 1, 1) := by decide +kernel
theorem d_ThumbCore_withHigh_160 : decode b_ThumbCore_withHigh 160 = .ok (.iand, 1) := by decide +kernel
theorem d_ThumbCore_withHigh_161 : decode b_ThumbCore_withHigh 161 = .ok (.iconst 1, 1) := by decide +kernel
theorem d_ThumbCore_withHigh_162 : decode b_ThumbCore_withHigh 162 = .ok (.if_icmp .ne 7, 3) := by decide +kernel
theorem d_ThumbCore_withHigh_165 : decode b_ThumbCore_withHigh 165 = .ok (.iconst 1, 1) := by decide +kernel
theorem d_ThumbCore_withHigh_166 : decode b_ThumbCore_withHigh 166 = .ok (.goto 4, 3) := by decide +kernel
theorem d_ThumbCore_withHigh_169 : decode b_ThumbCore_withHigh 169 = .ok (.iconst 0, 1) := by decide +kernel
theorem d_ThumbCore_withHigh_170 : decode b_ThumbCore_withHigh 170 = .ok (.invokevirtual 231, 3) := by decide +kernel
theorem d_ThumbCore_withHigh_173 : decode b_ThumbCore_withHigh 173 = .ok (.ireturn, 1) := by decide +kernel
theorem d_ThumbCore_readHigh_0 : decode b_ThumbCore_readHigh 0 = .ok (.iload_n 1, 1) := by decide +kernel
theorem d_ThumbCore_readHigh_1 : decode b_ThumbCore_readHigh 1 = .ok (.bipush 15, 2) := by decide +kernel
theorem d_ThumbCore_readHigh_3 : decode b_ThumbCore_readHigh 3 = .ok (.if_icmp .ne 10, 3) := by decide +kernel
theorem d_ThumbCore_readHigh_6 : decode b_ThumbCore_readHigh 6 = .ok (.aload_n 0, 1) := by decide +kernel
theorem d_ThumbCore_readHigh_7 : decode b_ThumbCore_readHigh 7 = .ok (.invokevirtual 194, 3) := by decide +kernel
theorem d_ThumbCore_readHigh_10 : decode b_ThumbCore_readHigh 10 = .ok (.goto 9, 3) := by decide +kernel
theorem d_ThumbCore_readHigh_13 : decode b_ThumbCore_readHigh 13 = .ok (.aload_n 0, 1) := by decide +kernel
theorem d_ThumbCore_readHigh_14 : decode b_ThumbCore_readHigh 14 = .ok (.getfield 27, 3) := by decide +kernel
theorem d_ThumbCore_readHigh_17 : decode b_ThumbCore_readHigh 17 = .ok (.iload_n 1, 1) := by decide +kernel
theorem d_ThumbCore_readHigh_18 : decode b_ThumbCore_readHigh 18 = .ok (.iaload, 1) := by decide +kernel
theorem d_ThumbCore_readHigh_19 : decode b_ThumbCore_readHigh 19 = .ok (.ireturn, 1) := by decide +kernel
theorem d_ThumbCore_put_0 : decode b_ThumbCore_put 0 = .ok (.iload_n 1, 1) := by decide +kernel
theorem d_ThumbCore_put_1 : decode b_ThumbCore_put 1 = .ok (.bipush 15, 2) := by decide +kernel
theorem d_ThumbCore_put_3 : decode b_ThumbCore_put 3 = .ok (.if_icmp .ne 16, 3) := by decide +kernel
theorem d_ThumbCore_put_6 : decode b_ThumbCore_put 6 = .ok (.aload_n 0, 1) := by decide +kernel
theorem d_ThumbCore_put_7 : decode b_ThumbCore_put 7 = .ok (.bipush 15, 2) := by decide +kernel
theorem d_ThumbCore_put_9 : decode b_ThumbCore_put 9 = .ok (.iload_n 2, 1) := by decide +kernel
theorem d_ThumbCore_put_10 : decode b_ThumbCore_put 10 = .ok (.invokestatic 121, 3) := by decide +kernel
theorem d_ThumbCore_put_13 : decode b_ThumbCore_put 13 = .ok (.putfield 111, 3) := by decide +kernel
theorem d_ThumbCore_put_16 : decode b_ThumbCore_put 16 = .ok (.goto 14, 3) := by decide +kernel
theorem d_ThumbCore_put_19 : decode b_ThumbCore_put 19 = .ok (.aload_n 0, 1) := by decide +kernel
theorem d_ThumbCore_put_20 : decode b_ThumbCore_put 20 = .ok (.getfield 27, 3) := by decide +kernel
theorem d_ThumbCore_put_23 : decode b_ThumbCore_put 23 = .ok (.iload_n 1, 1) := by decide +kernel
theorem d_ThumbCore_put_24 : decode b_ThumbCore_put 24 = .ok (.iload_n 1, 1) := by decide +kernel
theorem d_ThumbCore_put_25 : decode b_ThumbCore_put 25 = .ok (.iload_n 2, 1) := by decide +kernel
theorem d_ThumbCore_put_26 : decode b_ThumbCore_put 26 = .ok (.invokestatic 121, 3) := by decide +kernel
theorem d_ThumbCore_put_29 : decode b_ThumbCore_put 29 = .ok (.iastore, 1) := by decide +kernel
theorem d_ThumbCore_put_30 : decode b_ThumbCore_put 30 = .ok (.return_, 1) := by decide +kernel
theorem d_ThumbCore_branchTo_0 : decode b_ThumbCore_branchTo 0 = .ok (.aload_n 0, 1) := by decide +kernel
theorem d_ThumbCore_branchTo_1 : decode b_ThumbCore_branchTo 1 = .ok (.iload_n 1, 1) := by decide +kernel
theorem d_ThumbCore_branchTo_2 : decode b_ThumbCore_branchTo 2 = .ok (.aload_n 0, 1) := by decide +kernel
theorem d_ThumbCore_branchTo_3 : decode b_ThumbCore_branchTo 3 = .ok (.getfield 27, 3) := by decide +kernel
theorem d_ThumbCore_branchTo_6 : decode b_ThumbCore_branchTo 6 = .ok (.bipush 13, 2) := by decide +kernel
theorem d_ThumbCore_branchTo_8 : decode b_ThumbCore_branchTo 8 = .ok (.iaload, 1) := by decide +kernel
theorem d_ThumbCore_branchTo_9 : decode b_ThumbCore_branchTo 9 = .ok (.invokevirtual 235, 3) := by decide +kernel
theorem d_ThumbCore_branchTo_12 : decode b_ThumbCore_branchTo 12 = .ok (.ifCond .ne 5, 3) := by decide +kernel
theorem d_ThumbCore_branchTo_15 : decode b_ThumbCore_branchTo 15 = .ok (.iconst 0, 1) := by decide +kernel
theorem d_ThumbCore_branchTo_16 : decode b_ThumbCore_branchTo 16 = .ok (.ireturn, 1) := by decide +kernel
theorem d_ThumbCore_branchTo_17 : decode b_ThumbCore_branchTo 17 = .ok (.iload_n 2, 1) := by decide +kernel
theorem d_ThumbCore_branchTo_18 : decode b_ThumbCore_branchTo 18 = .ok (.ifCond .eq 24, 3) := by decide +kernel
theorem d_ThumbCore_branchTo_21 : decode b_ThumbCore_branchTo 21 = .ok (.aload_n 0, 1) := by decide +kernel
theorem d_ThumbCore_branchTo_22 : decode b_ThumbCore_branchTo 22 = .ok (.iload_n 1, 1) := by decide +kernel
theorem d_ThumbCore_branchTo_23 : decode b_ThumbCore_branchTo 23 = .ok (.invokevirtual 238, 3) := by decide +kernel
theorem d_ThumbCore_branchTo_26 : decode b_ThumbCore_branchTo 26 = .ok (.ifCond .ne 16, 3) := by decide +kernel
theorem d_ThumbCore_branchTo_29 : decode b_ThumbCore_branchTo 29 = .ok (.aload_n 0, 1) := by decide +kernel
theorem d_ThumbCore_branchTo_30 : decode b_ThumbCore_branchTo 30 = .ok (.getfield 27, 3) := by decide +kernel
theorem d_ThumbCore_branchTo_33 : decode b_ThumbCore_branchTo 33 = .ok (.bipush 14, 2) := by decide +kernel
theorem d_ThumbCore_branchTo_35 : decode b_ThumbCore_branchTo 35 = .ok (.aload_n 0, 1) := by decide +kernel
theorem d_ThumbCore_branchTo_36 : decode b_ThumbCore_branchTo 36 = .ok (.getfield 111, 3) := by decide +kernel
theorem d_ThumbCore_branchTo_39 : decode b_ThumbCore_branchTo 39 = .ok (.iconst 1, 1) := by decide +kernel
theorem d_ThumbCore_branchTo_40 : decode b_ThumbCore_branchTo 40 = .ok (.iadd, 1) := by decide +kernel
theorem d_ThumbCore_branchTo_41 : decode b_ThumbCore_branchTo 41 = .ok (.iastore, 1) := by decide +kernel
theorem d_ThumbCore_branchTo_42 : decode b_ThumbCore_branchTo 42 = .ok (.aload_n 0, 1) := by decide +kernel
theorem d_ThumbCore_branchTo_43 : decode b_ThumbCore_branchTo 43 = .ok (.iload_n 1, 1) := by decide +kernel
theorem d_ThumbCore_branchTo_44 : decode b_ThumbCore_branchTo 44 = .ok (.invokevirtual 241, 3) := by decide +kernel
theorem d_ThumbCore_branchTo_47 : decode b_ThumbCore_branchTo 47 = .ok (.iconst 1, 1) := by decide +kernel
theorem d_ThumbCore_branchTo_48 : decode b_ThumbCore_branchTo 48 = .ok (.ireturn, 1) := by decide +kernel
theorem d_ThumbCore_fromBase_0 : decode b_ThumbCore_fromBase 0 = .ok (.iload_n 1, 1) := by decide +kernel
theorem d_ThumbCore_fromBase_1 : decode b_ThumbCore_fromBase 1 = .ok (.bipush 8, 2) := by decide +kernel
theorem d_ThumbCore_fromBase_3 : decode b_ThumbCore_fromBase 3 = .ok (.iushr, 1) := by decide +kernel
theorem d_ThumbCore_fromBase_4 : decode b_ThumbCore_fromBase 4 = .ok (.bipush 7, 2) := by decide +kernel
theorem d_ThumbCore_fromBase_6 : decode b_ThumbCore_fromBase 6 = .ok (.iand, 1) := by decide +kernel
theorem d_ThumbCore_fromBase_7 : decode b_ThumbCore_fromBase 7 = .ok (.istore_n 2, 1) := by decide +kernel
theorem d_ThumbCore_fromBase_8 : decode b_ThumbCore_fromBase 8 = .ok (.iconst 4, 1) := by decide +kernel
theorem d_ThumbCore_fromBase_9 : decode b_ThumbCore_fromBase 9 = .ok (.iload_n 1, 1) := by decide +kernel
theorem d_ThumbCore_fromBase_10 : decode b_ThumbCore_fromBase 10 = .ok (.sipush 255, 3) := by decide +kernel
theorem d_ThumbCore_fromBase_13 : decode b_ThumbCore_fromBase 13 = .ok (.iand, 1) := by decide +kernel
theorem d_ThumbCore_fromBase_14 : decode b_ThumbCore_fromBase 14 = .ok (.imul, 1) := by decide +kernel
theorem d_ThumbCore_fromBase_15 : decode b_ThumbCore_fromBase 15 = .ok (.istore_n 3, 1) := by decide +kernel
theorem d_ThumbCore_fromBase_16 : decode b_ThumbCore_fromBase 16 = .ok (.aload_n 0, 1) := by decide +kernel
theorem d_ThumbCore_fromBase_17 : decode b_ThumbCore_fromBase 17 = .ok (.invokevirtual 194, 3) := by decide +kernel
theorem d_ThumbCore_fromBase_20 : decode b_ThumbCore_fromBase 20 = .ok (.bipush (-4), 2) := by decide +kernel
theorem d_ThumbCore_fromBase_22 : decode b_ThumbCore_fromBase 22 = .ok (.iand, 1) := by decide +kernel
theorem d_ThumbCore_fromBase_23 : decode b_ThumbCore_fromBase 23 = .ok (.istore 4, 2) := by decide +kernel
theorem d_ThumbCore_fromBase_25 : decode b_ThumbCore_fromBase 25 = .ok (.iload_n 1, 1) := by decide +kernel
theorem d_ThumbCore_fromBase_26 : decode b_ThumbCore_fromBase 26 = .ok (.bipush 11, 2) := by decide +kernel
theorem d_ThumbCore_fromBase_28 : decode b_ThumbCore_fromBase 28 = .ok (.iushr, 1) := by decide +kernel
theorem d_ThumbCore_fromBase_29 : decode b_ThumbCore_fromBase 29 = .ok (.lookupswitch 98 #[(9, 43), (18, 54), (19, 70), (20, 86)], 43) := by decide +kernel
theorem d_ThumbCore_fromBase_72 : decode b_ThumbCore_fromBase 72 = .ok (.aload_n 0, 1) := by decide +kernel
theorem d_ThumbCore_fromBase_73 : decode b_ThumbCore_fromBase 73 = .ok (.iload_n 2, 1) := by decide +kernel
theorem d_ThumbCore_fromBase_74 : decode b_ThumbCore_fromBase 74 = .ok (.iload 4, 2) := by decide +kernel
theorem d_ThumbCore_fromBase_76 : decode b_ThumbCore_fromBase 76 = .ok (.iload_n 3, 1) := by decide +kernel
theorem d_ThumbCore_fromBase_77 : decode b_ThumbCore_fromBase 77 = .ok (.iadd, 1) := by decide +kernel
theorem d_ThumbCore_fromBase_78 : decode b_ThumbCore_fromBase 78 = .ok (.iconst 4, 1) := by decide +kernel
theorem d_ThumbCore_fromBase_79 : decode b_ThumbCore_fromBase 79 = .ok (.invokevirtual 244, 3) := by decide +kernel
theorem d_ThumbCore_fromBase_82 : decode b_ThumbCore_fromBase 82 = .ok (.ireturn, 1) := by decide +kernel
theorem d_ThumbCore_fromBase_83 : decode b_ThumbCore_fromBase 83 = .ok (.aload_n 0, 1) := by decide +kernel
theorem d_ThumbCore_fromBase_84 : decode b_ThumbCore_fromBase 84 = .ok (.iload_n 2, 1) := by decide +kernel
theorem d_ThumbCore_fromBase_85 : decode b_ThumbCore_fromBase 85 = .ok (.aload_n 0, 1) := by decide +kernel
theorem d_ThumbCore_fromBase_86 : decode b_ThumbCore_fromBase 86 = .ok (.getfield 27, 3) := by decide +kernel
theorem d_ThumbCore_fromBase_89 : decode b_ThumbCore_fromBase 89 = .ok (.bipush 13, 2) := by decide +kernel
theorem d_ThumbCore_fromBase_91 : decode b_ThumbCore_fromBase 91 = .ok (.iaload, 1) := by decide +kernel
theorem d_ThumbCore_fromBase_92 : decode b_ThumbCore_fromBase 92 = .ok (.iload_n 3, 1) := by decide +kernel
theorem d_ThumbCore_fromBase_93 : decode b_ThumbCore_fromBase 93 = .ok (.iadd, 1) := by decide +kernel
theorem d_ThumbCore_fromBase_94 : decode b_ThumbCore_fromBase 94 = .ok (.iconst 4, 1) := by decide +kernel
theorem d_ThumbCore_fromBase_95 : decode b_ThumbCore_fromBase 95 = .ok (.invokevirtual 248, 3) := by decide +kernel
theorem d_ThumbCore_fromBase_98 : decode b_ThumbCore_fromBase 98 = .ok (.ireturn, 1) := by decide +kernel
theorem d_ThumbCore_fromBase_99 : decode b_ThumbCore_fromBase 99 = .ok (.aload_n 0, 1) := by decide +kernel
theorem d_ThumbCore_fromBase_100 : decode b_ThumbCore_fromBase 100 = .ok (.iload_n 2, 1) := by decide +kernel
theorem d_ThumbCore_fromBase_101 : decode b_ThumbCore_fromBase 101 = .ok (.aload_n 0, 1) := by decide +kernel
theorem d_ThumbCore_fromBase_102 : decode b_ThumbCore_fromBase 102 = .ok (.getfield 27, 3) := by decide +kernel
theorem d_ThumbCore_fromBase_105 : decode b_ThumbCore_fromBase 105 = .ok (.bipush 13, 2) := by decide +kernel
theorem d_ThumbCore_fromBase_107 : decode b_ThumbCore_fromBase 107 = .ok (.iaload, 1) := by decide +kernel
theorem d_ThumbCore_fromBase_108 : decode b_ThumbCore_fromBase 108 = .ok (.iload_n 3, 1) := by decide +kernel
theorem d_ThumbCore_fromBase_109 : decode b_ThumbCore_fromBase 109 = .ok (.iadd, 1) := by decide +kernel
theorem d_ThumbCore_fromBase_110 : decode b_ThumbCore_fromBase 110 = .ok (.iconst 4, 1) := by decide +kernel
theorem d_ThumbCore_fromBase_111 : decode b_ThumbCore_fromBase 111 = .ok (.invokevirtual 244, 3) := by decide +kernel
theorem d_ThumbCore_fromBase_114 : decode b_ThumbCore_fromBase 114 = .ok (.ireturn, 1) := by decide +kernel
theorem d_ThumbCore_fromBase_115 : decode b_ThumbCore_fromBase 115 = .ok (.aload_n 0, 1) := by decide +kernel
theorem d_ThumbCore_fromBase_116 : decode b_ThumbCore_fromBase 116 = .ok (.getfield 27, 3) := by decide +kernel
theorem d_ThumbCore_fromBase_119 : decode b_ThumbCore_fromBase 119 = .ok (.iload_n 2, 1) := by decide +kernel
theorem d_ThumbCore_fromBase_120 : decode b_ThumbCore_fromBase 120 = .ok (.iload 4, 2) := by decide +kernel
theorem d_ThumbCore_fromBase_122 : decode b_ThumbCore_fromBase 122 = .ok (.iload_n 3, 1) := by decide +kernel
theorem d_ThumbCore_fromBase_123 : decode b_ThumbCore_fromBase 123 = .ok (.iadd, 1) := by decide +kernel
theorem d_ThumbCore_fromBase_124 : decode b_ThumbCore_fromBase 124 = .ok (.iastore, 1) := by decide +kernel
theorem d_ThumbCore_fromBase_125 : decode b_ThumbCore_fromBase 125 = .ok (.iconst 1, 1) := by decide +kernel
theorem d_ThumbCore_fromBase_126 : decode b_ThumbCore_fromBase 126 = .ok (.ireturn, 1) := by decide +kernel
theorem d_ThumbCore_fromBase_127 : decode b_ThumbCore_fromBase 127 = .ok (.aload_n 0, 1) := by decide +kernel
theorem d_ThumbCore_fromBase_128 : decode b_ThumbCore_fromBase 128 = .ok (.getfield 27, 3) := by decide +kernel
theorem d_ThumbCore_fromBase_131 : decode b_ThumbCore_fromBase 131 = .ok (.iload_n 2, 1) := by decide +kernel
theorem d_ThumbCore_fromBase_132 : decode b_ThumbCore_fromBase 132 = .ok (.aload_n 0, 1) := by decide +kernel
theorem d_ThumbCore_fromBase_133 : decode b_ThumbCore_fromBase 133 = .ok (.getfield 27, 3) := by decide +kernel
theorem d_ThumbCore_fromBase_136 : decode b_ThumbCore_fromBase 136 = .ok (.bipush 13, 2) := by decide +kernel
theorem d_ThumbCore_fromBase_138 : decode b_ThumbCore_fromBase 138 = .ok (.iaload, 1) := by decide +kernel
theorem d_ThumbCore_fromBase_139 : decode b_ThumbCore_fromBase 139 = .ok (.iload_n 3, 1) := by decide +kernel
theorem d_ThumbCore_fromBase_140 : decode b_ThumbCore_fromBase 140 = .ok (.iadd, 1) := by decide +kernel
theorem d_ThumbCore_fromBase_141 : decode b_ThumbCore_fromBase 141 = .ok (.iastore, 1) := by decide +kernel
theorem d_ThumbCore_fromBase_142 : decode b_ThumbCore_fromBase 142 = .ok (.iconst 1, 1) := by decide +kernel
theorem d_ThumbCore_fromBase_143 : decode b_ThumbCore_fromBase 143 = .ok (.ireturn, 1) := by decide +kernel
theorem d_ThumbCore_atSum_0 : decode b_ThumbCore_atSum 0 = .ok (.iload_n 1, 1) := by decide +kernel
theorem d_ThumbCore_atSum_1 : decode b_ThumbCore_atSum 1 = .ok (.bipush 7, 2) := by decide +kernel
theorem d_ThumbCore_atSum_3 : decode b_ThumbCore_atSum 3 = .ok (.iand, 1) := by decide +kernel
theorem d_ThumbCore_atSum_4 : decode b_ThumbCore_atSum 4 = .ok (.istore_n 2, 1) := by decide +kernel
theorem d_ThumbCore_atSum_5 : decode b_ThumbCore_atSum 5 = .ok (.aload_n 0, 1) := by decide +kernel
theorem d_ThumbCore_atSum_6 : decode b_ThumbCore_atSum 6 = .ok (.getfield 27, 3) := by decide +kernel
theorem d_ThumbCore_atSum_9 : decode b_ThumbCore_atSum 9 = .ok (.iload_n 1, 1) := by decide +kernel
theorem d_ThumbCore_atSum_10 : decode b_ThumbCore_atSum 10 = .ok (.iconst 3, 1) := by decide +kernel
theorem d_ThumbCore_atSum_11 : decode b_ThumbCore_atSum 11 = .ok (.iushr, 1) := by decide +kernel
theorem d_ThumbCore_atSum_12 : decode b_ThumbCore_atSum 12 = .ok (.bipush 7, 2) := by decide +kernel
theorem d_ThumbCore_atSum_14 : decode b_ThumbCore_atSum 14 = .ok (.iand, 1) := by decide +kernel
theorem d_ThumbCore_atSum_15 : decode b_ThumbCore_atSum 15 = .ok (.iaload, 1) := by decide +kernel
theorem d_ThumbCore_atSum_16 : decode b_ThumbCore_atSum 16 = .ok (.aload_n 0, 1) := by decide +kernel
theorem d_ThumbCore_atSum_17 : decode b_ThumbCore_atSum 17 = .ok (.getfield 27, 3) := by decide +kernel
theorem d_ThumbCore_atSum_20 : decode b_ThumbCore_atSum 20 = .ok (.iload_n 1, 1) := by decide +kernel
theorem d_ThumbCore_atSum_21 : decode b_ThumbCore_atSum 21 = .ok (.bipush 6, 2) := by decide +kernel
theorem d_ThumbCore_atSum_23 : decode b_ThumbCore_atSum 23 = .ok (.iushr, 1) := by decide +kernel
theorem d_ThumbCore_atSum_24 : decode b_ThumbCore_atSum 24 = .ok (.bipush 7, 2) := by decide +kernel
theorem d_ThumbCore_atSum_26 : decode b_ThumbCore_atSum 26 = .ok (.iand, 1) := by decide +kernel
theorem d_ThumbCore_atSum_27 : decode b_ThumbCore_atSum 27 = .ok (.iaload, 1) := by decide +kernel
theorem d_ThumbCore_atSum_28 : decode b_ThumbCore_atSum 28 = .ok (.iadd, 1) := by decide +kernel
theorem d_ThumbCore_atSum_29 : decode b_ThumbCore_atSum 29 = .ok (.istore_n 3, 1) := by decide +kernel
theorem d_ThumbCore_atSum_30 : decode b_ThumbCore_atSum 30 = .ok (.iload_n 1, 1) := by decide +kernel
theorem d_ThumbCore_atSum_31 : decode b_ThumbCore_atSum 31 = .ok (.bipush 9, 2) := by decide +kernel
theorem d_ThumbCore_atSum_33 : decode b_ThumbCore_atSum 33 = .ok (.iushr, 1) := by decide +kernel
theorem d_ThumbCore_atSum_34 : decode b_ThumbCore_atSum 34 = .ok (.bipush 7, 2) := by decide +kernel
theorem d_ThumbCore_atSum_36 : decode b_ThumbCore_atSum 36 = .ok (.iand, 1) := by decide +kernel
theorem d_ThumbCore_atSum_37 : decode b_ThumbCore_atSum 37 = .ok (.tableswitch 99 0 6 #[43, 51, 59, 67, 75, 83, 91], 43) := by decide +kernel
theorem d_ThumbCore_atSum_80 : decode b_ThumbCore_atSum 80 = .ok (.aload_n 0, 1) := by decide +kernel
theorem d_ThumbCore_atSum_81 : decode b_ThumbCore_atSum 81 = .ok (.iload_n 2, 1) := by decide +kernel
theorem d_ThumbCore_atSum_82 : decode b_ThumbCore_atSum 82 = .ok (.iload_n 3, 1) := by decide +kernel
theorem d_ThumbCore_atSum_83 : decode b_ThumbCore_atSum 83 = .ok (.iconst 4, 1) := by decide +kernel
theorem d_ThumbCore_atSum_84 : decode b_ThumbCore_atSum 84 = .ok (.invokevirtual 248, 3) := by decide +kernel
theorem d_ThumbCore_atSum_87 : decode b_ThumbCore_atSum 87 = .ok (.ireturn, 1) := by decide +kernel
theorem d_ThumbCore_atSum_88 : decode b_ThumbCore_atSum 88 = .ok (.aload_n 0, 1) := by decide +kernel
theorem d_ThumbCore_atSum_89 : decode b_ThumbCore_atSum 89 = .ok (.iload_n 2, 1) := by decide +kernel
theorem d_ThumbCore_atSum_90 : decode b_ThumbCore_atSum 90 = .ok (.iload_n 3, 1) := by decide +kernel
theorem d_ThumbCore_atSum_91 : decode b_ThumbCore_atSum 91 = .ok (.iconst 2, 1) := by decide +kernel
theorem d_ThumbCore_atSum_92 : decode b_ThumbCore_atSum 92 = .ok (.invokevirtual 248, 3) := by decide +kernel
theorem d_ThumbCore_atSum_95 : decode b_ThumbCore_atSum 95 = .ok (.ireturn, 1) := by decide +kernel
theorem d_ThumbCore_atSum_96 : decode b_ThumbCore_atSum 96 = .ok (.aload_n 0, 1) := by decide +kernel
theorem d_ThumbCore_atSum_97 : decode b_ThumbCore_atSum 97 = .ok (.iload_n 2, 1) := by decide +kernel
theorem d_ThumbCore_atSum_98 : decode b_ThumbCore_atSum 98 = .ok (.iload_n 3, 1) := by decide +kernel
theorem d_ThumbCore_atSum_99 : decode b_ThumbCore_atSum 99 = .ok (.iconst 1, 1) := by decide +kernel
theorem d_ThumbCore_atSum_100 : decode b_ThumbCore_atSum 100 = .ok (.invokevirtual 248, 3) := by decide +kernel
theorem d_ThumbCore_atSum_103 : decode b_ThumbCore_atSum 103 = .ok (.ireturn, 1) := by decide +kernel
theorem d_ThumbCore_atSum_104 : decode b_ThumbCore_atSum 104 = .ok (.aload_n 0, 1) := by decide +kernel
theorem d_ThumbCore_atSum_105 : decode b_ThumbCore_atSum 105 = .ok (.iload_n 2, 1) := by decide +kernel
theorem d_ThumbCore_atSum_106 : decode b_ThumbCore_atSum 106 = .ok (.iload_n 3, 1) := by decide +kernel
theorem d_ThumbCore_atSum_107 : decode b_ThumbCore_atSum 107 = .ok (.iconst 1, 1) := by decide +kernel
theorem d_ThumbCore_atSum_108 : decode b_ThumbCore_atSum 108 = .ok (.invokevirtual 251, 3) := by decide +kernel
theorem d_ThumbCore_atSum_111 : decode b_ThumbCore_atSum 111 = .ok (.ireturn, 1) := by decide +kernel
theorem d_ThumbCore_atSum_112 : decode b_ThumbCore_atSum 112 = .ok (.aload_n 0, 1) := by decide +kernel
theorem d_ThumbCore_atSum_113 : decode b_ThumbCore_atSum 113 = .ok (.iload_n 2, 1) := by decide +kernel
theorem d_ThumbCore_atSum_114 : decode b_ThumbCore_atSum 114 = .ok (.iload_n 3, 1) := by decide +kernel
theorem d_ThumbCore_atSum_115 : decode b_ThumbCore_atSum 115 = .ok (.iconst 4, 1) := by decide +kernel
theorem d_ThumbCore_atSum_116 : decode b_ThumbCore_atSum 116 = .ok (.invokevirtual 244, 3) := by decide +kernel
theorem d_ThumbCore_atSum_119 : decode b_ThumbCore_atSum 119 = .ok (.ireturn, 1) := by decide +kernel
theorem d_ThumbCore_atSum_120 : decode b_ThumbCore_atSum 120 = .ok (.aload_n 0, 1) := by decide +kernel
theorem d_ThumbCore_atSum_121 : decode b_ThumbCore_atSum 121 = .ok (.iload_n 2, 1) := by decide +kernel
theorem d_ThumbCore_atSum_122 : decode b_ThumbCore_atSum 122 = .ok (.iload_n 3, 1) := by decide +kernel
theorem d_ThumbCore_atSum_123 : decode b_ThumbCore_atSum 123 = .ok (.iconst 2, 1) := by decide +kernel
theorem d_ThumbCore_atSum_124 : decode b_ThumbCore_atSum 124 = .ok (.invokevirtual 244, 3) := by decide +kernel
theorem d_ThumbCore_atSum_127 : decode b_ThumbCore_atSum 127 = .ok (.ireturn, 1) := by decide +kernel
theorem d_ThumbCore_atSum_128 : decode b_ThumbCore_atSum 128 = .ok (.aload_n 0, 1) := by decide +kernel
theorem d_ThumbCore_atSum_129 : decode b_ThumbCore_atSum 129 = .ok (.iload_n 2, 1) := by decide +kernel
theorem d_ThumbCore_atSum_130 : decode b_ThumbCore_atSum 130 = .ok (.iload_n 3, 1) := by decide +kernel
theorem d_ThumbCore_atSum_131 : decode b_ThumbCore_atSum 131 = .ok (.iconst 1, 1) := by decide +kernel
theorem d_ThumbCore_atSum_132 : decode b_ThumbCore_atSum 132 = .ok (.invokevirtual 244, 3) := by decide +kernel
theorem d_ThumbCore_atSum_135 : decode b_ThumbCore_atSum 135 = .ok (.ireturn, 1) := by decide +kernel
theorem d_ThumbCore_atSum_136 : decode b_ThumbCore_atSum 136 = .ok (.aload_n 0, 1) := by decide +kernel
theorem d_ThumbCore_atSum_137 : decode b_ThumbCore_atSum 137 = .ok (.iload_n 2, 1) := by decide +kernel
theorem d_ThumbCore_atSum_138 : decode b_ThumbCore_atSum 138 = .ok (.iload_n 3, 1) := by decide +kernel
theorem d_ThumbCore_atSum_139 : decode b_ThumbCore_atSum 139 = .ok (.iconst 2, 1) := by decide +kernel
theorem d_ThumbCore_atSum_140 : decode b_ThumbCore_atSum 140 = .ok (.invokevirtual 251, 3) := by decide +kernel
theorem d_ThumbCore_atSum_143 : decode b_ThumbCore_atSum 143 = .ok (.ireturn, 1) := by decide +kernel
theorem d_ThumbCore_atOffset_0 : decode b_ThumbCore_atOffset 0 = .ok (.iload_n 1, 1) := by decide +kernel
theorem d_ThumbCore_atOffset_1 : decode b_ThumbCore_atOffset 1 = .ok (.bipush 7, 2) := by decide +kernel
theorem d_ThumbCore_atOffset_3 : decode b_ThumbCore_atOffset 3 = .ok (.iand, 1) := by decide +kernel
theorem d_ThumbCore_atOffset_4 : decode b_ThumbCore_atOffset 4 = .ok (.istore_n 2, 1) := by decide +kernel
theorem d_ThumbCore_atOffset_5 : decode b_ThumbCore_atOffset 5 = .ok (.aload_n 0, 1) := by decide +kernel
theorem d_ThumbCore_atOffset_6 : decode b_ThumbCore_atOffset 6 = .ok (.getfield 27, 3) := by decide +kernel
theorem d_ThumbCore_atOffset_9 : decode b_ThumbCore_atOffset 9 = .ok (.iload_n 1, 1) := by decide +kernel
theorem d_ThumbCore_atOffset_10 : decode b_ThumbCore_atOffset 10 = .ok (.iconst 3, 1) := by decide +kernel
theorem d_ThumbCore_atOffset_11 : decode b_ThumbCore_atOffset 11 = .ok (.iushr, 1) := by decide +kernel
theorem d_ThumbCore_atOffset_12 : decode b_ThumbCore_atOffset 12 = .ok (.bipush 7, 2) := by decide +kernel
theorem d_ThumbCore_atOffset_14 : decode b_ThumbCore_atOffset 14 = .ok (.iand, 1) := by decide +kernel
theorem d_ThumbCore_atOffset_15 : decode b_ThumbCore_atOffset 15 = .ok (.iaload, 1) := by decide +kernel
theorem d_ThumbCore_atOffset_16 : decode b_ThumbCore_atOffset 16 = .ok (.istore_n 3, 1) := by decide +kernel
theorem d_ThumbCore_atOffset_17 : decode b_ThumbCore_atOffset 17 = .ok (.iload_n 1, 1) := by decide +kernel
theorem d_ThumbCore_atOffset_18 : decode b_ThumbCore_atOffset 18 = .ok (.bipush 6, 2) := by decide +kernel
theorem d_ThumbCore_atOffset_20 : decode b_ThumbCore_atOffset 20 = .ok (.iushr, 1) := by decide +kernel
theorem d_ThumbCore_atOffset_21 : decode b_ThumbCore_atOffset 21 = .ok (.bipush 31, 2) := by decide +kernel
theorem d_ThumbCore_atOffset_23 : decode b_ThumbCore_atOffset 23 = .ok (.iand, 1) := by decide +kernel
theorem d_ThumbCore_atOffset_24 : decode b_ThumbCore_atOffset 24 = .ok (.istore 4, 2) := by decide +kernel
theorem d_ThumbCore_atOffset_26 : decode b_ThumbCore_atOffset 26 = .ok (.iload_n 1, 1) := by decide +kernel
theorem d_ThumbCore_atOffset_27 : decode b_ThumbCore_atOffset 27 = .ok (.bipush 11, 2) := by decide +kernel
theorem d_ThumbCore_atOffset_29 : decode b_ThumbCore_atOffset 29 = .ok (.iushr, 1) := by decide +kernel
theorem d_ThumbCore_atOffset_30 : decode b_ThumbCore_atOffset 30 = .ok (.tableswitch 95 12 16 #[34, 47, 60, 71, 82], 34) := by decide +kernel
theorem d_ThumbCore_atOffset_64 : decode b_ThumbCore_atOffset 64 = .ok (.aload_n 0, 1) := by decide +kernel
theorem d_ThumbCore_atOffset_65 : decode b_ThumbCore_atOffset 65 = .ok (.iload_n 2, 1) := by decide +kernel
theorem d_ThumbCore_atOffset_66 : decode b_ThumbCore_atOffset 66 = .ok (.iload_n 3, 1) := by decide +kernel
theorem d_ThumbCore_atOffset_67 : decode b_ThumbCore_atOffset 67 = .ok (.iconst 4, 1) := by decide +kernel
theorem d_ThumbCore_atOffset_68 : decode b_ThumbCore_atOffset 68 = .ok (.iload 4, 2) := by decide +kernel
theorem d_ThumbCore_atOffset_70 : decode b_ThumbCore_atOffset 70 = .ok (.imul, 1) := by decide +kernel
theorem d_ThumbCore_atOffset_71 : decode b_ThumbCore_atOffset 71 = .ok (.iadd, 1) := by decide +kernel
theorem d_ThumbCore_atOffset_72 : decode b_ThumbCore_atOffset 72 = .ok (.iconst 4, 1) := by decide +kernel
theorem d_ThumbCore_atOffset_73 : decode b_ThumbCore_atOffset 73 = .ok (.invokevirtual 248, 3) := by decide +kernel
theorem d_ThumbCore_atOffset_76 : decode b_ThumbCore_atOffset 76 = .ok (.ireturn, 1) := by decide +kernel
theorem d_ThumbCore_atOffset_77 : decode b_ThumbCore_atOffset 77 = .ok (.aload_n 0, 1) := by decide +kernel
theorem d_ThumbCore_atOffset_78 : decode b_ThumbCore_atOffset 78 = .ok (.iload_n 2, 1) := by decide +kernel
theorem d_ThumbCore_atOffset_79 : decode b_ThumbCore_atOffset 79 = .ok (.iload_n 3, 1) := by decide +kernel
theorem d_ThumbCore_atOffset_80 : decode b_ThumbCore_atOffset 80 = .ok (.iconst 4, 1) := by decide +kernel
theorem d_ThumbCore_atOffset_81 : decode b_ThumbCore_atOffset 81 = .ok (.iload 4, 2) := by decide +kernel
theorem d_ThumbCore_atOffset_83 : decode b_ThumbCore_atOffset 83 = .ok (.imul, 1) := by decide +kernel
theorem d_ThumbCore_atOffset_84 : decode b_ThumbCore_atOffset 84 = .ok (.iadd, 1) := by decide +kernel
theorem d_ThumbCore_atOffset_85 : decode b_ThumbCore_atOffset 85 = .ok (.iconst 4, 1) := by decide +kernel
theorem d_ThumbCore_atOffset_86 : decode b_ThumbCore_atOffset 86 = .ok (.invokevirtual 244, 3) := by decide +kernel
theorem d_ThumbCore_atOffset_89 : decode b_ThumbCore_atOffset 89 = .ok (.ireturn, 1) := by decide +kernel
theorem d_ThumbCore_atOffset_90 : decode b_ThumbCore_atOffset 90 = .ok (.aload_n 0, 1) := by decide +kernel
theorem d_ThumbCore_atOffset_91 : decode b_ThumbCore_atOffset 91 = .ok (.iload_n 2, 1) := by decide +kernel
theorem d_ThumbCore_atOffset_92 : decode b_ThumbCore_atOffset 92 = .ok (.iload_n 3, 1) := by decide +kernel
theorem d_ThumbCore_atOffset_93 : decode b_ThumbCore_atOffset 93 = .ok (.iload 4, 2) := by decide +kernel
theorem d_ThumbCore_atOffset_95 : decode b_ThumbCore_atOffset 95 = .ok (.iadd, 1) := by decide +kernel
theorem d_ThumbCore_atOffset_96 : decode b_ThumbCore_atOffset 96 = .ok (.iconst 1, 1) := by decide +kernel
theorem d_ThumbCore_atOffset_97 : decode b_ThumbCore_atOffset 97 = .ok (.invokevirtual 248, 3) := by decide +kernel
theorem d_ThumbCore_atOffset_100 : decode b_ThumbCore_atOffset 100 = .ok (.ireturn, 1) := by decide +kernel
theorem d_ThumbCore_atOffset_101 : decode b_ThumbCore_atOffset 101 = .ok (.aload_n 0, 1) := by decide +kernel
theorem d_ThumbCore_atOffset_102 : decode b_ThumbCore_atOffset 102 = .ok (.iload_n 2, 1) := by decide +kernel
theorem d_ThumbCore_atOffset_103 : decode b_ThumbCore_atOffset 103 = .ok (.iload_n 3, 1) := by decide +kernel
theorem d_ThumbCore_atOffset_104 : decode b_ThumbCore_atOffset 104 = .ok (.iload 4, 2) := by decide +kernel
theorem d_ThumbCore_atOffset_106 : decode b_ThumbCore_atOffset 106 = .ok (.iadd, 1) := by decide +kernel
theorem d_ThumbCore_atOffset_107 : decode b_ThumbCore_atOffset 107 = .ok (.iconst 1, 1) := by decide +kernel
theorem d_ThumbCore_atOffset_108 : decode b_ThumbCore_atOffset 108 = .ok (.invokevirtual 244, 3) := by decide +kernel
theorem d_ThumbCore_atOffset_111 : decode b_ThumbCore_atOffset 111 = .ok (.ireturn, 1) := by decide +kernel
theorem d_ThumbCore_atOffset_112 : decode b_ThumbCore_atOffset 112 = .ok (.aload_n 0, 1) := by decide +kernel
theorem d_ThumbCore_atOffset_113 : decode b_ThumbCore_atOffset 113 = .ok (.iload_n 2, 1) := by decide +kernel
theorem d_ThumbCore_atOffset_114 : decode b_ThumbCore_atOffset 114 = .ok (.iload_n 3, 1) := by decide +kernel
theorem d_ThumbCore_atOffset_115 : decode b_ThumbCore_atOffset 115 = .ok (.iconst 2, 1) := by decide +kernel
theorem d_ThumbCore_atOffset_116 : decode b_ThumbCore_atOffset 116 = .ok (.iload 4, 2) := by decide +kernel
theorem d_ThumbCore_atOffset_118 : decode b_ThumbCore_atOffset 118 = .ok (.imul, 1) := by decide +kernel
theorem d_ThumbCore_atOffset_119 : decode b_ThumbCore_atOffset 119 = .ok (.iadd, 1) := by decide +kernel
theorem d_ThumbCore_atOffset_120 : decode b_ThumbCore_atOffset 120 = .ok (.iconst 2, 1) := by decide +kernel
theorem d_ThumbCore_atOffset_121 : decode b_ThumbCore_atOffset 121 = .ok (.invokevirtual 248, 3) := by decide +kernel
theorem d_ThumbCore_atOffset_124 : decode b_ThumbCore_atOffset 124 = .ok (.ireturn, 1) := by decide +kernel
theorem d_ThumbCore_atOffset_125 : decode b_ThumbCore_atOffset 125 = .ok (.aload_n 0, 1) := by decide +kernel
theorem d_ThumbCore_atOffset_126 : decode b_ThumbCore_atOffset 126 = .ok (.iload_n 2, 1) := by decide +kernel
theorem d_ThumbCore_atOffset_127 : decode b_ThumbCore_atOffset 127 = .ok (.iload_n 3, 1) := by decide +kernel
theorem d_ThumbCore_atOffset_128 : decode b_ThumbCore_atOffset 128 = .ok (.iconst 2, 1) := by decide +kernel
theorem d_ThumbCore_atOffset_129 : decode b_ThumbCore_atOffset 129 = .ok (.iload 4, 2) := by decide +kernel
theorem d_ThumbCore_atOffset_131 : decode b_ThumbCore_atOffset 131 = .ok (.imul, 1) := by decide +kernel
theorem d_ThumbCore_atOffset_132 : decode b_ThumbCore_atOffset 132 = .ok (.iadd, 1) := by decide +kernel
theorem d_ThumbCore_atOffset_133 : decode b_ThumbCore_atOffset 133 = .ok (.iconst 2, 1) := by decide +kernel
theorem d_ThumbCore_atOffset_134 : decode b_ThumbCore_atOffset 134 = .ok (.invokevirtual 244, 3) := by decide +kernel
theorem d_ThumbCore_atOffset_137 : decode b_ThumbCore_atOffset 137 = .ok (.ireturn, 1) := by decide +kernel
theorem d_ThumbCore_store_0 : decode b_ThumbCore_store 0 = .ok (.aload_n 0, 1) := by decide +kernel
theorem d_ThumbCore_store_1 : decode b_ThumbCore_store 1 = .ok (.getfield 21, 3) := by decide +kernel
theorem d_ThumbCore_store_4 : decode b_ThumbCore_store 4 = .ok (.iload_n 2, 1) := by decide +kernel
theorem d_ThumbCore_store_5 : decode b_ThumbCore_store 5 = .ok (.iload_n 3, 1) := by decide +kernel
theorem d_ThumbCore_store_6 : decode b_ThumbCore_store 6 = .ok (.invokevirtual 155, 3) := by decide +kernel
theorem d_ThumbCore_store_9 : decode b_ThumbCore_store 9 = .ok (.ifCond .ne 5, 3) := by decide +kernel
theorem d_ThumbCore_store_12 : decode b_ThumbCore_store 12 = .ok (.iconst 0, 1) := by decide +kernel
theorem d_ThumbCore_store_13 : decode b_ThumbCore_store 13 = .ok (.ireturn, 1) := by decide +kernel
theorem d_ThumbCore_store_14 : decode b_ThumbCore_store 14 = .ok (.aload_n 0, 1) := by decide +kernel
theorem d_ThumbCore_store_15 : decode b_ThumbCore_store 15 = .ok (.getfield 21, 3) := by decide +kernel
theorem d_ThumbCore_store_18 : decode b_ThumbCore_store 18 = .ok (.iload_n 2, 1) := by decide +kernel
theorem d_ThumbCore_store_19 : decode b_ThumbCore_store 19 = .ok (.aload_n 0, 1) := by decide +kernel
theorem d_ThumbCore_store_20 : decode b_ThumbCore_store 20 = .ok (.getfield 27, 3) := by decide +kernel
theorem d_ThumbCore_store_23 : decode b_ThumbCore_store 23 = .ok (.iload_n 1, 1) := by decide +kernel
theorem d_ThumbCore_store_24 : decode b_ThumbCore_store 24 = .ok (.iaload, 1) := by decide +kernel
theorem d_ThumbCore_store_25 : decode b_ThumbCore_store 25 = .ok (.iload_n 3, 1) := by decide +kernel
theorem d_ThumbCore_store_26 : decode b_ThumbCore_store 26 = .ok (.invokevirtual 59, 3) := by decide +kernel
theorem d_ThumbCore_store_29 : decode b_ThumbCore_store 29 = .ok (.iconst 1, 1) := by decide +kernel
theorem d_ThumbCore_store_30 : decode b_ThumbCore_store 30 = .ok (.ireturn, 1) := by decide +kernel
theorem d_ThumbCore_load_0 : decode b_ThumbCore_load 0 = .ok (.aload_n 0, 1) := by decide +kernel
theorem d_ThumbCore_load_1 : decode b_ThumbCore_load 1 = .ok (.getfield 21, 3) := by decide +kernel
theorem d_ThumbCore_load_4 : decode b_ThumbCore_load 4 = .ok (.iload_n 2, 1) := by decide +kernel
theorem d_ThumbCore_load_5 : decode b_ThumbCore_load 5 = .ok (.iload_n 3, 1) := by decide +kernel
theorem d_ThumbCore_load_6 : decode b_ThumbCore_load 6 = .ok (.invokevirtual 155, 3) := by decide +kernel
theorem d_ThumbCore_load_9 : decode b_ThumbCore_load 9 = .ok (.ifCond .ne 5, 3) := by decide +kernel
theorem d_ThumbCore_load_12 : decode b_ThumbCore_load 12 = .ok (.iconst 0, 1) := by decide +kernel
theorem d_ThumbCore_load_13 : decode b_ThumbCore_load 13 = .ok (.ireturn, 1) := by decide +kernel
theorem d_ThumbCore_load_14 : decode b_ThumbCore_load 14 = .ok (.aload_n 0, 1) := by decide +kernel
theorem d_ThumbCore_load_15 : decode b_ThumbCore_load 15 = .ok (.getfield 27, 3) := by decide +kernel
theorem d_ThumbCore_load_18 : decode b_ThumbCore_load 18 = .ok (.iload_n 1, 1) := by decide +kernel
theorem d_ThumbCore_load_19 : decode b_ThumbCore_load 19 = .ok (.aload_n 0, 1) := by decide +kernel
theorem d_ThumbCore_load_20 : decode b_ThumbCore_load 20 = .ok (.getfield 21, 3) := by decide +kernel
theorem d_ThumbCore_load_23 : decode b_ThumbCore_load 23 = .ok (.iload_n 2, 1) := by decide +kernel
theorem d_ThumbCore_load_24 : decode b_ThumbCore_load 24 = .ok (.iload_n 3, 1) := by decide +kernel
theorem d_ThumbCore_load_25 : decode b_ThumbCore_load 25 = .ok (.invokevirtual 63, 3) := by decide +kernel
theorem d_ThumbCore_load_28 : decode b_ThumbCore_load 28 = .ok (.iastore, 1) := by decide +kernel
theorem d_ThumbCore_load_29 : decode b_ThumbCore_load 29 = .ok (.iconst 1, 1) := by decide +kernel
theorem d_ThumbCore_load_30 : decode b_ThumbCore_load 30 = .ok (.ireturn, 1) := by decide +kernel
theorem d_ThumbCore_loadSigned_0 : decode b_ThumbCore_loadSigned 0 = .ok (.aload_n 0, 1) := by decide +kernel
theorem d_ThumbCore_loadSigned_1 : decode b_ThumbCore_loadSigned 1 = .ok (.getfield 21, 3) := by decide +kernel
theorem d_ThumbCore_loadSigned_4 : decode b_ThumbCore_loadSigned 4 = .ok (.iload_n 2, 1) := by decide +kernel
theorem d_ThumbCore_loadSigned_5 : decode b_ThumbCore_loadSigned 5 = .ok (.iload_n 3, 1) := by decide +kernel
theorem d_ThumbCore_loadSigned_6 : decode b_ThumbCore_loadSigned 6 = .ok (.invokevirtual 155, 3) := by decide +kernel
theorem d_ThumbCore_loadSigned_9 : decode b_ThumbCore_loadSigned 9 = .ok (.ifCond .ne 5, 3) := by decide +kernel
theorem d_ThumbCore_loadSigned_12 : decode b_ThumbCore_loadSigned 12 = .ok (.iconst 0, 1) := by decide +kernel
theorem d_ThumbCore_loadSigned_13 : decode b_ThumbCore_loadSigned 13 = .ok (.ireturn, 1) := by decide +kernel
theorem d_ThumbCore_loadSigned_14 : decode b_ThumbCore_loadSigned 14 = .ok (.aload_n 0, 1) := by decide +kernel
theorem d_ThumbCore_loadSigned_15 : decode b_ThumbCore_loadSigned 15 = .ok (.getfield 21, 3) := by decide +kernel
theorem d_ThumbCore_loadSigned_18 : decode b_ThumbCore_loadSigned 18 = .ok (.iload_n 2, 1) := by decide +kernel
theorem d_ThumbCore_loadSigned_19 : decode b_ThumbCore_loadSigned 19 = .ok (.iload_n 3, 1) := by decide +kernel
theorem d_ThumbCore_loadSigned_20 : decode b_ThumbCore_loadSigned 20 = .ok (.invokevirtual 63, 3) := by decide +kernel
theorem d_ThumbCore_loadSigned_23 : decode b_ThumbCore_loadSigned 23 = .ok (.istore 4, 2) := by decide +kernel
theorem d_ThumbCore_loadSigned_25 : decode b_ThumbCore_loadSigned 25 = .ok (.aload_n 0, 1) := by decide +kernel
theorem d_ThumbCore_loadSigned_26 : decode b_ThumbCore_loadSigned 26 = .ok (.getfield 27, 3) := by decide +kernel
theorem d_ThumbCore_loadSigned_29 : decode b_ThumbCore_loadSigned 29 = .ok (.iload_n 1, 1) := by decide +kernel
theorem d_ThumbCore_loadSigned_30 : decode b_ThumbCore_loadSigned 30 = .ok (.iload_n 3, 1) := by decide +kernel
theorem d_ThumbCore_loadSigned_31 : decode b_ThumbCore_loadSigned 31 = .ok (.iconst 1, 1) := by decide +kernel
theorem d_ThumbCore_loadSigned_32 : decode b_ThumbCore_loadSigned 32 = .ok (.if_icmp .ne 9, 3) := by decide +kernel
theorem d_ThumbCore_loadSigned_35 : decode b_ThumbCore_loadSigned 35 = .ok (.iload 4, 2) := by decide +kernel
theorem d_ThumbCore_loadSigned_37 : decode b_ThumbCore_loadSigned 37 = .ok (.i2b, 1) := by decide +kernel
theorem d_ThumbCore_loadSigned_38 : decode b_ThumbCore_loadSigned 38 = .ok (.goto 6, 3) := by decide +kernel
theorem d_ThumbCore_loadSigned_41 : decode b_ThumbCore_loadSigned 41 = .ok (.iload 4, 2) := by decide +kernel
theorem d_ThumbCore_loadSigned_43 : decode b_ThumbCore_loadSigned 43 = .ok (.i2s, 1) := by decide +kernel
theorem d_ThumbCore_loadSigned_44 : decode b_ThumbCore_loadSigned 44 = .ok (.iastore, 1) := by decide +kernel
theorem d_ThumbCore_loadSigned_45 : decode b_ThumbCore_loadSigned 45 = .ok (.iconst 1, 1) := by decide +kernel
theorem d_ThumbCore_loadSigned_46 : decode b_ThumbCore_loadSigned 46 = .ok (.ireturn, 1) := by decide +kernel
theorem d_ThumbCore_miscellaneous_0 : decode b_ThumbCore_miscellaneous 0 = .ok (.iload_n 1, 1) := by decide +kernel
theorem d_ThumbCore_miscellaneous_1 : decode b_ThumbCore_miscellaneous 1 = .ok (.bipush 8, 2) := by decide +kernel
theorem d_ThumbCore_miscellaneous_3 : decode b_ThumbCore_miscellaneous 3 = .ok (.iushr, 1) := by decide +kernel
theorem d_ThumbCore_miscellaneous_4 : decode b_ThumbCore_miscellaneous 4 = .ok (.bipush 15, 2) := by decide +kernel
theorem d_ThumbCore_miscellaneous_6 : decode b_ThumbCore_miscellaneous 6 = .ok (.iand, 1) := by decide +kernel
theorem d_ThumbCore_miscellaneous_7 : decode b_ThumbCore_miscellaneous 7 = .ok (.tableswitch 177 0 15 #[77, 177, 84, 177, 115, 125, 139, 177, 177, 177, 145, 177, 151, 161, 177, 171], 77) := by decide +kernel
theorem d_ThumbCore_miscellaneous_84 : decode b_ThumbCore_miscellaneous 84 = .ok (.aload_n 0, 1) := by decide +kernel
theorem d_ThumbCore_miscellaneous_85 : decode b_ThumbCore_miscellaneous 85 = .ok (.iload_n 1, 1) := by decide +kernel
theorem d_ThumbCore_miscellaneous_86 : decode b_ThumbCore_miscellaneous 86 = .ok (.invokevirtual 254, 3) := by decide +kernel
theorem d_ThumbCore_miscellaneous_89 : decode b_ThumbCore_miscellaneous 89 = .ok (.iconst 1, 1) := by decide +kernel
theorem d_ThumbCore_miscellaneous_90 : decode b_ThumbCore_miscellaneous 90 = .ok (.ireturn, 1) := by decide +kernel
theorem d_ThumbCore_miscellaneous_91 : decode b_ThumbCore_miscellaneous 91 = .ok (.aload_n 0, 1) := by decide +kernel
theorem d_ThumbCore_miscellaneous_92 : decode b_ThumbCore_miscellaneous 92 = .ok (.getfield 27, 3) := by decide +kernel
theorem d_ThumbCore_miscellaneous_95 : decode b_ThumbCore_miscellaneous 95 = .ok (.iload_n 1, 1) := by decide +kernel
theorem d_ThumbCore_miscellaneous_96 : decode b_ThumbCore_miscellaneous 96 = .ok (.bipush 7, 2) := by decide +kernel
theorem d_ThumbCore_miscellaneous_98 : decode b_ThumbCore_miscellaneous 98 = .ok (.iand, 1) := by decide +kernel
theorem d_ThumbCore_miscellaneous_99 : decode b_ThumbCore_miscellaneous 99 = .ok (.iload_n 1, 1) := by decide +kernel
theorem d_ThumbCore_miscellaneous_100 : decode b_ThumbCore_miscellaneous 100 = .ok (.bipush 6, 2) := by decide +kernel
theorem d_ThumbCore_miscellaneous_102 : decode b_ThumbCore_miscellaneous 102 = .ok (.iushr, 1) := by decide +kernel
theorem d_ThumbCore_miscellaneous_103 : decode b_ThumbCore_miscellaneous 103 = .ok (.iconst 3, 1) := by decide +kernel
theorem d_ThumbCore_miscellaneous_104 : decode b_ThumbCore_miscellaneous 104 = .ok (.iand, 1) := by decide +kernel
theorem d_ThumbCore_miscellaneous_105 : decode b_ThumbCore_miscellaneous 105 = .ok (.aload_n 0, 1) := by decide +kernel
