theorem d_ThumbCoreModel_wide_128 : decode b_ThumbCoreModel_wide 128 = .ok (.bipush 15, 2) := by decide +kernel
theorem d_ThumbCoreModel_wide_130 : decode b_ThumbCoreModel_wide 130 = .ok (.if_icmp .eq 9, 3) := by decide +kernel
theorem d_ThumbCoreModel_wide_133 : decode b_ThumbCoreModel_wide 133 = .ok (.iload_n 2, 1) := by decide +kernel
theorem d_ThumbCoreModel_wide_134 : decode b_ThumbCoreModel_wide 134 = .ok (.bipush 15, 2) := by decide +kernel
theorem d_ThumbCoreModel_wide_136 : decode b_ThumbCoreModel_wide 136 = .ok (.if_icmp .ne 7, 3) := by decide +kernel
theorem d_ThumbCoreModel_wide_139 : decode b_ThumbCoreModel_wide 139 = .ok (.iconst 1, 1) := by decide +kernel
theorem d_ThumbCoreModel_wide_140 : decode b_ThumbCoreModel_wide 140 = .ok (.goto 4, 3) := by decide +kernel
theorem d_ThumbCoreModel_wide_143 : decode b_ThumbCoreModel_wide 143 = .ok (.iconst 0, 1) := by decide +kernel
theorem d_ThumbCoreModel_wide_144 : decode b_ThumbCoreModel_wide 144 = .ok (.putfield 41, 3) := by decide +kernel
theorem d_ThumbCoreModel_wide_147 : decode b_ThumbCoreModel_wide 147 = .ok (.aload_n 0, 1) := by decide +kernel
theorem d_ThumbCoreModel_wide_148 : decode b_ThumbCoreModel_wide 148 = .ok (.iload_n 3, 1) := by decide +kernel
theorem d_ThumbCoreModel_wide_149 : decode b_ThumbCoreModel_wide 149 = .ok (.iload 4, 2) := by decide +kernel
theorem d_ThumbCoreModel_wide_151 : decode b_ThumbCoreModel_wide 151 = .ok (.iconst (-1), 1) := by decide +kernel
theorem d_ThumbCoreModel_wide_152 : decode b_ThumbCoreModel_wide 152 = .ok (.ixor, 1) := by decide +kernel
theorem d_ThumbCoreModel_wide_153 : decode b_ThumbCoreModel_wide 153 = .ok (.iconst 1, 1) := by decide +kernel
theorem d_ThumbCoreModel_wide_154 : decode b_ThumbCoreModel_wide 154 = .ok (.invokevirtual 131, 3) := by decide +kernel
theorem d_ThumbCoreModel_wide_157 : decode b_ThumbCoreModel_wide 157 = .ok (.istore_n 3, 1) := by decide +kernel
theorem d_ThumbCoreModel_wide_158 : decode b_ThumbCoreModel_wide 158 = .ok (.goto 109, 3) := by decide +kernel
theorem d_ThumbCoreModel_wide_161 : decode b_ThumbCoreModel_wide 161 = .ok (.iload 5, 2) := by decide +kernel
theorem d_ThumbCoreModel_wide_163 : decode b_ThumbCoreModel_wide 163 = .ok (.iconst 2, 1) := by decide +kernel
theorem d_ThumbCoreModel_wide_164 : decode b_ThumbCoreModel_wide 164 = .ok (.if_icmp .ne 13, 3) := by decide +kernel
theorem d_ThumbCoreModel_wide_167 : decode b_ThumbCoreModel_wide 167 = .ok (.aload_n 0, 1) := by decide +kernel
theorem d_ThumbCoreModel_wide_168 : decode b_ThumbCoreModel_wide 168 = .ok (.iload_n 1, 1) := by decide +kernel
theorem d_ThumbCoreModel_wide_169 : decode b_ThumbCoreModel_wide 169 = .ok (.iload 4, 2) := by decide +kernel
theorem d_ThumbCoreModel_wide_171 : decode b_ThumbCoreModel_wide 171 = .ok (.invokevirtual 138, 3) := by decide +kernel
theorem d_ThumbCoreModel_wide_174 : decode b_ThumbCoreModel_wide 174 = .ok (.goto 93, 3) := by decide +kernel
theorem d_ThumbCoreModel_wide_177 : decode b_ThumbCoreModel_wide 177 = .ok (.aload_n 0, 1) := by decide +kernel
theorem d_ThumbCoreModel_wide_178 : decode b_ThumbCoreModel_wide 178 = .ok (.aload_n 0, 1) := by decide +kernel
theorem d_ThumbCoreModel_wide_179 : decode b_ThumbCoreModel_wide 179 = .ok (.iconst 0, 1) := by decide +kernel
theorem d_ThumbCoreModel_wide_180 : decode b_ThumbCoreModel_wide 180 = .ok (.invokevirtual 128, 3) := by decide +kernel
theorem d_ThumbCoreModel_wide_183 : decode b_ThumbCoreModel_wide 183 = .ok (.ifCond .ne 9, 3) := by decide +kernel
theorem d_ThumbCoreModel_wide_186 : decode b_ThumbCoreModel_wide 186 = .ok (.iload_n 2, 1) := by decide +kernel
theorem d_ThumbCoreModel_wide_187 : decode b_ThumbCoreModel_wide 187 = .ok (.bipush 15, 2) := by decide +kernel
theorem d_ThumbCoreModel_wide_189 : decode b_ThumbCoreModel_wide 189 = .ok (.if_icmp .ne 7, 3) := by decide +kernel
theorem d_ThumbCoreModel_wide_192 : decode b_ThumbCoreModel_wide 192 = .ok (.iconst 1, 1) := by decide +kernel
theorem d_ThumbCoreModel_wide_193 : decode b_ThumbCoreModel_wide 193 = .ok (.goto 4, 3) := by decide +kernel
theorem d_ThumbCoreModel_wide_196 : decode b_ThumbCoreModel_wide 196 = .ok (.iconst 0, 1) := by decide +kernel
theorem d_ThumbCoreModel_wide_197 : decode b_ThumbCoreModel_wide 197 = .ok (.putfield 41, 3) := by decide +kernel
theorem d_ThumbCoreModel_wide_200 : decode b_ThumbCoreModel_wide 200 = .ok (.iload_n 1, 1) := by decide +kernel
theorem d_ThumbCoreModel_wide_201 : decode b_ThumbCoreModel_wide 201 = .ok (.bipush 7, 2) := by decide +kernel
theorem d_ThumbCoreModel_wide_203 : decode b_ThumbCoreModel_wide 203 = .ok (.if_icmp .le 16, 3) := by decide +kernel
theorem d_ThumbCoreModel_wide_206 : decode b_ThumbCoreModel_wide 206 = .ok (.aload_n 0, 1) := by decide +kernel
theorem d_ThumbCoreModel_wide_207 : decode b_ThumbCoreModel_wide 207 = .ok (.iload 4, 2) := by decide +kernel
theorem d_ThumbCoreModel_wide_209 : decode b_ThumbCoreModel_wide 209 = .ok (.invokevirtual 118, 3) := by decide +kernel
theorem d_ThumbCoreModel_wide_212 : decode b_ThumbCoreModel_wide 212 = .ok (.ifCond .ne 7, 3) := by decide +kernel
theorem d_ThumbCoreModel_wide_215 : decode b_ThumbCoreModel_wide 215 = .ok (.iconst 1, 1) := by decide +kernel
theorem d_ThumbCoreModel_wide_216 : decode b_ThumbCoreModel_wide 216 = .ok (.goto 4, 3) := by decide +kernel
theorem d_ThumbCoreModel_wide_219 : decode b_ThumbCoreModel_wide 219 = .ok (.iconst 0, 1) := by decide +kernel
theorem d_ThumbCoreModel_wide_220 : decode b_ThumbCoreModel_wide 220 = .ok (.istore 6, 2) := by decide +kernel
theorem d_ThumbCoreModel_wide_222 : decode b_ThumbCoreModel_wide 222 = .ok (.aload_n 0, 1) := by decide +kernel
theorem d_ThumbCoreModel_wide_223 : decode b_ThumbCoreModel_wide 223 = .ok (.getfield 115, 3) := by decide +kernel
theorem d_ThumbCoreModel_wide_226 : decode b_ThumbCoreModel_wide 226 = .ok (.iconst 1, 1) := by decide +kernel
theorem d_ThumbCoreModel_wide_227 : decode b_ThumbCoreModel_wide 227 = .ok (.iadd, 1) := by decide +kernel
theorem d_ThumbCoreModel_wide_228 : decode b_ThumbCoreModel_wide 228 = .ok (.istore 7, 2) := by decide +kernel
theorem d_ThumbCoreModel_wide_230 : decode b_ThumbCoreModel_wide 230 = .ok (.aload_n 0, 1) := by decide +kernel
theorem d_ThumbCoreModel_wide_231 : decode b_ThumbCoreModel_wide 231 = .ok (.getfield 41, 3) := by decide +kernel
theorem d_ThumbCoreModel_wide_234 : decode b_ThumbCoreModel_wide 234 = .ok (.ifCond .ne 33, 3) := by decide +kernel
theorem d_ThumbCoreModel_wide_237 : decode b_ThumbCoreModel_wide 237 = .ok (.aload_n 0, 1) := by decide +kernel
theorem d_ThumbCoreModel_wide_238 : decode b_ThumbCoreModel_wide 238 = .ok (.iload 4, 2) := by decide +kernel
theorem d_ThumbCoreModel_wide_240 : decode b_ThumbCoreModel_wide 240 = .ok (.invokevirtual 141, 3) := by decide +kernel
theorem d_ThumbCoreModel_wide_243 : decode b_ThumbCoreModel_wide 243 = .ok (.aload_n 0, 1) := by decide +kernel
theorem d_ThumbCoreModel_wide_244 : decode b_ThumbCoreModel_wide 244 = .ok (.getfield 13, 3) := by decide +kernel
theorem d_ThumbCoreModel_wide_247 : decode b_ThumbCoreModel_wide 247 = .ok (.bipush 14, 2) := by decide +kernel
theorem d_ThumbCoreModel_wide_249 : decode b_ThumbCoreModel_wide 249 = .ok (.iload 6, 2) := by decide +kernel
theorem d_ThumbCoreModel_wide_251 : decode b_ThumbCoreModel_wide 251 = .ok (.ifCond .eq 8, 3) := by decide +kernel
theorem d_ThumbCoreModel_wide_254 : decode b_ThumbCoreModel_wide 254 = .ok (.iload 7, 2) := by decide +kernel
theorem d_ThumbCoreModel_wide_256 : decode b_ThumbCoreModel_wide 256 = .ok (.goto 10, 3) := by decide +kernel
theorem d_ThumbCoreModel_wide_259 : decode b_ThumbCoreModel_wide 259 = .ok (.aload_n 0, 1) := by decide +kernel
theorem d_ThumbCoreModel_wide_260 : decode b_ThumbCoreModel_wide 260 = .ok (.getfield 13, 3) := by decide +kernel
theorem d_ThumbCoreModel_wide_263 : decode b_ThumbCoreModel_wide 263 = .ok (.bipush 14, 2) := by decide +kernel
theorem d_ThumbCoreModel_wide_265 : decode b_ThumbCoreModel_wide 265 = .ok (.iaload, 1) := by decide +kernel
theorem d_ThumbCoreModel_wide_266 : decode b_ThumbCoreModel_wide 266 = .ok (.iastore, 1) := by decide +kernel
theorem d_ThumbCoreModel_wide_267 : decode b_ThumbCoreModel_wide 267 = .ok (.return_, 1) := by decide +kernel
theorem d_ThumbCoreModel_moves_0 : decode b_ThumbCoreModel_moves 0 = .ok (.iload_n 1, 1) := by decide +kernel
theorem d_ThumbCoreModel_moves_1 : decode b_ThumbCoreModel_moves 1 = .ok (.tableswitch 149 0 6 #[43, 58, 73, 88, 104, 119, 134], 43) := by decide +kernel
theorem d_ThumbCoreModel_moves_44 : decode b_ThumbCoreModel_moves 44 = .ok (.aload_n 0, 1) := by decide +kernel
theorem d_ThumbCoreModel_moves_45 : decode b_ThumbCoreModel_moves 45 = .ok (.iload_n 3, 1) := by decide +kernel
theorem d_ThumbCoreModel_moves_46 : decode b_ThumbCoreModel_moves 46 = .ok (.aload_n 0, 1) := by decide +kernel
theorem d_ThumbCoreModel_moves_47 : decode b_ThumbCoreModel_moves 47 = .ok (.getfield 13, 3) := by decide +kernel
theorem d_ThumbCoreModel_moves_50 : decode b_ThumbCoreModel_moves 50 = .ok (.iload_n 2, 1) := by decide +kernel
theorem d_ThumbCoreModel_moves_51 : decode b_ThumbCoreModel_moves 51 = .ok (.iaload, 1) := by decide +kernel
theorem d_ThumbCoreModel_moves_52 : decode b_ThumbCoreModel_moves 52 = .ok (.iconst 4, 1) := by decide +kernel
theorem d_ThumbCoreModel_moves_53 : decode b_ThumbCoreModel_moves 53 = .ok (.invokevirtual 100, 3) := by decide +kernel
theorem d_ThumbCoreModel_moves_56 : decode b_ThumbCoreModel_moves 56 = .ok (.goto 107, 3) := by decide +kernel
theorem d_ThumbCoreModel_moves_59 : decode b_ThumbCoreModel_moves 59 = .ok (.aload_n 0, 1) := by decide +kernel
theorem d_ThumbCoreModel_moves_60 : decode b_ThumbCoreModel_moves 60 = .ok (.iload_n 3, 1) := by decide +kernel
theorem d_ThumbCoreModel_moves_61 : decode b_ThumbCoreModel_moves 61 = .ok (.aload_n 0, 1) := by decide +kernel
theorem d_ThumbCoreModel_moves_62 : decode b_ThumbCoreModel_moves 62 = .ok (.getfield 13, 3) := by decide +kernel
theorem d_ThumbCoreModel_moves_65 : decode b_ThumbCoreModel_moves 65 = .ok (.iload_n 2, 1) := by decide +kernel
theorem d_ThumbCoreModel_moves_66 : decode b_ThumbCoreModel_moves 66 = .ok (.iaload, 1) := by decide +kernel
theorem d_ThumbCoreModel_moves_67 : decode b_ThumbCoreModel_moves 67 = .ok (.iconst 2, 1) := by decide +kernel
theorem d_ThumbCoreModel_moves_68 : decode b_ThumbCoreModel_moves 68 = .ok (.invokevirtual 100, 3) := by decide +kernel
theorem d_ThumbCoreModel_moves_71 : decode b_ThumbCoreModel_moves 71 = .ok (.goto 92, 3) := by decide +kernel
theorem d_ThumbCoreModel_moves_74 : decode b_ThumbCoreModel_moves 74 = .ok (.aload_n 0, 1) := by decide +kernel
theorem d_ThumbCoreModel_moves_75 : decode b_ThumbCoreModel_moves 75 = .ok (.iload_n 3, 1) := by decide +kernel
theorem d_ThumbCoreModel_moves_76 : decode b_ThumbCoreModel_moves 76 = .ok (.aload_n 0, 1) := by decide +kernel
theorem d_ThumbCoreModel_moves_77 : decode b_ThumbCoreModel_moves 77 = .ok (.getfield 13, 3) := by decide +kernel
theorem d_ThumbCoreModel_moves_80 : decode b_ThumbCoreModel_moves 80 = .ok (.iload_n 2, 1) := by decide +kernel
theorem d_ThumbCoreModel_moves_81 : decode b_ThumbCoreModel_moves 81 = .ok (.iaload, 1) := by decide +kernel
theorem d_ThumbCoreModel_moves_82 : decode b_ThumbCoreModel_moves 82 = .ok (.iconst 1, 1) := by decide +kernel
theorem d_ThumbCoreModel_moves_83 : decode b_ThumbCoreModel_moves 83 = .ok (.invokevirtual 100, 3) := by decide +kernel
theorem d_ThumbCoreModel_moves_86 : decode b_ThumbCoreModel_moves 86 = .ok (.goto 77, 3) := by decide +kernel
theorem d_ThumbCoreModel_moves_89 : decode b_ThumbCoreModel_moves 89 = .ok (.aload_n 0, 1) := by decide +kernel
theorem d_ThumbCoreModel_moves_90 : decode b_ThumbCoreModel_moves 90 = .ok (.getfield 13, 3) := by decide +kernel
theorem d_ThumbCoreModel_moves_93 : decode b_ThumbCoreModel_moves 93 = .ok (.iload_n 2, 1) := by decide +kernel
theorem d_ThumbCoreModel_moves_94 : decode b_ThumbCoreModel_moves 94 = .ok (.aload_n 0, 1) := by decide +kernel
theorem d_ThumbCoreModel_moves_95 : decode b_ThumbCoreModel_moves 95 = .ok (.iload_n 3, 1) := by decide +kernel
theorem d_ThumbCoreModel_moves_96 : decode b_ThumbCoreModel_moves 96 = .ok (.iconst 1, 1) := by decide +kernel
theorem d_ThumbCoreModel_moves_97 : decode b_ThumbCoreModel_moves 97 = .ok (.invokevirtual 45, 3) := by decide +kernel
theorem d_ThumbCoreModel_moves_100 : decode b_ThumbCoreModel_moves 100 = .ok (.i2b, 1) := by decide +kernel
theorem d_ThumbCoreModel_moves_101 : decode b_ThumbCoreModel_moves 101 = .ok (.iastore, 1) := by decide +kernel
theorem d_ThumbCoreModel_moves_102 : decode b_ThumbCoreModel_moves 102 = .ok (.goto 61, 3) := by decide +kernel
theorem d_ThumbCoreModel_moves_105 : decode b_ThumbCoreModel_moves 105 = .ok (.aload_n 0, 1) := by decide +kernel
theorem d_ThumbCoreModel_moves_106 : decode b_ThumbCoreModel_moves 106 = .ok (.getfield 13, 3) := by decide +kernel
theorem d_ThumbCoreModel_moves_109 : decode b_ThumbCoreModel_moves 109 = .ok (.iload_n 2, 1) := by decide +kernel
theorem d_ThumbCoreModel_moves_110 : decode b_ThumbCoreModel_moves 110 = .ok (.aload_n 0, 1) := by decide +kernel
theorem d_ThumbCoreModel_moves_111 : decode b_ThumbCoreModel_moves 111 = .ok (.iload_n 3, 1) := by decide +kernel
theorem d_ThumbCoreModel_moves_112 : decode b_ThumbCoreModel_moves 112 = .ok (.iconst 4, 1) := by decide +kernel
theorem d_ThumbCoreModel_moves_113 : decode b_ThumbCoreModel_moves 113 = .ok (.invokevirtual 45, 3) := by decide +kernel
theorem d_ThumbCoreModel_moves_116 : decode b_ThumbCoreModel_moves 116 = .ok (.iastore, 1) := by decide +kernel
theorem d_ThumbCoreModel_moves_117 : decode b_ThumbCoreModel_moves 117 = .ok (.goto 46, 3) := by decide +kernel
theorem d_ThumbCoreModel_moves_120 : decode b_ThumbCoreModel_moves 120 = .ok (.aload_n 0, 1) := by decide +kernel
theorem d_ThumbCoreModel_moves_121 : decode b_ThumbCoreModel_moves 121 = .ok (.getfield 13, 3) := by decide +kernel
theorem d_ThumbCoreModel_moves_124 : decode b_ThumbCoreModel_moves 124 = .ok (.iload_n 2, 1) := by decide +kernel
theorem d_ThumbCoreModel_moves_125 : decode b_ThumbCoreModel_moves 125 = .ok (.aload_n 0, 1) := by decide +kernel
theorem d_ThumbCoreModel_moves_126 : decode b_ThumbCoreModel_moves 126 = .ok (.iload_n 3, 1) := by decide +kernel
theorem d_ThumbCoreModel_moves_127 : decode b_ThumbCoreModel_moves 127 = .ok (.iconst 2, 1) := by decide +kernel
theorem d_ThumbCoreModel_moves_128 : decode b_ThumbCoreModel_moves 128 = .ok (.invokevirtual 45, 3) := by decide +kernel
theorem d_ThumbCoreModel_moves_131 : decode b_ThumbCoreModel_moves 131 = .ok (.iastore, 1) := by decide +kernel
theorem d_ThumbCoreModel_moves_132 : decode b_ThumbCoreModel_moves 132 = .ok (.goto 31, 3) := by decide +kernel
theorem d_ThumbCoreModel_moves_135 : decode b_ThumbCoreModel_moves 135 = .ok (.aload_n 0, 1) := by decide +kernel
theorem d_ThumbCoreModel_moves_136 : decode b_ThumbCoreModel_moves 136 = .ok (.getfield 13, 3) := by decide +kernel
theorem d_ThumbCoreModel_moves_139 : decode b_ThumbCoreModel_moves 139 = .ok (.iload_n 2, 1) := by decide +kernel
theorem d_ThumbCoreModel_moves_140 : decode b_ThumbCoreModel_moves 140 = .ok (.aload_n 0, 1) := by decide +kernel
theorem d_ThumbCoreModel_moves_141 : decode b_ThumbCoreModel_moves 141 = .ok (.iload_n 3, 1) := by decide +kernel
theorem d_ThumbCoreModel_moves_142 : decode b_ThumbCoreModel_moves 142 = .ok (.iconst 1, 1) := by decide +kernel
theorem d_ThumbCoreModel_moves_143 : decode b_ThumbCoreModel_moves 143 = .ok (.invokevirtual 45, 3) := by decide +kernel
theorem d_ThumbCoreModel_moves_146 : decode b_ThumbCoreModel_moves 146 = .ok (.iastore, 1) := by decide +kernel
theorem d_ThumbCoreModel_moves_147 : decode b_ThumbCoreModel_moves 147 = .ok (.goto 16, 3) := by decide +kernel
theorem d_ThumbCoreModel_moves_150 : decode b_ThumbCoreModel_moves 150 = .ok (.aload_n 0, 1) := by decide +kernel
theorem d_ThumbCoreModel_moves_151 : decode b_ThumbCoreModel_moves 151 = .ok (.getfield 13, 3) := by decide +kernel
theorem d_ThumbCoreModel_moves_154 : decode b_ThumbCoreModel_moves 154 = .ok (.iload_n 2, 1) := by decide +kernel
theorem d_ThumbCoreModel_moves_155 : decode b_ThumbCoreModel_moves 155 = .ok (.aload_n 0, 1) := by decide +kernel
theorem d_ThumbCoreModel_moves_156 : decode b_ThumbCoreModel_moves 156 = .ok (.iload_n 3, 1) := by decide +kernel
theorem d_ThumbCoreModel_moves_157 : decode b_ThumbCoreModel_moves 157 = .ok (.iconst 2, 1) := by decide +kernel
theorem d_ThumbCoreModel_moves_158 : decode b_ThumbCoreModel_moves 158 = .ok (.invokevirtual 45, 3) := by decide +kernel
theorem d_ThumbCoreModel_moves_161 : decode b_ThumbCoreModel_moves 161 = .ok (.i2s, 1) := by decide +kernel
theorem d_ThumbCoreModel_moves_162 : decode b_ThumbCoreModel_moves 162 = .ok (.iastore, 1) := by decide +kernel
theorem d_ThumbCoreModel_moves_163 : decode b_ThumbCoreModel_moves 163 = .ok (.return_, 1) := by decide +kernel
theorem d_ThumbCoreModel_listed_0 : decode b_ThumbCoreModel_listed 0 = .ok (.iconst 0, 1) := by decide +kernel
theorem d_ThumbCoreModel_listed_1 : decode b_ThumbCoreModel_listed 1 = .ok (.istore_n 2, 1) := by decide +kernel
theorem d_ThumbCoreModel_listed_2 : decode b_ThumbCoreModel_listed 2 = .ok (.iconst 0, 1) := by decide +kernel
theorem d_ThumbCoreModel_listed_3 : decode b_ThumbCoreModel_listed 3 = .ok (.istore_n 3, 1) := by decide +kernel
theorem d_ThumbCoreModel_listed_4 : decode b_ThumbCoreModel_listed 4 = .ok (.iload_n 3, 1) := by decide +kernel
theorem d_ThumbCoreModel_listed_5 : decode b_ThumbCoreModel_listed 5 = .ok (.bipush 9, 2) := by decide +kernel
theorem d_ThumbCoreModel_listed_7 : decode b_ThumbCoreModel_listed 7 = .ok (.if_icmp .ge 17, 3) := by decide +kernel
theorem d_ThumbCoreModel_listed_10 : decode b_ThumbCoreModel_listed 10 = .ok (.iload_n 2, 1) := by decide +kernel
theorem d_ThumbCoreModel_listed_11 : decode b_ThumbCoreModel_listed 11 = .ok (.iload_n 1, 1) := by decide +kernel
theorem d_ThumbCoreModel_listed_12 : decode b_ThumbCoreModel_listed 12 = .ok (.iload_n 3, 1) := by decide +kernel
theorem d_ThumbCoreModel_listed_13 : decode b_ThumbCoreModel_listed 13 = .ok (.ishr, 1) := by decide +kernel
theorem d_ThumbCoreModel_listed_14 : decode b_ThumbCoreModel_listed 14 = .ok (.iconst 1, 1) := by decide +kernel
theorem d_ThumbCoreModel_listed_15 : decode b_ThumbCoreModel_listed 15 = .ok (.iand, 1) := by decide +kernel
theorem d_ThumbCoreModel_listed_16 : decode b_ThumbCoreModel_listed 16 = .ok (.iadd, 1) := by decide +kernel
theorem d_ThumbCoreModel_listed_17 : decode b_ThumbCoreModel_listed 17 = .ok (.istore_n 2, 1) := by decide +kernel
theorem d_ThumbCoreModel_listed_18 : decode b_ThumbCoreModel_listed 18 = .ok (.iinc 3 1, 3) := by decide +kernel
theorem d_ThumbCoreModel_listed_21 : decode b_ThumbCoreModel_listed 21 = .ok (.goto (-17), 3) := by decide +kernel
theorem d_ThumbCoreModel_listed_24 : decode b_ThumbCoreModel_listed 24 = .ok (.iload_n 2, 1) := by decide +kernel
theorem d_ThumbCoreModel_listed_25 : decode b_ThumbCoreModel_listed 25 = .ok (.ireturn, 1) := by decide +kernel
theorem d_ThumbCoreModel_allThere_0 : decode b_ThumbCoreModel_allThere 0 = .ok (.iconst 1, 1) := by decide +kernel
theorem d_ThumbCoreModel_allThere_1 : decode b_ThumbCoreModel_allThere 1 = .ok (.istore_n 3, 1) := by decide +kernel
theorem d_ThumbCoreModel_allThere_2 : decode b_ThumbCoreModel_allThere 2 = .ok (.iconst 0, 1) := by decide +kernel
theorem d_ThumbCoreModel_allThere_3 : decode b_ThumbCoreModel_allThere 3 = .ok (.istore 4, 2) := by decide +kernel
theorem d_ThumbCoreModel_allThere_5 : decode b_ThumbCoreModel_allThere 5 = .ok (.iload 4, 2) := by decide +kernel
theorem d_ThumbCoreModel_allThere_7 : decode b_ThumbCoreModel_allThere 7 = .ok (.iload_n 2, 1) := by decide +kernel
theorem d_ThumbCoreModel_allThere_8 : decode b_ThumbCoreModel_allThere 8 = .ok (.if_icmp .ge 33, 3) := by decide +kernel
theorem d_ThumbCoreModel_allThere_11 : decode b_ThumbCoreModel_allThere 11 = .ok (.iload_n 3, 1) := by decide +kernel
theorem d_ThumbCoreModel_allThere_12 : decode b_ThumbCoreModel_allThere 12 = .ok (.ifCond .eq 21, 3) := by decide +kernel
theorem d_ThumbCoreModel_allThere_15 : decode b_ThumbCoreModel_allThere 15 = .ok (.aload_n 0, 1) := by decide +kernel
theorem d_ThumbCoreModel_allThere_16 : decode b_ThumbCoreModel_allThere 16 = .ok (.iload_n 1, 1) := by decide +kernel
theorem d_ThumbCoreModel_allThere_17 : decode b_ThumbCoreModel_allThere 17 = .ok (.iconst 4, 1) := by decide +kernel
theorem d_ThumbCoreModel_allThere_18 : decode b_ThumbCoreModel_allThere 18 = .ok (.iload 4, 2) := by decide +kernel
theorem d_ThumbCoreModel_allThere_20 : decode b_ThumbCoreModel_allThere 20 = .ok (.imul, 1) := by decide +kernel
theorem d_ThumbCoreModel_allThere_21 : decode b_ThumbCoreModel_allThere 21 = .ok (.iadd, 1) := by decide +kernel
theorem d_ThumbCoreModel_allThere_22 : decode b_ThumbCoreModel_allThere 22 = .ok (.iconst 4, 1) := by decide +kernel
theorem d_ThumbCoreModel_allThere_23 : decode b_ThumbCoreModel_allThere 23 = .ok (.invokevirtual 37, 3) := by decide +kernel
theorem d_ThumbCoreModel_allThere_26 : decode b_ThumbCoreModel_allThere 26 = .ok (.ifCond .eq 7, 3) := by decide +kernel
theorem d_ThumbCoreModel_allThere_29 : decode b_ThumbCoreModel_allThere 29 = .ok (.iconst 1, 1) := by decide +kernel
theorem d_ThumbCoreModel_allThere_30 : decode b_ThumbCoreModel_allThere 30 = .ok (.goto 4, 3) := by decide +kernel
theorem d_ThumbCoreModel_allThere_33 : decode b_ThumbCoreModel_allThere 33 = .ok (.iconst 0, 1) := by decide +kernel
theorem d_ThumbCoreModel_allThere_34 : decode b_ThumbCoreModel_allThere 34 = .ok (.istore_n 3, 1) := by decide +kernel
theorem d_ThumbCoreModel_allThere_35 : decode b_ThumbCoreModel_allThere 35 = .ok (.iinc 4 1, 3) := by decide +kernel
theorem d_ThumbCoreModel_allThere_38 : decode b_ThumbCoreModel_allThere 38 = .ok (.goto (-33), 3) := by decide +kernel
theorem d_ThumbCoreModel_allThere_41 : decode b_ThumbCoreModel_allThere 41 = .ok (.iload_n 3, 1) := by decide +kernel
theorem d_ThumbCoreModel_allThere_42 : decode b_ThumbCoreModel_allThere 42 = .ok (.ireturn, 1) := by decide +kernel
theorem d_ThumbCoreModel_push_0 : decode b_ThumbCoreModel_push 0 = .ok (.aload_n 0, 1) := by decide +kernel
theorem d_ThumbCoreModel_push_1 : decode b_ThumbCoreModel_push 1 = .ok (.getfield 125, 3) := by decide +kernel
theorem d_ThumbCoreModel_push_4 : decode b_ThumbCoreModel_push 4 = .ok (.sipush 511, 3) := by decide +kernel
theorem d_ThumbCoreModel_push_7 : decode b_ThumbCoreModel_push 7 = .ok (.iand, 1) := by decide +kernel
theorem d_ThumbCoreModel_push_8 : decode b_ThumbCoreModel_push 8 = .ok (.istore_n 1, 1) := by decide +kernel
theorem d_ThumbCoreModel_push_9 : decode b_ThumbCoreModel_push 9 = .ok (.aload_n 0, 1) := by decide +kernel
theorem d_ThumbCoreModel_push_10 : decode b_ThumbCoreModel_push 10 = .ok (.iload_n 1, 1) := by decide +kernel
theorem d_ThumbCoreModel_push_11 : decode b_ThumbCoreModel_push 11 = .ok (.invokevirtual 144, 3) := by decide +kernel
theorem d_ThumbCoreModel_push_14 : decode b_ThumbCoreModel_push 14 = .ok (.istore_n 2, 1) := by decide +kernel
theorem d_ThumbCoreModel_push_15 : decode b_ThumbCoreModel_push 15 = .ok (.aload_n 0, 1) := by decide +kernel
theorem d_ThumbCoreModel_push_16 : decode b_ThumbCoreModel_push 16 = .ok (.getfield 13, 3) := by decide +kernel
theorem d_ThumbCoreModel_push_19 : decode b_ThumbCoreModel_push 19 = .ok (.bipush 13, 2) := by decide +kernel
theorem d_ThumbCoreModel_push_21 : decode b_ThumbCoreModel_push 21 = .ok (.iaload, 1) := by decide +kernel
theorem d_ThumbCoreModel_push_22 : decode b_ThumbCoreModel_push 22 = .ok (.iconst 4, 1) := by decide +kernel
theorem d_ThumbCoreModel_push_23 : decode b_ThumbCoreModel_push 23 = .ok (.iload_n 2, 1) := by decide +kernel
theorem d_ThumbCoreModel_push_24 : decode b_ThumbCoreModel_push 24 = .ok (.imul, 1) := by decide +kernel
theorem d_ThumbCoreModel_push_25 : decode b_ThumbCoreModel_push 25 = .ok (.isub, 1) := by decide +kernel
theorem d_ThumbCoreModel_push_26 : decode b_ThumbCoreModel_push 26 = .ok (.istore_n 3, 1) := by decide +kernel
theorem d_ThumbCoreModel_push_27 : decode b_ThumbCoreModel_push 27 = .ok (.aload_n 0, 1) := by decide +kernel
theorem d_ThumbCoreModel_push_28 : decode b_ThumbCoreModel_push 28 = .ok (.iload_n 2, 1) := by decide +kernel
theorem d_ThumbCoreModel_push_29 : decode b_ThumbCoreModel_push 29 = .ok (.ifCond .eq 12, 3) := by decide +kernel
theorem d_ThumbCoreModel_push_32 : decode b_ThumbCoreModel_push 32 = .ok (.aload_n 0, 1) := by decide +kernel
theorem d_ThumbCoreModel_push_33 : decode b_ThumbCoreModel_push 33 = .ok (.iload_n 3, 1) := by decide +kernel
theorem d_ThumbCoreModel_push_34 : decode b_ThumbCoreModel_push 34 = .ok (.iload_n 2, 1) := by decide +kernel
theorem d_ThumbCoreModel_push_35 : decode b_ThumbCoreModel_push 35 = .ok (.invokevirtual 147, 3) := by decide +kernel
theorem d_ThumbCoreModel_push_38 : decode b_ThumbCoreModel_push 38 = .ok (.ifCond .ne 7, 3) := by decide +kernel
theorem d_ThumbCoreModel_push_41 : decode b_ThumbCoreModel_push 41 = .ok (.iconst 1, 1) := by decide +kernel
theorem d_ThumbCoreModel_push_42 : decode b_ThumbCoreModel_push 42 = .ok (.goto 4, 3) := by decide +kernel
theorem d_ThumbCoreModel_push_45 : decode b_ThumbCoreModel_push 45 = .ok (.iconst 0, 1) := by decide +kernel
theorem d_ThumbCoreModel_push_46 : decode b_ThumbCoreModel_push 46 = .ok (.putfield 41, 3) := by decide +kernel
theorem d_ThumbCoreModel_push_49 : decode b_ThumbCoreModel_push 49 = .ok (.iload_n 3, 1) := by decide +kernel
theorem d_ThumbCoreModel_push_50 : decode b_ThumbCoreModel_push 50 = .ok (.istore 4, 2) := by decide +kernel
theorem d_ThumbCoreModel_push_52 : decode b_ThumbCoreModel_push 52 = .ok (.iconst 0, 1) := by decide +kernel
theorem d_ThumbCoreModel_push_53 : decode b_ThumbCoreModel_push 53 = .ok (.istore 5, 2) := by decide +kernel
theorem d_ThumbCoreModel_push_55 : decode b_ThumbCoreModel_push 55 = .ok (.iload 5, 2) := by decide +kernel
theorem d_ThumbCoreModel_push_57 : decode b_ThumbCoreModel_push 57 = .ok (.bipush 9, 2) := by decide +kernel
theorem d_ThumbCoreModel_push_59 : decode b_ThumbCoreModel_push 59 = .ok (.if_icmp .ge 60, 3) := by decide +kernel
theorem d_ThumbCoreModel_push_62 : decode b_ThumbCoreModel_push 62 = .ok (.aload_n 0, 1) := by decide +kernel
theorem d_ThumbCoreModel_push_63 : decode b_ThumbCoreModel_push 63 = .ok (.getfield 41, 3) := by decide +kernel
theorem d_ThumbCoreModel_push_66 : decode b_ThumbCoreModel_push 66 = .ok (.ifCond .ne 53, 3) := by decide +kernel
theorem d_ThumbCoreModel_push_69 : decode b_ThumbCoreModel_push 69 = .ok (.iload_n 1, 1) := by decide +kernel
theorem d_ThumbCoreModel_push_70 : decode b_ThumbCoreModel_push 70 = .ok (.iload 5, 2) := by decide +kernel
theorem d_ThumbCoreModel_push_72 : decode b_ThumbCoreModel_push 72 = .ok (.ishr, 1) := by decide +kernel
theorem d_ThumbCoreModel_push_73 : decode b_ThumbCoreModel_push 73 = .ok (.iconst 1, 1) := by decide +kernel
theorem d_ThumbCoreModel_push_74 : decode b_ThumbCoreModel_push 74 = .ok (.iand, 1) := by decide +kernel
theorem d_ThumbCoreModel_push_75 : decode b_ThumbCoreModel_push 75 = .ok (.iconst 1, 1) := by decide +kernel
theorem d_ThumbCoreModel_push_76 : decode b_ThumbCoreModel_push 76 = .ok (.if_icmp .ne 37, 3) := by decide +kernel
theorem d_ThumbCoreModel_push_79 : decode b_ThumbCoreModel_push 79 = .ok (.aload_n 0, 1) := by decide +kernel
theorem d_ThumbCoreModel_push_80 : decode b_ThumbCoreModel_push 80 = .ok (.iload 4, 2) := by decide +kernel
theorem d_ThumbCoreModel_push_82 : decode b_ThumbCoreModel_push 82 = .ok (.iload 5, 2) := by decide +kernel
theorem d_ThumbCoreModel_push_84 : decode b_ThumbCoreModel_push 84 = .ok (.bipush 8, 2) := by decide +kernel
theorem d_ThumbCoreModel_push_86 : decode b_ThumbCoreModel_push 86 = .ok (.if_icmp .ne 13, 3) := by decide +kernel
theorem d_ThumbCoreModel_push_89 : decode b_ThumbCoreModel_push 89 = .ok (.aload_n 0, 1) := by decide +kernel
theorem d_ThumbCoreModel_push_90 : decode b_ThumbCoreModel_push 90 = .ok (.getfield 13, 3) := by decide +kernel
theorem d_ThumbCoreModel_push_93 : decode b_ThumbCoreModel_push 93 = .ok (.bipush 14, 2) := by decide +kernel
theorem d_ThumbCoreModel_push_95 : decode b_ThumbCoreModel_push 95 = .ok (.iaload, 1) := by decide +kernel
theorem d_ThumbCoreModel_push_96 : decode b_ThumbCoreModel_push 96 = .ok (.goto 10, 3) := by decide +kernel
theorem d_ThumbCoreModel_push_99 : decode b_ThumbCoreModel_push 99 = .ok (.aload_n 0, 1) := by decide +kernel
theorem d_ThumbCoreModel_push_100 : decode b_ThumbCoreModel_push 100 = .ok (.getfield 13, 3) := by decide +kernel
theorem d_ThumbCoreModel_push_103 : decode b_ThumbCoreModel_push 103 = .ok (.iload 5, 2) := by decide +kernel
theorem d_ThumbCoreModel_push_105 : decode b_ThumbCoreModel_push 105 = .ok (.iaload, 1) := by decide +kernel
theorem d_ThumbCoreModel_push_106 : decode b_ThumbCoreModel_push 106 = .ok (.iconst 4, 1) := by decide +kernel
theorem d_ThumbCoreModel_push_107 : decode b_ThumbCoreModel_push 107 = .ok (.invokevirtual 100, 3) := by decide +kernel
theorem d_ThumbCoreModel_push_110 : decode b_ThumbCoreModel_push 110 = .ok (.iinc 4 4, 3) := by decide +kernel
theorem d_ThumbCoreModel_push_113 : decode b_ThumbCoreModel_push 113 = .ok (.iinc 5 1, 3) := by decide +kernel
theorem d_ThumbCoreModel_push_116 : decode b_ThumbCoreModel_push 116 = .ok (.goto (-61), 3) := by decide +kernel
theorem d_ThumbCoreModel_push_119 : decode b_ThumbCoreModel_push 119 = .ok (.aload_n 0, 1) := by decide +kernel
theorem d_ThumbCoreModel_push_120 : decode b_ThumbCoreModel_push 120 = .ok (.getfield 13, 3) := by decide +kernel
theorem d_ThumbCoreModel_push_123 : decode b_ThumbCoreModel_push 123 = .ok (.bipush 13, 2) := by decide +kernel
theorem d_ThumbCoreModel_push_125 : decode b_ThumbCoreModel_push 125 = .ok (.iload_n 3, 1) := by decide +kernel
theorem d_ThumbCoreModel_push_126 : decode b_ThumbCoreModel_push 126 = .ok (.iastore, 1) := by decide +kernel
theorem d_ThumbCoreModel_push_127 : decode b_ThumbCoreModel_push 127 = .ok (.return_, 1) := by decide +kernel
theorem d_ThumbCoreModel_pop_0 : decode b_ThumbCoreModel_pop 0 = .ok (.aload_n 0, 1) := by decide +kernel
theorem d_ThumbCoreModel_pop_1 : decode b_ThumbCoreModel_pop 1 = .ok (.getfield 125, 3) := by decide +kernel
theorem d_ThumbCoreModel_pop_4 : decode b_ThumbCoreModel_pop 4 = .ok (.sipush 511, 3) := by decide +kernel
theorem d_ThumbCoreModel_pop_7 : decode b_ThumbCoreModel_pop 7 = .ok (.iand, 1) := by decide +kernel
theorem d_ThumbCoreModel_pop_8 : decode b_ThumbCoreModel_pop 8 = .ok (.istore_n 1, 1) := by decide +kernel
theorem d_ThumbCoreModel_pop_9 : decode b_ThumbCoreModel_pop 9 = .ok (.aload_n 0, 1) := by decide +kernel
theorem d_ThumbCoreModel_pop_10 : decode b_ThumbCoreModel_pop 10 = .ok (.iload_n 1, 1) := by decide +kernel
theorem d_ThumbCoreModel_pop_11 : decode b_ThumbCoreModel_pop 11 = .ok (.invokevirtual 144, 3) := by decide +kernel
theorem d_ThumbCoreModel_pop_14 : decode b_ThumbCoreModel_pop 14 = .ok (.istore_n 2, 1) := by decide +kernel
theorem d_ThumbCoreModel_pop_15 : decode b_ThumbCoreModel_pop 15 = .ok (.aload_n 0, 1) := by decide +kernel
theorem d_ThumbCoreModel_pop_16 : decode b_ThumbCoreModel_pop 16 = .ok (.getfield 13, 3) := by decide +kernel
theorem d_ThumbCoreModel_pop_19 : decode b_ThumbCoreModel_pop 19 = .ok (.bipush 13, 2) := by decide +kernel
theorem d_ThumbCoreModel_pop_21 : decode b_ThumbCoreModel_pop 21 = .ok (.iaload, 1) := by decide +kernel
theorem d_ThumbCoreModel_pop_22 : decode b_ThumbCoreModel_pop 22 = .ok (.istore_n 3, 1) := by decide +kernel
theorem d_ThumbCoreModel_pop_23 : decode b_ThumbCoreModel_pop 23 = .ok (.aload_n 0, 1) := by decide +kernel
theorem d_ThumbCoreModel_pop_24 : decode b_ThumbCoreModel_pop 24 = .ok (.iload_n 2, 1) := by decide +kernel
theorem d_ThumbCoreModel_pop_25 : decode b_ThumbCoreModel_pop 25 = .ok (.ifCond .eq 12, 3) := by decide +kernel
theorem d_ThumbCoreModel_pop_28 : decode b_ThumbCoreModel_pop 28 = .ok (.aload_n 0, 1) := by decide +kernel
theorem d_ThumbCoreModel_pop_29 : decode b_ThumbCoreModel_pop 29 = .ok (.iload_n 3, 1) := by decide +kernel
theorem d_ThumbCoreModel_pop_30 : decode b_ThumbCoreModel_pop 30 = .ok (.iload_n 2, 1) := by decide +kernel
theorem d_ThumbCoreModel_pop_31 : decode b_ThumbCoreModel_pop 31 = .ok (.invokevirtual 147, 3) := by decide +kernel
theorem d_ThumbCoreModel_pop_34 : decode b_ThumbCoreModel_pop 34 = .ok (.ifCond .ne 7, 3) := by decide +kernel
theorem d_ThumbCoreModel_pop_37 : decode b_ThumbCoreModel_pop 37 = .ok (.iconst 1, 1) := by decide +kernel
theorem d_ThumbCoreModel_pop_38 : decode b_ThumbCoreModel_pop 38 = .ok (.goto 4, 3) := by decide +kernel
theorem d_ThumbCoreModel_pop_41 : decode b_ThumbCoreModel_pop 41 = .ok (.iconst 0, 1) := by decide +kernel
theorem d_ThumbCoreModel_pop_42 : decode b_ThumbCoreModel_pop 42 = .ok (.putfield 41, 3) := by decide +kernel
theorem d_ThumbCoreModel_pop_45 : decode b_ThumbCoreModel_pop 45 = .ok (.iconst 0, 1) := by decide +kernel
theorem d_ThumbCoreModel_pop_46 : decode b_ThumbCoreModel_pop 46 = .ok (.istore 4, 2) := by decide +kernel
theorem d_ThumbCoreModel_pop_48 : decode b_ThumbCoreModel_pop 48 = .ok (.iload 4, 2) := by decide +kernel
theorem d_ThumbCoreModel_pop_50 : decode b_ThumbCoreModel_pop 50 = .ok (.bipush 8, 2) := by decide +kernel
theorem d_ThumbCoreModel_pop_52 : decode b_ThumbCoreModel_pop 52 = .ok (.if_icmp .ge 42, 3) := by decide +kernel
theorem d_ThumbCoreModel_pop_55 : decode b_ThumbCoreModel_pop 55 = .ok (.aload_n 0, 1) := by decide +kernel
theorem d_ThumbCoreModel_pop_56 : decode b_ThumbCoreModel_pop 56 = .ok (.getfield 41, 3) := by decide +kernel
theorem d_ThumbCoreModel_pop_59 : decode b_ThumbCoreModel_pop 59 = .ok (.ifCond .ne 35, 3) := by decide +kernel
theorem d_ThumbCoreModel_pop_62 : decode b_ThumbCoreModel_pop 62 = .ok (.iload_n 1, 1) := by decide +kernel
theorem d_ThumbCoreModel_pop_63 : decode b_ThumbCoreModel_pop 63 = .ok (.iload 4, 2) := by decide +kernel
theorem d_ThumbCoreModel_pop_65 : decode b_ThumbCoreModel_pop 65 = .ok (.ishr, 1) := by decide +kernel
theorem d_ThumbCoreModel_pop_66 : decode b_ThumbCoreModel_pop 66 = .ok (.iconst 1, 1) := by decide +kernel
theorem d_ThumbCoreModel_pop_67 : decode b_ThumbCoreModel_pop 67 = .ok (.iand, 1) := by decide +kernel
theorem d_ThumbCoreModel_pop_68 : decode b_ThumbCoreModel_pop 68 = .ok (.iconst 1, 1) := by decide +kernel
theorem d_ThumbCoreModel_pop_69 : decode b_ThumbCoreModel_pop 69 = .ok (.if_icmp .ne 19, 3) := by decide +kernel
theorem d_ThumbCoreModel_pop_72 : decode b_ThumbCoreModel_pop 72 = .ok (.aload_n 0, 1) := by decide +kernel
theorem d_ThumbCoreModel_pop_73 : decode b_ThumbCoreModel_pop 73 = .ok (.getfield 13, 3) := by decide +kernel
theorem d_ThumbCoreModel_pop_76 : decode b_ThumbCoreModel_pop 76 = .ok (.iload 4, 2) := by decide +kernel
theorem d_ThumbCoreModel_pop_78 : decode b_ThumbCoreModel_pop 78 = .ok (.aload_n 0, 1) := by decide +kernel
theorem d_ThumbCoreModel_pop_79 : decode b_ThumbCoreModel_pop 79 = .ok (.iload_n 3, 1) := by decide +kernel
theorem d_ThumbCoreModel_pop_80 : decode b_ThumbCoreModel_pop 80 = .ok (.iconst 4, 1) := by decide +kernel
theorem d_ThumbCoreModel_pop_81 : decode b_ThumbCoreModel_pop 81 = .ok (.invokevirtual 45, 3) := by decide +kernel
theorem d_ThumbCoreModel_pop_84 : decode b_ThumbCoreModel_pop 84 = .ok (.iastore, 1) := by decide +kernel
theorem d_ThumbCoreModel_pop_85 : decode b_ThumbCoreModel_pop 85 = .ok (.iinc 3 4, 3) := by decide +kernel
theorem d_ThumbCoreModel_pop_88 : decode b_ThumbCoreModel_pop 88 = .ok (.iinc 4 1, 3) := by decide +kernel
theorem d_ThumbCoreModel_pop_91 : decode b_ThumbCoreModel_pop 91 = .ok (.goto (-43), 3) := by decide +kernel
theorem d_ThumbCoreModel_pop_94 : decode b_ThumbCoreModel_pop 94 = .ok (.aload_n 0, 1) := by decide +kernel
theorem d_ThumbCoreModel_pop_95 : decode b_ThumbCoreModel_pop 95 = .ok (.getfield 41, 3) := by decide +kernel
theorem d_ThumbCoreModel_pop_98 : decode b_ThumbCoreModel_pop 98 = .ok (.ifCond .ne 37, 3) := by decide +kernel
theorem d_ThumbCoreModel_pop_101 : decode b_ThumbCoreModel_pop 101 = .ok (.iload_n 1, 1) := by decide +kernel
theorem d_ThumbCoreModel_pop_102 : decode b_ThumbCoreModel_pop 102 = .ok (.sipush 255, 3) := by decide +kernel
theorem d_ThumbCoreModel_pop_105 : decode b_ThumbCoreModel_pop 105 = .ok (.if_icmp .le 30, 3) := by decide +kernel
theorem d_ThumbCoreModel_pop_108 : decode b_ThumbCoreModel_pop 108 = .ok (.aload_n 0, 1) := by decide +kernel
theorem d_ThumbCoreModel_pop_109 : decode b_ThumbCoreModel_pop 109 = .ok (.iload_n 3, 1) := by decide +kernel
theorem d_ThumbCoreModel_pop_110 : decode b_ThumbCoreModel_pop 110 = .ok (.iconst 4, 1) := by decide +kernel
theorem d_ThumbCoreModel_pop_111 : decode b_ThumbCoreModel_pop 111 = .ok (.invokevirtual 45, 3) := by decide +kernel
theorem d_ThumbCoreModel_pop_114 : decode b_ThumbCoreModel_pop 114 = .ok (.istore 4, 2) := by decide +kernel
theorem d_ThumbCoreModel_pop_116 : decode b_ThumbCoreModel_pop 116 = .ok (.aload_n 0, 1) := by decide +kernel
theorem d_ThumbCoreModel_pop_117 : decode b_ThumbCoreModel_pop 117 = .ok (.getfield 13, 3) := by decide +kernel
theorem d_ThumbCoreModel_pop_120 : decode b_ThumbCoreModel_pop 120 = .ok (.bipush 13, 2) := by decide +kernel
theorem d_ThumbCoreModel_pop_122 : decode b_ThumbCoreModel_pop 122 = .ok (.iload_n 3, 1) := by decide +kernel
theorem d_ThumbCoreModel_pop_123 : decode b_ThumbCoreModel_pop 123 = .ok (.iconst 4, 1) := by decide +kernel
theorem d_ThumbCoreModel_pop_124 : decode b_ThumbCoreModel_pop 124 = .ok (.iadd, 1) := by decide +kernel
theorem d_ThumbCoreModel_pop_125 : decode b_ThumbCoreModel_pop 125 = .ok (.iastore, 1) := by decide +kernel
theorem d_ThumbCoreModel_pop_126 : decode b_ThumbCoreModel_pop 126 = .ok (.aload_n 0, 1) := by decide +kernel
theorem d_ThumbCoreModel_pop_127 : decode b_ThumbCoreModel_pop 127 = .ok (.iload 4, 2) := by decide +kernel
theorem d_ThumbCoreModel_pop_129 : decode b_ThumbCoreModel_pop 129 = .ok (.invokevirtual 141, 3) := by decide +kernel
theorem d_ThumbCoreModel_pop_132 : decode b_ThumbCoreModel_pop 132 = .ok (.goto 11, 3) := by decide +kernel
theorem d_ThumbCoreModel_pop_135 : decode b_ThumbCoreModel_pop 135 = .ok (.aload_n 0, 1) := by decide +kernel
theorem d_ThumbCoreModel_pop_136 : decode b_ThumbCoreModel_pop 136 = .ok (.getfield 13, 3) := by decide +kernel
theorem d_ThumbCoreModel_pop_139 : decode b_ThumbCoreModel_pop 139 = .ok (.bipush 13, 2) := by decide +kernel
theorem d_ThumbCoreModel_pop_141 : decode b_ThumbCoreModel_pop 141 = .ok (.iload_n 3, 1) := by decide +kernel
theorem d_ThumbCoreModel_pop_142 : decode b_ThumbCoreModel_pop 142 = .ok (.iastore, 1) := by decide +kernel
theorem d_ThumbCoreModel_pop_143 : decode b_ThumbCoreModel_pop 143 = .ok (.return_, 1) := by decide +kernel
theorem d_ThumbCoreModel_several_0 : decode b_ThumbCoreModel_several 0 = .ok (.aload_n 0, 1) := by decide +kernel
theorem d_ThumbCoreModel_several_1 : decode b_ThumbCoreModel_several 1 = .ok (.getfield 125, 3) := by decide +kernel
theorem d_ThumbCoreModel_several_4 : decode b_ThumbCoreModel_several 4 = .ok (.sipush 255, 3) := by decide +kernel
theorem d_ThumbCoreModel_several_7 : decode b_ThumbCoreModel_several 7 = .ok (.iand, 1) := by decide +kernel
theorem d_ThumbCoreModel_several_8 : decode b_ThumbCoreModel_several 8 = .ok (.istore_n 2, 1) := by decide +kernel
theorem d_ThumbCoreModel_several_9 : decode b_ThumbCoreModel_several 9 = .ok (.aload_n 0, 1) := by decide +kernel
theorem d_ThumbCoreModel_several_10 : decode b_ThumbCoreModel_several 10 = .ok (.bipush 8, 2) := by decide +kernel
theorem d_ThumbCoreModel_several_12 : decode b_ThumbCoreModel_several 12 = .ok (.invokevirtual 128, 3) := by decide +kernel
theorem d_ThumbCoreModel_several_15 : decode b_ThumbCoreModel_several 15 = .ok (.istore_n 3, 1) := by decide +kernel
theorem d_ThumbCoreModel_several_16 : decode b_ThumbCoreModel_several 16 = .ok (.aload_n 0, 1) := by decide +kernel
theorem d_ThumbCoreModel_several_17 : decode b_ThumbCoreModel_several 17 = .ok (.iload_n 2, 1) := by decide +kernel
theorem d_ThumbCoreModel_several_18 : decode b_ThumbCoreModel_several 18 = .ok (.invokevirtual 144, 3) := by decide +kernel
theorem d_ThumbCoreModel_several_21 : decode b_ThumbCoreModel_several 21 = .ok (.istore 4, 2) := by decide +kernel
theorem d_ThumbCoreModel_several_23 : decode b_ThumbCoreModel_several 23 = .ok (.aload_n 0, 1) := by decide +kernel
theorem d_ThumbCoreModel_several_24 : decode b_ThumbCoreModel_several 24 = .ok (.getfield 13, 3) := by decide +kernel
theorem d_ThumbCoreModel_several_27 : decode b_ThumbCoreModel_several 27 = .ok (.iload_n 3, 1) := by decide +kernel
theorem d_ThumbCoreModel_several_28 : decode b_ThumbCoreModel_several 28 = .ok (.iaload, 1) := by decide +kernel
theorem d_ThumbCoreModel_several_29 : decode b_ThumbCoreModel_several 29 = .ok (.istore 5, 2) := by decide +kernel
theorem d_ThumbCoreModel_several_31 : decode b_ThumbCoreModel_several 31 = .ok (.iload_n 2, 1) := by decide +kernel
theorem d_ThumbCoreModel_several_32 : decode b_ThumbCoreModel_several 32 = .ok (.iload_n 3, 1) := by decide +kernel
theorem d_ThumbCoreModel_several_33 : decode b_ThumbCoreModel_several 33 = .ok (.ishr, 1) := by decide +kernel
theorem d_ThumbCoreModel_several_34 : decode b_ThumbCoreModel_several 34 = .ok (.iconst 1, 1) := by decide +kernel
theorem d_ThumbCoreModel_several_35 : decode b_ThumbCoreModel_several 35 = .ok (.iand, 1) := by decide +kernel
theorem d_ThumbCoreModel_several_36 : decode b_ThumbCoreModel_several 36 = .ok (.iconst 1, 1) := by decide +kernel
theorem d_ThumbCoreModel_several_37 : decode b_ThumbCoreModel_several 37 = .ok (.if_icmp .ne 7, 3) := by decide +kernel
theorem d_ThumbCoreModel_several_40 : decode b_ThumbCoreModel_several 40 = .ok (.iconst 1, 1) := by decide +kernel
theorem d_ThumbCoreModel_several_41 : decode b_ThumbCoreModel_several 41 = .ok (.goto 4, 3) := by decide +kernel
theorem d_ThumbCoreModel_several_44 : decode b_ThumbCoreModel_several 44 = .ok (.iconst 0, 1) := by decide +kernel
theorem d_ThumbCoreModel_several_45 : decode b_ThumbCoreModel_several 45 = .ok (.istore 6, 2) := by decide +kernel
theorem d_ThumbCoreModel_several_47 : decode b_ThumbCoreModel_several 47 = .ok (.iload_n 2, 1) := by decide +kernel
theorem d_ThumbCoreModel_several_48 : decode b_ThumbCoreModel_several 48 = .ok (.iconst 1, 1) := by decide +kernel
theorem d_ThumbCoreModel_several_49 : decode b_ThumbCoreModel_several 49 = .ok (.iload_n 3, 1) := by decide +kernel
theorem d_ThumbCoreModel_several_50 : decode b_ThumbCoreModel_several 50 = .ok (.ishl, 1) := by decide +kernel
theorem d_ThumbCoreModel_several_51 : decode b_ThumbCoreModel_several 51 = .ok (.iconst 1, 1) := by decide +kernel
theorem d_ThumbCoreModel_several_52 : decode b_ThumbCoreModel_several 52 = .ok (.isub, 1) := by decide +kernel
theorem d_ThumbCoreModel_several_53 : decode b_ThumbCoreModel_several 53 = .ok (.iand, 1) := by decide +kernel
theorem d_ThumbCoreModel_several_54 : decode b_ThumbCoreModel_several 54 = .ok (.ifCond .ne 7, 3) := by decide +kernel
theorem d_ThumbCoreModel_several_57 : decode b_ThumbCoreModel_several 57 = .ok (.iconst 1, 1) := by decide +kernel
theorem d_ThumbCoreModel_several_58 : decode b_ThumbCoreModel_several 58 = .ok (.goto 4, 3) := by decide +kernel
theorem d_ThumbCoreModel_several_61 : decode b_ThumbCoreModel_several 61 = .ok (.iconst 0, 1) := by decide +kernel
theorem d_ThumbCoreModel_several_62 : decode b_ThumbCoreModel_several 62 = .ok (.istore 7, 2) := by decide +kernel
theorem d_ThumbCoreModel_several_64 : decode b_ThumbCoreModel_several 64 = .ok (.aload_n 0, 1) := by decide +kernel
theorem d_ThumbCoreModel_several_65 : decode b_ThumbCoreModel_several 65 = .ok (.iload 4, 2) := by decide +kernel
theorem d_ThumbCoreModel_several_67 : decode b_ThumbCoreModel_several 67 = .ok (.ifCond .eq 28, 3) := by decide +kernel
theorem d_ThumbCoreModel_several_70 : decode b_ThumbCoreModel_several 70 = .ok (.iload_n 1, 1) := by decide +kernel
theorem d_ThumbCoreModel_several_71 : decode b_ThumbCoreModel_several 71 = .ok (.ifCond .ne 13, 3) := by decide +kernel
theorem d_ThumbCoreModel_several_74 : decode b_ThumbCoreModel_several 74 = .ok (.iload 6, 2) := by decide +kernel
theorem d_ThumbCoreModel_several_76 : decode b_ThumbCoreModel_several 76 = .ok (.ifCond .eq 8, 3) := by decide +kernel
theorem d_ThumbCoreModel_several_79 : decode b_ThumbCoreModel_several 79 = .ok (.iload 7, 2) := by decide +kernel
theorem d_ThumbCoreModel_several_81 : decode b_ThumbCoreModel_several 81 = .ok (.ifCond .eq 14, 3) := by decide +kernel
theorem d_ThumbCoreModel_several_84 : decode b_ThumbCoreModel_several 84 = .ok (.aload_n 0, 1) := by decide +kernel
theorem d_ThumbCoreModel_several_85 : decode b_ThumbCoreModel_several 85 = .ok (.iload 5, 2) := by decide +kernel
theorem d_ThumbCoreModel_several_87 : decode b_ThumbCoreModel_several 87 = .ok (.iload 4, 2) := by decide +kernel
theorem d_ThumbCoreModel_several_89 : decode b_ThumbCoreModel_several 89 = .ok (.invokevirtual 147, 3) := by decide +kernel
theorem d_ThumbCoreModel_several_92 : decode b_ThumbCoreModel_several 92 = .ok (.ifCond .ne 7, 3) := by decide +kernel
theorem d_ThumbCoreModel_several_95 : decode b_ThumbCoreModel_several 95 = .ok (.iconst 1, 1) := by decide +kernel
theorem d_ThumbCoreModel_several_96 : decode b_ThumbCoreModel_several 96 = .ok (.goto 4, 3) := by decide +kernel
theorem d_ThumbCoreModel_several_99 : decode b_ThumbCoreModel_several 99 = .ok (.iconst 0, 1) := by decide +kernel
theorem d_ThumbCoreModel_several_100 : decode b_ThumbCoreModel_several 100 = .ok (.putfield 41, 3) := by decide +kernel
theorem d_ThumbCoreModel_several_103 : decode b_ThumbCoreModel_several 103 = .ok (.iload 5, 2) := by decide +kernel
theorem d_ThumbCoreModel_several_105 : decode b_ThumbCoreModel_several 105 = .ok (.istore 8, 2) := by decide +kernel
theorem d_ThumbCoreModel_several_107 : decode b_ThumbCoreModel_several 107 = .ok (.iconst 0, 1) := by decide +kernel
theorem d_ThumbCoreModel_several_108 : decode b_ThumbCoreModel_several 108 = .ok (.istore 9, 2) := by decide +kernel
theorem d_ThumbCoreModel_several_110 : decode b_ThumbCoreModel_several 110 = .ok (.iload 9, 2) := by decide +kernel
theorem d_ThumbCoreModel_several_112 : decode b_ThumbCoreModel_several 112 = .ok (.bipush 8, 2) := by decide +kernel
theorem d_ThumbCoreModel_several_114 : decode b_ThumbCoreModel_several 114 = .ok (.if_icmp .ge 64, 3) := by decide +kernel
theorem d_ThumbCoreModel_several_117 : decode b_ThumbCoreModel_several 117 = .ok (.aload_n 0, 1) := by decide +kernel
theorem d_ThumbCoreModel_several_118 : decode b_ThumbCoreModel_several 118 = .ok (.getfield 41, 3) := by decide +kernel
theorem d_ThumbCoreModel_several_121 : decode b_ThumbCoreModel_several 121 = .ok (.ifCond .ne 57, 3) := by decide +kernel
theorem d_ThumbCoreModel_several_124 : decode b_ThumbCoreModel_several 124 = .ok (.iload_n 2, 1) := by decide +kernel
theorem d_ThumbCoreModel_several_125 : decode b_ThumbCoreModel_several 125 = .ok (.iload 9, 2) := by decide +kernel
theorem d_ThumbCoreModel_several_127 : decode b_ThumbCoreModel_several 127 = .ok (.ishr, 1) := by decide +kernel
theorem d_ThumbCoreModel_several_128 : decode b_ThumbCoreModel_several 128 = .ok (.iconst 1, 1) := by decide +kernel
theorem d_ThumbCoreModel_several_129 : decode b_ThumbCoreModel_several 129 = .ok (.iand, 1) := by decide +kernel
theorem d_ThumbCoreModel_several_130 : decode b_ThumbCoreModel_several 130 = .ok (.iconst 1, 1) := by decide +kernel
theorem d_ThumbCoreModel_several_131 : decode b_ThumbCoreModel_several 131 = .ok (.if_icmp .ne 41, 3) := by decide +kernel
theorem d_ThumbCoreModel_several_134 : decode b_ThumbCoreModel_several 134 = .ok (.iload_n 1, 1) := by decide +kernel
theorem d_ThumbCoreModel_several_135 : decode b_ThumbCoreModel_several 135 = .ok (.ifCond .eq 20, 3) := by decide +kernel
theorem d_ThumbCoreModel_several_138 : decode b_ThumbCoreModel_several 138 = .ok (.aload_n 0, 1) := by decide +kernel
theorem d_ThumbCoreModel_several_139 : decode b_ThumbCoreModel_several 139 = .ok (.getfield 13, 3) := by decide +kernel
theorem d_ThumbCoreModel_several_142 : decode b_ThumbCoreModel_several 142 = .ok (.iload 9, 2) := by decide +kernel
theorem d_ThumbCoreModel_several_144 : decode b_ThumbCoreModel_several 144 = .ok (.aload_n 0, 1) := by decide +kernel
theorem d_ThumbCoreModel_several_145 : decode b_ThumbCoreModel_several 145 = .ok (.iload 8, 2) := by decide +kernel
theorem d_ThumbCoreModel_several_147 : decode b_ThumbCoreModel_several 147 = .ok (.iconst 4, 1) := by decide +kernel
theorem d_ThumbCoreModel_several_148 : decode b_ThumbCoreModel_several 148 = .ok (.invokevirtual 45, 3) := by decide +kernel
theorem d_ThumbCoreModel_several_151 : decode b_ThumbCoreModel_several 151 = .ok (.iastore, 1) := by decide +kernel
theorem d_ThumbCoreModel_several_152 : decode b_ThumbCoreModel_several 152 = .ok (.goto 17, 3) := by decide +kernel
theorem d_ThumbCoreModel_several_155 : decode b_ThumbCoreModel_several 155 = .ok (.aload_n 0, 1) := by decide +kernel
theorem d_ThumbCoreModel_several_156 : decode b_ThumbCoreModel_several 156 = .ok (.iload 8, 2) := by decide +kernel
theorem d_ThumbCoreModel_several_158 : decode b_ThumbCoreModel_several 158 = .ok (.aload_n 0, 1) := by decide +kernel
theorem d_ThumbCoreModel_several_159 : decode b_ThumbCoreModel_several 159 = .ok (.getfield 13, 3) := by decide +kernel
theorem d_ThumbCoreModel_several_162 : decode b_ThumbCoreModel_several 162 = .ok (.iload 9, 2) := by decide +kernel
theorem d_ThumbCoreModel_several_164 : decode b_ThumbCoreModel_several 164 = .ok (.iaload, 1) := by decide +kernel
theorem d_ThumbCoreModel_several_165 : decode b_ThumbCoreModel_several 165 = .ok (.iconst 4, 1) := by decide +kernel
theorem d_ThumbCoreModel_several_166 : decode b_ThumbCoreModel_several 166 = .ok (.invokevirtual 100, 3) := by decide +kernel
theorem d_ThumbCoreModel_several_169 : decode b_ThumbCoreModel_several 169 = .ok (.iinc 8 4, 3) := by decide +kernel
theorem d_ThumbCoreModel_several_172 : decode b_ThumbCoreModel_several 172 = .ok (.iinc 9 1, 3) := by decide +kernel
theorem d_ThumbCoreModel_several_175 : decode b_ThumbCoreModel_several 175 = .ok (.goto (-65), 3) := by decide +kernel
theorem d_ThumbCoreModel_several_178 : decode b_ThumbCoreModel_several 178 = .ok (.aload_n 0, 1) := by decide +kernel
theorem d_ThumbCoreModel_several_179 : decode b_ThumbCoreModel_several 179 = .ok (.getfield 13, 3) := by decide +kernel
theorem d_ThumbCoreModel_several_182 : decode b_ThumbCoreModel_several 182 = .ok (.iload_n 3, 1) := by decide +kernel
theorem d_ThumbCoreModel_several_183 : decode b_ThumbCoreModel_several 183 = .ok (.iload_n 1, 1) := by decide +kernel
theorem d_ThumbCoreModel_several_184 : decode b_ThumbCoreModel_several 184 = .ok (.ifCond .eq 17, 3) := by decide +kernel
theorem d_ThumbCoreModel_several_187 : decode b_ThumbCoreModel_several 187 = .ok (.iload 6, 2) := by decide +kernel
theorem d_ThumbCoreModel_several_189 : decode b_ThumbCoreModel_several 189 = .ok (.ifCond .eq 12, 3) := by decide +kernel
theorem d_ThumbCoreModel_several_192 : decode b_ThumbCoreModel_several 192 = .ok (.aload_n 0, 1) := by decide +kernel
theorem d_ThumbCoreModel_several_193 : decode b_ThumbCoreModel_several 193 = .ok (.getfield 13, 3) := by decide +kernel
theorem d_ThumbCoreModel_several_196 : decode b_ThumbCoreModel_several 196 = .ok (.iload_n 3, 1) := by decide +kernel
theorem d_ThumbCoreModel_several_197 : decode b_ThumbCoreModel_several 197 = .ok (.iaload, 1) := by decide +kernel
theorem d_ThumbCoreModel_several_198 : decode b_ThumbCoreModel_several 198 = .ok (.goto 5, 3) := by decide +kernel
theorem d_ThumbCoreModel_several_201 : decode b_ThumbCoreModel_several 201 = .ok (.iload 8, 2) := by decide +kernel
theorem d_ThumbCoreModel_several_203 : decode b_ThumbCoreModel_several 203 = .ok (.iastore, 1) := by decide +kernel
theorem d_ThumbCoreModel_several_204 : decode b_ThumbCoreModel_several 204 = .ok (.return_, 1) := by decide +kernel
theorem d_ThumbCoreModel_turned_0 : decode b_ThumbCoreModel_turned 0 = .ok (.iload_n 0, 1) := by decide +kernel
theorem d_ThumbCoreModel_turned_1 : decode b_ThumbCoreModel_turned 1 = .ok (.bipush 24, 2) := by decide +kernel
theorem d_ThumbCoreModel_turned_3 : decode b_ThumbCoreModel_turned 3 = .ok (.ishl, 1) := by decide +kernel
theorem d_ThumbCoreModel_turned_4 : decode b_ThumbCoreModel_turned 4 = .ok (.iload_n 0, 1) := by decide +kernel
theorem d_ThumbCoreModel_turned_5 : decode b_ThumbCoreModel_turned 5 = .ok (.ldc 150, 2) := by decide +kernel
theorem d_ThumbCoreModel_turned_7 : decode b_ThumbCoreModel_turned 7 = .ok (.iand, 1) := by decide +kernel
theorem d_ThumbCoreModel_turned_8 : decode b_ThumbCoreModel_turned 8 = .ok (.bipush 8, 2) := by decide +kernel
theorem d_ThumbCoreModel_turned_10 : decode b_ThumbCoreModel_turned 10 = .ok (.ishl, 1) := by decide +kernel
theorem d_ThumbCoreModel_turned_11 : decode b_ThumbCoreModel_turned 11 = .ok (.ior, 1) := by decide +kernel
theorem d_ThumbCoreModel_turned_12 : decode b_ThumbCoreModel_turned 12 = .ok (.iload_n 0, 1) := by decide +kernel
theorem d_ThumbCoreModel_turned_13 : decode b_ThumbCoreModel_turned 13 = .ok (.bipush 8, 2) := by decide +kernel
theorem d_ThumbCoreModel_turned_15 : decode b_ThumbCoreModel_turned 15 = .ok (.iushr, 1) := by decide +kernel
theorem d_ThumbCoreModel_turned_16 : decode b_ThumbCoreModel_turned 16 = .ok (.ldc 150, 2) := by decide +kernel
theorem d_ThumbCoreModel_turned_18 : decode b_ThumbCoreModel_turned 18 = .ok (.iand, 1) := by decide +kernel
theorem d_ThumbCoreModel_turned_19 : decode b_ThumbCoreModel_turned 19 = .ok (.ior, 1) := by decide +kernel
theorem d_ThumbCoreModel_turned_20 : decode b_ThumbCoreModel_turned 20 = .ok (.iload_n 0, 1) := by decide +kernel
theorem d_ThumbCoreModel_turned_21 : decode b_ThumbCoreModel_turned 21 = .ok (.bipush 24, 2) := by decide +kernel
theorem d_ThumbCoreModel_turned_23 : decode b_ThumbCoreModel_turned 23 = .ok (.iushr, 1) := by decide +kernel
theorem d_ThumbCoreModel_turned_24 : decode b_ThumbCoreModel_turned 24 = .ok (.ior, 1) := by decide +kernel
theorem d_ThumbCoreModel_turned_25 : decode b_ThumbCoreModel_turned 25 = .ok (.ireturn, 1) := by decide +kernel
theorem d_ThumbCoreModel_kinds_0 : decode b_ThumbCoreModel_kinds 0 = .ok (.aload_n 0, 1) := by decide +kernel
theorem d_ThumbCoreModel_kinds_1 : decode b_ThumbCoreModel_kinds 1 = .ok (.iconst 0, 1) := by decide +kernel
theorem d_ThumbCoreModel_kinds_2 : decode b_ThumbCoreModel_kinds 2 = .ok (.invokevirtual 128, 3) := by decide +kernel
theorem d_ThumbCoreModel_kinds_5 : decode b_ThumbCoreModel_kinds 5 = .ok (.istore_n 1, 1) := by decide +kernel
theorem d_ThumbCoreModel_kinds_6 : decode b_ThumbCoreModel_kinds 6 = .ok (.aload_n 0, 1) := by decide +kernel
theorem d_ThumbCoreModel_kinds_7 : decode b_ThumbCoreModel_kinds 7 = .ok (.getfield 13, 3) := by decide +kernel
theorem d_ThumbCoreModel_kinds_10 : decode b_ThumbCoreModel_kinds 10 = .ok (.aload_n 0, 1) := by decide +kernel
theorem d_ThumbCoreModel_kinds_11 : decode b_ThumbCoreModel_kinds 11 = .ok (.iconst 3, 1) := by decide +kernel
theorem d_ThumbCoreModel_kinds_12 : decode b_ThumbCoreModel_kinds 12 = .ok (.invokevirtual 128, 3) := by decide +kernel
theorem d_ThumbCoreModel_kinds_15 : decode b_ThumbCoreModel_kinds 15 = .ok (.iaload, 1) := by decide +kernel
theorem d_ThumbCoreModel_kinds_16 : decode b_ThumbCoreModel_kinds 16 = .ok (.istore_n 2, 1) := by decide +kernel
theorem d_ThumbCoreModel_kinds_17 : decode b_ThumbCoreModel_kinds 17 = .ok (.aload_n 0, 1) := by decide +kernel
theorem d_ThumbCoreModel_kinds_18 : decode b_ThumbCoreModel_kinds 18 = .ok (.getfield 125, 3) := by decide +kernel
theorem d_ThumbCoreModel_kinds_21 : decode b_ThumbCoreModel_kinds 21 = .ok (.bipush 6, 2) := by decide +kernel
theorem d_ThumbCoreModel_kinds_23 : decode b_ThumbCoreModel_kinds 23 = .ok (.ishr, 1) := by decide +kernel
theorem d_ThumbCoreModel_kinds_24 : decode b_ThumbCoreModel_kinds 24 = .ok (.iconst 3, 1) := by decide +kernel
theorem d_ThumbCoreModel_kinds_25 : decode b_ThumbCoreModel_kinds 25 = .ok (.iand, 1) := by decide +kernel
theorem d_ThumbCoreModel_kinds_26 : decode b_ThumbCoreModel_kinds 26 = .ok (.istore_n 3, 1) := by decide +kernel
theorem d_ThumbCoreModel_kinds_27 : decode b_ThumbCoreModel_kinds 27 = .ok (.aload_n 0, 1) := by decide +kernel
theorem d_ThumbCoreModel_kinds_28 : decode b_ThumbCoreModel_kinds 28 = .ok (.getfield 125, 3) := by decide +kernel
theorem d_ThumbCoreModel_kinds_31 : decode b_ThumbCoreModel_kinds 31 = .ok (.bipush 8, 2) := by decide +kernel
theorem d_ThumbCoreModel_kinds_33 : decode b_ThumbCoreModel_kinds 33 = .ok (.ishr, 1) := by decide +kernel
theorem d_ThumbCoreModel_kinds_34 : decode b_ThumbCoreModel_kinds 34 = .ok (.bipush 15, 2) := by decide +kernel
theorem d_ThumbCoreModel_kinds_36 : decode b_ThumbCoreModel_kinds 36 = .ok (.iand, 1) := by decide +kernel
theorem d_ThumbCoreModel_kinds_37 : decode b_ThumbCoreModel_kinds 37 = .ok (.tableswitch 373 0 15 #[79, 373, 125, 373, 170, 170, 177, 373, 373, 373, 239, 373, 317, 317, 373, 324], 79) := by decide +kernel
theorem d_ThumbCoreModel_kinds_116 : decode b_ThumbCoreModel_kinds 116 = .ok (.aload_n 0, 1) := by decide +kernel
theorem d_ThumbCoreModel_kinds_117 : decode b_ThumbCoreModel_kinds 117 = .ok (.getfield 13, 3) := by decide +kernel
theorem d_ThumbCoreModel_kinds_120 : decode b_ThumbCoreModel_kinds 120 = .ok (.bipush 13, 2) := by decide +kernel
theorem d_ThumbCoreModel_kinds_122 : decode b_ThumbCoreModel_kinds 122 = .ok (.dup2, 1) := by decide +kernel
theorem d_ThumbCoreModel_kinds_123 : decode b_ThumbCoreModel_kinds 123 = .ok (.iaload, 1) := by decide +kernel
theorem d_ThumbCoreModel_kinds_124 : decode b_ThumbCoreModel_kinds 124 = .ok (.aload_n 0, 1) := by decide +kernel
theorem d_ThumbCoreModel_kinds_125 : decode b_ThumbCoreModel_kinds 125 = .ok (.getfield 125, 3) := by decide +kernel
theorem d_ThumbCoreModel_kinds_128 : decode b_ThumbCoreModel_kinds 128 = .ok (.sipush 128, 3) := by decide +kernel
theorem d_ThumbCoreModel_kinds_131 : decode b_ThumbCoreModel_kinds 131 = .ok (.iand, 1) := by decide +kernel
theorem d_ThumbCoreModel_kinds_132 : decode b_ThumbCoreModel_kinds 132 = .ok (.ifCond .ne 15, 3) := by decide +kernel
theorem d_ThumbCoreModel_kinds_135 : decode b_ThumbCoreModel_kinds 135 = .ok (.iconst 4, 1) := by decide +kernel
theorem d_ThumbCoreModel_kinds_136 : decode b_ThumbCoreModel_kinds 136 = .ok (.aload_n 0, 1) := by decide +kernel
theorem d_ThumbCoreModel_kinds_137 : decode b_ThumbCoreModel_kinds 137 = .ok (.getfield 125, 3) := by decide +kernel
theorem d_ThumbCoreModel_kinds_140 : decode b_ThumbCoreModel_kinds 140 = .ok (.bipush 127, 2) := by decide +kernel
theorem d_ThumbCoreModel_kinds_142 : decode b_ThumbCoreModel_kinds 142 = .ok (.iand, 1) := by decide +kernel
theorem d_ThumbCoreModel_kinds_143 : decode b_ThumbCoreModel_kinds 143 = .ok (.imul, 1) := by decide +kernel
theorem d_ThumbCoreModel_kinds_144 : decode b_ThumbCoreModel_kinds 144 = .ok (.goto 13, 3) := by decide +kernel
theorem d_ThumbCoreModel_kinds_147 : decode b_ThumbCoreModel_kinds 147 = .ok (.bipush (-4), 2) := by decide +kernel
theorem d_ThumbCoreModel_kinds_149 : decode b_ThumbCoreModel_kinds 149 = .ok (.aload_n 0, 1) := by decide +kernel
theorem d_ThumbCoreModel_kinds_150 : decode b_ThumbCoreModel_kinds 150 = .ok (.getfield 125, 3) := by decide +kernel
theorem d_ThumbCoreModel_kinds_153 : decode b_ThumbCoreModel_kinds 153 = .ok (.bipush 127, 2) := by decide +kernel
theorem d_ThumbCoreModel_kinds_155 : decode b_ThumbCoreModel_kinds 155 = .ok (.iand, 1) := by decide +kernel
theorem d_ThumbCoreModel_kinds_156 : decode b_ThumbCoreModel_kinds 156 = .ok (.imul, 1) := by decide +kernel
theorem d_ThumbCoreModel_kinds_157 : decode b_ThumbCoreModel_kinds 157 = .ok (.iadd, 1) := by decide +kernel
theorem d_ThumbCoreModel_kinds_158 : decode b_ThumbCoreModel_kinds 158 = .ok (.iastore, 1) := by decide +kernel
theorem d_ThumbCoreModel_kinds_159 : decode b_ThumbCoreModel_kinds 159 = .ok (.goto 256, 3) := by decide +kernel
theorem d_ThumbCoreModel_kinds_162 : decode b_ThumbCoreModel_kinds 162 = .ok (.aload_n 0, 1) := by decide +kernel
theorem d_ThumbCoreModel_kinds_163 : decode b_ThumbCoreModel_kinds 163 = .ok (.getfield 13, 3) := by decide +kernel
theorem d_ThumbCoreModel_kinds_166 : decode b_ThumbCoreModel_kinds 166 = .ok (.iload_n 1, 1) := by decide +kernel
theorem d_ThumbCoreModel_kinds_167 : decode b_ThumbCoreModel_kinds 167 = .ok (.iload_n 3, 1) := by decide +kernel
theorem d_ThumbCoreModel_kinds_168 : decode b_ThumbCoreModel_kinds 168 = .ok (.ifCond .ne 8, 3) := by decide +kernel
theorem d_ThumbCoreModel_kinds_171 : decode b_ThumbCoreModel_kinds 171 = .ok (.iload_n 2, 1) := by decide +kernel
theorem d_ThumbCoreModel_kinds_172 : decode b_ThumbCoreModel_kinds 172 = .ok (.i2s, 1) := by decide +kernel
theorem d_ThumbCoreModel_kinds_173 : decode b_ThumbCoreModel_kinds 173 = .ok (.goto 30, 3) := by decide +kernel
theorem d_ThumbCoreModel_kinds_176 : decode b_ThumbCoreModel_kinds 176 = .ok (.iload_n 3, 1) := by decide +kernel
theorem d_ThumbCoreModel_kinds_177 : decode b_ThumbCoreModel_kinds 177 = .ok (.iconst 1, 1) := by decide +kernel
theorem d_ThumbCoreModel_kinds_178 : decode b_ThumbCoreModel_kinds 178 = .ok (.if_icmp .ne 8, 3) := by decide +kernel
theorem d_ThumbCoreModel_kinds_181 : decode b_ThumbCoreModel_kinds 181 = .ok (.iload_n 2, 1) := by decide +kernel
theorem d_ThumbCoreModel_kinds_182 : decode b_ThumbCoreModel_kinds 182 = .ok (.i2b, 1) := by decide +kernel
theorem d_ThumbCoreModel_kinds_183 : decode b_ThumbCoreModel_kinds 183 = .ok (.goto 20, 3) := by decide +kernel
theorem d_ThumbCoreModel_kinds_186 : decode b_ThumbCoreModel_kinds 186 = .ok (.iload_n 3, 1) := by decide +kernel
theorem d_ThumbCoreModel_kinds_187 : decode b_ThumbCoreModel_kinds 187 = .ok (.iconst 2, 1) := by decide +kernel
theorem d_ThumbCoreModel_kinds_188 : decode b_ThumbCoreModel_kinds 188 = .ok (.if_icmp .ne 10, 3) := by decide +kernel
theorem d_ThumbCoreModel_kinds_191 : decode b_ThumbCoreModel_kinds 191 = .ok (.iload_n 2, 1) := by decide +kernel
theorem d_ThumbCoreModel_kinds_192 : decode b_ThumbCoreModel_kinds 192 = .ok (.ldc 151, 2) := by decide +kernel
theorem d_ThumbCoreModel_kinds_194 : decode b_ThumbCoreModel_kinds 194 = .ok (.iand, 1) := by decide +kernel
theorem d_ThumbCoreModel_kinds_195 : decode b_ThumbCoreModel_kinds 195 = .ok (.goto 8, 3) := by decide +kernel
theorem d_ThumbCoreModel_kinds_198 : decode b_ThumbCoreModel_kinds 198 = .ok (.iload_n 2, 1) := by decide +kernel
theorem d_ThumbCoreModel_kinds_199 : decode b_ThumbCoreModel_kinds 199 = .ok (.sipush 255, 3) := by decide +kernel
theorem d_ThumbCoreModel_kinds_202 : decode b_ThumbCoreModel_kinds 202 = .ok (.iand, 1) := by decide +kernel
theorem d_ThumbCoreModel_kinds_203 : decode b_ThumbCoreModel_kinds 203 = .ok (.iastore, 1) := by decide +kernel
theorem d_ThumbCoreModel_kinds_204 : decode b_ThumbCoreModel_kinds 204 = .ok (.goto 211, 3) := by decide +kernel
theorem d_ThumbCoreModel_kinds_207 : decode b_ThumbCoreModel_kinds 207 = .ok (.aload_n 0, 1) := by decide +kernel
theorem d_ThumbCoreModel_kinds_208 : decode b_ThumbCoreModel_kinds 208 = .ok (.invokevirtual 152, 3) := by decide +kernel
theorem d_ThumbCoreModel_kinds_211 : decode b_ThumbCoreModel_kinds 211 = .ok (.goto 204, 3) := by decide +kernel
theorem d_ThumbCoreModel_kinds_214 : decode b_ThumbCoreModel_kinds 214 = .ok (.aload_n 0, 1) := by decide +kernel
theorem d_ThumbCoreModel_kinds_215 : decode b_ThumbCoreModel_kinds 215 = .ok (.aload_n 0, 1) := by decide +kernel
theorem d_ThumbCoreModel_kinds_216 : decode b_ThumbCoreModel_kinds 216 = .ok (.getfield 125, 3) := by decide +kernel
theorem d_ThumbCoreModel_kinds_219 : decode b_ThumbCoreModel_kinds 219 = .ok (.ldc 155, 2) := by decide +kernel
theorem d_ThumbCoreModel_kinds_221 : decode b_ThumbCoreModel_kinds 221 = .ok (.if_icmp .eq 16, 3) := by decide +kernel
theorem d_ThumbCoreModel_kinds_224 : decode b_ThumbCoreModel_kinds 224 = .ok (.aload_n 0, 1) := by decide +kernel
theorem d_ThumbCoreModel_kinds_225 : decode b_ThumbCoreModel_kinds 225 = .ok (.getfield 125, 3) := by decide +kernel
theorem d_ThumbCoreModel_kinds_228 : decode b_ThumbCoreModel_kinds 228 = .ok (.ldc 156, 2) := by decide +kernel
theorem d_ThumbCoreModel_kinds_230 : decode b_ThumbCoreModel_kinds 230 = .ok (.if_icmp .eq 7, 3) := by decide +kernel
theorem d_ThumbCoreModel_kinds_233 : decode b_ThumbCoreModel_kinds 233 = .ok (.iconst 1, 1) := by decide +kernel
theorem d_ThumbCoreModel_kinds_234 : decode b_ThumbCoreModel_kinds 234 = .ok (.goto 4, 3) := by decide +kernel
theorem d_ThumbCoreModel_kinds_237 : decode b_ThumbCoreModel_kinds 237 = .ok (.iconst 0, 1) := by decide +kernel
theorem d_ThumbCoreModel_kinds_238 : decode b_ThumbCoreModel_kinds 238 = .ok (.putfield 41, 3) := by decide +kernel
theorem d_ThumbCoreModel_kinds_241 : decode b_ThumbCoreModel_kinds 241 = .ok (.aload_n 0, 1) := by decide +kernel
theorem d_ThumbCoreModel_kinds_242 : decode b_ThumbCoreModel_kinds 242 = .ok (.aload_n 0, 1) := by decide +kernel
theorem d_ThumbCoreModel_kinds_243 : decode b_ThumbCoreModel_kinds 243 = .ok (.getfield 41, 3) := by decide +kernel
theorem d_ThumbCoreModel_kinds_246 : decode b_ThumbCoreModel_kinds 246 = .ok (.ifCond .eq 10, 3) := by decide +kernel
theorem d_ThumbCoreModel_kinds_249 : decode b_ThumbCoreModel_kinds 249 = .ok (.aload_n 0, 1) := by decide +kernel
theorem d_ThumbCoreModel_kinds_250 : decode b_ThumbCoreModel_kinds 250 = .ok (.getfield 53, 3) := by decide +kernel
theorem d_ThumbCoreModel_kinds_253 : decode b_ThumbCoreModel_kinds 253 = .ok (.goto 17, 3) := by decide +kernel
theorem d_ThumbCoreModel_kinds_256 : decode b_ThumbCoreModel_kinds 256 = .ok (.aload_n 0, 1) := by decide +kernel
theorem d_ThumbCoreModel_kinds_257 : decode b_ThumbCoreModel_kinds 257 = .ok (.getfield 125, 3) := by decide +kernel
theorem d_ThumbCoreModel_kinds_260 : decode b_ThumbCoreModel_kinds 260 = .ok (.ldc 156, 2) := by decide +kernel
theorem d_ThumbCoreModel_kinds_262 : decode b_ThumbCoreModel_kinds 262 = .ok (.if_icmp .ne 7, 3) := by decide +kernel
theorem d_ThumbCoreModel_kinds_265 : decode b_ThumbCoreModel_kinds 265 = .ok (.iconst 1, 1) := by decide +kernel
theorem d_ThumbCoreModel_kinds_266 : decode b_ThumbCoreModel_kinds 266 = .ok (.goto 4, 3) := by decide +kernel
theorem d_ThumbCoreModel_kinds_269 : decode b_ThumbCoreModel_kinds 269 = .ok (.iconst 0, 1) := by decide +kernel
theorem d_ThumbCoreModel_kinds_270 : decode b_ThumbCoreModel_kinds 270 = .ok (.putfield 53, 3) := by decide +kernel
theorem d_ThumbCoreModel_kinds_273 : decode b_ThumbCoreModel_kinds 273 = .ok (.goto 142, 3) := by decide +kernel
theorem d_ThumbCoreModel_kinds_276 : decode b_ThumbCoreModel_kinds 276 = .ok (.aload_n 0, 1) := by decide +kernel
theorem d_ThumbCoreModel_kinds_277 : decode b_ThumbCoreModel_kinds 277 = .ok (.iload_n 3, 1) := by decide +kernel
theorem d_ThumbCoreModel_kinds_278 : decode b_ThumbCoreModel_kinds 278 = .ok (.iconst 2, 1) := by decide +kernel
theorem d_ThumbCoreModel_kinds_279 : decode b_ThumbCoreModel_kinds 279 = .ok (.if_icmp .ne 7, 3) := by decide +kernel
theorem d_ThumbCoreModel_kinds_282 : decode b_ThumbCoreModel_kinds 282 = .ok (.iconst 1, 1) := by decide +kernel
theorem d_ThumbCoreModel_kinds_283 : decode b_ThumbCoreModel_kinds 283 = .ok (.goto 4, 3) := by decide +kernel
theorem d_ThumbCoreModel_kinds_286 : decode b_ThumbCoreModel_kinds 286 = .ok (.iconst 0, 1) := by decide +kernel
theorem d_ThumbCoreModel_kinds_287 : decode b_ThumbCoreModel_kinds 287 = .ok (.putfield 41, 3) := by decide +kernel
theorem d_ThumbCoreModel_kinds_290 : decode b_ThumbCoreModel_kinds 290 = .ok (.iload_n 2, 1) := by decide +kernel
theorem d_ThumbCoreModel_kinds_291 : decode b_ThumbCoreModel_kinds 291 = .ok (.invokestatic 157, 3) := by decide +kernel
theorem d_ThumbCoreModel_kinds_294 : decode b_ThumbCoreModel_kinds 294 = .ok (.istore 4, 2) := by decide +kernel
theorem d_ThumbCoreModel_kinds_296 : decode b_ThumbCoreModel_kinds 296 = .ok (.aload_n 0, 1) := by decide +kernel
theorem d_ThumbCoreModel_kinds_297 : decode b_ThumbCoreModel_kinds 297 = .ok (.getfield 13, 3) := by decide +kernel
theorem d_ThumbCoreModel_kinds_300 : decode b_ThumbCoreModel_kinds 300 = .ok (.iload_n 1, 1) := by decide +kernel
theorem d_ThumbCoreModel_kinds_301 : decode b_ThumbCoreModel_kinds 301 = .ok (.aload_n 0, 1) := by decide +kernel
theorem d_ThumbCoreModel_kinds_302 : decode b_ThumbCoreModel_kinds 302 = .ok (.getfield 41, 3) := by decide +kernel
theorem d_ThumbCoreModel_kinds_305 : decode b_ThumbCoreModel_kinds 305 = .ok (.ifCond .eq 12, 3) := by decide +kernel
theorem d_ThumbCoreModel_kinds_308 : decode b_ThumbCoreModel_kinds 308 = .ok (.aload_n 0, 1) := by decide +kernel
theorem d_ThumbCoreModel_kinds_309 : decode b_ThumbCoreModel_kinds 309 = .ok (.getfield 13, 3) := by decide +kernel
theorem d_ThumbCoreModel_kinds_312 : decode b_ThumbCoreModel_kinds 312 = .ok (.iload_n 1, 1) := by decide +kernel
theorem d_ThumbCoreModel_kinds_313 : decode b_ThumbCoreModel_kinds 313 = .ok (.iaload, 1) := by decide +kernel
theorem d_ThumbCoreModel_kinds_314 : decode b_ThumbCoreModel_kinds 314 = .ok (.goto 36, 3) := by decide +kernel
theorem d_ThumbCoreModel_kinds_317 : decode b_ThumbCoreModel_kinds 317 = .ok (.iload_n 3, 1) := by decide +kernel
theorem d_ThumbCoreModel_kinds_318 : decode b_ThumbCoreModel_kinds 318 = .ok (.ifCond .ne 8, 3) := by decide +kernel
theorem d_ThumbCoreModel_kinds_321 : decode b_ThumbCoreModel_kinds 321 = .ok (.iload 4, 2) := by decide +kernel
theorem d_ThumbCoreModel_kinds_323 : decode b_ThumbCoreModel_kinds 323 = .ok (.goto 27, 3) := by decide +kernel
theorem d_ThumbCoreModel_kinds_326 : decode b_ThumbCoreModel_kinds 326 = .ok (.iload_n 3, 1) := by decide +kernel
theorem d_ThumbCoreModel_kinds_327 : decode b_ThumbCoreModel_kinds 327 = .ok (.iconst 1, 1) := by decide +kernel
theorem d_ThumbCoreModel_kinds_328 : decode b_ThumbCoreModel_kinds 328 = .ok (.if_icmp .ne 17, 3) := by decide +kernel
theorem d_ThumbCoreModel_kinds_331 : decode b_ThumbCoreModel_kinds 331 = .ok (.iload 4, 2) := by decide +kernel
theorem d_ThumbCoreModel_kinds_333 : decode b_ThumbCoreModel_kinds 333 = .ok (.bipush 16, 2) := by decide +kernel
theorem d_ThumbCoreModel_kinds_335 : decode b_ThumbCoreModel_kinds 335 = .ok (.ishl, 1) := by decide +kernel
theorem d_ThumbCoreModel_kinds_336 : decode b_ThumbCoreModel_kinds 336 = .ok (.iload 4, 2) := by decide +kernel
theorem d_ThumbCoreModel_kinds_338 : decode b_ThumbCoreModel_kinds 338 = .ok (.bipush 16, 2) := by decide +kernel
theorem d_ThumbCoreModel_kinds_340 : decode b_ThumbCoreModel_kinds 340 = .ok (.iushr, 1) := by decide +kernel
theorem d_ThumbCoreModel_kinds_341 : decode b_ThumbCoreModel_kinds 341 = .ok (.ior, 1) := by decide +kernel
theorem d_ThumbCoreModel_kinds_342 : decode b_ThumbCoreModel_kinds 342 = .ok (.goto 8, 3) := by decide +kernel
theorem d_ThumbCoreModel_kinds_345 : decode b_ThumbCoreModel_kinds 345 = .ok (.iload 4, 2) := by decide +kernel
theorem d_ThumbCoreModel_kinds_347 : decode b_ThumbCoreModel_kinds 347 = .ok (.bipush 16, 2) := by decide +kernel
theorem d_ThumbCoreModel_kinds_349 : decode b_ThumbCoreModel_kinds 349 = .ok (.ishr, 1) := by decide +kernel
theorem d_ThumbCoreModel_kinds_350 : decode b_ThumbCoreModel_kinds 350 = .ok (.iastore, 1) := by decide +kernel
theorem d_ThumbCoreModel_kinds_351 : decode b_ThumbCoreModel_kinds 351 = .ok (.goto 64, 3) := by decide +kernel
theorem d_ThumbCoreModel_kinds_354 : decode b_ThumbCoreModel_kinds 354 = .ok (.aload_n 0, 1) := by decide +kernel
theorem d_ThumbCoreModel_kinds_355 : decode b_ThumbCoreModel_kinds 355 = .ok (.invokevirtual 160, 3) := by decide +kernel
theorem d_ThumbCoreModel_kinds_358 : decode b_ThumbCoreModel_kinds 358 = .ok (.goto 57, 3) := by decide +kernel
theorem d_ThumbCoreModel_kinds_361 : decode b_ThumbCoreModel_kinds 361 = .ok (.aload_n 0, 1) := by decide +kernel
theorem d_ThumbCoreModel_kinds_362 : decode b_ThumbCoreModel_kinds 362 = .ok (.aload_n 0, 1) := by decide +kernel
theorem d_ThumbCoreModel_kinds_363 : decode b_ThumbCoreModel_kinds 363 = .ok (.getfield 125, 3) := by decide +kernel
theorem d_ThumbCoreModel_kinds_366 : decode b_ThumbCoreModel_kinds 366 = .ok (.ldc 163, 2) := by decide +kernel
theorem d_ThumbCoreModel_kinds_368 : decode b_ThumbCoreModel_kinds 368 = .ok (.if_icmp .eq 17, 3) := by decide +kernel
theorem d_ThumbCoreModel_kinds_371 : decode b_ThumbCoreModel_kinds 371 = .ok (.aload_n 0, 1) := by decide +kernel
theorem d_ThumbCoreModel_kinds_372 : decode b_ThumbCoreModel_kinds 372 = .ok (.getfield 125, 3) := by decide +kernel
theorem d_ThumbCoreModel_kinds_375 : decode b_ThumbCoreModel_kinds 375 = .ok (.bipush 16, 2) := by decide +kernel
theorem d_ThumbCoreModel_kinds_377 : decode b_ThumbCoreModel_kinds 377 = .ok (.irem, 1) := by decide +kernel
theorem d_ThumbCoreModel_kinds_378 : decode b_ThumbCoreModel_kinds 378 = .ok (.ifCond .eq 7, 3) := by decide +kernel
theorem d_ThumbCoreModel_kinds_381 : decode b_ThumbCoreModel_kinds 381 = .ok (.iconst 1, 1) := by decide +kernel
theorem d_ThumbCoreModel_kinds_382 : decode b_ThumbCoreModel_kinds 382 = .ok (.goto 4, 3) := by decide +kernel
theorem d_ThumbCoreModel_kinds_385 : decode b_ThumbCoreModel_kinds 385 = .ok (.iconst 0, 1) := by decide +kernel
theorem d_ThumbCoreModel_kinds_386 : decode b_ThumbCoreModel_kinds 386 = .ok (.putfield 41, 3) := by decide +kernel
theorem d_ThumbCoreModel_kinds_389 : decode b_ThumbCoreModel_kinds 389 = .ok (.aload_n 0, 1) := by decide +kernel
theorem d_ThumbCoreModel_kinds_390 : decode b_ThumbCoreModel_kinds 390 = .ok (.aload_n 0, 1) := by decide +kernel
theorem d_ThumbCoreModel_kinds_391 : decode b_ThumbCoreModel_kinds 391 = .ok (.getfield 125, 3) := by decide +kernel
theorem d_ThumbCoreModel_kinds_394 : decode b_ThumbCoreModel_kinds 394 = .ok (.ldc 163, 2) := by decide +kernel
theorem d_ThumbCoreModel_kinds_396 : decode b_ThumbCoreModel_kinds 396 = .ok (.if_icmp .ne 7, 3) := by decide +kernel
theorem d_ThumbCoreModel_kinds_399 : decode b_ThumbCoreModel_kinds 399 = .ok (.iconst 1, 1) := by decide +kernel
theorem d_ThumbCoreModel_kinds_400 : decode b_ThumbCoreModel_kinds 400 = .ok (.goto 4, 3) := by decide +kernel
theorem d_ThumbCoreModel_kinds_403 : decode b_ThumbCoreModel_kinds 403 = .ok (.iconst 0, 1) := by decide +kernel
theorem d_ThumbCoreModel_kinds_404 : decode b_ThumbCoreModel_kinds 404 = .ok (.putfield 56, 3) := by decide +kernel
theorem d_ThumbCoreModel_kinds_407 : decode b_ThumbCoreModel_kinds 407 = .ok (.goto 8, 3) := by decide +kernel
theorem d_ThumbCoreModel_kinds_410 : decode b_ThumbCoreModel_kinds 410 = .ok (.aload_n 0, 1) := by decide +kernel
theorem d_ThumbCoreModel_kinds_411 : decode b_ThumbCoreModel_kinds 411 = .ok (.iconst 1, 1) := by decide +kernel
theorem d_ThumbCoreModel_kinds_412 : decode b_ThumbCoreModel_kinds 412 = .ok (.putfield 41, 3) := by decide +kernel
theorem d_ThumbCoreModel_kinds_415 : decode b_ThumbCoreModel_kinds 415 = .ok (.aload_n 0, 1) := by decide +kernel
theorem d_ThumbCoreModel_kinds_416 : decode b_ThumbCoreModel_kinds 416 = .ok (.getfield 41, 3) := by decide +kernel
theorem d_ThumbCoreModel_kinds_419 : decode b_ThumbCoreModel_kinds 419 = .ok (.ifCond .ne 43, 3) := by decide +kernel
theorem d_ThumbCoreModel_kinds_422 : decode b_ThumbCoreModel_kinds 422 = .ok (.aload_n 0, 1) := by decide +kernel
theorem d_ThumbCoreModel_kinds_423 : decode b_ThumbCoreModel_kinds 423 = .ok (.getfield 125, 3) := by decide +kernel
theorem d_ThumbCoreModel_kinds_426 : decode b_ThumbCoreModel_kinds 426 = .ok (.bipush 8, 2) := by decide +kernel
theorem d_ThumbCoreModel_kinds_428 : decode b_ThumbCoreModel_kinds 428 = .ok (.ishr, 1) := by decide +kernel
theorem d_ThumbCoreModel_kinds_429 : decode b_ThumbCoreModel_kinds 429 = .ok (.bipush 15, 2) := by decide +kernel
theorem d_ThumbCoreModel_kinds_431 : decode b_ThumbCoreModel_kinds 431 = .ok (.iand, 1) := by decide +kernel
theorem d_ThumbCoreModel_kinds_432 : decode b_ThumbCoreModel_kinds 432 = .ok (.bipush 10, 2) := by decide +kernel
theorem d_ThumbCoreModel_kinds_434 : decode b_ThumbCoreModel_kinds 434 = .ok (.if_icmp .ne 28, 3) := by decide +kernel
theorem d_ThumbCoreModel_kinds_437 : decode b_ThumbCoreModel_kinds 437 = .ok (.iload_n 3, 1) := by decide +kernel
theorem d_ThumbCoreModel_kinds_438 : decode b_ThumbCoreModel_kinds 438 = .ok (.iconst 3, 1) := by decide +kernel
theorem d_ThumbCoreModel_kinds_439 : decode b_ThumbCoreModel_kinds 439 = .ok (.if_icmp .ne 23, 3) := by decide +kernel
theorem d_ThumbCoreModel_kinds_442 : decode b_ThumbCoreModel_kinds 442 = .ok (.aload_n 0, 1) := by decide +kernel
theorem d_ThumbCoreModel_kinds_443 : decode b_ThumbCoreModel_kinds 443 = .ok (.getfield 13, 3) := by decide +kernel
theorem d_ThumbCoreModel_kinds_446 : decode b_ThumbCoreModel_kinds 446 = .ok (.iload_n 1, 1) := by decide +kernel
theorem d_ThumbCoreModel_kinds_447 : decode b_ThumbCoreModel_kinds 447 = .ok (.iload_n 2, 1) := by decide +kernel
theorem d_ThumbCoreModel_kinds_448 : decode b_ThumbCoreModel_kinds 448 = .ok (.bipush 8, 2) := by decide +kernel
theorem d_ThumbCoreModel_kinds_450 : decode b_ThumbCoreModel_kinds 450 = .ok (.ishl, 1) := by decide +kernel
theorem d_ThumbCoreModel_kinds_451 : decode b_ThumbCoreModel_kinds 451 = .ok (.iload_n 2, 1) := by decide +kernel
theorem d_ThumbCoreModel_kinds_452 : decode b_ThumbCoreModel_kinds 452 = .ok (.bipush 8, 2) := by decide +kernel
theorem d_ThumbCoreModel_kinds_454 : decode b_ThumbCoreModel_kinds 454 = .ok (.ishr, 1) := by decide +kernel
theorem d_ThumbCoreModel_kinds_455 : decode b_ThumbCoreModel_kinds 455 = .ok (.sipush 255, 3) := by decide +kernel
theorem d_ThumbCoreModel_kinds_458 : decode b_ThumbCoreModel_kinds 458 = .ok (.iand, 1) := by decide +kernel
theorem d_ThumbCoreModel_kinds_459 : decode b_ThumbCoreModel_kinds 459 = .ok (.ior, 1) := by decide +kernel
theorem d_ThumbCoreModel_kinds_460 : decode b_ThumbCoreModel_kinds 460 = .ok (.i2s, 1) := by decide +kernel
theorem d_ThumbCoreModel_kinds_461 : decode b_ThumbCoreModel_kinds 461 = .ok (.iastore, 1) := by decide +kernel
theorem d_ThumbCoreModel_kinds_462 : decode b_ThumbCoreModel_kinds 462 = .ok (.return_, 1) := by decide +kernel
theorem d_ThumbCoreModel_meets_0 : decode b_ThumbCoreModel_meets 0 = .ok (.iload_n 1, 1) := by decide +kernel
theorem d_ThumbCoreModel_meets_1 : decode b_ThumbCoreModel_meets 1 = .ok (.iconst 2, 1) := by decide +kernel
theorem d_ThumbCoreModel_meets_2 : decode b_ThumbCoreModel_meets 2 = .ok (.if_icmp .ge 10, 3) := by decide +kernel
theorem d_ThumbCoreModel_meets_5 : decode b_ThumbCoreModel_meets 5 = .ok (.aload_n 0, 1) := by decide +kernel
theorem d_ThumbCoreModel_meets_6 : decode b_ThumbCoreModel_meets 6 = .ok (.getfield 77, 3) := by decide +kernel
theorem d_ThumbCoreModel_meets_9 : decode b_ThumbCoreModel_meets 9 = .ok (.goto 117, 3) := by decide +kernel
theorem d_ThumbCoreModel_meets_12 : decode b_ThumbCoreModel_meets 12 = .ok (.iload_n 1, 1) := by decide +kernel
theorem d_ThumbCoreModel_meets_13 : decode b_ThumbCoreModel_meets 13 = .ok (.iconst 4, 1) := by decide +kernel
theorem d_ThumbCoreModel_meets_14 : decode b_ThumbCoreModel_meets 14 = .ok (.if_icmp .ge 10, 3) := by decide +kernel
theorem d_ThumbCoreModel_meets_17 : decode b_ThumbCoreModel_meets 17 = .ok (.aload_n 0, 1) := by decide +kernel
theorem d_ThumbCoreModel_meets_18 : decode b_ThumbCoreModel_meets 18 = .ok (.getfield 80, 3) := by decide +kernel
