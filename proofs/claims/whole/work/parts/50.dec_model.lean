theorem dX8_init_0 : decode cX8_init 0 = .ok (.aload_n 0, 1) := by decide +kernel
theorem dX8_init_1 : decode cX8_init 1 = .ok (.invokespecial 1, 3) := by decide +kernel
theorem dX8_init_4 : decode cX8_init 4 = .ok (.aload_n 0, 1) := by decide +kernel
theorem dX8_init_5 : decode cX8_init 5 = .ok (.bipush 80, 2) := by decide +kernel
theorem dX8_init_7 : decode cX8_init 7 = .ok (.newarray .char, 2) := by decide +kernel
theorem dX8_init_9 : decode cX8_init 9 = .ok (.putfield 7, 3) := by decide +kernel
theorem dX8_init_12 : decode cX8_init 12 = .ok (.aload_n 0, 1) := by decide +kernel
theorem dX8_init_13 : decode cX8_init 13 = .ok (.bipush 80, 2) := by decide +kernel
theorem dX8_init_15 : decode cX8_init 15 = .ok (.newarray .int, 2) := by decide +kernel
theorem dX8_init_17 : decode cX8_init 17 = .ok (.putfield 13, 3) := by decide +kernel
theorem dX8_init_20 : decode cX8_init 20 = .ok (.aload_n 0, 1) := by decide +kernel
theorem dX8_init_21 : decode cX8_init 21 = .ok (.bipush 80, 2) := by decide +kernel
theorem dX8_init_23 : decode cX8_init 23 = .ok (.newarray .int, 2) := by decide +kernel
theorem dX8_init_25 : decode cX8_init 25 = .ok (.putfield 17, 3) := by decide +kernel
theorem dX8_init_28 : decode cX8_init 28 = .ok (.aload_n 0, 1) := by decide +kernel
theorem dX8_init_29 : decode cX8_init 29 = .ok (.bipush 80, 2) := by decide +kernel
theorem dX8_init_31 : decode cX8_init 31 = .ok (.newarray .int, 2) := by decide +kernel
theorem dX8_init_33 : decode cX8_init 33 = .ok (.putfield 20, 3) := by decide +kernel
theorem dX8_init_36 : decode cX8_init 36 = .ok (.aload_n 0, 1) := by decide +kernel
theorem dX8_init_37 : decode cX8_init 37 = .ok (.bipush 80, 2) := by decide +kernel
theorem dX8_init_39 : decode cX8_init 39 = .ok (.newarray .int, 2) := by decide +kernel
theorem dX8_init_41 : decode cX8_init 41 = .ok (.putfield 23, 3) := by decide +kernel
theorem dX8_init_44 : decode cX8_init 44 = .ok (.aload_n 0, 1) := by decide +kernel
theorem dX8_init_45 : decode cX8_init 45 = .ok (.bipush 80, 2) := by decide +kernel
theorem dX8_init_47 : decode cX8_init 47 = .ok (.newarray .int, 2) := by decide +kernel
theorem dX8_init_49 : decode cX8_init 49 = .ok (.putfield 26, 3) := by decide +kernel
theorem dX8_init_52 : decode cX8_init 52 = .ok (.aload_n 0, 1) := by decide +kernel
theorem dX8_init_53 : decode cX8_init 53 = .ok (.bipush 80, 2) := by decide +kernel
theorem dX8_init_55 : decode cX8_init 55 = .ok (.newarray .boolean, 2) := by decide +kernel
theorem dX8_init_57 : decode cX8_init 57 = .ok (.putfield 29, 3) := by decide +kernel
theorem dX8_init_60 : decode cX8_init 60 = .ok (.aload_n 0, 1) := by decide +kernel
theorem dX8_init_61 : decode cX8_init 61 = .ok (.bipush 80, 2) := by decide +kernel
theorem dX8_init_63 : decode cX8_init 63 = .ok (.newarray .boolean, 2) := by decide +kernel
theorem dX8_init_65 : decode cX8_init 65 = .ok (.putfield 33, 3) := by decide +kernel
theorem dX8_init_68 : decode cX8_init 68 = .ok (.aload_n 0, 1) := by decide +kernel
theorem dX8_init_69 : decode cX8_init 69 = .ok (.bipush 80, 2) := by decide +kernel
theorem dX8_init_71 : decode cX8_init 71 = .ok (.newarray .boolean, 2) := by decide +kernel
theorem dX8_init_73 : decode cX8_init 73 = .ok (.putfield 36, 3) := by decide +kernel
theorem dX8_init_76 : decode cX8_init 76 = .ok (.aload_n 0, 1) := by decide +kernel
theorem dX8_init_77 : decode cX8_init 77 = .ok (.bipush 12, 2) := by decide +kernel
theorem dX8_init_79 : decode cX8_init 79 = .ok (.newarray .char, 2) := by decide +kernel
theorem dX8_init_81 : decode cX8_init 81 = .ok (.putfield 39, 3) := by decide +kernel
theorem dX8_init_84 : decode cX8_init 84 = .ok (.aload_n 0, 1) := by decide +kernel
theorem dX8_init_85 : decode cX8_init 85 = .ok (.bipush 12, 2) := by decide +kernel
theorem dX8_init_87 : decode cX8_init 87 = .ok (.newarray .char, 2) := by decide +kernel
theorem dX8_init_89 : decode cX8_init 89 = .ok (.putfield 42, 3) := by decide +kernel
theorem dX8_init_92 : decode cX8_init 92 = .ok (.aload_n 0, 1) := by decide +kernel
theorem dX8_init_93 : decode cX8_init 93 = .ok (.bipush 12, 2) := by decide +kernel
theorem dX8_init_95 : decode cX8_init 95 = .ok (.newarray .int, 2) := by decide +kernel
theorem dX8_init_97 : decode cX8_init 97 = .ok (.putfield 45, 3) := by decide +kernel
theorem dX8_init_100 : decode cX8_init 100 = .ok (.aload_n 0, 1) := by decide +kernel
theorem dX8_init_101 : decode cX8_init 101 = .ok (.bipush 12, 2) := by decide +kernel
theorem dX8_init_103 : decode cX8_init 103 = .ok (.newarray .int, 2) := by decide +kernel
theorem dX8_init_105 : decode cX8_init 105 = .ok (.putfield 48, 3) := by decide +kernel
theorem dX8_init_108 : decode cX8_init 108 = .ok (.aload_n 0, 1) := by decide +kernel
theorem dX8_init_109 : decode cX8_init 109 = .ok (.bipush 12, 2) := by decide +kernel
theorem dX8_init_111 : decode cX8_init 111 = .ok (.newarray .int, 2) := by decide +kernel
theorem dX8_init_113 : decode cX8_init 113 = .ok (.putfield 51, 3) := by decide +kernel
theorem dX8_init_116 : decode cX8_init 116 = .ok (.aload_n 0, 1) := by decide +kernel
theorem dX8_init_117 : decode cX8_init 117 = .ok (.bipush 12, 2) := by decide +kernel
theorem dX8_init_119 : decode cX8_init 119 = .ok (.newarray .int, 2) := by decide +kernel
theorem dX8_init_121 : decode cX8_init 121 = .ok (.putfield 54, 3) := by decide +kernel
theorem dX8_init_124 : decode cX8_init 124 = .ok (.aload_n 0, 1) := by decide +kernel
theorem dX8_init_125 : decode cX8_init 125 = .ok (.bipush 6, 2) := by decide +kernel
theorem dX8_init_127 : decode cX8_init 127 = .ok (.newarray .int, 2) := by decide +kernel
theorem dX8_init_129 : decode cX8_init 129 = .ok (.putfield 57, 3) := by decide +kernel
theorem dX8_init_132 : decode cX8_init 132 = .ok (.aload_n 0, 1) := by decide +kernel
theorem dX8_init_133 : decode cX8_init 133 = .ok (.bipush 6, 2) := by decide +kernel
theorem dX8_init_135 : decode cX8_init 135 = .ok (.newarray .int, 2) := by decide +kernel
theorem dX8_init_137 : decode cX8_init 137 = .ok (.putfield 60, 3) := by decide +kernel
theorem dX8_init_140 : decode cX8_init 140 = .ok (.aload_n 0, 1) := by decide +kernel
theorem dX8_init_141 : decode cX8_init 141 = .ok (.bipush 6, 2) := by decide +kernel
theorem dX8_init_143 : decode cX8_init 143 = .ok (.newarray .int, 2) := by decide +kernel
theorem dX8_init_145 : decode cX8_init 145 = .ok (.putfield 63, 3) := by decide +kernel
theorem dX8_init_148 : decode cX8_init 148 = .ok (.aload_n 0, 1) := by decide +kernel
theorem dX8_init_149 : decode cX8_init 149 = .ok (.bipush 6, 2) := by decide +kernel
theorem dX8_init_151 : decode cX8_init 151 = .ok (.newarray .int, 2) := by decide +kernel
theorem dX8_init_153 : decode cX8_init 153 = .ok (.putfield 66, 3) := by decide +kernel
theorem dX8_init_156 : decode cX8_init 156 = .ok (.aload_n 0, 1) := by decide +kernel
theorem dX8_init_157 : decode cX8_init 157 = .ok (.bipush 12, 2) := by decide +kernel
theorem dX8_init_159 : decode cX8_init 159 = .ok (.newarray .int, 2) := by decide +kernel
theorem dX8_init_161 : decode cX8_init 161 = .ok (.putfield 69, 3) := by decide +kernel
theorem dX8_init_164 : decode cX8_init 164 = .ok (.aload_n 0, 1) := by decide +kernel
theorem dX8_init_165 : decode cX8_init 165 = .ok (.bipush 12, 2) := by decide +kernel
theorem dX8_init_167 : decode cX8_init 167 = .ok (.newarray .int, 2) := by decide +kernel
theorem dX8_init_169 : decode cX8_init 169 = .ok (.putfield 72, 3) := by decide +kernel
theorem dX8_init_172 : decode cX8_init 172 = .ok (.aload_n 0, 1) := by decide +kernel
theorem dX8_init_173 : decode cX8_init 173 = .ok (.bipush 12, 2) := by decide +kernel
theorem dX8_init_175 : decode cX8_init 175 = .ok (.newarray .int, 2) := by decide +kernel
theorem dX8_init_177 : decode cX8_init 177 = .ok (.putfield 75, 3) := by decide +kernel
theorem dX8_init_180 : decode cX8_init 180 = .ok (.aload_n 0, 1) := by decide +kernel
theorem dX8_init_181 : decode cX8_init 181 = .ok (.bipush 12, 2) := by decide +kernel
theorem dX8_init_183 : decode cX8_init 183 = .ok (.newarray .int, 2) := by decide +kernel
theorem dX8_init_185 : decode cX8_init 185 = .ok (.putfield 78, 3) := by decide +kernel
theorem dX8_init_188 : decode cX8_init 188 = .ok (.aload_n 0, 1) := by decide +kernel
theorem dX8_init_189 : decode cX8_init 189 = .ok (.iconst 0, 1) := by decide +kernel
theorem dX8_init_190 : decode cX8_init 190 = .ok (.putfield 81, 3) := by decide +kernel
theorem dX8_init_193 : decode cX8_init 193 = .ok (.aload_n 0, 1) := by decide +kernel
theorem dX8_init_194 : decode cX8_init 194 = .ok (.iconst 0, 1) := by decide +kernel
theorem dX8_init_195 : decode cX8_init 195 = .ok (.putfield 85, 3) := by decide +kernel
theorem dX8_init_198 : decode cX8_init 198 = .ok (.aload_n 0, 1) := by decide +kernel
theorem dX8_init_199 : decode cX8_init 199 = .ok (.iconst 0, 1) := by decide +kernel
theorem dX8_init_200 : decode cX8_init 200 = .ok (.putfield 88, 3) := by decide +kernel
theorem dX8_init_203 : decode cX8_init 203 = .ok (.aload_n 0, 1) := by decide +kernel
theorem dX8_init_204 : decode cX8_init 204 = .ok (.iconst 0, 1) := by decide +kernel
theorem dX8_init_205 : decode cX8_init 205 = .ok (.putfield 91, 3) := by decide +kernel
theorem dX8_init_208 : decode cX8_init 208 = .ok (.aload_n 0, 1) := by decide +kernel
theorem dX8_init_209 : decode cX8_init 209 = .ok (.iconst 0, 1) := by decide +kernel
theorem dX8_init_210 : decode cX8_init 210 = .ok (.putfield 94, 3) := by decide +kernel
theorem dX8_init_213 : decode cX8_init 213 = .ok (.aload_n 0, 1) := by decide +kernel
theorem dX8_init_214 : decode cX8_init 214 = .ok (.bipush 40, 2) := by decide +kernel
theorem dX8_init_216 : decode cX8_init 216 = .ok (.putfield 97, 3) := by decide +kernel
theorem dX8_init_219 : decode cX8_init 219 = .ok (.aload_n 0, 1) := by decide +kernel
theorem dX8_init_220 : decode cX8_init 220 = .ok (.iconst 0, 1) := by decide +kernel
theorem dX8_init_221 : decode cX8_init 221 = .ok (.putfield 100, 3) := by decide +kernel
theorem dX8_init_224 : decode cX8_init 224 = .ok (.aload_n 0, 1) := by decide +kernel
theorem dX8_init_225 : decode cX8_init 225 = .ok (.iconst 0, 1) := by decide +kernel
theorem dX8_init_226 : decode cX8_init 226 = .ok (.putfield 103, 3) := by decide +kernel
theorem dX8_init_229 : decode cX8_init 229 = .ok (.aload_n 0, 1) := by decide +kernel
theorem dX8_init_230 : decode cX8_init 230 = .ok (.iconst 0, 1) := by decide +kernel
theorem dX8_init_231 : decode cX8_init 231 = .ok (.putfield 106, 3) := by decide +kernel
theorem dX8_init_234 : decode cX8_init 234 = .ok (.aload_n 0, 1) := by decide +kernel
theorem dX8_init_235 : decode cX8_init 235 = .ok (.iconst 0, 1) := by decide +kernel
theorem dX8_init_236 : decode cX8_init 236 = .ok (.putfield 109, 3) := by decide +kernel
theorem dX8_init_239 : decode cX8_init 239 = .ok (.aload_n 0, 1) := by decide +kernel
theorem dX8_init_240 : decode cX8_init 240 = .ok (.iconst 0, 1) := by decide +kernel
theorem dX8_init_241 : decode cX8_init 241 = .ok (.putfield 112, 3) := by decide +kernel
theorem dX8_init_244 : decode cX8_init 244 = .ok (.aload_n 0, 1) := by decide +kernel
theorem dX8_init_245 : decode cX8_init 245 = .ok (.iconst 0, 1) := by decide +kernel
theorem dX8_init_246 : decode cX8_init 246 = .ok (.putfield 115, 3) := by decide +kernel
theorem dX8_init_249 : decode cX8_init 249 = .ok (.aload_n 0, 1) := by decide +kernel
theorem dX8_init_250 : decode cX8_init 250 = .ok (.iconst 0, 1) := by decide +kernel
theorem dX8_init_251 : decode cX8_init 251 = .ok (.putfield 118, 3) := by decide +kernel
theorem dX8_init_254 : decode cX8_init 254 = .ok (.aload_n 0, 1) := by decide +kernel
theorem dX8_init_255 : decode cX8_init 255 = .ok (.iconst 0, 1) := by decide +kernel
theorem dX8_init_256 : decode cX8_init 256 = .ok (.putfield 121, 3) := by decide +kernel
theorem dX8_init_259 : decode cX8_init 259 = .ok (.iconst 0, 1) := by decide +kernel
theorem dX8_init_260 : decode cX8_init 260 = .ok (.istore_n 1, 1) := by decide +kernel
theorem dX8_init_261 : decode cX8_init 261 = .ok (.iload_n 1, 1) := by decide +kernel
theorem dX8_init_262 : decode cX8_init 262 = .ok (.bipush 80, 2) := by decide +kernel
theorem dX8_init_264 : decode cX8_init 264 = .ok (.if_icmp .ge 14, 3) := by decide +kernel
theorem dX8_init_267 : decode cX8_init 267 = .ok (.aload_n 0, 1) := by decide +kernel
theorem dX8_init_268 : decode cX8_init 268 = .ok (.iload_n 1, 1) := by decide +kernel
theorem dX8_init_269 : decode cX8_init 269 = .ok (.invokevirtual 124, 3) := by decide +kernel
theorem dX8_init_272 : decode cX8_init 272 = .ok (.iinc 1 1, 3) := by decide +kernel
theorem dX8_init_275 : decode cX8_init 275 = .ok (.goto (-14), 3) := by decide +kernel
theorem dX8_init_278 : decode cX8_init 278 = .ok (.return_, 1) := by decide +kernel
theorem dX8_thrown_0 : decode cX8_thrown 0 = .ok (.aload_n 0, 1) := by decide +kernel
theorem dX8_thrown_1 : decode cX8_thrown 1 = .ok (.getfield 121, 3) := by decide +kernel
theorem dX8_thrown_4 : decode cX8_thrown 4 = .ok (.ireturn, 1) := by decide +kernel
theorem dX8_in_0 : decode cX8_in 0 = .ok (.iload_n 0, 1) := by decide +kernel
theorem dX8_in_1 : decode cX8_in 1 = .ok (.iload_n 1, 1) := by decide +kernel
theorem dX8_in_2 : decode cX8_in 2 = .ok (.if_icmp .lt 12, 3) := by decide +kernel
theorem dX8_in_5 : decode cX8_in 5 = .ok (.iload_n 0, 1) := by decide +kernel
theorem dX8_in_6 : decode cX8_in 6 = .ok (.iload_n 2, 1) := by decide +kernel
theorem dX8_in_7 : decode cX8_in 7 = .ok (.if_icmp .gt 7, 3) := by decide +kernel
theorem dX8_in_10 : decode cX8_in 10 = .ok (.iconst 1, 1) := by decide +kernel
theorem dX8_in_11 : decode cX8_in 11 = .ok (.goto 4, 3) := by decide +kernel
theorem dX8_in_14 : decode cX8_in 14 = .ok (.iconst 0, 1) := by decide +kernel
theorem dX8_in_15 : decode cX8_in 15 = .ok (.ireturn, 1) := by decide +kernel
theorem dX8_least_0 : decode cX8_least 0 = .ok (.iload_n 0, 1) := by decide +kernel
theorem dX8_least_1 : decode cX8_least 1 = .ok (.iload_n 1, 1) := by decide +kernel
theorem dX8_least_2 : decode cX8_least 2 = .ok (.if_icmp .ge 7, 3) := by decide +kernel
theorem dX8_least_5 : decode cX8_least 5 = .ok (.iload_n 0, 1) := by decide +kernel
theorem dX8_least_6 : decode cX8_least 6 = .ok (.goto 4, 3) := by decide +kernel
theorem dX8_least_9 : decode cX8_least 9 = .ok (.iload_n 1, 1) := by decide +kernel
theorem dX8_least_10 : decode cX8_least 10 = .ok (.ireturn, 1) := by decide +kernel
theorem dX8_most_0 : decode cX8_most 0 = .ok (.iload_n 0, 1) := by decide +kernel
theorem dX8_most_1 : decode cX8_most 1 = .ok (.iload_n 1, 1) := by decide +kernel
theorem dX8_most_2 : decode cX8_most 2 = .ok (.if_icmp .le 7, 3) := by decide +kernel
theorem dX8_most_5 : decode cX8_most 5 = .ok (.iload_n 0, 1) := by decide +kernel
theorem dX8_most_6 : decode cX8_most 6 = .ok (.goto 4, 3) := by decide +kernel
theorem dX8_most_9 : decode cX8_most 9 = .ok (.iload_n 1, 1) := by decide +kernel
theorem dX8_most_10 : decode cX8_most 10 = .ok (.ireturn, 1) := by decide +kernel
theorem dX8_fails_0 : decode cX8_fails 0 = .ok (.aload_n 0, 1) := by decide +kernel
theorem dX8_fails_1 : decode cX8_fails 1 = .ok (.iload_n 1, 1) := by decide +kernel
theorem dX8_fails_2 : decode cX8_fails 2 = .ok (.putfield 121, 3) := by decide +kernel
theorem dX8_fails_5 : decode cX8_fails 5 = .ok (.iconst 0, 1) := by decide +kernel
theorem dX8_fails_6 : decode cX8_fails 6 = .ok (.ireturn, 1) := by decide +kernel
theorem dX8_failsAs_0 : decode cX8_failsAs 0 = .ok (.aload_n 0, 1) := by decide +kernel
theorem dX8_failsAs_1 : decode cX8_failsAs 1 = .ok (.iload_n 1, 1) := by decide +kernel
theorem dX8_failsAs_2 : decode cX8_failsAs 2 = .ok (.putfield 121, 3) := by decide +kernel
theorem dX8_failsAs_5 : decode cX8_failsAs 5 = .ok (.bipush 32, 2) := by decide +kernel
theorem dX8_failsAs_7 : decode cX8_failsAs 7 = .ok (.ireturn, 1) := by decide +kernel
theorem dX8_tells_0 : decode cX8_tells 0 = .ok (.aload_n 0, 1) := by decide +kernel
theorem dX8_tells_1 : decode cX8_tells 1 = .ok (.iconst 0, 1) := by decide +kernel
theorem dX8_tells_2 : decode cX8_tells 2 = .ok (.putfield 121, 3) := by decide +kernel
theorem dX8_tells_5 : decode cX8_tells 5 = .ok (.iload_n 1, 1) := by decide +kernel
theorem dX8_tells_6 : decode cX8_tells 6 = .ok (.ireturn, 1) := by decide +kernel
theorem dX8_tellsAs_0 : decode cX8_tellsAs 0 = .ok (.aload_n 0, 1) := by decide +kernel
theorem dX8_tellsAs_1 : decode cX8_tellsAs 1 = .ok (.iconst 0, 1) := by decide +kernel
theorem dX8_tellsAs_2 : decode cX8_tellsAs 2 = .ok (.putfield 121, 3) := by decide +kernel
theorem dX8_tellsAs_5 : decode cX8_tellsAs 5 = .ok (.iload_n 1, 1) := by decide +kernel
theorem dX8_tellsAs_6 : decode cX8_tellsAs 6 = .ok (.ireturn, 1) := by decide +kernel
theorem dX8_failsIf_0 : decode cX8_failsIf 0 = .ok (.aload_n 0, 1) := by decide +kernel
theorem dX8_failsIf_1 : decode cX8_failsIf 1 = .ok (.iload_n 1, 1) := by decide +kernel
theorem dX8_failsIf_2 : decode cX8_failsIf 2 = .ok (.putfield 121, 3) := by decide +kernel
theorem dX8_failsIf_5 : decode cX8_failsIf 5 = .ok (.iload_n 1, 1) := by decide +kernel
theorem dX8_failsIf_6 : decode cX8_failsIf 6 = .ok (.ifCond .le 7, 3) := by decide +kernel
theorem dX8_failsIf_9 : decode cX8_failsIf 9 = .ok (.iconst 1, 1) := by decide +kernel
theorem dX8_failsIf_10 : decode cX8_failsIf 10 = .ok (.goto 4, 3) := by decide +kernel
theorem dX8_failsIf_13 : decode cX8_failsIf 13 = .ok (.iconst 0, 1) := by decide +kernel
theorem dX8_failsIf_14 : decode cX8_failsIf 14 = .ok (.ireturn, 1) := by decide +kernel
theorem dX8_isSeat_0 : decode cX8_isSeat 0 = .ok (.iload_n 1, 1) := by decide +kernel
theorem dX8_isSeat_1 : decode cX8_isSeat 1 = .ok (.iconst 0, 1) := by decide +kernel
theorem dX8_isSeat_2 : decode cX8_isSeat 2 = .ok (.aload_n 0, 1) := by decide +kernel
theorem dX8_isSeat_3 : decode cX8_isSeat 3 = .ok (.getfield 81, 3) := by decide +kernel
theorem dX8_isSeat_6 : decode cX8_isSeat 6 = .ok (.iconst 1, 1) := by decide +kernel
theorem dX8_isSeat_7 : decode cX8_isSeat 7 = .ok (.isub, 1) := by decide +kernel
theorem dX8_isSeat_8 : decode cX8_isSeat 8 = .ok (.invokestatic 128, 3) := by decide +kernel
theorem dX8_isSeat_11 : decode cX8_isSeat 11 = .ok (.ifCond .eq 21, 3) := by decide +kernel
theorem dX8_isSeat_14 : decode cX8_isSeat 14 = .ok (.iload_n 2, 1) := by decide +kernel
theorem dX8_isSeat_15 : decode cX8_isSeat 15 = .ok (.iconst 0, 1) := by decide +kernel
theorem dX8_isSeat_16 : decode cX8_isSeat 16 = .ok (.aload_n 0, 1) := by decide +kernel
theorem dX8_isSeat_17 : decode cX8_isSeat 17 = .ok (.getfield 85, 3) := by decide +kernel
theorem dX8_isSeat_20 : decode cX8_isSeat 20 = .ok (.iconst 1, 1) := by decide +kernel
theorem dX8_isSeat_21 : decode cX8_isSeat 21 = .ok (.isub, 1) := by decide +kernel
theorem dX8_isSeat_22 : decode cX8_isSeat 22 = .ok (.invokestatic 128, 3) := by decide +kernel
theorem dX8_isSeat_25 : decode cX8_isSeat 25 = .ok (.ifCond .eq 7, 3) := by decide +kernel
theorem dX8_isSeat_28 : decode cX8_isSeat 28 = .ok (.iconst 1, 1) := by decide +kernel
theorem dX8_isSeat_29 : decode cX8_isSeat 29 = .ok (.goto 4, 3) := by decide +kernel
theorem dX8_isSeat_32 : decode cX8_isSeat 32 = .ok (.iconst 0, 1) := by decide +kernel
theorem dX8_isSeat_33 : decode cX8_isSeat 33 = .ok (.ireturn, 1) := by decide +kernel
theorem dX8_isHand_0 : decode cX8_isHand 0 = .ok (.iload_n 1, 1) := by decide +kernel
theorem dX8_isHand_1 : decode cX8_isHand 1 = .ok (.iconst 0, 1) := by decide +kernel
theorem dX8_isHand_2 : decode cX8_isHand 2 = .ok (.aload_n 0, 1) := by decide +kernel
theorem dX8_isHand_3 : decode cX8_isHand 3 = .ok (.getfield 88, 3) := by decide +kernel
theorem dX8_isHand_6 : decode cX8_isHand 6 = .ok (.iconst 1, 1) := by decide +kernel
theorem dX8_isHand_7 : decode cX8_isHand 7 = .ok (.isub, 1) := by decide +kernel
theorem dX8_isHand_8 : decode cX8_isHand 8 = .ok (.invokestatic 128, 3) := by decide +kernel
theorem dX8_isHand_11 : decode cX8_isHand 11 = .ok (.ireturn, 1) := by decide +kernel
theorem dX8_isSinger_0 : decode cX8_isSinger 0 = .ok (.iload_n 1, 1) := by decide +kernel
theorem dX8_isSinger_1 : decode cX8_isSinger 1 = .ok (.iconst 0, 1) := by decide +kernel
theorem dX8_isSinger_2 : decode cX8_isSinger 2 = .ok (.aload_n 0, 1) := by decide +kernel
theorem dX8_isSinger_3 : decode cX8_isSinger 3 = .ok (.getfield 91, 3) := by decide +kernel
theorem dX8_isSinger_6 : decode cX8_isSinger 6 = .ok (.iconst 1, 1) := by decide +kernel
theorem dX8_isSinger_7 : decode cX8_isSinger 7 = .ok (.isub, 1) := by decide +kernel
theorem dX8_isSinger_8 : decode cX8_isSinger 8 = .ok (.invokestatic 128, 3) := by decide +kernel
theorem dX8_isSinger_11 : decode cX8_isSinger 11 = .ok (.ireturn, 1) := by decide +kernel
theorem dX8_empties_0 : decode cX8_empties 0 = .ok (.aload_n 0, 1) := by decide +kernel
theorem dX8_empties_1 : decode cX8_empties 1 = .ok (.getfield 7, 3) := by decide +kernel
theorem dX8_empties_4 : decode cX8_empties 4 = .ok (.iload_n 1, 1) := by decide +kernel
theorem dX8_empties_5 : decode cX8_empties 5 = .ok (.bipush 46, 2) := by decide +kernel
theorem dX8_empties_7 : decode cX8_empties 7 = .ok (.castore, 1) := by decide +kernel
theorem dX8_empties_8 : decode cX8_empties 8 = .ok (.aload_n 0, 1) := by decide +kernel
theorem dX8_empties_9 : decode cX8_empties 9 = .ok (.getfield 13, 3) := by decide +kernel
theorem dX8_empties_12 : decode cX8_empties 12 = .ok (.iload_n 1, 1) := by decide +kernel
theorem dX8_empties_13 : decode cX8_empties 13 = .ok (.iconst 0, 1) := by decide +kernel
theorem dX8_empties_14 : decode cX8_empties 14 = .ok (.iastore, 1) := by decide +kernel
theorem dX8_empties_15 : decode cX8_empties 15 = .ok (.aload_n 0, 1) := by decide +kernel
theorem dX8_empties_16 : decode cX8_empties 16 = .ok (.getfield 17, 3) := by decide +kernel
theorem dX8_empties_19 : decode cX8_empties 19 = .ok (.iload_n 1, 1) := by decide +kernel
theorem dX8_empties_20 : decode cX8_empties 20 = .ok (.iconst (-1), 1) := by decide +kernel
theorem dX8_empties_21 : decode cX8_empties 21 = .ok (.iastore, 1) := by decide +kernel
theorem dX8_empties_22 : decode cX8_empties 22 = .ok (.aload_n 0, 1) := by decide +kernel
theorem dX8_empties_23 : decode cX8_empties 23 = .ok (.iload_n 1, 1) := by decide +kernel
theorem dX8_empties_24 : decode cX8_empties 24 = .ok (.invokevirtual 132, 3) := by decide +kernel
theorem dX8_empties_27 : decode cX8_empties 27 = .ok (.return_, 1) := by decide +kernel
theorem dX8_rests_0 : decode cX8_rests 0 = .ok (.aload_n 0, 1) := by decide +kernel
theorem dX8_rests_1 : decode cX8_rests 1 = .ok (.getfield 20, 3) := by decide +kernel
theorem dX8_rests_4 : decode cX8_rests 4 = .ok (.iload_n 1, 1) := by decide +kernel
theorem dX8_rests_5 : decode cX8_rests 5 = .ok (.iconst 0, 1) := by decide +kernel
theorem dX8_rests_6 : decode cX8_rests 6 = .ok (.iastore, 1) := by decide +kernel
theorem dX8_rests_7 : decode cX8_rests 7 = .ok (.aload_n 0, 1) := by decide +kernel
theorem dX8_rests_8 : decode cX8_rests 8 = .ok (.getfield 23, 3) := by decide +kernel
theorem dX8_rests_11 : decode cX8_rests 11 = .ok (.iload_n 1, 1) := by decide +kernel
theorem dX8_rests_12 : decode cX8_rests 12 = .ok (.iconst 0, 1) := by decide +kernel
theorem dX8_rests_13 : decode cX8_rests 13 = .ok (.iastore, 1) := by decide +kernel
theorem dX8_rests_14 : decode cX8_rests 14 = .ok (.aload_n 0, 1) := by decide +kernel
theorem dX8_rests_15 : decode cX8_rests 15 = .ok (.getfield 29, 3) := by decide +kernel
theorem dX8_rests_18 : decode cX8_rests 18 = .ok (.iload_n 1, 1) := by decide +kernel
theorem dX8_rests_19 : decode cX8_rests 19 = .ok (.iconst 0, 1) := by decide +kernel
theorem dX8_rests_20 : decode cX8_rests 20 = .ok (.bastore, 1) := by decide +kernel
theorem dX8_rests_21 : decode cX8_rests 21 = .ok (.aload_n 0, 1) := by decide +kernel
theorem dX8_rests_22 : decode cX8_rests 22 = .ok (.getfield 33, 3) := by decide +kernel
theorem dX8_rests_25 : decode cX8_rests 25 = .ok (.iload_n 1, 1) := by decide +kernel
theorem dX8_rests_26 : decode cX8_rests 26 = .ok (.iconst 0, 1) := by decide +kernel
theorem dX8_rests_27 : decode cX8_rests 27 = .ok (.bastore, 1) := by decide +kernel
theorem dX8_rests_28 : decode cX8_rests 28 = .ok (.return_, 1) := by decide +kernel
theorem dX8_begins_0 : decode cX8_begins 0 = .ok (.aload_n 0, 1) := by decide +kernel
theorem dX8_begins_1 : decode cX8_begins 1 = .ok (.iconst 0, 1) := by decide +kernel
theorem dX8_begins_2 : decode cX8_begins 2 = .ok (.putfield 100, 3) := by decide +kernel
theorem dX8_begins_5 : decode cX8_begins 5 = .ok (.aload_n 0, 1) := by decide +kernel
theorem dX8_begins_6 : decode cX8_begins 6 = .ok (.iconst 0, 1) := by decide +kernel
theorem dX8_begins_7 : decode cX8_begins 7 = .ok (.putfield 103, 3) := by decide +kernel
theorem dX8_begins_10 : decode cX8_begins 10 = .ok (.aload_n 0, 1) := by decide +kernel
theorem dX8_begins_11 : decode cX8_begins 11 = .ok (.iconst 0, 1) := by decide +kernel
theorem dX8_begins_12 : decode cX8_begins 12 = .ok (.putfield 106, 3) := by decide +kernel
theorem dX8_begins_15 : decode cX8_begins 15 = .ok (.aload_n 0, 1) := by decide +kernel
theorem dX8_begins_16 : decode cX8_begins 16 = .ok (.iconst 0, 1) := by decide +kernel
theorem dX8_begins_17 : decode cX8_begins 17 = .ok (.putfield 109, 3) := by decide +kernel
theorem dX8_begins_20 : decode cX8_begins 20 = .ok (.aload_n 0, 1) := by decide +kernel
theorem dX8_begins_21 : decode cX8_begins 21 = .ok (.iconst 0, 1) := by decide +kernel
theorem dX8_begins_22 : decode cX8_begins 22 = .ok (.putfield 112, 3) := by decide +kernel
theorem dX8_begins_25 : decode cX8_begins 25 = .ok (.aload_n 0, 1) := by decide +kernel
theorem dX8_begins_26 : decode cX8_begins 26 = .ok (.iconst 0, 1) := by decide +kernel
theorem dX8_begins_27 : decode cX8_begins 27 = .ok (.putfield 94, 3) := by decide +kernel
theorem dX8_begins_30 : decode cX8_begins 30 = .ok (.iconst 0, 1) := by decide +kernel
theorem dX8_begins_31 : decode cX8_begins 31 = .ok (.istore_n 1, 1) := by decide +kernel
theorem dX8_begins_32 : decode cX8_begins 32 = .ok (.iload_n 1, 1) := by decide +kernel
theorem dX8_begins_33 : decode cX8_begins 33 = .ok (.bipush 80, 2) := by decide +kernel
theorem dX8_begins_35 : decode cX8_begins 35 = .ok (.if_icmp .ge 14, 3) := by decide +kernel
theorem dX8_begins_38 : decode cX8_begins 38 = .ok (.aload_n 0, 1) := by decide +kernel
theorem dX8_begins_39 : decode cX8_begins 39 = .ok (.iload_n 1, 1) := by decide +kernel
theorem dX8_begins_40 : decode cX8_begins 40 = .ok (.invokevirtual 132, 3) := by decide +kernel
theorem dX8_begins_43 : decode cX8_begins 43 = .ok (.iinc 1 1, 3) := by decide +kernel
theorem dX8_begins_46 : decode cX8_begins 46 = .ok (.goto (-14), 3) := by decide +kernel
theorem dX8_begins_49 : decode cX8_begins 49 = .ok (.iconst 0, 1) := by decide +kernel
theorem dX8_begins_50 : decode cX8_begins 50 = .ok (.istore_n 1, 1) := by decide +kernel
theorem dX8_begins_51 : decode cX8_begins 51 = .ok (.iload_n 1, 1) := by decide +kernel
theorem dX8_begins_52 : decode cX8_begins 52 = .ok (.aload_n 0, 1) := by decide +kernel
theorem dX8_begins_53 : decode cX8_begins 53 = .ok (.getfield 91, 3) := by decide +kernel
theorem dX8_begins_56 : decode cX8_begins 56 = .ok (.if_icmp .ge 16, 3) := by decide +kernel
theorem dX8_begins_59 : decode cX8_begins 59 = .ok (.aload_n 0, 1) := by decide +kernel
theorem dX8_begins_60 : decode cX8_begins 60 = .ok (.getfield 66, 3) := by decide +kernel
theorem dX8_begins_63 : decode cX8_begins 63 = .ok (.iload_n 1, 1) := by decide +kernel
theorem dX8_begins_64 : decode cX8_begins 64 = .ok (.iconst 0, 1) := by decide +kernel
theorem dX8_begins_65 : decode cX8_begins 65 = .ok (.iastore, 1) := by decide +kernel
theorem dX8_begins_66 : decode cX8_begins 66 = .ok (.iinc 1 1, 3) := by decide +kernel
theorem dX8_begins_69 : decode cX8_begins 69 = .ok (.goto (-18), 3) := by decide +kernel
theorem dX8_begins_72 : decode cX8_begins 72 = .ok (.return_, 1) := by decide +kernel
theorem dX8_newHouse_0 : decode cX8_newHouse 0 = .ok (.iload_n 1, 1) := by decide +kernel
theorem dX8_newHouse_1 : decode cX8_newHouse 1 = .ok (.iconst 1, 1) := by decide +kernel
theorem dX8_newHouse_2 : decode cX8_newHouse 2 = .ok (.bipush 8, 2) := by decide +kernel
theorem dX8_newHouse_4 : decode cX8_newHouse 4 = .ok (.invokestatic 128, 3) := by decide +kernel
theorem dX8_newHouse_7 : decode cX8_newHouse 7 = .ok (.ifCond .eq 13, 3) := by decide +kernel
theorem dX8_newHouse_10 : decode cX8_newHouse 10 = .ok (.iload_n 2, 1) := by decide +kernel
theorem dX8_newHouse_11 : decode cX8_newHouse 11 = .ok (.iconst 1, 1) := by decide +kernel
theorem dX8_newHouse_12 : decode cX8_newHouse 12 = .ok (.bipush 10, 2) := by decide +kernel
theorem dX8_newHouse_14 : decode cX8_newHouse 14 = .ok (.invokestatic 128, 3) := by decide +kernel
theorem dX8_newHouse_17 : decode cX8_newHouse 17 = .ok (.ifCond .ne 9, 3) := by decide +kernel
theorem dX8_newHouse_20 : decode cX8_newHouse 20 = .ok (.aload_n 0, 1) := by decide +kernel
theorem dX8_newHouse_21 : decode cX8_newHouse 21 = .ok (.iconst 1, 1) := by decide +kernel
theorem dX8_newHouse_22 : decode cX8_newHouse 22 = .ok (.invokevirtual 135, 3) := by decide +kernel
theorem dX8_newHouse_25 : decode cX8_newHouse 25 = .ok (.ireturn, 1) := by decide +kernel
theorem dX8_newHouse_26 : decode cX8_newHouse 26 = .ok (.aload_n 0, 1) := by decide +kernel
theorem dX8_newHouse_27 : decode cX8_newHouse 27 = .ok (.iload_n 1, 1) := by decide +kernel
theorem dX8_newHouse_28 : decode cX8_newHouse 28 = .ok (.putfield 81, 3) := by decide +kernel
theorem dX8_newHouse_31 : decode cX8_newHouse 31 = .ok (.aload_n 0, 1) := by decide +kernel
theorem dX8_newHouse_32 : decode cX8_newHouse 32 = .ok (.iload_n 2, 1) := by decide +kernel
theorem dX8_newHouse_33 : decode cX8_newHouse 33 = .ok (.putfield 85, 3) := by decide +kernel
theorem dX8_newHouse_36 : decode cX8_newHouse 36 = .ok (.iconst 0, 1) := by decide +kernel
theorem dX8_newHouse_37 : decode cX8_newHouse 37 = .ok (.istore_n 3, 1) := by decide +kernel
theorem dX8_newHouse_38 : decode cX8_newHouse 38 = .ok (.iload_n 3, 1) := by decide +kernel
theorem dX8_newHouse_39 : decode cX8_newHouse 39 = .ok (.bipush 80, 2) := by decide +kernel
theorem dX8_newHouse_41 : decode cX8_newHouse 41 = .ok (.if_icmp .ge 14, 3) := by decide +kernel
theorem dX8_newHouse_44 : decode cX8_newHouse 44 = .ok (.aload_n 0, 1) := by decide +kernel
theorem dX8_newHouse_45 : decode cX8_newHouse 45 = .ok (.iload_n 3, 1) := by decide +kernel
theorem dX8_newHouse_46 : decode cX8_newHouse 46 = .ok (.invokevirtual 124, 3) := by decide +kernel
theorem dX8_newHouse_49 : decode cX8_newHouse 49 = .ok (.iinc 3 1, 3) := by decide +kernel
theorem dX8_newHouse_52 : decode cX8_newHouse 52 = .ok (.goto (-14), 3) := by decide +kernel
theorem dX8_newHouse_55 : decode cX8_newHouse 55 = .ok (.aload_n 0, 1) := by decide +kernel
theorem dX8_newHouse_56 : decode cX8_newHouse 56 = .ok (.invokevirtual 139, 3) := by decide +kernel
theorem dX8_newHouse_59 : decode cX8_newHouse 59 = .ok (.aload_n 0, 1) := by decide +kernel
theorem dX8_newHouse_60 : decode cX8_newHouse 60 = .ok (.iload_n 1, 1) := by decide +kernel
theorem dX8_newHouse_61 : decode cX8_newHouse 61 = .ok (.iload_n 2, 1) := by decide +kernel
theorem dX8_newHouse_62 : decode cX8_newHouse 62 = .ok (.imul, 1) := by decide +kernel
theorem dX8_newHouse_63 : decode cX8_newHouse 63 = .ok (.invokevirtual 142, 3) := by decide +kernel
theorem dX8_newHouse_66 : decode cX8_newHouse 66 = .ok (.ireturn, 1) := by decide +kernel
theorem dX8_seatPayer_0 : decode cX8_seatPayer 0 = .ok (.aload_n 0, 1) := by decide +kernel
theorem dX8_seatPayer_1 : decode cX8_seatPayer 1 = .ok (.iload_n 1, 1) := by decide +kernel
theorem dX8_seatPayer_2 : decode cX8_seatPayer 2 = .ok (.iload_n 2, 1) := by decide +kernel
theorem dX8_seatPayer_3 : decode cX8_seatPayer 3 = .ok (.invokevirtual 145, 3) := by decide +kernel
theorem dX8_seatPayer_6 : decode cX8_seatPayer 6 = .ok (.ifCond .ne 9, 3) := by decide +kernel
theorem dX8_seatPayer_9 : decode cX8_seatPayer 9 = .ok (.aload_n 0, 1) := by decide +kernel
theorem dX8_seatPayer_10 : decode cX8_seatPayer 10 = .ok (.iconst 1, 1) := by decide +kernel
theorem dX8_seatPayer_11 : decode cX8_seatPayer 11 = .ok (.invokevirtual 149, 3) := by decide +kernel
theorem dX8_seatPayer_14 : decode cX8_seatPayer 14 = .ok (.ireturn, 1) := by decide +kernel
theorem dX8_seatPayer_15 : decode cX8_seatPayer 15 = .ok (.iload_n 3, 1) := by decide +kernel
theorem dX8_seatPayer_16 : decode cX8_seatPayer 16 = .ok (.iconst 1, 1) := by decide +kernel
theorem dX8_seatPayer_17 : decode cX8_seatPayer 17 = .ok (.bipush 9, 2) := by decide +kernel
theorem dX8_seatPayer_19 : decode cX8_seatPayer 19 = .ok (.invokestatic 128, 3) := by decide +kernel
theorem dX8_seatPayer_22 : decode cX8_seatPayer 22 = .ok (.ifCond .ne 9, 3) := by decide +kernel
theorem dX8_seatPayer_25 : decode cX8_seatPayer 25 = .ok (.aload_n 0, 1) := by decide +kernel
theorem dX8_seatPayer_26 : decode cX8_seatPayer 26 = .ok (.iconst 2, 1) := by decide +kernel
theorem dX8_seatPayer_27 : decode cX8_seatPayer 27 = .ok (.invokevirtual 149, 3) := by decide +kernel
theorem dX8_seatPayer_30 : decode cX8_seatPayer 30 = .ok (.ireturn, 1) := by decide +kernel
theorem dX8_seatPayer_31 : decode cX8_seatPayer 31 = .ok (.bipush 10, 2) := by decide +kernel
theorem dX8_seatPayer_33 : decode cX8_seatPayer 33 = .ok (.iload_n 1, 1) := by decide +kernel
theorem dX8_seatPayer_34 : decode cX8_seatPayer 34 = .ok (.imul, 1) := by decide +kernel
theorem dX8_seatPayer_35 : decode cX8_seatPayer 35 = .ok (.iload_n 2, 1) := by decide +kernel
theorem dX8_seatPayer_36 : decode cX8_seatPayer 36 = .ok (.iadd, 1) := by decide +kernel
theorem dX8_seatPayer_37 : decode cX8_seatPayer 37 = .ok (.istore 4, 2) := by decide +kernel
theorem dX8_seatPayer_39 : decode cX8_seatPayer 39 = .ok (.aload_n 0, 1) := by decide +kernel
theorem dX8_seatPayer_40 : decode cX8_seatPayer 40 = .ok (.getfield 7, 3) := by decide +kernel
theorem dX8_seatPayer_43 : decode cX8_seatPayer 43 = .ok (.iload 4, 2) := by decide +kernel
theorem dX8_seatPayer_45 : decode cX8_seatPayer 45 = .ok (.caload, 1) := by decide +kernel
theorem dX8_seatPayer_46 : decode cX8_seatPayer 46 = .ok (.istore 5, 2) := by decide +kernel
theorem dX8_seatPayer_48 : decode cX8_seatPayer 48 = .ok (.aload_n 0, 1) := by decide +kernel
theorem dX8_seatPayer_49 : decode cX8_seatPayer 49 = .ok (.iload 4, 2) := by decide +kernel
theorem dX8_seatPayer_51 : decode cX8_seatPayer 51 = .ok (.invokevirtual 124, 3) := by decide +kernel
theorem dX8_seatPayer_54 : decode cX8_seatPayer 54 = .ok (.aload_n 0, 1) := by decide +kernel
theorem dX8_seatPayer_55 : decode cX8_seatPayer 55 = .ok (.getfield 7, 3) := by decide +kernel
theorem dX8_seatPayer_58 : decode cX8_seatPayer 58 = .ok (.iload 4, 2) := by decide +kernel
theorem dX8_seatPayer_60 : decode cX8_seatPayer 60 = .ok (.bipush 112, 2) := by decide +kernel
theorem dX8_seatPayer_62 : decode cX8_seatPayer 62 = .ok (.castore, 1) := by decide +kernel
theorem dX8_seatPayer_63 : decode cX8_seatPayer 63 = .ok (.aload_n 0, 1) := by decide +kernel
theorem dX8_seatPayer_64 : decode cX8_seatPayer 64 = .ok (.getfield 13, 3) := by decide +kernel
theorem dX8_seatPayer_67 : decode cX8_seatPayer 67 = .ok (.iload 4, 2) := by decide +kernel
theorem dX8_seatPayer_69 : decode cX8_seatPayer 69 = .ok (.iload_n 3, 1) := by decide +kernel
theorem dX8_seatPayer_70 : decode cX8_seatPayer 70 = .ok (.iastore, 1) := by decide +kernel
theorem dX8_seatPayer_71 : decode cX8_seatPayer 71 = .ok (.aload_n 0, 1) := by decide +kernel
theorem dX8_seatPayer_72 : decode cX8_seatPayer 72 = .ok (.iload 5, 2) := by decide +kernel
theorem dX8_seatPayer_74 : decode cX8_seatPayer 74 = .ok (.invokevirtual 153, 3) := by decide +kernel
theorem dX8_seatPayer_77 : decode cX8_seatPayer 77 = .ok (.ireturn, 1) := by decide +kernel
theorem dX8_seatRival_0 : decode cX8_seatRival 0 = .ok (.aload_n 0, 1) := by decide +kernel
theorem dX8_seatRival_1 : decode cX8_seatRival 1 = .ok (.iload_n 1, 1) := by decide +kernel
theorem dX8_seatRival_2 : decode cX8_seatRival 2 = .ok (.iload_n 2, 1) := by decide +kernel
theorem dX8_seatRival_3 : decode cX8_seatRival 3 = .ok (.invokevirtual 145, 3) := by decide +kernel
theorem dX8_seatRival_6 : decode cX8_seatRival 6 = .ok (.ifCond .ne 9, 3) := by decide +kernel
theorem dX8_seatRival_9 : decode cX8_seatRival 9 = .ok (.aload_n 0, 1) := by decide +kernel
theorem dX8_seatRival_10 : decode cX8_seatRival 10 = .ok (.iconst 1, 1) := by decide +kernel
theorem dX8_seatRival_11 : decode cX8_seatRival 11 = .ok (.invokevirtual 149, 3) := by decide +kernel
theorem dX8_seatRival_14 : decode cX8_seatRival 14 = .ok (.ireturn, 1) := by decide +kernel
theorem dX8_seatRival_15 : decode cX8_seatRival 15 = .ok (.aload_n 0, 1) := by decide +kernel
theorem dX8_seatRival_16 : decode cX8_seatRival 16 = .ok (.getfield 7, 3) := by decide +kernel
theorem dX8_seatRival_19 : decode cX8_seatRival 19 = .ok (.bipush 10, 2) := by decide +kernel
theorem dX8_seatRival_21 : decode cX8_seatRival 21 = .ok (.iload_n 1, 1) := by decide +kernel
theorem dX8_seatRival_22 : decode cX8_seatRival 22 = .ok (.imul, 1) := by decide +kernel
theorem dX8_seatRival_23 : decode cX8_seatRival 23 = .ok (.iload_n 2, 1) := by decide +kernel
theorem dX8_seatRival_24 : decode cX8_seatRival 24 = .ok (.iadd, 1) := by decide +kernel
theorem dX8_seatRival_25 : decode cX8_seatRival 25 = .ok (.caload, 1) := by decide +kernel
theorem dX8_seatRival_26 : decode cX8_seatRival 26 = .ok (.istore_n 3, 1) := by decide +kernel
theorem dX8_seatRival_27 : decode cX8_seatRival 27 = .ok (.aload_n 0, 1) := by decide +kernel
theorem dX8_seatRival_28 : decode cX8_seatRival 28 = .ok (.bipush 10, 2) := by decide +kernel
theorem dX8_seatRival_30 : decode cX8_seatRival 30 = .ok (.iload_n 1, 1) := by decide +kernel
theorem dX8_seatRival_31 : decode cX8_seatRival 31 = .ok (.imul, 1) := by decide +kernel
theorem dX8_seatRival_32 : decode cX8_seatRival 32 = .ok (.iload_n 2, 1) := by decide +kernel
theorem dX8_seatRival_33 : decode cX8_seatRival 33 = .ok (.iadd, 1) := by decide +kernel
theorem dX8_seatRival_34 : decode cX8_seatRival 34 = .ok (.invokevirtual 124, 3) := by decide +kernel
theorem dX8_seatRival_37 : decode cX8_seatRival 37 = .ok (.aload_n 0, 1) := by decide +kernel
theorem dX8_seatRival_38 : decode cX8_seatRival 38 = .ok (.getfield 7, 3) := by decide +kernel
theorem dX8_seatRival_41 : decode cX8_seatRival 41 = .ok (.bipush 10, 2) := by decide +kernel
theorem dX8_seatRival_43 : decode cX8_seatRival 43 = .ok (.iload_n 1, 1) := by decide +kernel
theorem dX8_seatRival_44 : decode cX8_seatRival 44 = .ok (.imul, 1) := by decide +kernel
theorem dX8_seatRival_45 : decode cX8_seatRival 45 = .ok (.iload_n 2, 1) := by decide +kernel
theorem dX8_seatRival_46 : decode cX8_seatRival 46 = .ok (.iadd, 1) := by decide +kernel
theorem dX8_seatRival_47 : decode cX8_seatRival 47 = .ok (.bipush 114, 2) := by decide +kernel
theorem dX8_seatRival_49 : decode cX8_seatRival 49 = .ok (.castore, 1) := by decide +kernel
theorem dX8_seatRival_50 : decode cX8_seatRival 50 = .ok (.aload_n 0, 1) := by decide +kernel
theorem dX8_seatRival_51 : decode cX8_seatRival 51 = .ok (.iload_n 3, 1) := by decide +kernel
theorem dX8_seatRival_52 : decode cX8_seatRival 52 = .ok (.invokevirtual 153, 3) := by decide +kernel
theorem dX8_seatRival_55 : decode cX8_seatRival 55 = .ok (.ireturn, 1) := by decide +kernel
theorem dX8_seatHand_0 : decode cX8_seatHand 0 = .ok (.aload_n 0, 1) := by decide +kernel
theorem dX8_seatHand_1 : decode cX8_seatHand 1 = .ok (.iload_n 1, 1) := by decide +kernel
theorem dX8_seatHand_2 : decode cX8_seatHand 2 = .ok (.invokevirtual 157, 3) := by decide +kernel
theorem dX8_seatHand_5 : decode cX8_seatHand 5 = .ok (.ifCond .eq 12, 3) := by decide +kernel
theorem dX8_seatHand_8 : decode cX8_seatHand 8 = .ok (.aload_n 0, 1) := by decide +kernel
theorem dX8_seatHand_9 : decode cX8_seatHand 9 = .ok (.iload_n 2, 1) := by decide +kernel
theorem dX8_seatHand_10 : decode cX8_seatHand 10 = .ok (.iload_n 3, 1) := by decide +kernel
theorem dX8_seatHand_11 : decode cX8_seatHand 11 = .ok (.invokevirtual 145, 3) := by decide +kernel
theorem dX8_seatHand_14 : decode cX8_seatHand 14 = .ok (.ifCond .ne 9, 3) := by decide +kernel
theorem dX8_seatHand_17 : decode cX8_seatHand 17 = .ok (.aload_n 0, 1) := by decide +kernel
theorem dX8_seatHand_18 : decode cX8_seatHand 18 = .ok (.iconst 1, 1) := by decide +kernel
theorem dX8_seatHand_19 : decode cX8_seatHand 19 = .ok (.invokevirtual 149, 3) := by decide +kernel
theorem dX8_seatHand_22 : decode cX8_seatHand 22 = .ok (.ireturn, 1) := by decide +kernel
theorem dX8_seatHand_23 : decode cX8_seatHand 23 = .ok (.bipush 10, 2) := by decide +kernel
theorem dX8_seatHand_25 : decode cX8_seatHand 25 = .ok (.iload_n 2, 1) := by decide +kernel
theorem dX8_seatHand_26 : decode cX8_seatHand 26 = .ok (.imul, 1) := by decide +kernel
theorem dX8_seatHand_27 : decode cX8_seatHand 27 = .ok (.iload_n 3, 1) := by decide +kernel
theorem dX8_seatHand_28 : decode cX8_seatHand 28 = .ok (.iadd, 1) := by decide +kernel
theorem dX8_seatHand_29 : decode cX8_seatHand 29 = .ok (.istore 4, 2) := by decide +kernel
theorem dX8_seatHand_31 : decode cX8_seatHand 31 = .ok (.aload_n 0, 1) := by decide +kernel
theorem dX8_seatHand_32 : decode cX8_seatHand 32 = .ok (.getfield 17, 3) := by decide +kernel
theorem dX8_seatHand_35 : decode cX8_seatHand 35 = .ok (.iload 4, 2) := by decide +kernel
theorem dX8_seatHand_37 : decode cX8_seatHand 37 = .ok (.iaload, 1) := by decide +kernel
theorem dX8_seatHand_38 : decode cX8_seatHand 38 = .ok (.iload_n 1, 1) := by decide +kernel
theorem dX8_seatHand_39 : decode cX8_seatHand 39 = .ok (.if_icmp .ne 9, 3) := by decide +kernel
theorem dX8_seatHand_42 : decode cX8_seatHand 42 = .ok (.aload_n 0, 1) := by decide +kernel
theorem dX8_seatHand_43 : decode cX8_seatHand 43 = .ok (.iconst 2, 1) := by decide +kernel
theorem dX8_seatHand_44 : decode cX8_seatHand 44 = .ok (.invokevirtual 149, 3) := by decide +kernel
theorem dX8_seatHand_47 : decode cX8_seatHand 47 = .ok (.ireturn, 1) := by decide +kernel
theorem dX8_seatHand_48 : decode cX8_seatHand 48 = .ok (.iconst 0, 1) := by decide +kernel
theorem dX8_seatHand_49 : decode cX8_seatHand 49 = .ok (.istore 5, 2) := by decide +kernel
theorem dX8_seatHand_51 : decode cX8_seatHand 51 = .ok (.iload 5, 2) := by decide +kernel
theorem dX8_seatHand_53 : decode cX8_seatHand 53 = .ok (.bipush 80, 2) := by decide +kernel
theorem dX8_seatHand_55 : decode cX8_seatHand 55 = .ok (.if_icmp .ge 26, 3) := by decide +kernel
theorem dX8_seatHand_58 : decode cX8_seatHand 58 = .ok (.aload_n 0, 1) := by decide +kernel
theorem dX8_seatHand_59 : decode cX8_seatHand 59 = .ok (.getfield 17, 3) := by decide +kernel
theorem dX8_seatHand_62 : decode cX8_seatHand 62 = .ok (.iload 5, 2) := by decide +kernel
theorem dX8_seatHand_64 : decode cX8_seatHand 64 = .ok (.iaload, 1) := by decide +kernel
theorem dX8_seatHand_65 : decode cX8_seatHand 65 = .ok (.iload_n 1, 1) := by decide +kernel
theorem dX8_seatHand_66 : decode cX8_seatHand 66 = .ok (.if_icmp .ne 9, 3) := by decide +kernel
theorem dX8_seatHand_69 : decode cX8_seatHand 69 = .ok (.aload_n 0, 1) := by decide +kernel
theorem dX8_seatHand_70 : decode cX8_seatHand 70 = .ok (.iload 5, 2) := by decide +kernel
theorem dX8_seatHand_72 : decode cX8_seatHand 72 = .ok (.invokevirtual 124, 3) := by decide +kernel
theorem dX8_seatHand_75 : decode cX8_seatHand 75 = .ok (.iinc 5 1, 3) := by decide +kernel
theorem dX8_seatHand_78 : decode cX8_seatHand 78 = .ok (.goto (-27), 3) := by decide +kernel
theorem dX8_seatHand_81 : decode cX8_seatHand 81 = .ok (.aload_n 0, 1) := by decide +kernel
theorem dX8_seatHand_82 : decode cX8_seatHand 82 = .ok (.getfield 7, 3) := by decide +kernel
theorem dX8_seatHand_85 : decode cX8_seatHand 85 = .ok (.iload 4, 2) := by decide +kernel
theorem dX8_seatHand_87 : decode cX8_seatHand 87 = .ok (.caload, 1) := by decide +kernel
theorem dX8_seatHand_88 : decode cX8_seatHand 88 = .ok (.istore 5, 2) := by decide +kernel
theorem dX8_seatHand_90 : decode cX8_seatHand 90 = .ok (.aload_n 0, 1) := by decide +kernel
theorem dX8_seatHand_91 : decode cX8_seatHand 91 = .ok (.iload 4, 2) := by decide +kernel
theorem dX8_seatHand_93 : decode cX8_seatHand 93 = .ok (.invokevirtual 124, 3) := by decide +kernel
theorem dX8_seatHand_96 : decode cX8_seatHand 96 = .ok (.aload_n 0, 1) := by decide +kernel
theorem dX8_seatHand_97 : decode cX8_seatHand 97 = .ok (.getfield 7, 3) := by decide +kernel
theorem dX8_seatHand_100 : decode cX8_seatHand 100 = .ok (.iload 4, 2) := by decide +kernel
theorem dX8_seatHand_102 : decode cX8_seatHand 102 = .ok (.bipush 104, 2) := by decide +kernel
theorem dX8_seatHand_104 : decode cX8_seatHand 104 = .ok (.castore, 1) := by decide +kernel
theorem dX8_seatHand_105 : decode cX8_seatHand 105 = .ok (.aload_n 0, 1) := by decide +kernel
theorem dX8_seatHand_106 : decode cX8_seatHand 106 = .ok (.getfield 17, 3) := by decide +kernel
theorem dX8_seatHand_109 : decode cX8_seatHand 109 = .ok (.iload 4, 2) := by decide +kernel
theorem dX8_seatHand_111 : decode cX8_seatHand 111 = .ok (.iload_n 1, 1) := by decide +kernel
theorem dX8_seatHand_112 : decode cX8_seatHand 112 = .ok (.iastore, 1) := by decide +kernel
theorem dX8_seatHand_113 : decode cX8_seatHand 113 = .ok (.aload_n 0, 1) := by decide +kernel
theorem dX8_seatHand_114 : decode cX8_seatHand 114 = .ok (.iload 5, 2) := by decide +kernel
theorem dX8_seatHand_116 : decode cX8_seatHand 116 = .ok (.invokevirtual 153, 3) := by decide +kernel
theorem dX8_seatHand_119 : decode cX8_seatHand 119 = .ok (.ireturn, 1) := by decide +kernel
theorem dX8_clearSeat_0 : decode cX8_clearSeat 0 = .ok (.aload_n 0, 1) := by decide +kernel
theorem dX8_clearSeat_1 : decode cX8_clearSeat 1 = .ok (.iload_n 1, 1) := by decide +kernel
theorem dX8_clearSeat_2 : decode cX8_clearSeat 2 = .ok (.iload_n 2, 1) := by decide +kernel
theorem dX8_clearSeat_3 : decode cX8_clearSeat 3 = .ok (.invokevirtual 145, 3) := by decide +kernel
theorem dX8_clearSeat_6 : decode cX8_clearSeat 6 = .ok (.ifCond .ne 9, 3) := by decide +kernel
theorem dX8_clearSeat_9 : decode cX8_clearSeat 9 = .ok (.aload_n 0, 1) := by decide +kernel
theorem dX8_clearSeat_10 : decode cX8_clearSeat 10 = .ok (.iconst 1, 1) := by decide +kernel
theorem dX8_clearSeat_11 : decode cX8_clearSeat 11 = .ok (.invokevirtual 149, 3) := by decide +kernel
theorem dX8_clearSeat_14 : decode cX8_clearSeat 14 = .ok (.ireturn, 1) := by decide +kernel
theorem dX8_clearSeat_15 : decode cX8_clearSeat 15 = .ok (.aload_n 0, 1) := by decide +kernel
theorem dX8_clearSeat_16 : decode cX8_clearSeat 16 = .ok (.getfield 7, 3) := by decide +kernel
theorem dX8_clearSeat_19 : decode cX8_clearSeat 19 = .ok (.bipush 10, 2) := by decide +kernel
theorem dX8_clearSeat_21 : decode cX8_clearSeat 21 = .ok (.iload_n 1, 1) := by decide +kernel
theorem dX8_clearSeat_22 : decode cX8_clearSeat 22 = .ok (.imul, 1) := by decide +kernel
theorem dX8_clearSeat_23 : decode cX8_clearSeat 23 = .ok (.iload_n 2, 1) := by decide +kernel
theorem dX8_clearSeat_24 : decode cX8_clearSeat 24 = .ok (.iadd, 1) := by decide +kernel
theorem dX8_clearSeat_25 : decode cX8_clearSeat 25 = .ok (.caload, 1) := by decide +kernel
theorem dX8_clearSeat_26 : decode cX8_clearSeat 26 = .ok (.istore_n 3, 1) := by decide +kernel
theorem dX8_clearSeat_27 : decode cX8_clearSeat 27 = .ok (.aload_n 0, 1) := by decide +kernel
theorem dX8_clearSeat_28 : decode cX8_clearSeat 28 = .ok (.bipush 10, 2) := by decide +kernel
theorem dX8_clearSeat_30 : decode cX8_clearSeat 30 = .ok (.iload_n 1, 1) := by decide +kernel
theorem dX8_clearSeat_31 : decode cX8_clearSeat 31 = .ok (.imul, 1) := by decide +kernel
theorem dX8_clearSeat_32 : decode cX8_clearSeat 32 = .ok (.iload_n 2, 1) := by decide +kernel
theorem dX8_clearSeat_33 : decode cX8_clearSeat 33 = .ok (.iadd, 1) := by decide +kernel
theorem dX8_clearSeat_34 : decode cX8_clearSeat 34 = .ok (.invokevirtual 124, 3) := by decide +kernel
theorem dX8_clearSeat_37 : decode cX8_clearSeat 37 = .ok (.aload_n 0, 1) := by decide +kernel
theorem dX8_clearSeat_38 : decode cX8_clearSeat 38 = .ok (.iload_n 3, 1) := by decide +kernel
theorem dX8_clearSeat_39 : decode cX8_clearSeat 39 = .ok (.invokevirtual 153, 3) := by decide +kernel
theorem dX8_clearSeat_42 : decode cX8_clearSeat 42 = .ok (.ireturn, 1) := by decide +kernel
theorem dX8_seatAt_0 : decode cX8_seatAt 0 = .ok (.aload_n 0, 1) := by decide +kernel
theorem dX8_seatAt_1 : decode cX8_seatAt 1 = .ok (.iload_n 1, 1) := by decide +kernel
theorem dX8_seatAt_2 : decode cX8_seatAt 2 = .ok (.iload_n 2, 1) := by decide +kernel
theorem dX8_seatAt_3 : decode cX8_seatAt 3 = .ok (.invokevirtual 145, 3) := by decide +kernel
theorem dX8_seatAt_6 : decode cX8_seatAt 6 = .ok (.ifCond .eq 21, 3) := by decide +kernel
theorem dX8_seatAt_9 : decode cX8_seatAt 9 = .ok (.aload_n 0, 1) := by decide +kernel
theorem dX8_seatAt_10 : decode cX8_seatAt 10 = .ok (.aload_n 0, 1) := by decide +kernel
theorem dX8_seatAt_11 : decode cX8_seatAt 11 = .ok (.getfield 7, 3) := by decide +kernel
theorem dX8_seatAt_14 : decode cX8_seatAt 14 = .ok (.bipush 10, 2) := by decide +kernel
theorem dX8_seatAt_16 : decode cX8_seatAt 16 = .ok (.iload_n 1, 1) := by decide +kernel
theorem dX8_seatAt_17 : decode cX8_seatAt 17 = .ok (.imul, 1) := by decide +kernel
theorem dX8_seatAt_18 : decode cX8_seatAt 18 = .ok (.iload_n 2, 1) := by decide +kernel
theorem dX8_seatAt_19 : decode cX8_seatAt 19 = .ok (.iadd, 1) := by decide +kernel
theorem dX8_seatAt_20 : decode cX8_seatAt 20 = .ok (.caload, 1) := by decide +kernel
theorem dX8_seatAt_21 : decode cX8_seatAt 21 = .ok (.invokevirtual 153, 3) := by decide +kernel
theorem dX8_seatAt_24 : decode cX8_seatAt 24 = .ok (.goto 8, 3) := by decide +kernel
theorem dX8_seatAt_27 : decode cX8_seatAt 27 = .ok (.aload_n 0, 1) := by decide +kernel
theorem dX8_seatAt_28 : decode cX8_seatAt 28 = .ok (.iconst 1, 1) := by decide +kernel
theorem dX8_seatAt_29 : decode cX8_seatAt 29 = .ok (.invokevirtual 149, 3) := by decide +kernel
theorem dX8_seatAt_32 : decode cX8_seatAt 32 = .ok (.ireturn, 1) := by decide +kernel
theorem dX8_isKind_0 : decode cX8_isKind 0 = .ok (.iload_n 0, 1) := by decide +kernel
theorem dX8_isKind_1 : decode cX8_isKind 1 = .ok (.bipush 99, 2) := by decide +kernel
theorem dX8_isKind_3 : decode cX8_isKind 3 = .ok (.if_icmp .eq 31, 3) := by decide +kernel
theorem dX8_isKind_6 : decode cX8_isKind 6 = .ok (.iload_n 0, 1) := by decide +kernel
theorem dX8_isKind_7 : decode cX8_isKind 7 = .ok (.bipush 119, 2) := by decide +kernel
theorem dX8_isKind_9 : decode cX8_isKind 9 = .ok (.if_icmp .eq 25, 3) := by decide +kernel
theorem dX8_isKind_12 : decode cX8_isKind 12 = .ok (.iload_n 0, 1) := by decide +kernel
theorem dX8_isKind_13 : decode cX8_isKind 13 = .ok (.bipush 108, 2) := by decide +kernel
theorem dX8_isKind_15 : decode cX8_isKind 15 = .ok (.if_icmp .eq 19, 3) := by decide +kernel
theorem dX8_isKind_18 : decode cX8_isKind 18 = .ok (.iload_n 0, 1) := by decide +kernel
theorem dX8_isKind_19 : decode cX8_isKind 19 = .ok (.bipush 101, 2) := by decide +kernel
theorem dX8_isKind_21 : decode cX8_isKind 21 = .ok (.if_icmp .eq 13, 3) := by decide +kernel
theorem dX8_isKind_24 : decode cX8_isKind 24 = .ok (.iload_n 1, 1) := by decide +kernel
theorem dX8_isKind_25 : decode cX8_isKind 25 = .ok (.ifCond .eq 13, 3) := by decide +kernel
theorem dX8_isKind_28 : decode cX8_isKind 28 = .ok (.iload_n 0, 1) := by decide +kernel
theorem dX8_isKind_29 : decode cX8_isKind 29 = .ok (.bipush 97, 2) := by decide +kernel
theorem dX8_isKind_31 : decode cX8_isKind 31 = .ok (.if_icmp .ne 7, 3) := by decide +kernel
theorem dX8_isKind_34 : decode cX8_isKind 34 = .ok (.iconst 1, 1) := by decide +kernel
theorem dX8_isKind_35 : decode cX8_isKind 35 = .ok (.goto 4, 3) := by decide +kernel
theorem dX8_isKind_38 : decode cX8_isKind 38 = .ok (.iconst 0, 1) := by decide +kernel
theorem dX8_isKind_39 : decode cX8_isKind 39 = .ok (.ireturn, 1) := by decide +kernel
theorem dX8_addHand_0 : decode cX8_addHand 0 = .ok (.iload_n 1, 1) := by decide +kernel
theorem dX8_addHand_1 : decode cX8_addHand 1 = .ok (.iconst 1, 1) := by decide +kernel
theorem dX8_addHand_2 : decode cX8_addHand 2 = .ok (.invokestatic 161, 3) := by decide +kernel
theorem dX8_addHand_5 : decode cX8_addHand 5 = .ok (.ifCond .eq 33, 3) := by decide +kernel
theorem dX8_addHand_8 : decode cX8_addHand 8 = .ok (.iload_n 2, 1) := by decide +kernel
theorem dX8_addHand_9 : decode cX8_addHand 9 = .ok (.iconst 1, 1) := by decide +kernel
theorem dX8_addHand_10 : decode cX8_addHand 10 = .ok (.bipush 9, 2) := by decide +kernel
theorem dX8_addHand_12 : decode cX8_addHand 12 = .ok (.invokestatic 128, 3) := by decide +kernel
theorem dX8_addHand_15 : decode cX8_addHand 15 = .ok (.ifCond .eq 23, 3) := by decide +kernel
theorem dX8_addHand_18 : decode cX8_addHand 18 = .ok (.iload_n 3, 1) := by decide +kernel
theorem dX8_addHand_19 : decode cX8_addHand 19 = .ok (.iconst 0, 1) := by decide +kernel
theorem dX8_addHand_20 : decode cX8_addHand 20 = .ok (.iconst 3, 1) := by decide +kernel
theorem dX8_addHand_21 : decode cX8_addHand 21 = .ok (.invokestatic 128, 3) := by decide +kernel
theorem dX8_addHand_24 : decode cX8_addHand 24 = .ok (.ifCond .eq 14, 3) := by decide +kernel
theorem dX8_addHand_27 : decode cX8_addHand 27 = .ok (.iload 4, 2) := by decide +kernel
theorem dX8_addHand_29 : decode cX8_addHand 29 = .ok (.iconst 0, 1) := by decide +kernel
theorem dX8_addHand_30 : decode cX8_addHand 30 = .ok (.bipush 99, 2) := by decide +kernel
theorem dX8_addHand_32 : decode cX8_addHand 32 = .ok (.invokestatic 128, 3) := by decide +kernel
theorem dX8_addHand_35 : decode cX8_addHand 35 = .ok (.ifCond .ne 9, 3) := by decide +kernel
theorem dX8_addHand_38 : decode cX8_addHand 38 = .ok (.aload_n 0, 1) := by decide +kernel
theorem dX8_addHand_39 : decode cX8_addHand 39 = .ok (.iconst 1, 1) := by decide +kernel
theorem dX8_addHand_40 : decode cX8_addHand 40 = .ok (.invokevirtual 135, 3) := by decide +kernel
theorem dX8_addHand_43 : decode cX8_addHand 43 = .ok (.ireturn, 1) := by decide +kernel
theorem dX8_addHand_44 : decode cX8_addHand 44 = .ok (.aload_n 0, 1) := by decide +kernel
theorem dX8_addHand_45 : decode cX8_addHand 45 = .ok (.getfield 88, 3) := by decide +kernel
theorem dX8_addHand_48 : decode cX8_addHand 48 = .ok (.bipush 12, 2) := by decide +kernel
theorem dX8_addHand_50 : decode cX8_addHand 50 = .ok (.if_icmp .ne 9, 3) := by decide +kernel
theorem dX8_addHand_53 : decode cX8_addHand 53 = .ok (.aload_n 0, 1) := by decide +kernel
theorem dX8_addHand_54 : decode cX8_addHand 54 = .ok (.iconst 2, 1) := by decide +kernel
theorem dX8_addHand_55 : decode cX8_addHand 55 = .ok (.invokevirtual 135, 3) := by decide +kernel
theorem dX8_addHand_58 : decode cX8_addHand 58 = .ok (.ireturn, 1) := by decide +kernel
theorem dX8_addHand_59 : decode cX8_addHand 59 = .ok (.aload_n 0, 1) := by decide +kernel
theorem dX8_addHand_60 : decode cX8_addHand 60 = .ok (.getfield 39, 3) := by decide +kernel
theorem dX8_addHand_63 : decode cX8_addHand 63 = .ok (.aload_n 0, 1) := by decide +kernel
theorem dX8_addHand_64 : decode cX8_addHand 64 = .ok (.getfield 88, 3) := by decide +kernel
theorem dX8_addHand_67 : decode cX8_addHand 67 = .ok (.iload_n 1, 1) := by decide +kernel
theorem dX8_addHand_68 : decode cX8_addHand 68 = .ok (.castore, 1) := by decide +kernel
theorem dX8_addHand_69 : decode cX8_addHand 69 = .ok (.aload_n 0, 1) := by decide +kernel
theorem dX8_addHand_70 : decode cX8_addHand 70 = .ok (.getfield 45, 3) := by decide +kernel
theorem dX8_addHand_73 : decode cX8_addHand 73 = .ok (.aload_n 0, 1) := by decide +kernel
theorem dX8_addHand_74 : decode cX8_addHand 74 = .ok (.getfield 88, 3) := by decide +kernel
theorem dX8_addHand_77 : decode cX8_addHand 77 = .ok (.iload_n 2, 1) := by decide +kernel
theorem dX8_addHand_78 : decode cX8_addHand 78 = .ok (.iastore, 1) := by decide +kernel
theorem dX8_addHand_79 : decode cX8_addHand 79 = .ok (.aload_n 0, 1) := by decide +kernel
theorem dX8_addHand_80 : decode cX8_addHand 80 = .ok (.getfield 48, 3) := by decide +kernel
theorem dX8_addHand_83 : decode cX8_addHand 83 = .ok (.aload_n 0, 1) := by decide +kernel
theorem dX8_addHand_84 : decode cX8_addHand 84 = .ok (.getfield 88, 3) := by decide +kernel
theorem dX8_addHand_87 : decode cX8_addHand 87 = .ok (.iload_n 3, 1) := by decide +kernel
theorem dX8_addHand_88 : decode cX8_addHand 88 = .ok (.iastore, 1) := by decide +kernel
theorem dX8_addHand_89 : decode cX8_addHand 89 = .ok (.aload_n 0, 1) := by decide +kernel
theorem dX8_addHand_90 : decode cX8_addHand 90 = .ok (.getfield 51, 3) := by decide +kernel
theorem dX8_addHand_93 : decode cX8_addHand 93 = .ok (.aload_n 0, 1) := by decide +kernel
theorem dX8_addHand_94 : decode cX8_addHand 94 = .ok (.getfield 88, 3) := by decide +kernel
theorem dX8_addHand_97 : decode cX8_addHand 97 = .ok (.iload 4, 2) := by decide +kernel
theorem dX8_addHand_99 : decode cX8_addHand 99 = .ok (.iastore, 1) := by decide +kernel
theorem dX8_addHand_100 : decode cX8_addHand 100 = .ok (.aload_n 0, 1) := by decide +kernel
theorem dX8_addHand_101 : decode cX8_addHand 101 = .ok (.dup, 1) := by decide +kernel
theorem dX8_addHand_102 : decode cX8_addHand 102 = .ok (.getfield 88, 3) := by decide +kernel
theorem dX8_addHand_105 : decode cX8_addHand 105 = .ok (.iconst 1, 1) := by decide +kernel
theorem dX8_addHand_106 : decode cX8_addHand 106 = .ok (.iadd, 1) := by decide +kernel
theorem dX8_addHand_107 : decode cX8_addHand 107 = .ok (.putfield 88, 3) := by decide +kernel
theorem dX8_addHand_110 : decode cX8_addHand 110 = .ok (.aload_n 0, 1) := by decide +kernel
theorem dX8_addHand_111 : decode cX8_addHand 111 = .ok (.aload_n 0, 1) := by decide +kernel
theorem dX8_addHand_112 : decode cX8_addHand 112 = .ok (.getfield 88, 3) := by decide +kernel
theorem dX8_addHand_115 : decode cX8_addHand 115 = .ok (.iconst 1, 1) := by decide +kernel
theorem dX8_addHand_116 : decode cX8_addHand 116 = .ok (.isub, 1) := by decide +kernel
theorem dX8_addHand_117 : decode cX8_addHand 117 = .ok (.invokevirtual 142, 3) := by decide +kernel
theorem dX8_addHand_120 : decode cX8_addHand 120 = .ok (.ireturn, 1) := by decide +kernel
theorem dX8_isSeated_0 : decode cX8_isSeated 0 = .ok (.aload_n 0, 1) := by decide +kernel
theorem dX8_isSeated_1 : decode cX8_isSeated 1 = .ok (.aload_n 0, 1) := by decide +kernel
theorem dX8_isSeated_2 : decode cX8_isSeated 2 = .ok (.iload_n 1, 1) := by decide +kernel
theorem dX8_isSeated_3 : decode cX8_isSeated 3 = .ok (.invokevirtual 157, 3) := by decide +kernel
theorem dX8_isSeated_6 : decode cX8_isSeated 6 = .ok (.ifCond .eq 7, 3) := by decide +kernel
theorem dX8_isSeated_9 : decode cX8_isSeated 9 = .ok (.iconst 0, 1) := by decide +kernel
theorem dX8_isSeated_10 : decode cX8_isSeated 10 = .ok (.goto 4, 3) := by decide +kernel
theorem dX8_isSeated_13 : decode cX8_isSeated 13 = .ok (.iconst 1, 1) := by decide +kernel
theorem dX8_isSeated_14 : decode cX8_isSeated 14 = .ok (.invokevirtual 165, 3) := by decide +kernel
theorem dX8_isSeated_17 : decode cX8_isSeated 17 = .ok (.ifCond .eq 5, 3) := by decide +kernel
theorem dX8_isSeated_20 : decode cX8_isSeated 20 = .ok (.iconst 0, 1) := by decide +kernel
theorem dX8_isSeated_21 : decode cX8_isSeated 21 = .ok (.ireturn, 1) := by decide +kernel
theorem dX8_isSeated_22 : decode cX8_isSeated 22 = .ok (.iconst 0, 1) := by decide +kernel
theorem dX8_isSeated_23 : decode cX8_isSeated 23 = .ok (.istore_n 2, 1) := by decide +kernel
theorem dX8_isSeated_24 : decode cX8_isSeated 24 = .ok (.iconst 0, 1) := by decide +kernel
theorem dX8_isSeated_25 : decode cX8_isSeated 25 = .ok (.istore_n 3, 1) := by decide +kernel
theorem dX8_isSeated_26 : decode cX8_isSeated 26 = .ok (.iload_n 3, 1) := by decide +kernel
theorem dX8_isSeated_27 : decode cX8_isSeated 27 = .ok (.bipush 80, 2) := by decide +kernel
theorem dX8_isSeated_29 : decode cX8_isSeated 29 = .ok (.if_icmp .ge 29, 3) := by decide +kernel
theorem dX8_isSeated_32 : decode cX8_isSeated 32 = .ok (.iload_n 2, 1) := by decide +kernel
theorem dX8_isSeated_33 : decode cX8_isSeated 33 = .ok (.ifCond .ne 13, 3) := by decide +kernel
theorem dX8_isSeated_36 : decode cX8_isSeated 36 = .ok (.aload_n 0, 1) := by decide +kernel
theorem dX8_isSeated_37 : decode cX8_isSeated 37 = .ok (.getfield 17, 3) := by decide +kernel
theorem dX8_isSeated_40 : decode cX8_isSeated 40 = .ok (.iload_n 3, 1) := by decide +kernel
theorem dX8_isSeated_41 : decode cX8_isSeated 41 = .ok (.iaload, 1) := by decide +kernel
theorem dX8_isSeated_42 : decode cX8_isSeated 42 = .ok (.iload_n 1, 1) := by decide +kernel
theorem dX8_isSeated_43 : decode cX8_isSeated 43 = .ok (.if_icmp .ne 7, 3) := by decide +kernel
theorem dX8_isSeated_46 : decode cX8_isSeated 46 = .ok (.iconst 1, 1) := by decide +kernel
theorem dX8_isSeated_47 : decode cX8_isSeated 47 = .ok (.goto 4, 3) := by decide +kernel
theorem dX8_isSeated_50 : decode cX8_isSeated 50 = .ok (.iconst 0, 1) := by decide +kernel
theorem dX8_isSeated_51 : decode cX8_isSeated 51 = .ok (.istore_n 2, 1) := by decide +kernel
theorem dX8_isSeated_52 : decode cX8_isSeated 52 = .ok (.iinc 3 1, 3) := by decide +kernel
theorem dX8_isSeated_55 : decode cX8_isSeated 55 = .ok (.goto (-29), 3) := by decide +kernel
theorem dX8_isSeated_58 : decode cX8_isSeated 58 = .ok (.iload_n 2, 1) := by decide +kernel
theorem dX8_isSeated_59 : decode cX8_isSeated 59 = .ok (.ireturn, 1) := by decide +kernel
theorem dX8_addSinger_0 : decode cX8_addSinger 0 = .ok (.iload_n 1, 1) := by decide +kernel
theorem dX8_addSinger_1 : decode cX8_addSinger 1 = .ok (.iconst 0, 1) := by decide +kernel
theorem dX8_addSinger_2 : decode cX8_addSinger 2 = .ok (.sipush 999, 3) := by decide +kernel
theorem dX8_addSinger_5 : decode cX8_addSinger 5 = .ok (.invokestatic 128, 3) := by decide +kernel
theorem dX8_addSinger_8 : decode cX8_addSinger 8 = .ok (.ifCond .eq 13, 3) := by decide +kernel
theorem dX8_addSinger_11 : decode cX8_addSinger 11 = .ok (.iload_n 2, 1) := by decide +kernel
theorem dX8_addSinger_12 : decode cX8_addSinger 12 = .ok (.iconst 0, 1) := by decide +kernel
theorem dX8_addSinger_13 : decode cX8_addSinger 13 = .ok (.bipush 99, 2) := by decide +kernel
theorem dX8_addSinger_15 : decode cX8_addSinger 15 = .ok (.invokestatic 128, 3) := by decide +kernel
theorem dX8_addSinger_18 : decode cX8_addSinger 18 = .ok (.ifCond .ne 9, 3) := by decide +kernel
theorem dX8_addSinger_21 : decode cX8_addSinger 21 = .ok (.aload_n 0, 1) := by decide +kernel
theorem dX8_addSinger_22 : decode cX8_addSinger 22 = .ok (.iconst 1, 1) := by decide +kernel
theorem dX8_addSinger_23 : decode cX8_addSinger 23 = .ok (.invokevirtual 135, 3) := by decide +kernel
theorem dX8_addSinger_26 : decode cX8_addSinger 26 = .ok (.ireturn, 1) := by decide +kernel
theorem dX8_addSinger_27 : decode cX8_addSinger 27 = .ok (.aload_n 0, 1) := by decide +kernel
theorem dX8_addSinger_28 : decode cX8_addSinger 28 = .ok (.getfield 91, 3) := by decide +kernel
theorem dX8_addSinger_31 : decode cX8_addSinger 31 = .ok (.bipush 6, 2) := by decide +kernel
theorem dX8_addSinger_33 : decode cX8_addSinger 33 = .ok (.if_icmp .ne 9, 3) := by decide +kernel
theorem dX8_addSinger_36 : decode cX8_addSinger 36 = .ok (.aload_n 0, 1) := by decide +kernel
theorem dX8_addSinger_37 : decode cX8_addSinger 37 = .ok (.iconst 2, 1) := by decide +kernel
theorem dX8_addSinger_38 : decode cX8_addSinger 38 = .ok (.invokevirtual 135, 3) := by decide +kernel
theorem dX8_addSinger_41 : decode cX8_addSinger 41 = .ok (.ireturn, 1) := by decide +kernel
theorem dX8_addSinger_42 : decode cX8_addSinger 42 = .ok (.aload_n 0, 1) := by decide +kernel
theorem dX8_addSinger_43 : decode cX8_addSinger 43 = .ok (.getfield 57, 3) := by decide +kernel
theorem dX8_addSinger_46 : decode cX8_addSinger 46 = .ok (.aload_n 0, 1) := by decide +kernel
theorem dX8_addSinger_47 : decode cX8_addSinger 47 = .ok (.getfield 91, 3) := by decide +kernel
theorem dX8_addSinger_50 : decode cX8_addSinger 50 = .ok (.iload_n 1, 1) := by decide +kernel
theorem dX8_addSinger_51 : decode cX8_addSinger 51 = .ok (.iastore, 1) := by decide +kernel
theorem dX8_addSinger_52 : decode cX8_addSinger 52 = .ok (.aload_n 0, 1) := by decide +kernel
theorem dX8_addSinger_53 : decode cX8_addSinger 53 = .ok (.getfield 60, 3) := by decide +kernel
theorem dX8_addSinger_56 : decode cX8_addSinger 56 = .ok (.aload_n 0, 1) := by decide +kernel
theorem dX8_addSinger_57 : decode cX8_addSinger 57 = .ok (.getfield 91, 3) := by decide +kernel
theorem dX8_addSinger_60 : decode cX8_addSinger 60 = .ok (.iload_n 2, 1) := by decide +kernel
theorem dX8_addSinger_61 : decode cX8_addSinger 61 = .ok (.iastore, 1) := by decide +kernel
theorem dX8_addSinger_62 : decode cX8_addSinger 62 = .ok (.aload_n 0, 1) := by decide +kernel
theorem dX8_addSinger_63 : decode cX8_addSinger 63 = .ok (.dup, 1) := by decide +kernel
theorem dX8_addSinger_64 : decode cX8_addSinger 64 = .ok (.getfield 91, 3) := by decide +kernel
theorem dX8_addSinger_67 : decode cX8_addSinger 67 = .ok (.iconst 1, 1) := by decide +kernel
theorem dX8_addSinger_68 : decode cX8_addSinger 68 = .ok (.iadd, 1) := by decide +kernel
theorem dX8_addSinger_69 : decode cX8_addSinger 69 = .ok (.putfield 91, 3) := by decide +kernel
theorem dX8_addSinger_72 : decode cX8_addSinger 72 = .ok (.aload_n 0, 1) := by decide +kernel
theorem dX8_addSinger_73 : decode cX8_addSinger 73 = .ok (.aload_n 0, 1) := by decide +kernel
theorem dX8_addSinger_74 : decode cX8_addSinger 74 = .ok (.getfield 91, 3) := by decide +kernel
theorem dX8_addSinger_77 : decode cX8_addSinger 77 = .ok (.iconst 1, 1) := by decide +kernel
theorem dX8_addSinger_78 : decode cX8_addSinger 78 = .ok (.isub, 1) := by decide +kernel
theorem dX8_addSinger_79 : decode cX8_addSinger 79 = .ok (.invokevirtual 142, 3) := by decide +kernel
theorem dX8_addSinger_82 : decode cX8_addSinger 82 = .ok (.ireturn, 1) := by decide +kernel
theorem dX8_addCue_0 : decode cX8_addCue 0 = .ok (.aload_n 0, 1) := by decide +kernel
theorem dX8_addCue_1 : decode cX8_addCue 1 = .ok (.iload_n 1, 1) := by decide +kernel
theorem dX8_addCue_2 : decode cX8_addCue 2 = .ok (.invokevirtual 168, 3) := by decide +kernel
theorem dX8_addCue_5 : decode cX8_addCue 5 = .ok (.ifCond .ne 9, 3) := by decide +kernel
theorem dX8_addCue_8 : decode cX8_addCue 8 = .ok (.aload_n 0, 1) := by decide +kernel
theorem dX8_addCue_9 : decode cX8_addCue 9 = .ok (.iconst 1, 1) := by decide +kernel
theorem dX8_addCue_10 : decode cX8_addCue 10 = .ok (.invokevirtual 135, 3) := by decide +kernel
theorem dX8_addCue_13 : decode cX8_addCue 13 = .ok (.ireturn, 1) := by decide +kernel
theorem dX8_addCue_14 : decode cX8_addCue 14 = .ok (.iload_n 2, 1) := by decide +kernel
theorem dX8_addCue_15 : decode cX8_addCue 15 = .ok (.iconst 0, 1) := by decide +kernel
theorem dX8_addCue_16 : decode cX8_addCue 16 = .ok (.invokestatic 161, 3) := by decide +kernel
theorem dX8_addCue_19 : decode cX8_addCue 19 = .ok (.ifCond .eq 35, 3) := by decide +kernel
theorem dX8_addCue_22 : decode cX8_addCue 22 = .ok (.iload_n 3, 1) := by decide +kernel
theorem dX8_addCue_23 : decode cX8_addCue 23 = .ok (.iconst 0, 1) := by decide +kernel
theorem dX8_addCue_24 : decode cX8_addCue 24 = .ok (.sipush 299, 3) := by decide +kernel
theorem dX8_addCue_27 : decode cX8_addCue 27 = .ok (.invokestatic 128, 3) := by decide +kernel
theorem dX8_addCue_30 : decode cX8_addCue 30 = .ok (.ifCond .eq 24, 3) := by decide +kernel
theorem dX8_addCue_33 : decode cX8_addCue 33 = .ok (.iload 4, 2) := by decide +kernel
theorem dX8_addCue_35 : decode cX8_addCue 35 = .ok (.iconst 1, 1) := by decide +kernel
theorem dX8_addCue_36 : decode cX8_addCue 36 = .ok (.iconst 3, 1) := by decide +kernel
theorem dX8_addCue_37 : decode cX8_addCue 37 = .ok (.invokestatic 128, 3) := by decide +kernel
theorem dX8_addCue_40 : decode cX8_addCue 40 = .ok (.ifCond .eq 14, 3) := by decide +kernel
theorem dX8_addCue_43 : decode cX8_addCue 43 = .ok (.iload 5, 2) := by decide +kernel
theorem dX8_addCue_45 : decode cX8_addCue 45 = .ok (.iconst 1, 1) := by decide +kernel
theorem dX8_addCue_46 : decode cX8_addCue 46 = .ok (.bipush 30, 2) := by decide +kernel
theorem dX8_addCue_48 : decode cX8_addCue 48 = .ok (.invokestatic 128, 3) := by decide +kernel
theorem dX8_addCue_51 : decode cX8_addCue 51 = .ok (.ifCond .ne 9, 3) := by decide +kernel
theorem dX8_addCue_54 : decode cX8_addCue 54 = .ok (.aload_n 0, 1) := by decide +kernel
theorem dX8_addCue_55 : decode cX8_addCue 55 = .ok (.iconst 2, 1) := by decide +kernel
theorem dX8_addCue_56 : decode cX8_addCue 56 = .ok (.invokevirtual 135, 3) := by decide +kernel
theorem dX8_addCue_59 : decode cX8_addCue 59 = .ok (.ireturn, 1) := by decide +kernel
theorem dX8_addCue_60 : decode cX8_addCue 60 = .ok (.iload_n 3, 1) := by decide +kernel
theorem dX8_addCue_61 : decode cX8_addCue 61 = .ok (.aload_n 0, 1) := by decide +kernel
theorem dX8_addCue_62 : decode cX8_addCue 62 = .ok (.getfield 100, 3) := by decide +kernel
theorem dX8_addCue_65 : decode cX8_addCue 65 = .ok (.if_icmp .ge 9, 3) := by decide +kernel
theorem dX8_addCue_68 : decode cX8_addCue 68 = .ok (.aload_n 0, 1) := by decide +kernel
theorem dX8_addCue_69 : decode cX8_addCue 69 = .ok (.iconst 3, 1) := by decide +kernel
theorem dX8_addCue_70 : decode cX8_addCue 70 = .ok (.invokevirtual 135, 3) := by decide +kernel
theorem dX8_addCue_73 : decode cX8_addCue 73 = .ok (.ireturn, 1) := by decide +kernel
theorem dX8_addCue_74 : decode cX8_addCue 74 = .ok (.aload_n 0, 1) := by decide +kernel
theorem dX8_addCue_75 : decode cX8_addCue 75 = .ok (.getfield 94, 3) := by decide +kernel
theorem dX8_addCue_78 : decode cX8_addCue 78 = .ok (.bipush 12, 2) := by decide +kernel
theorem dX8_addCue_80 : decode cX8_addCue 80 = .ok (.if_icmp .ne 9, 3) := by decide +kernel
theorem dX8_addCue_83 : decode cX8_addCue 83 = .ok (.aload_n 0, 1) := by decide +kernel
theorem dX8_addCue_84 : decode cX8_addCue 84 = .ok (.iconst 4, 1) := by decide +kernel
theorem dX8_addCue_85 : decode cX8_addCue 85 = .ok (.invokevirtual 135, 3) := by decide +kernel
theorem dX8_addCue_88 : decode cX8_addCue 88 = .ok (.ireturn, 1) := by decide +kernel
theorem dX8_addCue_89 : decode cX8_addCue 89 = .ok (.aload_n 0, 1) := by decide +kernel
theorem dX8_addCue_90 : decode cX8_addCue 90 = .ok (.getfield 69, 3) := by decide +kernel
theorem dX8_addCue_93 : decode cX8_addCue 93 = .ok (.aload_n 0, 1) := by decide +kernel
theorem dX8_addCue_94 : decode cX8_addCue 94 = .ok (.getfield 94, 3) := by decide +kernel
theorem dX8_addCue_97 : decode cX8_addCue 97 = .ok (.iload_n 1, 1) := by decide +kernel
theorem dX8_addCue_98 : decode cX8_addCue 98 = .ok (.iastore, 1) := by decide +kernel
theorem dX8_addCue_99 : decode cX8_addCue 99 = .ok (.aload_n 0, 1) := by decide +kernel
theorem dX8_addCue_100 : decode cX8_addCue 100 = .ok (.getfield 42, 3) := by decide +kernel
theorem dX8_addCue_103 : decode cX8_addCue 103 = .ok (.aload_n 0, 1) := by decide +kernel
theorem dX8_addCue_104 : decode cX8_addCue 104 = .ok (.getfield 94, 3) := by decide +kernel
theorem dX8_addCue_107 : decode cX8_addCue 107 = .ok (.iload_n 2, 1) := by decide +kernel
theorem dX8_addCue_108 : decode cX8_addCue 108 = .ok (.castore, 1) := by decide +kernel
theorem dX8_addCue_109 : decode cX8_addCue 109 = .ok (.aload_n 0, 1) := by decide +kernel
theorem dX8_addCue_110 : decode cX8_addCue 110 = .ok (.getfield 72, 3) := by decide +kernel
theorem dX8_addCue_113 : decode cX8_addCue 113 = .ok (.aload_n 0, 1) := by decide +kernel
theorem dX8_addCue_114 : decode cX8_addCue 114 = .ok (.getfield 94, 3) := by decide +kernel
theorem dX8_addCue_117 : decode cX8_addCue 117 = .ok (.iload_n 3, 1) := by decide +kernel
theorem dX8_addCue_118 : decode cX8_addCue 118 = .ok (.iastore, 1) := by decide +kernel
theorem dX8_addCue_119 : decode cX8_addCue 119 = .ok (.aload_n 0, 1) := by decide +kernel
theorem dX8_addCue_120 : decode cX8_addCue 120 = .ok (.getfield 75, 3) := by decide +kernel
theorem dX8_addCue_123 : decode cX8_addCue 123 = .ok (.aload_n 0, 1) := by decide +kernel
theorem dX8_addCue_124 : decode cX8_addCue 124 = .ok (.getfield 94, 3) := by decide +kernel
theorem dX8_addCue_127 : decode cX8_addCue 127 = .ok (.iload 4, 2) := by decide +kernel
theorem dX8_addCue_129 : decode cX8_addCue 129 = .ok (.iastore, 1) := by decide +kernel
theorem dX8_addCue_130 : decode cX8_addCue 130 = .ok (.aload_n 0, 1) := by decide +kernel
theorem dX8_addCue_131 : decode cX8_addCue 131 = .ok (.getfield 78, 3) := by decide +kernel
theorem dX8_addCue_134 : decode cX8_addCue 134 = .ok (.aload_n 0, 1) := by decide +kernel
theorem dX8_addCue_135 : decode cX8_addCue 135 = .ok (.getfield 94, 3) := by decide +kernel
theorem dX8_addCue_138 : decode cX8_addCue 138 = .ok (.iload 5, 2) := by decide +kernel
theorem dX8_addCue_140 : decode cX8_addCue 140 = .ok (.iastore, 1) := by decide +kernel
theorem dX8_addCue_141 : decode cX8_addCue 141 = .ok (.aload_n 0, 1) := by decide +kernel
theorem dX8_addCue_142 : decode cX8_addCue 142 = .ok (.dup, 1) := by decide +kernel
theorem dX8_addCue_143 : decode cX8_addCue 143 = .ok (.getfield 94, 3) := by decide +kernel
theorem dX8_addCue_146 : decode cX8_addCue 146 = .ok (.iconst 1, 1) := by decide +kernel
theorem dX8_addCue_147 : decode cX8_addCue 147 = .ok (.iadd, 1) := by decide +kernel
theorem dX8_addCue_148 : decode cX8_addCue 148 = .ok (.putfield 94, 3) := by decide +kernel
theorem dX8_addCue_151 : decode cX8_addCue 151 = .ok (.aload_n 0, 1) := by decide +kernel
theorem dX8_addCue_152 : decode cX8_addCue 152 = .ok (.aload_n 0, 1) := by decide +kernel
theorem dX8_addCue_153 : decode cX8_addCue 153 = .ok (.getfield 94, 3) := by decide +kernel
theorem dX8_addCue_156 : decode cX8_addCue 156 = .ok (.iconst 1, 1) := by decide +kernel
theorem dX8_addCue_157 : decode cX8_addCue 157 = .ok (.isub, 1) := by decide +kernel
theorem dX8_addCue_158 : decode cX8_addCue 158 = .ok (.invokevirtual 142, 3) := by decide +kernel
theorem dX8_addCue_161 : decode cX8_addCue 161 = .ok (.ireturn, 1) := by decide +kernel
theorem dX8_setLevel_0 : decode cX8_setLevel 0 = .ok (.iload_n 1, 1) := by decide +kernel
theorem dX8_setLevel_1 : decode cX8_setLevel 1 = .ok (.iconst 1, 1) := by decide +kernel
theorem dX8_setLevel_2 : decode cX8_setLevel 2 = .ok (.sipush 999, 3) := by decide +kernel
theorem dX8_setLevel_5 : decode cX8_setLevel 5 = .ok (.invokestatic 128, 3) := by decide +kernel
theorem dX8_setLevel_8 : decode cX8_setLevel 8 = .ok (.ifCond .ne 9, 3) := by decide +kernel
theorem dX8_setLevel_11 : decode cX8_setLevel 11 = .ok (.aload_n 0, 1) := by decide +kernel
theorem dX8_setLevel_12 : decode cX8_setLevel 12 = .ok (.iconst 1, 1) := by decide +kernel
theorem dX8_setLevel_13 : decode cX8_setLevel 13 = .ok (.invokevirtual 135, 3) := by decide +kernel
theorem dX8_setLevel_16 : decode cX8_setLevel 16 = .ok (.ireturn, 1) := by decide +kernel
theorem dX8_setLevel_17 : decode cX8_setLevel 17 = .ok (.aload_n 0, 1) := by decide +kernel
theorem dX8_setLevel_18 : decode cX8_setLevel 18 = .ok (.getfield 97, 3) := by decide +kernel
theorem dX8_setLevel_21 : decode cX8_setLevel 21 = .ok (.istore_n 2, 1) := by decide +kernel
theorem dX8_setLevel_22 : decode cX8_setLevel 22 = .ok (.aload_n 0, 1) := by decide +kernel
theorem dX8_setLevel_23 : decode cX8_setLevel 23 = .ok (.iload_n 1, 1) := by decide +kernel
theorem dX8_setLevel_24 : decode cX8_setLevel 24 = .ok (.putfield 97, 3) := by decide +kernel
theorem dX8_setLevel_27 : decode cX8_setLevel 27 = .ok (.aload_n 0, 1) := by decide +kernel
theorem dX8_setLevel_28 : decode cX8_setLevel 28 = .ok (.iload_n 2, 1) := by decide +kernel
theorem dX8_setLevel_29 : decode cX8_setLevel 29 = .ok (.invokevirtual 142, 3) := by decide +kernel
theorem dX8_setLevel_32 : decode cX8_setLevel 32 = .ok (.ireturn, 1) := by decide +kernel
theorem dX8_handNoise_0 : decode cX8_handNoise 0 = .ok (.iconst 0, 1) := by decide +kernel
theorem dX8_handNoise_1 : decode cX8_handNoise 1 = .ok (.istore_n 2, 1) := by decide +kernel
theorem dX8_handNoise_2 : decode cX8_handNoise 2 = .ok (.iconst 0, 1) := by decide +kernel
theorem dX8_handNoise_3 : decode cX8_handNoise 3 = .ok (.istore_n 3, 1) := by decide +kernel
theorem dX8_handNoise_4 : decode cX8_handNoise 4 = .ok (.iload_n 3, 1) := by decide +kernel
theorem dX8_handNoise_5 : decode cX8_handNoise 5 = .ok (.aload_n 0, 1) := by decide +kernel
theorem dX8_handNoise_6 : decode cX8_handNoise 6 = .ok (.getfield 94, 3) := by decide +kernel
theorem dX8_handNoise_9 : decode cX8_handNoise 9 = .ok (.if_icmp .ge 88, 3) := by decide +kernel
theorem dX8_handNoise_12 : decode cX8_handNoise 12 = .ok (.aload_n 0, 1) := by decide +kernel
theorem dX8_handNoise_13 : decode cX8_handNoise 13 = .ok (.getfield 100, 3) := by decide +kernel
theorem dX8_handNoise_16 : decode cX8_handNoise 16 = .ok (.aload_n 0, 1) := by decide +kernel
theorem dX8_handNoise_17 : decode cX8_handNoise 17 = .ok (.getfield 72, 3) := by decide +kernel
theorem dX8_handNoise_20 : decode cX8_handNoise 20 = .ok (.iload_n 3, 1) := by decide +kernel
theorem dX8_handNoise_21 : decode cX8_handNoise 21 = .ok (.iaload, 1) := by decide +kernel
theorem dX8_handNoise_22 : decode cX8_handNoise 22 = .ok (.aload_n 0, 1) := by decide +kernel
theorem dX8_handNoise_23 : decode cX8_handNoise 23 = .ok (.getfield 72, 3) := by decide +kernel
theorem dX8_handNoise_26 : decode cX8_handNoise 26 = .ok (.iload_n 3, 1) := by decide +kernel
theorem dX8_handNoise_27 : decode cX8_handNoise 27 = .ok (.iaload, 1) := by decide +kernel
theorem dX8_handNoise_28 : decode cX8_handNoise 28 = .ok (.aload_n 0, 1) := by decide +kernel
theorem dX8_handNoise_29 : decode cX8_handNoise 29 = .ok (.getfield 78, 3) := by decide +kernel
theorem dX8_handNoise_32 : decode cX8_handNoise 32 = .ok (.iload_n 3, 1) := by decide +kernel
theorem dX8_handNoise_33 : decode cX8_handNoise 33 = .ok (.iaload, 1) := by decide +kernel
theorem dX8_handNoise_34 : decode cX8_handNoise 34 = .ok (.iadd, 1) := by decide +kernel
theorem dX8_handNoise_35 : decode cX8_handNoise 35 = .ok (.iconst 1, 1) := by decide +kernel
theorem dX8_handNoise_36 : decode cX8_handNoise 36 = .ok (.isub, 1) := by decide +kernel
theorem dX8_handNoise_37 : decode cX8_handNoise 37 = .ok (.invokestatic 128, 3) := by decide +kernel
theorem dX8_handNoise_40 : decode cX8_handNoise 40 = .ok (.istore 4, 2) := by decide +kernel
theorem dX8_handNoise_42 : decode cX8_handNoise 42 = .ok (.iload 4, 2) := by decide +kernel
theorem dX8_handNoise_44 : decode cX8_handNoise 44 = .ok (.ifCond .eq 47, 3) := by decide +kernel
theorem dX8_handNoise_47 : decode cX8_handNoise 47 = .ok (.aload_n 0, 1) := by decide +kernel
theorem dX8_handNoise_48 : decode cX8_handNoise 48 = .ok (.getfield 39, 3) := by decide +kernel
theorem dX8_handNoise_51 : decode cX8_handNoise 51 = .ok (.iload_n 1, 1) := by decide +kernel
theorem dX8_handNoise_52 : decode cX8_handNoise 52 = .ok (.caload, 1) := by decide +kernel
theorem dX8_handNoise_53 : decode cX8_handNoise 53 = .ok (.bipush 97, 2) := by decide +kernel
theorem dX8_handNoise_55 : decode cX8_handNoise 55 = .ok (.if_icmp .eq 18, 3) := by decide +kernel
theorem dX8_handNoise_58 : decode cX8_handNoise 58 = .ok (.aload_n 0, 1) := by decide +kernel
theorem dX8_handNoise_59 : decode cX8_handNoise 59 = .ok (.getfield 39, 3) := by decide +kernel
theorem dX8_handNoise_62 : decode cX8_handNoise 62 = .ok (.iload_n 1, 1) := by decide +kernel
theorem dX8_handNoise_63 : decode cX8_handNoise 63 = .ok (.caload, 1) := by decide +kernel
theorem dX8_handNoise_64 : decode cX8_handNoise 64 = .ok (.aload_n 0, 1) := by decide +kernel
theorem dX8_handNoise_65 : decode cX8_handNoise 65 = .ok (.getfield 42, 3) := by decide +kernel
theorem dX8_handNoise_68 : decode cX8_handNoise 68 = .ok (.iload_n 3, 1) := by decide +kernel
theorem dX8_handNoise_69 : decode cX8_handNoise 69 = .ok (.caload, 1) := by decide +kernel
theorem dX8_handNoise_70 : decode cX8_handNoise 70 = .ok (.if_icmp .ne 21, 3) := by decide +kernel
theorem dX8_handNoise_73 : decode cX8_handNoise 73 = .ok (.iload_n 2, 1) := by decide +kernel
theorem dX8_handNoise_74 : decode cX8_handNoise 74 = .ok (.aload_n 0, 1) := by decide +kernel
theorem dX8_handNoise_75 : decode cX8_handNoise 75 = .ok (.getfield 45, 3) := by decide +kernel
theorem dX8_handNoise_78 : decode cX8_handNoise 78 = .ok (.iload_n 1, 1) := by decide +kernel
theorem dX8_handNoise_79 : decode cX8_handNoise 79 = .ok (.iaload, 1) := by decide +kernel
theorem dX8_handNoise_80 : decode cX8_handNoise 80 = .ok (.aload_n 0, 1) := by decide +kernel
theorem dX8_handNoise_81 : decode cX8_handNoise 81 = .ok (.getfield 75, 3) := by decide +kernel
theorem dX8_handNoise_84 : decode cX8_handNoise 84 = .ok (.iload_n 3, 1) := by decide +kernel
theorem dX8_handNoise_85 : decode cX8_handNoise 85 = .ok (.iaload, 1) := by decide +kernel
theorem dX8_handNoise_86 : decode cX8_handNoise 86 = .ok (.imul, 1) := by decide +kernel
theorem dX8_handNoise_87 : decode cX8_handNoise 87 = .ok (.invokestatic 171, 3) := by decide +kernel
theorem dX8_handNoise_90 : decode cX8_handNoise 90 = .ok (.istore_n 2, 1) := by decide +kernel
theorem dX8_handNoise_91 : decode cX8_handNoise 91 = .ok (.iinc 3 1, 3) := by decide +kernel
theorem dX8_handNoise_94 : decode cX8_handNoise 94 = .ok (.goto (-90), 3) := by decide +kernel
theorem dX8_handNoise_97 : decode cX8_handNoise 97 = .ok (.aload_n 0, 1) := by decide +kernel
theorem dX8_handNoise_98 : decode cX8_handNoise 98 = .ok (.getfield 112, 3) := by decide +kernel
theorem dX8_handNoise_101 : decode cX8_handNoise 101 = .ok (.iconst 3, 1) := by decide +kernel
theorem dX8_handNoise_102 : decode cX8_handNoise 102 = .ok (.if_icmp .lt 7, 3) := by decide +kernel
theorem dX8_handNoise_105 : decode cX8_handNoise 105 = .ok (.iconst 0, 1) := by decide +kernel
theorem dX8_handNoise_106 : decode cX8_handNoise 106 = .ok (.goto 9, 3) := by decide +kernel
theorem dX8_handNoise_109 : decode cX8_handNoise 109 = .ok (.bipush 9, 2) := by decide +kernel
theorem dX8_handNoise_111 : decode cX8_handNoise 111 = .ok (.iload_n 2, 1) := by decide +kernel
theorem dX8_handNoise_112 : decode cX8_handNoise 112 = .ok (.invokestatic 175, 3) := by decide +kernel
theorem dX8_handNoise_115 : decode cX8_handNoise 115 = .ok (.ireturn, 1) := by decide +kernel
theorem dX8_around_0 : decode cX8_around 0 = .ok (.iconst 0, 1) := by decide +kernel
theorem dX8_around_1 : decode cX8_around 1 = .ok (.istore_n 2, 1) := by decide +kernel
theorem dX8_around_2 : decode cX8_around 2 = .ok (.iload_n 1, 1) := by decide +kernel
theorem dX8_around_3 : decode cX8_around 3 = .ok (.bipush 10, 2) := by decide +kernel
theorem dX8_around_5 : decode cX8_around 5 = .ok (.idiv, 1) := by decide +kernel
theorem dX8_around_6 : decode cX8_around 6 = .ok (.iconst 1, 1) := by decide +kernel
theorem dX8_around_7 : decode cX8_around 7 = .ok (.isub, 1) := by decide +kernel
theorem dX8_around_8 : decode cX8_around 8 = .ok (.istore_n 3, 1) := by decide +kernel
theorem dX8_around_9 : decode cX8_around 9 = .ok (.iload_n 3, 1) := by decide +kernel
theorem dX8_around_10 : decode cX8_around 10 = .ok (.iload_n 1, 1) := by decide +kernel
theorem dX8_around_11 : decode cX8_around 11 = .ok (.bipush 10, 2) := by decide +kernel
theorem dX8_around_13 : decode cX8_around 13 = .ok (.idiv, 1) := by decide +kernel
theorem dX8_around_14 : decode cX8_around 14 = .ok (.iconst 1, 1) := by decide +kernel
theorem dX8_around_15 : decode cX8_around 15 = .ok (.iadd, 1) := by decide +kernel
theorem dX8_around_16 : decode cX8_around 16 = .ok (.if_icmp .gt 94, 3) := by decide +kernel
theorem dX8_around_19 : decode cX8_around 19 = .ok (.iload_n 1, 1) := by decide +kernel
theorem dX8_around_20 : decode cX8_around 20 = .ok (.bipush 10, 2) := by decide +kernel
theorem dX8_around_22 : decode cX8_around 22 = .ok (.irem, 1) := by decide +kernel
theorem dX8_around_23 : decode cX8_around 23 = .ok (.iconst 1, 1) := by decide +kernel
theorem dX8_around_24 : decode cX8_around 24 = .ok (.isub, 1) := by decide +kernel
theorem dX8_around_25 : decode cX8_around 25 = .ok (.istore 4, 2) := by decide +kernel
theorem dX8_around_27 : decode cX8_around 27 = .ok (.iload 4, 2) := by decide +kernel
theorem dX8_around_29 : decode cX8_around 29 = .ok (.iload_n 1, 1) := by decide +kernel
theorem dX8_around_30 : decode cX8_around 30 = .ok (.bipush 10, 2) := by decide +kernel
theorem dX8_around_32 : decode cX8_around 32 = .ok (.irem, 1) := by decide +kernel
theorem dX8_around_33 : decode cX8_around 33 = .ok (.iconst 1, 1) := by decide +kernel
theorem dX8_around_34 : decode cX8_around 34 = .ok (.iadd, 1) := by decide +kernel
theorem dX8_around_35 : decode cX8_around 35 = .ok (.if_icmp .gt 69, 3) := by decide +kernel
theorem dX8_around_38 : decode cX8_around 38 = .ok (.aload_n 0, 1) := by decide +kernel
theorem dX8_around_39 : decode cX8_around 39 = .ok (.iload_n 3, 1) := by decide +kernel
theorem dX8_around_40 : decode cX8_around 40 = .ok (.iload 4, 2) := by decide +kernel
theorem dX8_around_42 : decode cX8_around 42 = .ok (.invokevirtual 145, 3) := by decide +kernel
theorem dX8_around_45 : decode cX8_around 45 = .ok (.ifCond .eq 53, 3) := by decide +kernel
theorem dX8_around_48 : decode cX8_around 48 = .ok (.bipush 10, 2) := by decide +kernel
theorem dX8_around_50 : decode cX8_around 50 = .ok (.iload_n 3, 1) := by decide +kernel
theorem dX8_around_51 : decode cX8_around 51 = .ok (.imul, 1) := by decide +kernel
theorem dX8_around_52 : decode cX8_around 52 = .ok (.iload 4, 2) := by decide +kernel
theorem dX8_around_54 : decode cX8_around 54 = .ok (.iadd, 1) := by decide +kernel
theorem dX8_around_55 : decode cX8_around 55 = .ok (.iload_n 1, 1) := by decide +kernel
theorem dX8_around_56 : decode cX8_around 56 = .ok (.if_icmp .ne 6, 3) := by decide +kernel
theorem dX8_around_59 : decode cX8_around 59 = .ok (.goto 39, 3) := by decide +kernel
theorem dX8_around_62 : decode cX8_around 62 = .ok (.iload_n 2, 1) := by decide +kernel
theorem dX8_around_63 : decode cX8_around 63 = .ok (.aload_n 0, 1) := by decide +kernel
theorem dX8_around_64 : decode cX8_around 64 = .ok (.getfield 26, 3) := by decide +kernel
theorem dX8_around_67 : decode cX8_around 67 = .ok (.bipush 10, 2) := by decide +kernel
theorem dX8_around_69 : decode cX8_around 69 = .ok (.iload_n 3, 1) := by decide +kernel
theorem dX8_around_70 : decode cX8_around 70 = .ok (.imul, 1) := by decide +kernel
theorem dX8_around_71 : decode cX8_around 71 = .ok (.iload 4, 2) := by decide +kernel
theorem dX8_around_73 : decode cX8_around 73 = .ok (.iadd, 1) := by decide +kernel
theorem dX8_around_74 : decode cX8_around 74 = .ok (.iaload, 1) := by decide +kernel
theorem dX8_around_75 : decode cX8_around 75 = .ok (.aload_n 0, 1) := by decide +kernel
theorem dX8_around_76 : decode cX8_around 76 = .ok (.getfield 36, 3) := by decide +kernel
theorem dX8_around_79 : decode cX8_around 79 = .ok (.bipush 10, 2) := by decide +kernel
theorem dX8_around_81 : decode cX8_around 81 = .ok (.iload_n 3, 1) := by decide +kernel
theorem dX8_around_82 : decode cX8_around 82 = .ok (.imul, 1) := by decide +kernel
theorem dX8_around_83 : decode cX8_around 83 = .ok (.iload 4, 2) := by decide +kernel
theorem dX8_around_85 : decode cX8_around 85 = .ok (.iadd, 1) := by decide +kernel
theorem dX8_around_86 : decode cX8_around 86 = .ok (.baload, 1) := by decide +kernel
theorem dX8_around_87 : decode cX8_around 87 = .ok (.ifCond .eq 7, 3) := by decide +kernel
theorem dX8_around_90 : decode cX8_around 90 = .ok (.iconst 4, 1) := by decide +kernel
theorem dX8_around_91 : decode cX8_around 91 = .ok (.goto 4, 3) := by decide +kernel
theorem dX8_around_94 : decode cX8_around 94 = .ok (.iconst 0, 1) := by decide +kernel
theorem dX8_around_95 : decode cX8_around 95 = .ok (.isub, 1) := by decide +kernel
theorem dX8_around_96 : decode cX8_around 96 = .ok (.iadd, 1) := by decide +kernel
theorem dX8_around_97 : decode cX8_around 97 = .ok (.istore_n 2, 1) := by decide +kernel
theorem dX8_around_98 : decode cX8_around 98 = .ok (.iinc 4 1, 3) := by decide +kernel
theorem dX8_around_101 : decode cX8_around 101 = .ok (.goto (-74), 3) := by decide +kernel
theorem dX8_around_104 : decode cX8_around 104 = .ok (.iinc 3 1, 3) := by decide +kernel
theorem dX8_around_107 : decode cX8_around 107 = .ok (.goto (-98), 3) := by decide +kernel
theorem dX8_around_110 : decode cX8_around 110 = .ok (.iload_n 2, 1) := by decide +kernel
theorem dX8_around_111 : decode cX8_around 111 = .ok (.ireturn, 1) := by decide +kernel
theorem dX8_sits_0 : decode cX8_sits 0 = .ok (.aload_n 0, 1) := by decide +kernel
theorem dX8_sits_1 : decode cX8_sits 1 = .ok (.getfield 29, 3) := by decide +kernel
theorem dX8_sits_4 : decode cX8_sits 4 = .ok (.iload_n 1, 1) := by decide +kernel
theorem dX8_sits_5 : decode cX8_sits 5 = .ok (.iconst 0, 1) := by decide +kernel
theorem dX8_sits_6 : decode cX8_sits 6 = .ok (.bastore, 1) := by decide +kernel
theorem dX8_sits_7 : decode cX8_sits 7 = .ok (.aload_n 0, 1) := by decide +kernel
theorem dX8_sits_8 : decode cX8_sits 8 = .ok (.getfield 33, 3) := by decide +kernel
theorem dX8_sits_11 : decode cX8_sits 11 = .ok (.iload_n 1, 1) := by decide +kernel
theorem dX8_sits_12 : decode cX8_sits 12 = .ok (.iconst 0, 1) := by decide +kernel
theorem dX8_sits_13 : decode cX8_sits 13 = .ok (.bastore, 1) := by decide +kernel
theorem dX8_sits_14 : decode cX8_sits 14 = .ok (.aload_n 0, 1) := by decide +kernel
theorem dX8_sits_15 : decode cX8_sits 15 = .ok (.getfield 7, 3) := by decide +kernel
theorem dX8_sits_18 : decode cX8_sits 18 = .ok (.iload_n 1, 1) := by decide +kernel
theorem dX8_sits_19 : decode cX8_sits 19 = .ok (.caload, 1) := by decide +kernel
theorem dX8_sits_20 : decode cX8_sits 20 = .ok (.bipush 104, 2) := by decide +kernel
theorem dX8_sits_22 : decode cX8_sits 22 = .ok (.if_icmp .ne 19, 3) := by decide +kernel
theorem dX8_sits_25 : decode cX8_sits 25 = .ok (.aload_n 0, 1) := by decide +kernel
theorem dX8_sits_26 : decode cX8_sits 26 = .ok (.getfield 20, 3) := by decide +kernel
theorem dX8_sits_29 : decode cX8_sits 29 = .ok (.iload_n 1, 1) := by decide +kernel
theorem dX8_sits_30 : decode cX8_sits 30 = .ok (.aload_n 0, 1) := by decide +kernel
theorem dX8_sits_31 : decode cX8_sits 31 = .ok (.aload_n 0, 1) := by decide +kernel
theorem dX8_sits_32 : decode cX8_sits 32 = .ok (.getfield 17, 3) := by decide +kernel
theorem dX8_sits_35 : decode cX8_sits 35 = .ok (.iload_n 1, 1) := by decide +kernel
theorem dX8_sits_36 : decode cX8_sits 36 = .ok (.iaload, 1) := by decide +kernel
theorem dX8_sits_37 : decode cX8_sits 37 = .ok (.invokevirtual 178, 3) := by decide +kernel
theorem dX8_sits_40 : decode cX8_sits 40 = .ok (.iastore, 1) := by decide +kernel
theorem dX8_sits_41 : decode cX8_sits 41 = .ok (.aload_n 0, 1) := by decide +kernel
theorem dX8_sits_42 : decode cX8_sits 42 = .ok (.getfield 7, 3) := by decide +kernel
theorem dX8_sits_45 : decode cX8_sits 45 = .ok (.iload_n 1, 1) := by decide +kernel
theorem dX8_sits_46 : decode cX8_sits 46 = .ok (.caload, 1) := by decide +kernel
theorem dX8_sits_47 : decode cX8_sits 47 = .ok (.bipush 114, 2) := by decide +kernel
theorem dX8_sits_49 : decode cX8_sits 49 = .ok (.if_icmp .ne 47, 3) := by decide +kernel
theorem dX8_sits_52 : decode cX8_sits 52 = .ok (.aload_n 0, 1) := by decide +kernel
theorem dX8_sits_53 : decode cX8_sits 53 = .ok (.getfield 33, 3) := by decide +kernel
theorem dX8_sits_56 : decode cX8_sits 56 = .ok (.iload_n 1, 1) := by decide +kernel
theorem dX8_sits_57 : decode cX8_sits 57 = .ok (.aload_n 0, 1) := by decide +kernel
theorem dX8_sits_58 : decode cX8_sits 58 = .ok (.iload_n 1, 1) := by decide +kernel
theorem dX8_sits_59 : decode cX8_sits 59 = .ok (.invokevirtual 181, 3) := by decide +kernel
theorem dX8_sits_62 : decode cX8_sits 62 = .ok (.bipush 12, 2) := by decide +kernel
theorem dX8_sits_64 : decode cX8_sits 64 = .ok (.if_icmp .lt 7, 3) := by decide +kernel
theorem dX8_sits_67 : decode cX8_sits 67 = .ok (.iconst 1, 1) := by decide +kernel
theorem dX8_sits_68 : decode cX8_sits 68 = .ok (.goto 4, 3) := by decide +kernel
theorem dX8_sits_71 : decode cX8_sits 71 = .ok (.iconst 0, 1) := by decide +kernel
theorem dX8_sits_72 : decode cX8_sits 72 = .ok (.bastore, 1) := by decide +kernel
theorem dX8_sits_73 : decode cX8_sits 73 = .ok (.aload_n 0, 1) := by decide +kernel
theorem dX8_sits_74 : decode cX8_sits 74 = .ok (.dup, 1) := by decide +kernel
theorem dX8_sits_75 : decode cX8_sits 75 = .ok (.getfield 109, 3) := by decide +kernel
theorem dX8_sits_78 : decode cX8_sits 78 = .ok (.aload_n 0, 1) := by decide +kernel
theorem dX8_sits_79 : decode cX8_sits 79 = .ok (.getfield 33, 3) := by decide +kernel
theorem dX8_sits_82 : decode cX8_sits 82 = .ok (.iload_n 1, 1) := by decide +kernel
theorem dX8_sits_83 : decode cX8_sits 83 = .ok (.baload, 1) := by decide +kernel
theorem dX8_sits_84 : decode cX8_sits 84 = .ok (.ifCond .eq 7, 3) := by decide +kernel
theorem dX8_sits_87 : decode cX8_sits 87 = .ok (.iconst 1, 1) := by decide +kernel
theorem dX8_sits_88 : decode cX8_sits 88 = .ok (.goto 4, 3) := by decide +kernel
theorem dX8_sits_91 : decode cX8_sits 91 = .ok (.iconst 0, 1) := by decide +kernel
theorem dX8_sits_92 : decode cX8_sits 92 = .ok (.iadd, 1) := by decide +kernel
theorem dX8_sits_93 : decode cX8_sits 93 = .ok (.putfield 109, 3) := by decide +kernel
theorem dX8_sits_96 : decode cX8_sits 96 = .ok (.aload_n 0, 1) := by decide +kernel
theorem dX8_sits_97 : decode cX8_sits 97 = .ok (.getfield 7, 3) := by decide +kernel
theorem dX8_sits_100 : decode cX8_sits 100 = .ok (.iload_n 1, 1) := by decide +kernel
theorem dX8_sits_101 : decode cX8_sits 101 = .ok (.caload, 1) := by decide +kernel
theorem dX8_sits_102 : decode cX8_sits 102 = .ok (.bipush 112, 2) := by decide +kernel
theorem dX8_sits_104 : decode cX8_sits 104 = .ok (.if_icmp .eq 4, 3) := by decide +kernel
theorem dX8_sits_107 : decode cX8_sits 107 = .ok (.return_, 1) := by decide +kernel
theorem dX8_sits_108 : decode cX8_sits 108 = .ok (.aload_n 0, 1) := by decide +kernel
theorem dX8_sits_109 : decode cX8_sits 109 = .ok (.iload_n 1, 1) := by decide +kernel
theorem dX8_sits_110 : decode cX8_sits 110 = .ok (.invokevirtual 181, 3) := by decide +kernel
theorem dX8_sits_113 : decode cX8_sits 113 = .ok (.istore_n 2, 1) := by decide +kernel
theorem dX8_sits_114 : decode cX8_sits 114 = .ok (.aload_n 0, 1) := by decide +kernel
theorem dX8_sits_115 : decode cX8_sits 115 = .ok (.getfield 29, 3) := by decide +kernel
theorem dX8_sits_118 : decode cX8_sits 118 = .ok (.iload_n 1, 1) := by decide +kernel
theorem dX8_sits_119 : decode cX8_sits 119 = .ok (.iload_n 2, 1) := by decide +kernel
theorem dX8_sits_120 : decode cX8_sits 120 = .ok (.iconst 3, 1) := by decide +kernel
theorem dX8_sits_121 : decode cX8_sits 121 = .ok (.aload_n 0, 1) := by decide +kernel
theorem dX8_sits_122 : decode cX8_sits 122 = .ok (.getfield 13, 3) := by decide +kernel
theorem dX8_sits_125 : decode cX8_sits 125 = .ok (.iload_n 1, 1) := by decide +kernel
theorem dX8_sits_126 : decode cX8_sits 126 = .ok (.iaload, 1) := by decide +kernel
theorem dX8_sits_127 : decode cX8_sits 127 = .ok (.aload_n 0, 1) := by decide +kernel
theorem dX8_sits_128 : decode cX8_sits 128 = .ok (.getfield 23, 3) := by decide +kernel
theorem dX8_sits_131 : decode cX8_sits 131 = .ok (.iload_n 1, 1) := by decide +kernel
theorem dX8_sits_132 : decode cX8_sits 132 = .ok (.iaload, 1) := by decide +kernel
theorem dX8_sits_133 : decode cX8_sits 133 = .ok (.bipush 10, 2) := by decide +kernel
theorem dX8_sits_135 : decode cX8_sits 135 = .ok (.idiv, 1) := by decide +kernel
theorem dX8_sits_136 : decode cX8_sits 136 = .ok (.iadd, 1) := by decide +kernel
theorem dX8_sits_137 : decode cX8_sits 137 = .ok (.imul, 1) := by decide +kernel
theorem dX8_sits_138 : decode cX8_sits 138 = .ok (.if_icmp .lt 7, 3) := by decide +kernel
theorem dX8_sits_141 : decode cX8_sits 141 = .ok (.iconst 1, 1) := by decide +kernel
theorem dX8_sits_142 : decode cX8_sits 142 = .ok (.goto 4, 3) := by decide +kernel
theorem dX8_sits_145 : decode cX8_sits 145 = .ok (.iconst 0, 1) := by decide +kernel
theorem dX8_sits_146 : decode cX8_sits 146 = .ok (.bastore, 1) := by decide +kernel
theorem dX8_sits_147 : decode cX8_sits 147 = .ok (.aload_n 0, 1) := by decide +kernel
theorem dX8_sits_148 : decode cX8_sits 148 = .ok (.getfield 20, 3) := by decide +kernel
theorem dX8_sits_151 : decode cX8_sits 151 = .ok (.iload_n 1, 1) := by decide +kernel
theorem dX8_sits_152 : decode cX8_sits 152 = .ok (.aload_n 0, 1) := by decide +kernel
theorem dX8_sits_153 : decode cX8_sits 153 = .ok (.getfield 29, 3) := by decide +kernel
theorem dX8_sits_156 : decode cX8_sits 156 = .ok (.iload_n 1, 1) := by decide +kernel
theorem dX8_sits_157 : decode cX8_sits 157 = .ok (.baload, 1) := by decide +kernel
theorem dX8_sits_158 : decode cX8_sits 158 = .ok (.ifCond .eq 18, 3) := by decide +kernel
theorem dX8_sits_161 : decode cX8_sits 161 = .ok (.iconst 1, 1) := by decide +kernel
theorem dX8_sits_162 : decode cX8_sits 162 = .ok (.bipush 9, 2) := by decide +kernel
theorem dX8_sits_164 : decode cX8_sits 164 = .ok (.iload_n 2, 1) := by decide +kernel
theorem dX8_sits_165 : decode cX8_sits 165 = .ok (.iconst 4, 1) := by decide +kernel
theorem dX8_sits_166 : decode cX8_sits 166 = .ok (.idiv, 1) := by decide +kernel
theorem dX8_sits_167 : decode cX8_sits 167 = .ok (.invokestatic 175, 3) := by decide +kernel
theorem dX8_sits_170 : decode cX8_sits 170 = .ok (.invokestatic 171, 3) := by decide +kernel
theorem dX8_sits_173 : decode cX8_sits 173 = .ok (.goto 15, 3) := by decide +kernel
theorem dX8_sits_176 : decode cX8_sits 176 = .ok (.iconst 0, 1) := by decide +kernel
theorem dX8_sits_177 : decode cX8_sits 177 = .ok (.aload_n 0, 1) := by decide +kernel
theorem dX8_sits_178 : decode cX8_sits 178 = .ok (.getfield 20, 3) := by decide +kernel
theorem dX8_sits_181 : decode cX8_sits 181 = .ok (.iload_n 1, 1) := by decide +kernel
theorem dX8_sits_182 : decode cX8_sits 182 = .ok (.iaload, 1) := by decide +kernel
theorem dX8_sits_183 : decode cX8_sits 183 = .ok (.iconst 1, 1) := by decide +kernel
theorem dX8_sits_184 : decode cX8_sits 184 = .ok (.isub, 1) := by decide +kernel
theorem dX8_sits_185 : decode cX8_sits 185 = .ok (.invokestatic 171, 3) := by decide +kernel
theorem dX8_sits_188 : decode cX8_sits 188 = .ok (.iastore, 1) := by decide +kernel
theorem dX8_sits_189 : decode cX8_sits 189 = .ok (.aload_n 0, 1) := by decide +kernel
theorem dX8_sits_190 : decode cX8_sits 190 = .ok (.getfield 23, 3) := by decide +kernel
theorem dX8_sits_193 : decode cX8_sits 193 = .ok (.iload_n 1, 1) := by decide +kernel
theorem dX8_sits_194 : decode cX8_sits 194 = .ok (.dup2, 1) := by decide +kernel
theorem dX8_sits_195 : decode cX8_sits 195 = .ok (.iaload, 1) := by decide +kernel
theorem dX8_sits_196 : decode cX8_sits 196 = .ok (.aload_n 0, 1) := by decide +kernel
theorem dX8_sits_197 : decode cX8_sits 197 = .ok (.getfield 29, 3) := by decide +kernel
theorem dX8_sits_200 : decode cX8_sits 200 = .ok (.iload_n 1, 1) := by decide +kernel
theorem dX8_sits_201 : decode cX8_sits 201 = .ok (.baload, 1) := by decide +kernel
theorem dX8_sits_202 : decode cX8_sits 202 = .ok (.ifCond .eq 7, 3) := by decide +kernel
theorem dX8_sits_205 : decode cX8_sits 205 = .ok (.iconst 1, 1) := by decide +kernel
theorem dX8_sits_206 : decode cX8_sits 206 = .ok (.goto 4, 3) := by decide +kernel
theorem dX8_sits_209 : decode cX8_sits 209 = .ok (.iconst 0, 1) := by decide +kernel
theorem dX8_sits_210 : decode cX8_sits 210 = .ok (.iadd, 1) := by decide +kernel
theorem dX8_sits_211 : decode cX8_sits 211 = .ok (.iastore, 1) := by decide +kernel
theorem dX8_sits_212 : decode cX8_sits 212 = .ok (.return_, 1) := by decide +kernel
theorem dX8_calling_0 : decode cX8_calling 0 = .ok (.iconst (-1), 1) := by decide +kernel
theorem dX8_calling_1 : decode cX8_calling 1 = .ok (.istore_n 1, 1) := by decide +kernel
theorem dX8_calling_2 : decode cX8_calling 2 = .ok (.iconst 0, 1) := by decide +kernel
theorem dX8_calling_3 : decode cX8_calling 3 = .ok (.istore_n 2, 1) := by decide +kernel
theorem dX8_calling_4 : decode cX8_calling 4 = .ok (.iload_n 2, 1) := by decide +kernel
theorem dX8_calling_5 : decode cX8_calling 5 = .ok (.aload_n 0, 1) := by decide +kernel
theorem dX8_calling_6 : decode cX8_calling 6 = .ok (.getfield 94, 3) := by decide +kernel
theorem dX8_calling_9 : decode cX8_calling 9 = .ok (.if_icmp .ge 44, 3) := by decide +kernel
theorem dX8_calling_12 : decode cX8_calling 12 = .ok (.aload_n 0, 1) := by decide +kernel
theorem dX8_calling_13 : decode cX8_calling 13 = .ok (.getfield 72, 3) := by decide +kernel
theorem dX8_calling_16 : decode cX8_calling 16 = .ok (.iload_n 2, 1) := by decide +kernel
theorem dX8_calling_17 : decode cX8_calling 17 = .ok (.iaload, 1) := by decide +kernel
theorem dX8_calling_18 : decode cX8_calling 18 = .ok (.aload_n 0, 1) := by decide +kernel
theorem dX8_calling_19 : decode cX8_calling 19 = .ok (.getfield 100, 3) := by decide +kernel
theorem dX8_calling_22 : decode cX8_calling 22 = .ok (.if_icmp .gt 25, 3) := by decide +kernel
theorem dX8_calling_25 : decode cX8_calling 25 = .ok (.iload_n 1, 1) := by decide +kernel
theorem dX8_calling_26 : decode cX8_calling 26 = .ok (.iconst (-1), 1) := by decide +kernel
theorem dX8_calling_27 : decode cX8_calling 27 = .ok (.if_icmp .eq 18, 3) := by decide +kernel
theorem dX8_calling_30 : decode cX8_calling 30 = .ok (.aload_n 0, 1) := by decide +kernel
theorem dX8_calling_31 : decode cX8_calling 31 = .ok (.getfield 72, 3) := by decide +kernel
theorem dX8_calling_34 : decode cX8_calling 34 = .ok (.iload_n 2, 1) := by decide +kernel
theorem dX8_calling_35 : decode cX8_calling 35 = .ok (.iaload, 1) := by decide +kernel
theorem dX8_calling_36 : decode cX8_calling 36 = .ok (.aload_n 0, 1) := by decide +kernel
theorem dX8_calling_37 : decode cX8_calling 37 = .ok (.getfield 72, 3) := by decide +kernel
theorem dX8_calling_40 : decode cX8_calling 40 = .ok (.iload_n 1, 1) := by decide +kernel
theorem dX8_calling_41 : decode cX8_calling 41 = .ok (.iaload, 1) := by decide +kernel
theorem dX8_calling_42 : decode cX8_calling 42 = .ok (.if_icmp .lt 5, 3) := by decide +kernel
theorem dX8_calling_45 : decode cX8_calling 45 = .ok (.iload_n 2, 1) := by decide +kernel
theorem dX8_calling_46 : decode cX8_calling 46 = .ok (.istore_n 1, 1) := by decide +kernel
theorem dX8_calling_47 : decode cX8_calling 47 = .ok (.iinc 2 1, 3) := by decide +kernel
theorem dX8_calling_50 : decode cX8_calling 50 = .ok (.goto (-46), 3) := by decide +kernel
theorem dX8_calling_53 : decode cX8_calling 53 = .ok (.aload_n 0, 1) := by decide +kernel
theorem dX8_calling_54 : decode cX8_calling 54 = .ok (.dup, 1) := by decide +kernel
theorem dX8_calling_55 : decode cX8_calling 55 = .ok (.getfield 106, 3) := by decide +kernel
theorem dX8_calling_58 : decode cX8_calling 58 = .ok (.iconst 1, 1) := by decide +kernel
theorem dX8_calling_59 : decode cX8_calling 59 = .ok (.iadd, 1) := by decide +kernel
theorem dX8_calling_60 : decode cX8_calling 60 = .ok (.putfield 106, 3) := by decide +kernel
theorem dX8_calling_63 : decode cX8_calling 63 = .ok (.iload_n 1, 1) := by decide +kernel
theorem dX8_calling_64 : decode cX8_calling 64 = .ok (.iconst (-1), 1) := by decide +kernel
theorem dX8_calling_65 : decode cX8_calling 65 = .ok (.if_icmp .eq 18, 3) := by decide +kernel
theorem dX8_calling_68 : decode cX8_calling 68 = .ok (.aload_n 0, 1) := by decide +kernel
theorem dX8_calling_69 : decode cX8_calling 69 = .ok (.getfield 66, 3) := by decide +kernel
theorem dX8_calling_72 : decode cX8_calling 72 = .ok (.aload_n 0, 1) := by decide +kernel
theorem dX8_calling_73 : decode cX8_calling 73 = .ok (.getfield 69, 3) := by decide +kernel
theorem dX8_calling_76 : decode cX8_calling 76 = .ok (.iload_n 1, 1) := by decide +kernel
theorem dX8_calling_77 : decode cX8_calling 77 = .ok (.iaload, 1) := by decide +kernel
theorem dX8_calling_78 : decode cX8_calling 78 = .ok (.dup2, 1) := by decide +kernel
theorem dX8_calling_79 : decode cX8_calling 79 = .ok (.iaload, 1) := by decide +kernel
theorem dX8_calling_80 : decode cX8_calling 80 = .ok (.iconst 1, 1) := by decide +kernel
theorem dX8_calling_81 : decode cX8_calling 81 = .ok (.iadd, 1) := by decide +kernel
theorem dX8_calling_82 : decode cX8_calling 82 = .ok (.iastore, 1) := by decide +kernel
theorem dX8_calling_83 : decode cX8_calling 83 = .ok (.return_, 1) := by decide +kernel
theorem dX8_noisy_0 : decode cX8_noisy 0 = .ok (.iconst 0, 1) := by decide +kernel
theorem dX8_noisy_1 : decode cX8_noisy 1 = .ok (.istore_n 2, 1) := by decide +kernel
theorem dX8_noisy_2 : decode cX8_noisy 2 = .ok (.iconst 0, 1) := by decide +kernel
theorem dX8_noisy_3 : decode cX8_noisy 3 = .ok (.istore_n 3, 1) := by decide +kernel
theorem dX8_noisy_4 : decode cX8_noisy 4 = .ok (.iload_n 3, 1) := by decide +kernel
theorem dX8_noisy_5 : decode cX8_noisy 5 = .ok (.bipush 80, 2) := by decide +kernel
theorem dX8_noisy_7 : decode cX8_noisy 7 = .ok (.if_icmp .ge 36, 3) := by decide +kernel
theorem dX8_noisy_10 : decode cX8_noisy 10 = .ok (.iload_n 2, 1) := by decide +kernel
theorem dX8_noisy_11 : decode cX8_noisy 11 = .ok (.aload_n 0, 1) := by decide +kernel
theorem dX8_noisy_12 : decode cX8_noisy 12 = .ok (.getfield 7, 3) := by decide +kernel
theorem dX8_noisy_15 : decode cX8_noisy 15 = .ok (.iload_n 3, 1) := by decide +kernel
theorem dX8_noisy_16 : decode cX8_noisy 16 = .ok (.caload, 1) := by decide +kernel
theorem dX8_noisy_17 : decode cX8_noisy 17 = .ok (.iload_n 1, 1) := by decide +kernel
theorem dX8_noisy_18 : decode cX8_noisy 18 = .ok (.if_icmp .ne 16, 3) := by decide +kernel
theorem dX8_noisy_21 : decode cX8_noisy 21 = .ok (.aload_n 0, 1) := by decide +kernel
theorem dX8_noisy_22 : decode cX8_noisy 22 = .ok (.getfield 20, 3) := by decide +kernel
theorem dX8_noisy_25 : decode cX8_noisy 25 = .ok (.iload_n 3, 1) := by decide +kernel
theorem dX8_noisy_26 : decode cX8_noisy 26 = .ok (.iaload, 1) := by decide +kernel
theorem dX8_noisy_27 : decode cX8_noisy 27 = .ok (.ifCond .le 7, 3) := by decide +kernel
theorem dX8_noisy_30 : decode cX8_noisy 30 = .ok (.iconst 1, 1) := by decide +kernel
theorem dX8_noisy_31 : decode cX8_noisy 31 = .ok (.goto 4, 3) := by decide +kernel
theorem dX8_noisy_34 : decode cX8_noisy 34 = .ok (.iconst 0, 1) := by decide +kernel
theorem dX8_noisy_35 : decode cX8_noisy 35 = .ok (.iadd, 1) := by decide +kernel
theorem dX8_noisy_36 : decode cX8_noisy 36 = .ok (.istore_n 2, 1) := by decide +kernel
theorem dX8_noisy_37 : decode cX8_noisy 37 = .ok (.iinc 3 1, 3) := by decide +kernel
theorem dX8_noisy_40 : decode cX8_noisy 40 = .ok (.goto (-36), 3) := by decide +kernel
theorem dX8_noisy_43 : decode cX8_noisy 43 = .ok (.iload_n 2, 1) := by decide +kernel
theorem dX8_noisy_44 : decode cX8_noisy 44 = .ok (.ireturn, 1) := by decide +kernel
theorem dX8_summed_0 : decode cX8_summed 0 = .ok (.iconst 0, 1) := by decide +kernel
theorem dX8_summed_1 : decode cX8_summed 1 = .ok (.istore_n 1, 1) := by decide +kernel
theorem dX8_summed_2 : decode cX8_summed 2 = .ok (.iconst 0, 1) := by decide +kernel
theorem dX8_summed_3 : decode cX8_summed 3 = .ok (.istore_n 2, 1) := by decide +kernel
theorem dX8_summed_4 : decode cX8_summed 4 = .ok (.iload_n 2, 1) := by decide +kernel
theorem dX8_summed_5 : decode cX8_summed 5 = .ok (.bipush 80, 2) := by decide +kernel
theorem dX8_summed_7 : decode cX8_summed 7 = .ok (.if_icmp .ge 18, 3) := by decide +kernel
theorem dX8_summed_10 : decode cX8_summed 10 = .ok (.iload_n 1, 1) := by decide +kernel
theorem dX8_summed_11 : decode cX8_summed 11 = .ok (.aload_n 0, 1) := by decide +kernel
theorem dX8_summed_12 : decode cX8_summed 12 = .ok (.getfield 20, 3) := by decide +kernel
theorem dX8_summed_15 : decode cX8_summed 15 = .ok (.iload_n 2, 1) := by decide +kernel
theorem dX8_summed_16 : decode cX8_summed 16 = .ok (.iaload, 1) := by decide +kernel
theorem dX8_summed_17 : decode cX8_summed 17 = .ok (.iadd, 1) := by decide +kernel
theorem dX8_summed_18 : decode cX8_summed 18 = .ok (.istore_n 1, 1) := by decide +kernel
theorem dX8_summed_19 : decode cX8_summed 19 = .ok (.iinc 2 1, 3) := by decide +kernel
theorem dX8_summed_22 : decode cX8_summed 22 = .ok (.goto (-18), 3) := by decide +kernel
theorem dX8_summed_25 : decode cX8_summed 25 = .ok (.iload_n 1, 1) := by decide +kernel
theorem dX8_summed_26 : decode cX8_summed 26 = .ok (.ireturn, 1) := by decide +kernel
theorem dX8_goes_0 : decode cX8_goes 0 = .ok (.iconst 0, 1) := by decide +kernel
theorem dX8_goes_1 : decode cX8_goes 1 = .ok (.istore_n 1, 1) := by decide +kernel
theorem dX8_goes_2 : decode cX8_goes 2 = .ok (.iload_n 1, 1) := by decide +kernel
theorem dX8_goes_3 : decode cX8_goes 3 = .ok (.bipush 80, 2) := by decide +kernel
theorem dX8_goes_5 : decode cX8_goes 5 = .ok (.if_icmp .ge 33, 3) := by decide +kernel
theorem dX8_goes_8 : decode cX8_goes 8 = .ok (.aload_n 0, 1) := by decide +kernel
theorem dX8_goes_9 : decode cX8_goes 9 = .ok (.getfield 26, 3) := by decide +kernel
theorem dX8_goes_12 : decode cX8_goes 12 = .ok (.iload_n 1, 1) := by decide +kernel
theorem dX8_goes_13 : decode cX8_goes 13 = .ok (.aload_n 0, 1) := by decide +kernel
theorem dX8_goes_14 : decode cX8_goes 14 = .ok (.getfield 20, 3) := by decide +kernel
theorem dX8_goes_17 : decode cX8_goes 17 = .ok (.iload_n 1, 1) := by decide +kernel
theorem dX8_goes_18 : decode cX8_goes 18 = .ok (.iaload, 1) := by decide +kernel
theorem dX8_goes_19 : decode cX8_goes 19 = .ok (.iastore, 1) := by decide +kernel
theorem dX8_goes_20 : decode cX8_goes 20 = .ok (.aload_n 0, 1) := by decide +kernel
theorem dX8_goes_21 : decode cX8_goes 21 = .ok (.getfield 36, 3) := by decide +kernel
theorem dX8_goes_24 : decode cX8_goes 24 = .ok (.iload_n 1, 1) := by decide +kernel
theorem dX8_goes_25 : decode cX8_goes 25 = .ok (.aload_n 0, 1) := by decide +kernel
theorem dX8_goes_26 : decode cX8_goes 26 = .ok (.getfield 33, 3) := by decide +kernel
theorem dX8_goes_29 : decode cX8_goes 29 = .ok (.iload_n 1, 1) := by decide +kernel
theorem dX8_goes_30 : decode cX8_goes 30 = .ok (.baload, 1) := by decide +kernel
theorem dX8_goes_31 : decode cX8_goes 31 = .ok (.bastore, 1) := by decide +kernel
theorem dX8_goes_32 : decode cX8_goes 32 = .ok (.iinc 1 1, 3) := by decide +kernel
theorem dX8_goes_35 : decode cX8_goes 35 = .ok (.goto (-33), 3) := by decide +kernel
theorem dX8_goes_38 : decode cX8_goes 38 = .ok (.iconst 0, 1) := by decide +kernel
theorem dX8_goes_39 : decode cX8_goes 39 = .ok (.istore_n 1, 1) := by decide +kernel
theorem dX8_goes_40 : decode cX8_goes 40 = .ok (.iload_n 1, 1) := by decide +kernel
theorem dX8_goes_41 : decode cX8_goes 41 = .ok (.bipush 80, 2) := by decide +kernel
theorem dX8_goes_43 : decode cX8_goes 43 = .ok (.if_icmp .ge 14, 3) := by decide +kernel
theorem dX8_goes_46 : decode cX8_goes 46 = .ok (.aload_n 0, 1) := by decide +kernel
theorem dX8_goes_47 : decode cX8_goes 47 = .ok (.iload_n 1, 1) := by decide +kernel
theorem dX8_goes_48 : decode cX8_goes 48 = .ok (.invokevirtual 184, 3) := by decide +kernel
theorem dX8_goes_51 : decode cX8_goes 51 = .ok (.iinc 1 1, 3) := by decide +kernel
theorem dX8_goes_54 : decode cX8_goes 54 = .ok (.goto (-14), 3) := by decide +kernel
theorem dX8_goes_57 : decode cX8_goes 57 = .ok (.aload_n 0, 1) := by decide +kernel
theorem dX8_goes_58 : decode cX8_goes 58 = .ok (.aload_n 0, 1) := by decide +kernel
theorem dX8_goes_59 : decode cX8_goes 59 = .ok (.invokevirtual 187, 3) := by decide +kernel
theorem dX8_goes_62 : decode cX8_goes 62 = .ok (.aload_n 0, 1) := by decide +kernel
theorem dX8_goes_63 : decode cX8_goes 63 = .ok (.getfield 97, 3) := by decide +kernel
theorem dX8_goes_66 : decode cX8_goes 66 = .ok (.if_icmp .lt 12, 3) := by decide +kernel
theorem dX8_goes_69 : decode cX8_goes 69 = .ok (.aload_n 0, 1) := by decide +kernel
theorem dX8_goes_70 : decode cX8_goes 70 = .ok (.getfield 103, 3) := by decide +kernel
theorem dX8_goes_73 : decode cX8_goes 73 = .ok (.iconst 1, 1) := by decide +kernel
theorem dX8_goes_74 : decode cX8_goes 74 = .ok (.iadd, 1) := by decide +kernel
theorem dX8_goes_75 : decode cX8_goes 75 = .ok (.goto 4, 3) := by decide +kernel
theorem dX8_goes_78 : decode cX8_goes 78 = .ok (.iconst 0, 1) := by decide +kernel
theorem dX8_goes_79 : decode cX8_goes 79 = .ok (.putfield 103, 3) := by decide +kernel
theorem dX8_goes_82 : decode cX8_goes 82 = .ok (.aload_n 0, 1) := by decide +kernel
theorem dX8_goes_83 : decode cX8_goes 83 = .ok (.getfield 103, 3) := by decide +kernel
theorem dX8_goes_86 : decode cX8_goes 86 = .ok (.iconst 5, 1) := by decide +kernel
theorem dX8_goes_87 : decode cX8_goes 87 = .ok (.if_icmp .ne 12, 3) := by decide +kernel
theorem dX8_goes_90 : decode cX8_goes 90 = .ok (.aload_n 0, 1) := by decide +kernel
theorem dX8_goes_91 : decode cX8_goes 91 = .ok (.iconst 0, 1) := by decide +kernel
theorem dX8_goes_92 : decode cX8_goes 92 = .ok (.putfield 103, 3) := by decide +kernel
theorem dX8_goes_95 : decode cX8_goes 95 = .ok (.aload_n 0, 1) := by decide +kernel
theorem dX8_goes_96 : decode cX8_goes 96 = .ok (.invokevirtual 191, 3) := by decide +kernel
theorem dX8_goes_99 : decode cX8_goes 99 = .ok (.aload_n 0, 1) := by decide +kernel
theorem dX8_goes_100 : decode cX8_goes 100 = .ok (.bipush 112, 2) := by decide +kernel
theorem dX8_goes_102 : decode cX8_goes 102 = .ok (.invokevirtual 194, 3) := by decide +kernel
theorem dX8_goes_105 : decode cX8_goes 105 = .ok (.aload_n 0, 1) := by decide +kernel
theorem dX8_goes_106 : decode cX8_goes 106 = .ok (.bipush 104, 2) := by decide +kernel
theorem dX8_goes_108 : decode cX8_goes 108 = .ok (.invokevirtual 194, 3) := by decide +kernel
theorem dX8_goes_111 : decode cX8_goes 111 = .ok (.if_icmp .ge 7, 3) := by decide +kernel
theorem dX8_goes_114 : decode cX8_goes 114 = .ok (.iconst 1, 1) := by decide +kernel
theorem dX8_goes_115 : decode cX8_goes 115 = .ok (.goto 4, 3) := by decide +kernel
theorem dX8_goes_118 : decode cX8_goes 118 = .ok (.iconst 0, 1) := by decide +kernel
theorem dX8_goes_119 : decode cX8_goes 119 = .ok (.istore_n 1, 1) := by decide +kernel
theorem dX8_goes_120 : decode cX8_goes 120 = .ok (.iconst 0, 1) := by decide +kernel
theorem dX8_goes_121 : decode cX8_goes 121 = .ok (.istore_n 2, 1) := by decide +kernel
theorem dX8_goes_122 : decode cX8_goes 122 = .ok (.iload_n 2, 1) := by decide +kernel
theorem dX8_goes_123 : decode cX8_goes 123 = .ok (.aload_n 0, 1) := by decide +kernel
theorem dX8_goes_124 : decode cX8_goes 124 = .ok (.getfield 94, 3) := by decide +kernel
theorem dX8_goes_127 : decode cX8_goes 127 = .ok (.if_icmp .ge 49, 3) := by decide +kernel
theorem dX8_goes_130 : decode cX8_goes 130 = .ok (.aload_n 0, 1) := by decide +kernel
theorem dX8_goes_131 : decode cX8_goes 131 = .ok (.dup, 1) := by decide +kernel
theorem dX8_goes_132 : decode cX8_goes 132 = .ok (.getfield 112, 3) := by decide +kernel
theorem dX8_goes_135 : decode cX8_goes 135 = .ok (.aload_n 0, 1) := by decide +kernel
theorem dX8_goes_136 : decode cX8_goes 136 = .ok (.getfield 72, 3) := by decide +kernel
theorem dX8_goes_139 : decode cX8_goes 139 = .ok (.iload_n 2, 1) := by decide +kernel
theorem dX8_goes_140 : decode cX8_goes 140 = .ok (.iaload, 1) := by decide +kernel
theorem dX8_goes_141 : decode cX8_goes 141 = .ok (.aload_n 0, 1) := by decide +kernel
theorem dX8_goes_142 : decode cX8_goes 142 = .ok (.getfield 78, 3) := by decide +kernel
theorem dX8_goes_145 : decode cX8_goes 145 = .ok (.iload_n 2, 1) := by decide +kernel
theorem dX8_goes_146 : decode cX8_goes 146 = .ok (.iaload, 1) := by decide +kernel
theorem dX8_goes_147 : decode cX8_goes 147 = .ok (.iadd, 1) := by decide +kernel
theorem dX8_goes_148 : decode cX8_goes 148 = .ok (.iconst 1, 1) := by decide +kernel
theorem dX8_goes_149 : decode cX8_goes 149 = .ok (.isub, 1) := by decide +kernel
theorem dX8_goes_150 : decode cX8_goes 150 = .ok (.aload_n 0, 1) := by decide +kernel
theorem dX8_goes_151 : decode cX8_goes 151 = .ok (.getfield 100, 3) := by decide +kernel
theorem dX8_goes_154 : decode cX8_goes 154 = .ok (.if_icmp .ne 11, 3) := by decide +kernel
theorem dX8_goes_157 : decode cX8_goes 157 = .ok (.iload_n 1, 1) := by decide +kernel
theorem dX8_goes_158 : decode cX8_goes 158 = .ok (.ifCond .eq 7, 3) := by decide +kernel
theorem dX8_goes_161 : decode cX8_goes 161 = .ok (.iconst 1, 1) := by decide +kernel
theorem dX8_goes_162 : decode cX8_goes 162 = .ok (.goto 4, 3) := by decide +kernel
theorem dX8_goes_165 : decode cX8_goes 165 = .ok (.iconst 0, 1) := by decide +kernel
theorem dX8_goes_166 : decode cX8_goes 166 = .ok (.iadd, 1) := by decide +kernel
theorem dX8_goes_167 : decode cX8_goes 167 = .ok (.putfield 112, 3) := by decide +kernel
theorem dX8_goes_170 : decode cX8_goes 170 = .ok (.iinc 2 1, 3) := by decide +kernel
theorem dX8_goes_173 : decode cX8_goes 173 = .ok (.goto (-51), 3) := by decide +kernel
theorem dX8_goes_176 : decode cX8_goes 176 = .ok (.aload_n 0, 1) := by decide +kernel
theorem dX8_goes_177 : decode cX8_goes 177 = .ok (.dup, 1) := by decide +kernel
theorem dX8_goes_178 : decode cX8_goes 178 = .ok (.getfield 100, 3) := by decide +kernel
theorem dX8_goes_181 : decode cX8_goes 181 = .ok (.iconst 1, 1) := by decide +kernel
theorem dX8_goes_182 : decode cX8_goes 182 = .ok (.iadd, 1) := by decide +kernel
theorem dX8_goes_183 : decode cX8_goes 183 = .ok (.putfield 100, 3) := by decide +kernel
theorem dX8_goes_186 : decode cX8_goes 186 = .ok (.return_, 1) := by decide +kernel
theorem dX8_run_0 : decode cX8_run 0 = .ok (.iload_n 1, 1) := by decide +kernel
theorem dX8_run_1 : decode cX8_run 1 = .ok (.iconst 1, 1) := by decide +kernel
theorem dX8_run_2 : decode cX8_run 2 = .ok (.bipush 100, 2) := by decide +kernel
theorem dX8_run_4 : decode cX8_run 4 = .ok (.invokestatic 128, 3) := by decide +kernel
theorem dX8_run_7 : decode cX8_run 7 = .ok (.ifCond .ne 9, 3) := by decide +kernel
theorem dX8_run_10 : decode cX8_run 10 = .ok (.aload_n 0, 1) := by decide +kernel
theorem dX8_run_11 : decode cX8_run 11 = .ok (.iconst 1, 1) := by decide +kernel
theorem dX8_run_12 : decode cX8_run 12 = .ok (.invokevirtual 135, 3) := by decide +kernel
theorem dX8_run_15 : decode cX8_run 15 = .ok (.ireturn, 1) := by decide +kernel
theorem dX8_run_16 : decode cX8_run 16 = .ok (.aload_n 0, 1) := by decide +kernel
theorem dX8_run_17 : decode cX8_run 17 = .ok (.getfield 81, 3) := by decide +kernel
theorem dX8_run_20 : decode cX8_run 20 = .ok (.ifCond .ne 9, 3) := by decide +kernel
theorem dX8_run_23 : decode cX8_run 23 = .ok (.aload_n 0, 1) := by decide +kernel
theorem dX8_run_24 : decode cX8_run 24 = .ok (.iconst 2, 1) := by decide +kernel
theorem dX8_run_25 : decode cX8_run 25 = .ok (.invokevirtual 135, 3) := by decide +kernel
theorem dX8_run_28 : decode cX8_run 28 = .ok (.ireturn, 1) := by decide +kernel
theorem dX8_run_29 : decode cX8_run 29 = .ok (.iconst 0, 1) := by decide +kernel
theorem dX8_run_30 : decode cX8_run 30 = .ok (.istore_n 2, 1) := by decide +kernel
theorem dX8_run_31 : decode cX8_run 31 = .ok (.iload_n 2, 1) := by decide +kernel
theorem dX8_run_32 : decode cX8_run 32 = .ok (.iload_n 1, 1) := by decide +kernel
theorem dX8_run_33 : decode cX8_run 33 = .ok (.if_icmp .ge 13, 3) := by decide +kernel
theorem dX8_run_36 : decode cX8_run 36 = .ok (.aload_n 0, 1) := by decide +kernel
theorem dX8_run_37 : decode cX8_run 37 = .ok (.invokevirtual 198, 3) := by decide +kernel
theorem dX8_run_40 : decode cX8_run 40 = .ok (.iinc 2 1, 3) := by decide +kernel
theorem dX8_run_43 : decode cX8_run 43 = .ok (.goto (-12), 3) := by decide +kernel
theorem dX8_run_46 : decode cX8_run 46 = .ok (.aload_n 0, 1) := by decide +kernel
theorem dX8_run_47 : decode cX8_run 47 = .ok (.aload_n 0, 1) := by decide +kernel
theorem dX8_run_48 : decode cX8_run 48 = .ok (.getfield 100, 3) := by decide +kernel
theorem dX8_run_51 : decode cX8_run 51 = .ok (.invokevirtual 142, 3) := by decide +kernel
theorem dX8_run_54 : decode cX8_run 54 = .ok (.ireturn, 1) := by decide +kernel
theorem dX8_noiseAt_0 : decode cX8_noiseAt 0 = .ok (.aload_n 0, 1) := by decide +kernel
theorem dX8_noiseAt_1 : decode cX8_noiseAt 1 = .ok (.iload_n 1, 1) := by decide +kernel
theorem dX8_noiseAt_2 : decode cX8_noiseAt 2 = .ok (.iload_n 2, 1) := by decide +kernel
theorem dX8_noiseAt_3 : decode cX8_noiseAt 3 = .ok (.invokevirtual 145, 3) := by decide +kernel
theorem dX8_noiseAt_6 : decode cX8_noiseAt 6 = .ok (.ifCond .eq 21, 3) := by decide +kernel
theorem dX8_noiseAt_9 : decode cX8_noiseAt 9 = .ok (.aload_n 0, 1) := by decide +kernel
theorem dX8_noiseAt_10 : decode cX8_noiseAt 10 = .ok (.aload_n 0, 1) := by decide +kernel
theorem dX8_noiseAt_11 : decode cX8_noiseAt 11 = .ok (.getfield 20, 3) := by decide +kernel
theorem dX8_noiseAt_14 : decode cX8_noiseAt 14 = .ok (.bipush 10, 2) := by decide +kernel
theorem dX8_noiseAt_16 : decode cX8_noiseAt 16 = .ok (.iload_n 1, 1) := by decide +kernel
theorem dX8_noiseAt_17 : decode cX8_noiseAt 17 = .ok (.imul, 1) := by decide +kernel
theorem dX8_noiseAt_18 : decode cX8_noiseAt 18 = .ok (.iload_n 2, 1) := by decide +kernel
theorem dX8_noiseAt_19 : decode cX8_noiseAt 19 = .ok (.iadd, 1) := by decide +kernel
theorem dX8_noiseAt_20 : decode cX8_noiseAt 20 = .ok (.iaload, 1) := by decide +kernel
theorem dX8_noiseAt_21 : decode cX8_noiseAt 21 = .ok (.invokevirtual 142, 3) := by decide +kernel
theorem dX8_noiseAt_24 : decode cX8_noiseAt 24 = .ok (.goto 8, 3) := by decide +kernel
theorem dX8_noiseAt_27 : decode cX8_noiseAt 27 = .ok (.aload_n 0, 1) := by decide +kernel
theorem dX8_noiseAt_28 : decode cX8_noiseAt 28 = .ok (.iconst 1, 1) := by decide +kernel
theorem dX8_noiseAt_29 : decode cX8_noiseAt 29 = .ok (.invokevirtual 135, 3) := by decide +kernel
theorem dX8_noiseAt_32 : decode cX8_noiseAt 32 = .ok (.ireturn, 1) := by decide +kernel
theorem dX8_noise_0 : decode cX8_noise 0 = .ok (.aload_n 0, 1) := by decide +kernel
theorem dX8_noise_1 : decode cX8_noise 1 = .ok (.aload_n 0, 1) := by decide +kernel
theorem dX8_noise_2 : decode cX8_noise 2 = .ok (.invokevirtual 187, 3) := by decide +kernel
theorem dX8_noise_5 : decode cX8_noise 5 = .ok (.invokevirtual 142, 3) := by decide +kernel
theorem dX8_noise_8 : decode cX8_noise 8 = .ok (.ireturn, 1) := by decide +kernel
theorem dX8_joiners_0 : decode cX8_joiners 0 = .ok (.iconst 0, 1) := by decide +kernel
theorem dX8_joiners_1 : decode cX8_joiners 1 = .ok (.istore_n 1, 1) := by decide +kernel
theorem dX8_joiners_2 : decode cX8_joiners 2 = .ok (.iconst 0, 1) := by decide +kernel
theorem dX8_joiners_3 : decode cX8_joiners 3 = .ok (.istore_n 2, 1) := by decide +kernel
theorem dX8_joiners_4 : decode cX8_joiners 4 = .ok (.iload_n 2, 1) := by decide +kernel
theorem dX8_joiners_5 : decode cX8_joiners 5 = .ok (.bipush 80, 2) := by decide +kernel
theorem dX8_joiners_7 : decode cX8_joiners 7 = .ok (.if_icmp .ge 26, 3) := by decide +kernel
theorem dX8_joiners_10 : decode cX8_joiners 10 = .ok (.iload_n 1, 1) := by decide +kernel
theorem dX8_joiners_11 : decode cX8_joiners 11 = .ok (.aload_n 0, 1) := by decide +kernel
theorem dX8_joiners_12 : decode cX8_joiners 12 = .ok (.getfield 29, 3) := by decide +kernel
theorem dX8_joiners_15 : decode cX8_joiners 15 = .ok (.iload_n 2, 1) := by decide +kernel
theorem dX8_joiners_16 : decode cX8_joiners 16 = .ok (.baload, 1) := by decide +kernel
theorem dX8_joiners_17 : decode cX8_joiners 17 = .ok (.ifCond .eq 7, 3) := by decide +kernel
theorem dX8_joiners_20 : decode cX8_joiners 20 = .ok (.iconst 1, 1) := by decide +kernel
theorem dX8_joiners_21 : decode cX8_joiners 21 = .ok (.goto 4, 3) := by decide +kernel
theorem dX8_joiners_24 : decode cX8_joiners 24 = .ok (.iconst 0, 1) := by decide +kernel
theorem dX8_joiners_25 : decode cX8_joiners 25 = .ok (.iadd, 1) := by decide +kernel
theorem dX8_joiners_26 : decode cX8_joiners 26 = .ok (.istore_n 1, 1) := by decide +kernel
theorem dX8_joiners_27 : decode cX8_joiners 27 = .ok (.iinc 2 1, 3) := by decide +kernel
theorem dX8_joiners_30 : decode cX8_joiners 30 = .ok (.goto (-26), 3) := by decide +kernel
theorem dX8_joiners_33 : decode cX8_joiners 33 = .ok (.iload_n 1, 1) := by decide +kernel
theorem dX8_joiners_34 : decode cX8_joiners 34 = .ok (.ireturn, 1) := by decide +kernel
theorem dX8_joining_0 : decode cX8_joining 0 = .ok (.aload_n 0, 1) := by decide +kernel
theorem dX8_joining_1 : decode cX8_joining 1 = .ok (.aload_n 0, 1) := by decide +kernel
theorem dX8_joining_2 : decode cX8_joining 2 = .ok (.invokevirtual 201, 3) := by decide +kernel
theorem dX8_joining_5 : decode cX8_joining 5 = .ok (.invokevirtual 142, 3) := by decide +kernel
theorem dX8_joining_8 : decode cX8_joining 8 = .ok (.ireturn, 1) := by decide +kernel
theorem dX8_hisses_0 : decode cX8_hisses 0 = .ok (.aload_n 0, 1) := by decide +kernel
theorem dX8_hisses_1 : decode cX8_hisses 1 = .ok (.aload_n 0, 1) := by decide +kernel
theorem dX8_hisses_2 : decode cX8_hisses 2 = .ok (.getfield 109, 3) := by decide +kernel
theorem dX8_hisses_5 : decode cX8_hisses 5 = .ok (.invokevirtual 142, 3) := by decide +kernel
theorem dX8_hisses_8 : decode cX8_hisses 8 = .ok (.ireturn, 1) := by decide +kernel
theorem dX8_tiredness_0 : decode cX8_tiredness 0 = .ok (.aload_n 0, 1) := by decide +kernel
theorem dX8_tiredness_1 : decode cX8_tiredness 1 = .ok (.iload_n 1, 1) := by decide +kernel
theorem dX8_tiredness_2 : decode cX8_tiredness 2 = .ok (.iload_n 2, 1) := by decide +kernel
theorem dX8_tiredness_3 : decode cX8_tiredness 3 = .ok (.invokevirtual 145, 3) := by decide +kernel
theorem dX8_tiredness_6 : decode cX8_tiredness 6 = .ok (.ifCond .ne 9, 3) := by decide +kernel
theorem dX8_tiredness_9 : decode cX8_tiredness 9 = .ok (.aload_n 0, 1) := by decide +kernel
theorem dX8_tiredness_10 : decode cX8_tiredness 10 = .ok (.iconst 1, 1) := by decide +kernel
theorem dX8_tiredness_11 : decode cX8_tiredness 11 = .ok (.invokevirtual 135, 3) := by decide +kernel
theorem dX8_tiredness_14 : decode cX8_tiredness 14 = .ok (.ireturn, 1) := by decide +kernel
theorem dX8_tiredness_15 : decode cX8_tiredness 15 = .ok (.aload_n 0, 1) := by decide +kernel
theorem dX8_tiredness_16 : decode cX8_tiredness 16 = .ok (.getfield 7, 3) := by decide +kernel
theorem dX8_tiredness_19 : decode cX8_tiredness 19 = .ok (.bipush 10, 2) := by decide +kernel
theorem dX8_tiredness_21 : decode cX8_tiredness 21 = .ok (.iload_n 1, 1) := by decide +kernel
theorem dX8_tiredness_22 : decode cX8_tiredness 22 = .ok (.imul, 1) := by decide +kernel
theorem dX8_tiredness_23 : decode cX8_tiredness 23 = .ok (.iload_n 2, 1) := by decide +kernel
theorem dX8_tiredness_24 : decode cX8_tiredness 24 = .ok (.iadd, 1) := by decide +kernel
theorem dX8_tiredness_25 : decode cX8_tiredness 25 = .ok (.caload, 1) := by decide +kernel
theorem dX8_tiredness_26 : decode cX8_tiredness 26 = .ok (.bipush 112, 2) := by decide +kernel
theorem dX8_tiredness_28 : decode cX8_tiredness 28 = .ok (.if_icmp .ne 24, 3) := by decide +kernel
theorem dX8_tiredness_31 : decode cX8_tiredness 31 = .ok (.aload_n 0, 1) := by decide +kernel
theorem dX8_tiredness_32 : decode cX8_tiredness 32 = .ok (.aload_n 0, 1) := by decide +kernel
theorem dX8_tiredness_33 : decode cX8_tiredness 33 = .ok (.getfield 23, 3) := by decide +kernel
theorem dX8_tiredness_36 : decode cX8_tiredness 36 = .ok (.bipush 10, 2) := by decide +kernel
theorem dX8_tiredness_38 : decode cX8_tiredness 38 = .ok (.iload_n 1, 1) := by decide +kernel
theorem dX8_tiredness_39 : decode cX8_tiredness 39 = .ok (.imul, 1) := by decide +kernel
theorem dX8_tiredness_40 : decode cX8_tiredness 40 = .ok (.iload_n 2, 1) := by decide +kernel
theorem dX8_tiredness_41 : decode cX8_tiredness 41 = .ok (.iadd, 1) := by decide +kernel
theorem dX8_tiredness_42 : decode cX8_tiredness 42 = .ok (.iaload, 1) := by decide +kernel
theorem dX8_tiredness_43 : decode cX8_tiredness 43 = .ok (.bipush 10, 2) := by decide +kernel
theorem dX8_tiredness_45 : decode cX8_tiredness 45 = .ok (.idiv, 1) := by decide +kernel
theorem dX8_tiredness_46 : decode cX8_tiredness 46 = .ok (.invokevirtual 142, 3) := by decide +kernel
theorem dX8_tiredness_49 : decode cX8_tiredness 49 = .ok (.goto 8, 3) := by decide +kernel
theorem dX8_tiredness_52 : decode cX8_tiredness 52 = .ok (.aload_n 0, 1) := by decide +kernel
theorem dX8_tiredness_53 : decode cX8_tiredness 53 = .ok (.iconst 2, 1) := by decide +kernel
theorem dX8_tiredness_54 : decode cX8_tiredness 54 = .ok (.invokevirtual 135, 3) := by decide +kernel
theorem dX8_tiredness_57 : decode cX8_tiredness 57 = .ok (.ireturn, 1) := by decide +kernel
theorem dX8_callsOf_0 : decode cX8_callsOf 0 = .ok (.aload_n 0, 1) := by decide +kernel
theorem dX8_callsOf_1 : decode cX8_callsOf 1 = .ok (.iload_n 1, 1) := by decide +kernel
theorem dX8_callsOf_2 : decode cX8_callsOf 2 = .ok (.invokevirtual 168, 3) := by decide +kernel
theorem dX8_callsOf_5 : decode cX8_callsOf 5 = .ok (.ifCond .eq 16, 3) := by decide +kernel
theorem dX8_callsOf_8 : decode cX8_callsOf 8 = .ok (.aload_n 0, 1) := by decide +kernel
theorem dX8_callsOf_9 : decode cX8_callsOf 9 = .ok (.aload_n 0, 1) := by decide +kernel
theorem dX8_callsOf_10 : decode cX8_callsOf 10 = .ok (.getfield 66, 3) := by decide +kernel
theorem dX8_callsOf_13 : decode cX8_callsOf 13 = .ok (.iload_n 1, 1) := by decide +kernel
theorem dX8_callsOf_14 : decode cX8_callsOf 14 = .ok (.iaload, 1) := by decide +kernel
theorem dX8_callsOf_15 : decode cX8_callsOf 15 = .ok (.invokevirtual 142, 3) := by decide +kernel
theorem dX8_callsOf_18 : decode cX8_callsOf 18 = .ok (.goto 8, 3) := by decide +kernel
theorem dX8_callsOf_21 : decode cX8_callsOf 21 = .ok (.aload_n 0, 1) := by decide +kernel
theorem dX8_callsOf_22 : decode cX8_callsOf 22 = .ok (.iconst 1, 1) := by decide +kernel
theorem dX8_callsOf_23 : decode cX8_callsOf 23 = .ok (.invokevirtual 135, 3) := by decide +kernel
theorem dX8_callsOf_26 : decode cX8_callsOf 26 = .ok (.ireturn, 1) := by decide +kernel
theorem dX8_calls_0 : decode cX8_calls 0 = .ok (.aload_n 0, 1) := by decide +kernel
theorem dX8_calls_1 : decode cX8_calls 1 = .ok (.aload_n 0, 1) := by decide +kernel
theorem dX8_calls_2 : decode cX8_calls 2 = .ok (.getfield 106, 3) := by decide +kernel
theorem dX8_calls_5 : decode cX8_calls 5 = .ok (.invokevirtual 142, 3) := by decide +kernel
theorem dX8_calls_8 : decode cX8_calls 8 = .ok (.ireturn, 1) := by decide +kernel
theorem dX8_suspicions_0 : decode cX8_suspicions 0 = .ok (.aload_n 0, 1) := by decide +kernel
theorem dX8_suspicions_1 : decode cX8_suspicions 1 = .ok (.aload_n 0, 1) := by decide +kernel
theorem dX8_suspicions_2 : decode cX8_suspicions 2 = .ok (.getfield 112, 3) := by decide +kernel
theorem dX8_suspicions_5 : decode cX8_suspicions 5 = .ok (.invokevirtual 142, 3) := by decide +kernel
theorem dX8_suspicions_8 : decode cX8_suspicions 8 = .ok (.ireturn, 1) := by decide +kernel
theorem dX8_areFoundOut_0 : decode cX8_areFoundOut 0 = .ok (.aload_n 0, 1) := by decide +kernel
theorem dX8_areFoundOut_1 : decode cX8_areFoundOut 1 = .ok (.iconst 0, 1) := by decide +kernel
theorem dX8_areFoundOut_2 : decode cX8_areFoundOut 2 = .ok (.putfield 121, 3) := by decide +kernel
theorem dX8_areFoundOut_5 : decode cX8_areFoundOut 5 = .ok (.aload_n 0, 1) := by decide +kernel
theorem dX8_areFoundOut_6 : decode cX8_areFoundOut 6 = .ok (.getfield 112, 3) := by decide +kernel
theorem dX8_areFoundOut_9 : decode cX8_areFoundOut 9 = .ok (.iconst 3, 1) := by decide +kernel
theorem dX8_areFoundOut_10 : decode cX8_areFoundOut 10 = .ok (.if_icmp .lt 7, 3) := by decide +kernel
theorem dX8_areFoundOut_13 : decode cX8_areFoundOut 13 = .ok (.iconst 1, 1) := by decide +kernel
theorem dX8_areFoundOut_14 : decode cX8_areFoundOut 14 = .ok (.goto 4, 3) := by decide +kernel
theorem dX8_areFoundOut_17 : decode cX8_areFoundOut 17 = .ok (.iconst 0, 1) := by decide +kernel
theorem dX8_areFoundOut_18 : decode cX8_areFoundOut 18 = .ok (.ireturn, 1) := by decide +kernel
theorem dX8_endEvening_0 : decode cX8_endEvening 0 = .ok (.aload_n 0, 1) := by decide +kernel
theorem dX8_endEvening_1 : decode cX8_endEvening 1 = .ok (.getfield 81, 3) := by decide +kernel
theorem dX8_endEvening_4 : decode cX8_endEvening 4 = .ok (.ifCond .ne 9, 3) := by decide +kernel
theorem dX8_endEvening_7 : decode cX8_endEvening 7 = .ok (.aload_n 0, 1) := by decide +kernel
theorem dX8_endEvening_8 : decode cX8_endEvening 8 = .ok (.iconst 1, 1) := by decide +kernel
theorem dX8_endEvening_9 : decode cX8_endEvening 9 = .ok (.invokevirtual 135, 3) := by decide +kernel
theorem dX8_endEvening_12 : decode cX8_endEvening 12 = .ok (.ireturn, 1) := by decide +kernel
theorem dX8_endEvening_13 : decode cX8_endEvening 13 = .ok (.iconst 0, 1) := by decide +kernel
theorem dX8_endEvening_14 : decode cX8_endEvening 14 = .ok (.istore_n 1, 1) := by decide +kernel
theorem dX8_endEvening_15 : decode cX8_endEvening 15 = .ok (.iconst 0, 1) := by decide +kernel
theorem dX8_endEvening_16 : decode cX8_endEvening 16 = .ok (.istore_n 2, 1) := by decide +kernel
theorem dX8_endEvening_17 : decode cX8_endEvening 17 = .ok (.iload_n 2, 1) := by decide +kernel
theorem dX8_endEvening_18 : decode cX8_endEvening 18 = .ok (.aload_n 0, 1) := by decide +kernel
theorem dX8_endEvening_19 : decode cX8_endEvening 19 = .ok (.getfield 91, 3) := by decide +kernel
theorem dX8_endEvening_22 : decode cX8_endEvening 22 = .ok (.if_icmp .ge 110, 3) := by decide +kernel
theorem dX8_endEvening_25 : decode cX8_endEvening 25 = .ok (.iconst 0, 1) := by decide +kernel
theorem dX8_endEvening_26 : decode cX8_endEvening 26 = .ok (.istore_n 3, 1) := by decide +kernel
theorem dX8_endEvening_27 : decode cX8_endEvening 27 = .ok (.iconst 0, 1) := by decide +kernel
theorem dX8_endEvening_28 : decode cX8_endEvening 28 = .ok (.istore 4, 2) := by decide +kernel
theorem dX8_endEvening_30 : decode cX8_endEvening 30 = .ok (.iload 4, 2) := by decide +kernel
theorem dX8_endEvening_32 : decode cX8_endEvening 32 = .ok (.aload_n 0, 1) := by decide +kernel
theorem dX8_endEvening_33 : decode cX8_endEvening 33 = .ok (.getfield 94, 3) := by decide +kernel
theorem dX8_endEvening_36 : decode cX8_endEvening 36 = .ok (.if_icmp .ge 44, 3) := by decide +kernel
theorem dX8_endEvening_39 : decode cX8_endEvening 39 = .ok (.iload_n 3, 1) := by decide +kernel
theorem dX8_endEvening_40 : decode cX8_endEvening 40 = .ok (.ifCond .ne 28, 3) := by decide +kernel
theorem dX8_endEvening_43 : decode cX8_endEvening 43 = .ok (.aload_n 0, 1) := by decide +kernel
theorem dX8_endEvening_44 : decode cX8_endEvening 44 = .ok (.getfield 69, 3) := by decide +kernel
theorem dX8_endEvening_47 : decode cX8_endEvening 47 = .ok (.iload 4, 2) := by decide +kernel
theorem dX8_endEvening_49 : decode cX8_endEvening 49 = .ok (.iaload, 1) := by decide +kernel
theorem dX8_endEvening_50 : decode cX8_endEvening 50 = .ok (.iload_n 2, 1) := by decide +kernel
theorem dX8_endEvening_51 : decode cX8_endEvening 51 = .ok (.if_icmp .ne 21, 3) := by decide +kernel
theorem dX8_endEvening_54 : decode cX8_endEvening 54 = .ok (.aload_n 0, 1) := by decide +kernel
theorem dX8_endEvening_55 : decode cX8_endEvening 55 = .ok (.getfield 72, 3) := by decide +kernel
theorem dX8_endEvening_58 : decode cX8_endEvening 58 = .ok (.iload 4, 2) := by decide +kernel
theorem dX8_endEvening_60 : decode cX8_endEvening 60 = .ok (.iaload, 1) := by decide +kernel
theorem dX8_endEvening_61 : decode cX8_endEvening 61 = .ok (.aload_n 0, 1) := by decide +kernel
theorem dX8_endEvening_62 : decode cX8_endEvening 62 = .ok (.getfield 100, 3) := by decide +kernel
theorem dX8_endEvening_65 : decode cX8_endEvening 65 = .ok (.if_icmp .ge 7, 3) := by decide +kernel
theorem dX8_endEvening_68 : decode cX8_endEvening 68 = .ok (.iconst 1, 1) := by decide +kernel
theorem dX8_endEvening_69 : decode cX8_endEvening 69 = .ok (.goto 4, 3) := by decide +kernel
theorem dX8_endEvening_72 : decode cX8_endEvening 72 = .ok (.iconst 0, 1) := by decide +kernel
theorem dX8_endEvening_73 : decode cX8_endEvening 73 = .ok (.istore_n 3, 1) := by decide +kernel
theorem dX8_endEvening_74 : decode cX8_endEvening 74 = .ok (.iinc 4 1, 3) := by decide +kernel
theorem dX8_endEvening_77 : decode cX8_endEvening 77 = .ok (.goto (-47), 3) := by decide +kernel
theorem dX8_endEvening_80 : decode cX8_endEvening 80 = .ok (.iload_n 3, 1) := by decide +kernel
theorem dX8_endEvening_81 : decode cX8_endEvening 81 = .ok (.ifCond .eq 26, 3) := by decide +kernel
theorem dX8_endEvening_84 : decode cX8_endEvening 84 = .ok (.aload_n 0, 1) := by decide +kernel
theorem dX8_endEvening_85 : decode cX8_endEvening 85 = .ok (.getfield 57, 3) := by decide +kernel
theorem dX8_endEvening_88 : decode cX8_endEvening 88 = .ok (.iload_n 2, 1) := by decide +kernel
theorem dX8_endEvening_89 : decode cX8_endEvening 89 = .ok (.iaload, 1) := by decide +kernel
theorem dX8_endEvening_90 : decode cX8_endEvening 90 = .ok (.aload_n 0, 1) := by decide +kernel
theorem dX8_endEvening_91 : decode cX8_endEvening 91 = .ok (.getfield 60, 3) := by decide +kernel
theorem dX8_endEvening_94 : decode cX8_endEvening 94 = .ok (.iload_n 2, 1) := by decide +kernel
theorem dX8_endEvening_95 : decode cX8_endEvening 95 = .ok (.iaload, 1) := by decide +kernel
theorem dX8_endEvening_96 : decode cX8_endEvening 96 = .ok (.aload_n 0, 1) := by decide +kernel
theorem dX8_endEvening_97 : decode cX8_endEvening 97 = .ok (.getfield 66, 3) := by decide +kernel
theorem dX8_endEvening_100 : decode cX8_endEvening 100 = .ok (.iload_n 2, 1) := by decide +kernel
theorem dX8_endEvening_101 : decode cX8_endEvening 101 = .ok (.iaload, 1) := by decide +kernel
theorem dX8_endEvening_102 : decode cX8_endEvening 102 = .ok (.imul, 1) := by decide +kernel
theorem dX8_endEvening_103 : decode cX8_endEvening 103 = .ok (.iadd, 1) := by decide +kernel
theorem dX8_endEvening_104 : decode cX8_endEvening 104 = .ok (.goto 4, 3) := by decide +kernel
theorem dX8_endEvening_107 : decode cX8_endEvening 107 = .ok (.iconst 0, 1) := by decide +kernel
theorem dX8_endEvening_108 : decode cX8_endEvening 108 = .ok (.istore 4, 2) := by decide +kernel
theorem dX8_endEvening_110 : decode cX8_endEvening 110 = .ok (.aload_n 0, 1) := by decide +kernel
theorem dX8_endEvening_111 : decode cX8_endEvening 111 = .ok (.getfield 63, 3) := by decide +kernel
theorem dX8_endEvening_114 : decode cX8_endEvening 114 = .ok (.iload_n 2, 1) := by decide +kernel
theorem dX8_endEvening_115 : decode cX8_endEvening 115 = .ok (.dup2, 1) := by decide +kernel
theorem dX8_endEvening_116 : decode cX8_endEvening 116 = .ok (.iaload, 1) := by decide +kernel
theorem dX8_endEvening_117 : decode cX8_endEvening 117 = .ok (.iload 4, 2) := by decide +kernel
theorem dX8_endEvening_119 : decode cX8_endEvening 119 = .ok (.iadd, 1) := by decide +kernel
theorem dX8_endEvening_120 : decode cX8_endEvening 120 = .ok (.iastore, 1) := by decide +kernel
theorem dX8_endEvening_121 : decode cX8_endEvening 121 = .ok (.iload_n 1, 1) := by decide +kernel
theorem dX8_endEvening_122 : decode cX8_endEvening 122 = .ok (.iload 4, 2) := by decide +kernel
theorem dX8_endEvening_124 : decode cX8_endEvening 124 = .ok (.iadd, 1) := by decide +kernel
theorem dX8_endEvening_125 : decode cX8_endEvening 125 = .ok (.istore_n 1, 1) := by decide +kernel
theorem dX8_endEvening_126 : decode cX8_endEvening 126 = .ok (.iinc 2 1, 3) := by decide +kernel
theorem dX8_endEvening_129 : decode cX8_endEvening 129 = .ok (.goto (-112), 3) := by decide +kernel
theorem dX8_endEvening_132 : decode cX8_endEvening 132 = .ok (.aload_n 0, 1) := by decide +kernel
theorem dX8_endEvening_133 : decode cX8_endEvening 133 = .ok (.invokevirtual 139, 3) := by decide +kernel
theorem dX8_endEvening_136 : decode cX8_endEvening 136 = .ok (.aload_n 0, 1) := by decide +kernel
theorem dX8_endEvening_137 : decode cX8_endEvening 137 = .ok (.iload_n 1, 1) := by decide +kernel
theorem dX8_endEvening_138 : decode cX8_endEvening 138 = .ok (.invokevirtual 142, 3) := by decide +kernel
theorem dX8_endEvening_141 : decode cX8_endEvening 141 = .ok (.ireturn, 1) := by decide +kernel
theorem dX8_pay_0 : decode cX8_pay 0 = .ok (.aload_n 0, 1) := by decide +kernel
theorem dX8_pay_1 : decode cX8_pay 1 = .ok (.iload_n 1, 1) := by decide +kernel
theorem dX8_pay_2 : decode cX8_pay 2 = .ok (.invokevirtual 168, 3) := by decide +kernel
theorem dX8_pay_5 : decode cX8_pay 5 = .ok (.ifCond .ne 9, 3) := by decide +kernel
theorem dX8_pay_8 : decode cX8_pay 8 = .ok (.aload_n 0, 1) := by decide +kernel
theorem dX8_pay_9 : decode cX8_pay 9 = .ok (.iconst 1, 1) := by decide +kernel
theorem dX8_pay_10 : decode cX8_pay 10 = .ok (.invokevirtual 135, 3) := by decide +kernel
theorem dX8_pay_13 : decode cX8_pay 13 = .ok (.ireturn, 1) := by decide +kernel
theorem dX8_pay_14 : decode cX8_pay 14 = .ok (.iload_n 2, 1) := by decide +kernel
theorem dX8_pay_15 : decode cX8_pay 15 = .ok (.iconst 1, 1) := by decide +kernel
theorem dX8_pay_16 : decode cX8_pay 16 = .ok (.ldc 204, 2) := by decide +kernel
theorem dX8_pay_18 : decode cX8_pay 18 = .ok (.invokestatic 128, 3) := by decide +kernel
theorem dX8_pay_21 : decode cX8_pay 21 = .ok (.ifCond .ne 9, 3) := by decide +kernel
theorem dX8_pay_24 : decode cX8_pay 24 = .ok (.aload_n 0, 1) := by decide +kernel
theorem dX8_pay_25 : decode cX8_pay 25 = .ok (.iconst 2, 1) := by decide +kernel
theorem dX8_pay_26 : decode cX8_pay 26 = .ok (.invokevirtual 135, 3) := by decide +kernel
theorem dX8_pay_29 : decode cX8_pay 29 = .ok (.ireturn, 1) := by decide +kernel
theorem dX8_pay_30 : decode cX8_pay 30 = .ok (.aload_n 0, 1) := by decide +kernel
theorem dX8_pay_31 : decode cX8_pay 31 = .ok (.getfield 63, 3) := by decide +kernel
theorem dX8_pay_34 : decode cX8_pay 34 = .ok (.iload_n 1, 1) := by decide +kernel
theorem dX8_pay_35 : decode cX8_pay 35 = .ok (.iaload, 1) := by decide +kernel
theorem dX8_pay_36 : decode cX8_pay 36 = .ok (.ifCond .ne 9, 3) := by decide +kernel
theorem dX8_pay_39 : decode cX8_pay 39 = .ok (.aload_n 0, 1) := by decide +kernel
theorem dX8_pay_40 : decode cX8_pay 40 = .ok (.iconst 3, 1) := by decide +kernel
theorem dX8_pay_41 : decode cX8_pay 41 = .ok (.invokevirtual 135, 3) := by decide +kernel
theorem dX8_pay_44 : decode cX8_pay 44 = .ok (.ireturn, 1) := by decide +kernel
theorem dX8_pay_45 : decode cX8_pay 45 = .ok (.iload_n 2, 1) := by decide +kernel
theorem dX8_pay_46 : decode cX8_pay 46 = .ok (.aload_n 0, 1) := by decide +kernel
theorem dX8_pay_47 : decode cX8_pay 47 = .ok (.getfield 63, 3) := by decide +kernel
theorem dX8_pay_50 : decode cX8_pay 50 = .ok (.iload_n 1, 1) := by decide +kernel
theorem dX8_pay_51 : decode cX8_pay 51 = .ok (.iaload, 1) := by decide +kernel
theorem dX8_pay_52 : decode cX8_pay 52 = .ok (.invokestatic 175, 3) := by decide +kernel
theorem dX8_pay_55 : decode cX8_pay 55 = .ok (.istore_n 3, 1) := by decide +kernel
theorem dX8_pay_56 : decode cX8_pay 56 = .ok (.aload_n 0, 1) := by decide +kernel
theorem dX8_pay_57 : decode cX8_pay 57 = .ok (.getfield 63, 3) := by decide +kernel
theorem dX8_pay_60 : decode cX8_pay 60 = .ok (.iload_n 1, 1) := by decide +kernel
theorem dX8_pay_61 : decode cX8_pay 61 = .ok (.dup2, 1) := by decide +kernel
theorem dX8_pay_62 : decode cX8_pay 62 = .ok (.iaload, 1) := by decide +kernel
theorem dX8_pay_63 : decode cX8_pay 63 = .ok (.iload_n 3, 1) := by decide +kernel
theorem dX8_pay_64 : decode cX8_pay 64 = .ok (.isub, 1) := by decide +kernel
theorem dX8_pay_65 : decode cX8_pay 65 = .ok (.iastore, 1) := by decide +kernel
theorem dX8_pay_66 : decode cX8_pay 66 = .ok (.aload_n 0, 1) := by decide +kernel
theorem dX8_pay_67 : decode cX8_pay 67 = .ok (.dup, 1) := by decide +kernel
theorem dX8_pay_68 : decode cX8_pay 68 = .ok (.getfield 115, 3) := by decide +kernel
theorem dX8_pay_71 : decode cX8_pay 71 = .ok (.iload_n 3, 1) := by decide +kernel
theorem dX8_pay_72 : decode cX8_pay 72 = .ok (.iadd, 1) := by decide +kernel
theorem dX8_pay_73 : decode cX8_pay 73 = .ok (.putfield 115, 3) := by decide +kernel
theorem dX8_pay_76 : decode cX8_pay 76 = .ok (.aload_n 0, 1) := by decide +kernel
theorem dX8_pay_77 : decode cX8_pay 77 = .ok (.aload_n 0, 1) := by decide +kernel
theorem dX8_pay_78 : decode cX8_pay 78 = .ok (.getfield 63, 3) := by decide +kernel
theorem dX8_pay_81 : decode cX8_pay 81 = .ok (.iload_n 1, 1) := by decide +kernel
theorem dX8_pay_82 : decode cX8_pay 82 = .ok (.iaload, 1) := by decide +kernel
theorem dX8_pay_83 : decode cX8_pay 83 = .ok (.invokevirtual 142, 3) := by decide +kernel
theorem dX8_pay_86 : decode cX8_pay 86 = .ok (.ireturn, 1) := by decide +kernel
theorem dX8_owed_0 : decode cX8_owed 0 = .ok (.aload_n 0, 1) := by decide +kernel
theorem dX8_owed_1 : decode cX8_owed 1 = .ok (.iload_n 1, 1) := by decide +kernel
theorem dX8_owed_2 : decode cX8_owed 2 = .ok (.invokevirtual 168, 3) := by decide +kernel
theorem dX8_owed_5 : decode cX8_owed 5 = .ok (.ifCond .eq 16, 3) := by decide +kernel
theorem dX8_owed_8 : decode cX8_owed 8 = .ok (.aload_n 0, 1) := by decide +kernel
theorem dX8_owed_9 : decode cX8_owed 9 = .ok (.aload_n 0, 1) := by decide +kernel
theorem dX8_owed_10 : decode cX8_owed 10 = .ok (.getfield 63, 3) := by decide +kernel
theorem dX8_owed_13 : decode cX8_owed 13 = .ok (.iload_n 1, 1) := by decide +kernel
theorem dX8_owed_14 : decode cX8_owed 14 = .ok (.iaload, 1) := by decide +kernel
theorem dX8_owed_15 : decode cX8_owed 15 = .ok (.invokevirtual 142, 3) := by decide +kernel
theorem dX8_owed_18 : decode cX8_owed 18 = .ok (.goto 8, 3) := by decide +kernel
theorem dX8_owed_21 : decode cX8_owed 21 = .ok (.aload_n 0, 1) := by decide +kernel
theorem dX8_owed_22 : decode cX8_owed 22 = .ok (.iconst 1, 1) := by decide +kernel
theorem dX8_owed_23 : decode cX8_owed 23 = .ok (.invokevirtual 135, 3) := by decide +kernel
theorem dX8_owed_26 : decode cX8_owed 26 = .ok (.ireturn, 1) := by decide +kernel
theorem dX8_purse_0 : decode cX8_purse 0 = .ok (.aload_n 0, 1) := by decide +kernel
theorem dX8_purse_1 : decode cX8_purse 1 = .ok (.aload_n 0, 1) := by decide +kernel
theorem dX8_purse_2 : decode cX8_purse 2 = .ok (.getfield 115, 3) := by decide +kernel
theorem dX8_purse_5 : decode cX8_purse 5 = .ok (.invokevirtual 142, 3) := by decide +kernel
theorem dX8_purse_8 : decode cX8_purse 8 = .ok (.ireturn, 1) := by decide +kernel
theorem dX8_share_0 : decode cX8_share 0 = .ok (.aload_n 0, 1) := by decide +kernel
theorem dX8_share_1 : decode cX8_share 1 = .ok (.getfield 115, 3) := by decide +kernel
theorem dX8_share_4 : decode cX8_share 4 = .ok (.ifCond .ne 9, 3) := by decide +kernel
theorem dX8_share_7 : decode cX8_share 7 = .ok (.aload_n 0, 1) := by decide +kernel
theorem dX8_share_8 : decode cX8_share 8 = .ok (.iconst 1, 1) := by decide +kernel
theorem dX8_share_9 : decode cX8_share 9 = .ok (.invokevirtual 135, 3) := by decide +kernel
theorem dX8_share_12 : decode cX8_share 12 = .ok (.ireturn, 1) := by decide +kernel
theorem dX8_share_13 : decode cX8_share 13 = .ok (.iconst 5, 1) := by decide +kernel
theorem dX8_share_14 : decode cX8_share 14 = .ok (.istore_n 1, 1) := by decide +kernel
theorem dX8_share_15 : decode cX8_share 15 = .ok (.iconst 0, 1) := by decide +kernel
theorem dX8_share_16 : decode cX8_share 16 = .ok (.istore_n 2, 1) := by decide +kernel
theorem dX8_share_17 : decode cX8_share 17 = .ok (.iload_n 2, 1) := by decide +kernel
theorem dX8_share_18 : decode cX8_share 18 = .ok (.aload_n 0, 1) := by decide +kernel
theorem dX8_share_19 : decode cX8_share 19 = .ok (.getfield 88, 3) := by decide +kernel
theorem dX8_share_22 : decode cX8_share 22 = .ok (.if_icmp .ge 20, 3) := by decide +kernel
theorem dX8_share_25 : decode cX8_share 25 = .ok (.iload_n 1, 1) := by decide +kernel
theorem dX8_share_26 : decode cX8_share 26 = .ok (.aload_n 0, 1) := by decide +kernel
theorem dX8_share_27 : decode cX8_share 27 = .ok (.getfield 48, 3) := by decide +kernel
theorem dX8_share_30 : decode cX8_share 30 = .ok (.iload_n 2, 1) := by decide +kernel
theorem dX8_share_31 : decode cX8_share 31 = .ok (.iaload, 1) := by decide +kernel
theorem dX8_share_32 : decode cX8_share 32 = .ok (.iconst 1, 1) := by decide +kernel
theorem dX8_share_33 : decode cX8_share 33 = .ok (.iadd, 1) := by decide +kernel
theorem dX8_share_34 : decode cX8_share 34 = .ok (.iadd, 1) := by decide +kernel
theorem dX8_share_35 : decode cX8_share 35 = .ok (.istore_n 1, 1) := by decide +kernel
theorem dX8_share_36 : decode cX8_share 36 = .ok (.iinc 2 1, 3) := by decide +kernel
theorem dX8_share_39 : decode cX8_share 39 = .ok (.goto (-22), 3) := by decide +kernel
theorem dX8_share_42 : decode cX8_share 42 = .ok (.aload_n 0, 1) := by decide +kernel
theorem dX8_share_43 : decode cX8_share 43 = .ok (.getfield 115, 3) := by decide +kernel
theorem dX8_share_46 : decode cX8_share 46 = .ok (.istore_n 2, 1) := by decide +kernel
theorem dX8_share_47 : decode cX8_share 47 = .ok (.iconst 0, 1) := by decide +kernel
theorem dX8_share_48 : decode cX8_share 48 = .ok (.istore_n 3, 1) := by decide +kernel
theorem dX8_share_49 : decode cX8_share 49 = .ok (.iload_n 3, 1) := by decide +kernel
theorem dX8_share_50 : decode cX8_share 50 = .ok (.aload_n 0, 1) := by decide +kernel
theorem dX8_share_51 : decode cX8_share 51 = .ok (.getfield 88, 3) := by decide +kernel
theorem dX8_share_54 : decode cX8_share 54 = .ok (.if_icmp .ge 46, 3) := by decide +kernel
theorem dX8_share_57 : decode cX8_share 57 = .ok (.aload_n 0, 1) := by decide +kernel
theorem dX8_share_58 : decode cX8_share 58 = .ok (.getfield 115, 3) := by decide +kernel
theorem dX8_share_61 : decode cX8_share 61 = .ok (.i2l, 1) := by decide +kernel
theorem dX8_share_62 : decode cX8_share 62 = .ok (.aload_n 0, 1) := by decide +kernel
theorem dX8_share_63 : decode cX8_share 63 = .ok (.getfield 48, 3) := by decide +kernel
theorem dX8_share_66 : decode cX8_share 66 = .ok (.iload_n 3, 1) := by decide +kernel
theorem dX8_share_67 : decode cX8_share 67 = .ok (.iaload, 1) := by decide +kernel
theorem dX8_share_68 : decode cX8_share 68 = .ok (.iconst 1, 1) := by decide +kernel
theorem dX8_share_69 : decode cX8_share 69 = .ok (.iadd, 1) := by decide +kernel
theorem dX8_share_70 : decode cX8_share 70 = .ok (.i2l, 1) := by decide +kernel
theorem dX8_share_71 : decode cX8_share 71 = .ok (.lmul, 1) := by decide +kernel
theorem dX8_share_72 : decode cX8_share 72 = .ok (.iload_n 1, 1) := by decide +kernel
theorem dX8_share_73 : decode cX8_share 73 = .ok (.i2l, 1) := by decide +kernel
theorem dX8_share_74 : decode cX8_share 74 = .ok (.ldiv, 1) := by decide +kernel
theorem dX8_share_75 : decode cX8_share 75 = .ok (.l2i, 1) := by decide +kernel
theorem dX8_share_76 : decode cX8_share 76 = .ok (.istore 4, 2) := by decide +kernel
theorem dX8_share_78 : decode cX8_share 78 = .ok (.aload_n 0, 1) := by decide +kernel
theorem dX8_share_79 : decode cX8_share 79 = .ok (.getfield 54, 3) := by decide +kernel
theorem dX8_share_82 : decode cX8_share 82 = .ok (.iload_n 3, 1) := by decide +kernel
theorem dX8_share_83 : decode cX8_share 83 = .ok (.dup2, 1) := by decide +kernel
theorem dX8_share_84 : decode cX8_share 84 = .ok (.iaload, 1) := by decide +kernel
theorem dX8_share_85 : decode cX8_share 85 = .ok (.iload 4, 2) := by decide +kernel
theorem dX8_share_87 : decode cX8_share 87 = .ok (.iadd, 1) := by decide +kernel
theorem dX8_share_88 : decode cX8_share 88 = .ok (.iastore, 1) := by decide +kernel
theorem dX8_share_89 : decode cX8_share 89 = .ok (.iload_n 2, 1) := by decide +kernel
theorem dX8_share_90 : decode cX8_share 90 = .ok (.iload 4, 2) := by decide +kernel
theorem dX8_share_92 : decode cX8_share 92 = .ok (.isub, 1) := by decide +kernel
theorem dX8_share_93 : decode cX8_share 93 = .ok (.istore_n 2, 1) := by decide +kernel
theorem dX8_share_94 : decode cX8_share 94 = .ok (.iinc 3 1, 3) := by decide +kernel
theorem dX8_share_97 : decode cX8_share 97 = .ok (.goto (-48), 3) := by decide +kernel
theorem dX8_share_100 : decode cX8_share 100 = .ok (.aload_n 0, 1) := by decide +kernel
theorem dX8_share_101 : decode cX8_share 101 = .ok (.dup, 1) := by decide +kernel
theorem dX8_share_102 : decode cX8_share 102 = .ok (.getfield 118, 3) := by decide +kernel
theorem dX8_share_105 : decode cX8_share 105 = .ok (.iload_n 2, 1) := by decide +kernel
theorem dX8_share_106 : decode cX8_share 106 = .ok (.iadd, 1) := by decide +kernel
theorem dX8_share_107 : decode cX8_share 107 = .ok (.putfield 118, 3) := by decide +kernel
theorem dX8_share_110 : decode cX8_share 110 = .ok (.aload_n 0, 1) := by decide +kernel
theorem dX8_share_111 : decode cX8_share 111 = .ok (.iconst 0, 1) := by decide +kernel
theorem dX8_share_112 : decode cX8_share 112 = .ok (.putfield 115, 3) := by decide +kernel
theorem dX8_share_115 : decode cX8_share 115 = .ok (.aload_n 0, 1) := by decide +kernel
theorem dX8_share_116 : decode cX8_share 116 = .ok (.iload_n 2, 1) := by decide +kernel
theorem dX8_share_117 : decode cX8_share 117 = .ok (.invokevirtual 142, 3) := by decide +kernel
theorem dX8_share_120 : decode cX8_share 120 = .ok (.ireturn, 1) := by decide +kernel
theorem dX8_moneyOf_0 : decode cX8_moneyOf 0 = .ok (.aload_n 0, 1) := by decide +kernel
theorem dX8_moneyOf_1 : decode cX8_moneyOf 1 = .ok (.iload_n 1, 1) := by decide +kernel
theorem dX8_moneyOf_2 : decode cX8_moneyOf 2 = .ok (.invokevirtual 157, 3) := by decide +kernel
theorem dX8_moneyOf_5 : decode cX8_moneyOf 5 = .ok (.ifCond .eq 16, 3) := by decide +kernel
theorem dX8_moneyOf_8 : decode cX8_moneyOf 8 = .ok (.aload_n 0, 1) := by decide +kernel
theorem dX8_moneyOf_9 : decode cX8_moneyOf 9 = .ok (.aload_n 0, 1) := by decide +kernel
theorem dX8_moneyOf_10 : decode cX8_moneyOf 10 = .ok (.getfield 54, 3) := by decide +kernel
theorem dX8_moneyOf_13 : decode cX8_moneyOf 13 = .ok (.iload_n 1, 1) := by decide +kernel
theorem dX8_moneyOf_14 : decode cX8_moneyOf 14 = .ok (.iaload, 1) := by decide +kernel
theorem dX8_moneyOf_15 : decode cX8_moneyOf 15 = .ok (.invokevirtual 142, 3) := by decide +kernel
theorem dX8_moneyOf_18 : decode cX8_moneyOf 18 = .ok (.goto 8, 3) := by decide +kernel
theorem dX8_moneyOf_21 : decode cX8_moneyOf 21 = .ok (.aload_n 0, 1) := by decide +kernel
theorem dX8_moneyOf_22 : decode cX8_moneyOf 22 = .ok (.iconst 1, 1) := by decide +kernel
theorem dX8_moneyOf_23 : decode cX8_moneyOf 23 = .ok (.invokevirtual 135, 3) := by decide +kernel
theorem dX8_moneyOf_26 : decode cX8_moneyOf 26 = .ok (.ireturn, 1) := by decide +kernel
theorem dX8_chiefs_0 : decode cX8_chiefs 0 = .ok (.aload_n 0, 1) := by decide +kernel
theorem dX8_chiefs_1 : decode cX8_chiefs 1 = .ok (.aload_n 0, 1) := by decide +kernel
theorem dX8_chiefs_2 : decode cX8_chiefs 2 = .ok (.getfield 118, 3) := by decide +kernel
theorem dX8_chiefs_5 : decode cX8_chiefs 5 = .ok (.invokevirtual 142, 3) := by decide +kernel
theorem dX8_chiefs_8 : decode cX8_chiefs 8 = .ok (.ireturn, 1) := by decide +kernel
theorem dX8_summed__0 : decode cX8_summed_ 0 = .ok (.iconst 0, 1) := by decide +kernel
theorem dX8_summed__1 : decode cX8_summed_ 1 = .ok (.istore_n 3, 1) := by decide +kernel
theorem dX8_summed__2 : decode cX8_summed_ 2 = .ok (.iconst 0, 1) := by decide +kernel
theorem dX8_summed__3 : decode cX8_summed_ 3 = .ok (.istore 4, 2) := by decide +kernel
theorem dX8_summed__5 : decode cX8_summed_ 5 = .ok (.iload 4, 2) := by decide +kernel
theorem dX8_summed__7 : decode cX8_summed_ 7 = .ok (.aload_n 0, 1) := by decide +kernel
theorem dX8_summed__8 : decode cX8_summed_ 8 = .ok (.getfield 88, 3) := by decide +kernel
theorem dX8_summed__11 : decode cX8_summed_ 11 = .ok (.if_icmp .ge 49, 3) := by decide +kernel
theorem dX8_summed__14 : decode cX8_summed_ 14 = .ok (.iload_n 3, 1) := by decide +kernel
theorem dX8_summed__15 : decode cX8_summed_ 15 = .ok (.iload_n 1, 1) := by decide +kernel
theorem dX8_summed__16 : decode cX8_summed_ 16 = .ok (.iload 4, 2) := by decide +kernel
theorem dX8_summed__18 : decode cX8_summed_ 18 = .ok (.ishr, 1) := by decide +kernel
theorem dX8_summed__19 : decode cX8_summed_ 19 = .ok (.iconst 1, 1) := by decide +kernel
theorem dX8_summed__20 : decode cX8_summed_ 20 = .ok (.iand, 1) := by decide +kernel
theorem dX8_summed__21 : decode cX8_summed_ 21 = .ok (.iload_n 2, 1) := by decide +kernel
theorem dX8_summed__22 : decode cX8_summed_ 22 = .ok (.ifCond .ne 13, 3) := by decide +kernel
theorem dX8_summed__25 : decode cX8_summed_ 25 = .ok (.aload_n 0, 1) := by decide +kernel
theorem dX8_summed__26 : decode cX8_summed_ 26 = .ok (.getfield 51, 3) := by decide +kernel
theorem dX8_summed__29 : decode cX8_summed_ 29 = .ok (.iload 4, 2) := by decide +kernel
theorem dX8_summed__31 : decode cX8_summed_ 31 = .ok (.iaload, 1) := by decide +kernel
theorem dX8_summed__32 : decode cX8_summed_ 32 = .ok (.goto 19, 3) := by decide +kernel
theorem dX8_summed__35 : decode cX8_summed_ 35 = .ok (.iload_n 2, 1) := by decide +kernel
theorem dX8_summed__36 : decode cX8_summed_ 36 = .ok (.iconst 1, 1) := by decide +kernel
theorem dX8_summed__37 : decode cX8_summed_ 37 = .ok (.if_icmp .ne 13, 3) := by decide +kernel
theorem dX8_summed__40 : decode cX8_summed_ 40 = .ok (.aload_n 0, 1) := by decide +kernel
theorem dX8_summed__41 : decode cX8_summed_ 41 = .ok (.getfield 45, 3) := by decide +kernel
theorem dX8_summed__44 : decode cX8_summed_ 44 = .ok (.iload 4, 2) := by decide +kernel
theorem dX8_summed__46 : decode cX8_summed_ 46 = .ok (.iaload, 1) := by decide +kernel
theorem dX8_summed__47 : decode cX8_summed_ 47 = .ok (.goto 4, 3) := by decide +kernel
theorem dX8_summed__50 : decode cX8_summed_ 50 = .ok (.iconst 1, 1) := by decide +kernel
theorem dX8_summed__51 : decode cX8_summed_ 51 = .ok (.imul, 1) := by decide +kernel
theorem dX8_summed__52 : decode cX8_summed_ 52 = .ok (.iadd, 1) := by decide +kernel
theorem dX8_summed__53 : decode cX8_summed_ 53 = .ok (.istore_n 3, 1) := by decide +kernel
theorem dX8_summed__54 : decode cX8_summed_ 54 = .ok (.iinc 4 1, 3) := by decide +kernel
theorem dX8_summed__57 : decode cX8_summed_ 57 = .ok (.goto (-52), 3) := by decide +kernel
theorem dX8_summed__60 : decode cX8_summed_ 60 = .ok (.iload_n 3, 1) := by decide +kernel
theorem dX8_summed__61 : decode cX8_summed_ 61 = .ok (.ireturn, 1) := by decide +kernel
theorem dX8_isBetter_0 : decode cX8_isBetter 0 = .ok (.iload_n 2, 1) := by decide +kernel
theorem dX8_isBetter_1 : decode cX8_isBetter 1 = .ok (.iconst (-1), 1) := by decide +kernel
theorem dX8_isBetter_2 : decode cX8_isBetter 2 = .ok (.if_icmp .ne 5, 3) := by decide +kernel
theorem dX8_isBetter_5 : decode cX8_isBetter 5 = .ok (.iconst 1, 1) := by decide +kernel
theorem dX8_isBetter_6 : decode cX8_isBetter 6 = .ok (.ireturn, 1) := by decide +kernel
theorem dX8_isBetter_7 : decode cX8_isBetter 7 = .ok (.aload_n 0, 1) := by decide +kernel
theorem dX8_isBetter_8 : decode cX8_isBetter 8 = .ok (.iload_n 1, 1) := by decide +kernel
theorem dX8_isBetter_9 : decode cX8_isBetter 9 = .ok (.iconst 0, 1) := by decide +kernel
theorem dX8_isBetter_10 : decode cX8_isBetter 10 = .ok (.invokevirtual 205, 3) := by decide +kernel
theorem dX8_isBetter_13 : decode cX8_isBetter 13 = .ok (.aload_n 0, 1) := by decide +kernel
theorem dX8_isBetter_14 : decode cX8_isBetter 14 = .ok (.iload_n 2, 1) := by decide +kernel
theorem dX8_isBetter_15 : decode cX8_isBetter 15 = .ok (.iconst 0, 1) := by decide +kernel
theorem dX8_isBetter_16 : decode cX8_isBetter 16 = .ok (.invokevirtual 205, 3) := by decide +kernel
theorem dX8_isBetter_19 : decode cX8_isBetter 19 = .ok (.if_icmp .eq 24, 3) := by decide +kernel
theorem dX8_isBetter_22 : decode cX8_isBetter 22 = .ok (.aload_n 0, 1) := by decide +kernel
theorem dX8_isBetter_23 : decode cX8_isBetter 23 = .ok (.iload_n 1, 1) := by decide +kernel
theorem dX8_isBetter_24 : decode cX8_isBetter 24 = .ok (.iconst 0, 1) := by decide +kernel
theorem dX8_isBetter_25 : decode cX8_isBetter 25 = .ok (.invokevirtual 205, 3) := by decide +kernel
theorem dX8_isBetter_28 : decode cX8_isBetter 28 = .ok (.aload_n 0, 1) := by decide +kernel
theorem dX8_isBetter_29 : decode cX8_isBetter 29 = .ok (.iload_n 2, 1) := by decide +kernel
theorem dX8_isBetter_30 : decode cX8_isBetter 30 = .ok (.iconst 0, 1) := by decide +kernel
theorem dX8_isBetter_31 : decode cX8_isBetter 31 = .ok (.invokevirtual 205, 3) := by decide +kernel
theorem dX8_isBetter_34 : decode cX8_isBetter 34 = .ok (.if_icmp .ge 7, 3) := by decide +kernel
theorem dX8_isBetter_37 : decode cX8_isBetter 37 = .ok (.iconst 1, 1) := by decide +kernel
theorem dX8_isBetter_38 : decode cX8_isBetter 38 = .ok (.goto 4, 3) := by decide +kernel
theorem dX8_isBetter_41 : decode cX8_isBetter 41 = .ok (.iconst 0, 1) := by decide +kernel
theorem dX8_isBetter_42 : decode cX8_isBetter 42 = .ok (.ireturn, 1) := by decide +kernel
theorem dX8_isBetter_43 : decode cX8_isBetter 43 = .ok (.aload_n 0, 1) := by decide +kernel
theorem dX8_isBetter_44 : decode cX8_isBetter 44 = .ok (.iload_n 1, 1) := by decide +kernel
theorem dX8_isBetter_45 : decode cX8_isBetter 45 = .ok (.iconst 2, 1) := by decide +kernel
theorem dX8_isBetter_46 : decode cX8_isBetter 46 = .ok (.invokevirtual 205, 3) := by decide +kernel
theorem dX8_isBetter_49 : decode cX8_isBetter 49 = .ok (.aload_n 0, 1) := by decide +kernel
theorem dX8_isBetter_50 : decode cX8_isBetter 50 = .ok (.iload_n 2, 1) := by decide +kernel
theorem dX8_isBetter_51 : decode cX8_isBetter 51 = .ok (.iconst 2, 1) := by decide +kernel
theorem dX8_isBetter_52 : decode cX8_isBetter 52 = .ok (.invokevirtual 205, 3) := by decide +kernel
theorem dX8_isBetter_55 : decode cX8_isBetter 55 = .ok (.if_icmp .eq 24, 3) := by decide +kernel
theorem dX8_isBetter_58 : decode cX8_isBetter 58 = .ok (.aload_n 0, 1) := by decide +kernel
theorem dX8_isBetter_59 : decode cX8_isBetter 59 = .ok (.iload_n 1, 1) := by decide +kernel
theorem dX8_isBetter_60 : decode cX8_isBetter 60 = .ok (.iconst 2, 1) := by decide +kernel
theorem dX8_isBetter_61 : decode cX8_isBetter 61 = .ok (.invokevirtual 205, 3) := by decide +kernel
theorem dX8_isBetter_64 : decode cX8_isBetter 64 = .ok (.aload_n 0, 1) := by decide +kernel
theorem dX8_isBetter_65 : decode cX8_isBetter 65 = .ok (.iload_n 2, 1) := by decide +kernel
theorem dX8_isBetter_66 : decode cX8_isBetter 66 = .ok (.iconst 2, 1) := by decide +kernel
theorem dX8_isBetter_67 : decode cX8_isBetter 67 = .ok (.invokevirtual 205, 3) := by decide +kernel
theorem dX8_isBetter_70 : decode cX8_isBetter 70 = .ok (.if_icmp .ge 7, 3) := by decide +kernel
theorem dX8_isBetter_73 : decode cX8_isBetter 73 = .ok (.iconst 1, 1) := by decide +kernel
theorem dX8_isBetter_74 : decode cX8_isBetter 74 = .ok (.goto 4, 3) := by decide +kernel
theorem dX8_isBetter_77 : decode cX8_isBetter 77 = .ok (.iconst 0, 1) := by decide +kernel
theorem dX8_isBetter_78 : decode cX8_isBetter 78 = .ok (.ireturn, 1) := by decide +kernel
theorem dX8_isBetter_79 : decode cX8_isBetter 79 = .ok (.iload_n 1, 1) := by decide +kernel
theorem dX8_isBetter_80 : decode cX8_isBetter 80 = .ok (.iload_n 2, 1) := by decide +kernel
theorem dX8_isBetter_81 : decode cX8_isBetter 81 = .ok (.ixor, 1) := by decide +kernel
theorem dX8_isBetter_82 : decode cX8_isBetter 82 = .ok (.istore_n 3, 1) := by decide +kernel
theorem dX8_isBetter_83 : decode cX8_isBetter 83 = .ok (.iload_n 1, 1) := by decide +kernel
theorem dX8_isBetter_84 : decode cX8_isBetter 84 = .ok (.iload_n 3, 1) := by decide +kernel
theorem dX8_isBetter_85 : decode cX8_isBetter 85 = .ok (.iand, 1) := by decide +kernel
theorem dX8_isBetter_86 : decode cX8_isBetter 86 = .ok (.iload_n 3, 1) := by decide +kernel
theorem dX8_isBetter_87 : decode cX8_isBetter 87 = .ok (.ineg, 1) := by decide +kernel
theorem dX8_isBetter_88 : decode cX8_isBetter 88 = .ok (.iand, 1) := by decide +kernel
theorem dX8_isBetter_89 : decode cX8_isBetter 89 = .ok (.ifCond .eq 7, 3) := by decide +kernel
theorem dX8_isBetter_92 : decode cX8_isBetter 92 = .ok (.iconst 1, 1) := by decide +kernel
theorem dX8_isBetter_93 : decode cX8_isBetter 93 = .ok (.goto 4, 3) := by decide +kernel
theorem dX8_isBetter_96 : decode cX8_isBetter 96 = .ok (.iconst 0, 1) := by decide +kernel
theorem dX8_isBetter_97 : decode cX8_isBetter 97 = .ok (.ireturn, 1) := by decide +kernel
theorem dX8_planned_0 : decode cX8_planned 0 = .ok (.iconst (-1), 1) := by decide +kernel
theorem dX8_planned_1 : decode cX8_planned 1 = .ok (.istore_n 2, 1) := by decide +kernel
theorem dX8_planned_2 : decode cX8_planned 2 = .ok (.iconst 0, 1) := by decide +kernel
theorem dX8_planned_3 : decode cX8_planned 3 = .ok (.istore_n 3, 1) := by decide +kernel
theorem dX8_planned_4 : decode cX8_planned 4 = .ok (.iload_n 3, 1) := by decide +kernel
theorem dX8_planned_5 : decode cX8_planned 5 = .ok (.iconst 1, 1) := by decide +kernel
theorem dX8_planned_6 : decode cX8_planned 6 = .ok (.aload_n 0, 1) := by decide +kernel
theorem dX8_planned_7 : decode cX8_planned 7 = .ok (.getfield 88, 3) := by decide +kernel
theorem dX8_planned_10 : decode cX8_planned 10 = .ok (.ishl, 1) := by decide +kernel
theorem dX8_planned_11 : decode cX8_planned 11 = .ok (.if_icmp .ge 33, 3) := by decide +kernel
theorem dX8_planned_14 : decode cX8_planned 14 = .ok (.aload_n 0, 1) := by decide +kernel
theorem dX8_planned_15 : decode cX8_planned 15 = .ok (.iload_n 3, 1) := by decide +kernel
theorem dX8_planned_16 : decode cX8_planned 16 = .ok (.iconst 1, 1) := by decide +kernel
theorem dX8_planned_17 : decode cX8_planned 17 = .ok (.invokevirtual 205, 3) := by decide +kernel
theorem dX8_planned_20 : decode cX8_planned 20 = .ok (.bipush 6, 2) := by decide +kernel
theorem dX8_planned_22 : decode cX8_planned 22 = .ok (.iload_n 1, 1) := by decide +kernel
theorem dX8_planned_23 : decode cX8_planned 23 = .ok (.imul, 1) := by decide +kernel
theorem dX8_planned_24 : decode cX8_planned 24 = .ok (.if_icmp .lt 14, 3) := by decide +kernel
theorem dX8_planned_27 : decode cX8_planned 27 = .ok (.aload_n 0, 1) := by decide +kernel
theorem dX8_planned_28 : decode cX8_planned 28 = .ok (.iload_n 3, 1) := by decide +kernel
theorem dX8_planned_29 : decode cX8_planned 29 = .ok (.iload_n 2, 1) := by decide +kernel
theorem dX8_planned_30 : decode cX8_planned 30 = .ok (.invokevirtual 207, 3) := by decide +kernel
theorem dX8_planned_33 : decode cX8_planned 33 = .ok (.ifCond .eq 5, 3) := by decide +kernel
theorem dX8_planned_36 : decode cX8_planned 36 = .ok (.iload_n 3, 1) := by decide +kernel
theorem dX8_planned_37 : decode cX8_planned 37 = .ok (.istore_n 2, 1) := by decide +kernel
theorem dX8_planned_38 : decode cX8_planned 38 = .ok (.iinc 3 1, 3) := by decide +kernel
theorem dX8_planned_41 : decode cX8_planned 41 = .ok (.goto (-37), 3) := by decide +kernel
theorem dX8_planned_44 : decode cX8_planned 44 = .ok (.iload_n 2, 1) := by decide +kernel
theorem dX8_planned_45 : decode cX8_planned 45 = .ok (.ireturn, 1) := by decide +kernel
theorem dX8_planCost_0 : decode cX8_planCost 0 = .ok (.iload_n 1, 1) := by decide +kernel
theorem dX8_planCost_1 : decode cX8_planCost 1 = .ok (.iconst 1, 1) := by decide +kernel
theorem dX8_planCost_2 : decode cX8_planCost 2 = .ok (.bipush 20, 2) := by decide +kernel
theorem dX8_planCost_4 : decode cX8_planCost 4 = .ok (.invokestatic 128, 3) := by decide +kernel
theorem dX8_planCost_7 : decode cX8_planCost 7 = .ok (.ifCond .ne 9, 3) := by decide +kernel
theorem dX8_planCost_10 : decode cX8_planCost 10 = .ok (.aload_n 0, 1) := by decide +kernel
theorem dX8_planCost_11 : decode cX8_planCost 11 = .ok (.iconst 1, 1) := by decide +kernel
theorem dX8_planCost_12 : decode cX8_planCost 12 = .ok (.invokevirtual 135, 3) := by decide +kernel
theorem dX8_planCost_15 : decode cX8_planCost 15 = .ok (.ireturn, 1) := by decide +kernel
theorem dX8_planCost_16 : decode cX8_planCost 16 = .ok (.aload_n 0, 1) := by decide +kernel
theorem dX8_planCost_17 : decode cX8_planCost 17 = .ok (.iload_n 1, 1) := by decide +kernel
theorem dX8_planCost_18 : decode cX8_planCost 18 = .ok (.invokevirtual 210, 3) := by decide +kernel
theorem dX8_planCost_21 : decode cX8_planCost 21 = .ok (.istore_n 2, 1) := by decide +kernel
theorem dX8_planCost_22 : decode cX8_planCost 22 = .ok (.iload_n 2, 1) := by decide +kernel
theorem dX8_planCost_23 : decode cX8_planCost 23 = .ok (.iconst (-1), 1) := by decide +kernel
theorem dX8_planCost_24 : decode cX8_planCost 24 = .ok (.if_icmp .ne 11, 3) := by decide +kernel
theorem dX8_planCost_27 : decode cX8_planCost 27 = .ok (.aload_n 0, 1) := by decide +kernel
theorem dX8_planCost_28 : decode cX8_planCost 28 = .ok (.iconst 2, 1) := by decide +kernel
theorem dX8_planCost_29 : decode cX8_planCost 29 = .ok (.invokevirtual 135, 3) := by decide +kernel
theorem dX8_planCost_32 : decode cX8_planCost 32 = .ok (.goto 13, 3) := by decide +kernel
theorem dX8_planCost_35 : decode cX8_planCost 35 = .ok (.aload_n 0, 1) := by decide +kernel
theorem dX8_planCost_36 : decode cX8_planCost 36 = .ok (.aload_n 0, 1) := by decide +kernel
theorem dX8_planCost_37 : decode cX8_planCost 37 = .ok (.iload_n 2, 1) := by decide +kernel
theorem dX8_planCost_38 : decode cX8_planCost 38 = .ok (.iconst 0, 1) := by decide +kernel
theorem dX8_planCost_39 : decode cX8_planCost 39 = .ok (.invokevirtual 205, 3) := by decide +kernel
theorem dX8_planCost_42 : decode cX8_planCost 42 = .ok (.invokevirtual 142, 3) := by decide +kernel
theorem dX8_planCost_45 : decode cX8_planCost 45 = .ok (.ireturn, 1) := by decide +kernel
theorem dX8_isPlanned_0 : decode cX8_isPlanned 0 = .ok (.aload_n 0, 1) := by decide +kernel
theorem dX8_isPlanned_1 : decode cX8_isPlanned 1 = .ok (.iload_n 1, 1) := by decide +kernel
theorem dX8_isPlanned_2 : decode cX8_isPlanned 2 = .ok (.iconst 1, 1) := by decide +kernel
theorem dX8_isPlanned_3 : decode cX8_isPlanned 3 = .ok (.bipush 20, 2) := by decide +kernel
theorem dX8_isPlanned_5 : decode cX8_isPlanned 5 = .ok (.invokestatic 128, 3) := by decide +kernel
theorem dX8_isPlanned_8 : decode cX8_isPlanned 8 = .ok (.ifCond .ne 7, 3) := by decide +kernel
theorem dX8_isPlanned_11 : decode cX8_isPlanned 11 = .ok (.iconst 1, 1) := by decide +kernel
theorem dX8_isPlanned_12 : decode cX8_isPlanned 12 = .ok (.goto 16, 3) := by decide +kernel
theorem dX8_isPlanned_15 : decode cX8_isPlanned 15 = .ok (.aload_n 0, 1) := by decide +kernel
theorem dX8_isPlanned_16 : decode cX8_isPlanned 16 = .ok (.iload_n 2, 1) := by decide +kernel
theorem dX8_isPlanned_17 : decode cX8_isPlanned 17 = .ok (.invokevirtual 157, 3) := by decide +kernel
theorem dX8_isPlanned_20 : decode cX8_isPlanned 20 = .ok (.ifCond .eq 7, 3) := by decide +kernel
theorem dX8_isPlanned_23 : decode cX8_isPlanned 23 = .ok (.iconst 0, 1) := by decide +kernel
theorem dX8_isPlanned_24 : decode cX8_isPlanned 24 = .ok (.goto 4, 3) := by decide +kernel
theorem dX8_isPlanned_27 : decode cX8_isPlanned 27 = .ok (.iconst 2, 1) := by decide +kernel
theorem dX8_isPlanned_28 : decode cX8_isPlanned 28 = .ok (.invokevirtual 165, 3) := by decide +kernel
theorem dX8_isPlanned_31 : decode cX8_isPlanned 31 = .ok (.ifCond .eq 5, 3) := by decide +kernel
theorem dX8_isPlanned_34 : decode cX8_isPlanned 34 = .ok (.iconst 0, 1) := by decide +kernel
theorem dX8_isPlanned_35 : decode cX8_isPlanned 35 = .ok (.ireturn, 1) := by decide +kernel
theorem dX8_isPlanned_36 : decode cX8_isPlanned 36 = .ok (.aload_n 0, 1) := by decide +kernel
theorem dX8_isPlanned_37 : decode cX8_isPlanned 37 = .ok (.iload_n 1, 1) := by decide +kernel
theorem dX8_isPlanned_38 : decode cX8_isPlanned 38 = .ok (.invokevirtual 210, 3) := by decide +kernel
theorem dX8_isPlanned_41 : decode cX8_isPlanned 41 = .ok (.istore_n 3, 1) := by decide +kernel
theorem dX8_isPlanned_42 : decode cX8_isPlanned 42 = .ok (.aload_n 0, 1) := by decide +kernel
theorem dX8_isPlanned_43 : decode cX8_isPlanned 43 = .ok (.iload_n 3, 1) := by decide +kernel
theorem dX8_isPlanned_44 : decode cX8_isPlanned 44 = .ok (.iconst (-1), 1) := by decide +kernel
theorem dX8_isPlanned_45 : decode cX8_isPlanned 45 = .ok (.if_icmp .ne 7, 3) := by decide +kernel
theorem dX8_isPlanned_48 : decode cX8_isPlanned 48 = .ok (.iconst 3, 1) := by decide +kernel
theorem dX8_isPlanned_49 : decode cX8_isPlanned 49 = .ok (.goto 4, 3) := by decide +kernel
theorem dX8_isPlanned_52 : decode cX8_isPlanned 52 = .ok (.iconst 0, 1) := by decide +kernel
theorem dX8_isPlanned_53 : decode cX8_isPlanned 53 = .ok (.invokevirtual 165, 3) := by decide +kernel
theorem dX8_isPlanned_56 : decode cX8_isPlanned 56 = .ok (.ifCond .ne 16, 3) := by decide +kernel
theorem dX8_isPlanned_59 : decode cX8_isPlanned 59 = .ok (.iload_n 3, 1) := by decide +kernel
theorem dX8_isPlanned_60 : decode cX8_isPlanned 60 = .ok (.iload_n 2, 1) := by decide +kernel
theorem dX8_isPlanned_61 : decode cX8_isPlanned 61 = .ok (.ishr, 1) := by decide +kernel
theorem dX8_isPlanned_62 : decode cX8_isPlanned 62 = .ok (.iconst 1, 1) := by decide +kernel
theorem dX8_isPlanned_63 : decode cX8_isPlanned 63 = .ok (.iand, 1) := by decide +kernel
theorem dX8_isPlanned_64 : decode cX8_isPlanned 64 = .ok (.iconst 1, 1) := by decide +kernel
theorem dX8_isPlanned_65 : decode cX8_isPlanned 65 = .ok (.if_icmp .ne 7, 3) := by decide +kernel
theorem dX8_isPlanned_68 : decode cX8_isPlanned 68 = .ok (.iconst 1, 1) := by decide +kernel
theorem dX8_isPlanned_69 : decode cX8_isPlanned 69 = .ok (.goto 4, 3) := by decide +kernel
theorem dX8_isPlanned_72 : decode cX8_isPlanned 72 = .ok (.iconst 0, 1) := by decide +kernel
theorem dX8_isPlanned_73 : decode cX8_isPlanned 73 = .ok (.ireturn, 1) := by decide +kernel
theorem dX8_checksum_0 : decode cX8_checksum 0 = .ok (.aload_n 0, 1) := by decide +kernel
theorem dX8_checksum_1 : decode cX8_checksum 1 = .ok (.iconst 0, 1) := by decide +kernel
theorem dX8_checksum_2 : decode cX8_checksum 2 = .ok (.putfield 121, 3) := by decide +kernel
theorem dX8_checksum_5 : decode cX8_checksum 5 = .ok (.ldc2_w 213, 3) := by decide +kernel
theorem dX8_checksum_8 : decode cX8_checksum 8 = .ok (.lstore_n 1, 1) := by decide +kernel
theorem dX8_checksum_9 : decode cX8_checksum 9 = .ok (.iconst 0, 1) := by decide +kernel
theorem dX8_checksum_10 : decode cX8_checksum 10 = .ok (.istore_n 3, 1) := by decide +kernel
theorem dX8_checksum_11 : decode cX8_checksum 11 = .ok (.iload_n 3, 1) := by decide +kernel
theorem dX8_checksum_12 : decode cX8_checksum 12 = .ok (.aload_n 0, 1) := by decide +kernel
theorem dX8_checksum_13 : decode cX8_checksum 13 = .ok (.getfield 81, 3) := by decide +kernel
theorem dX8_checksum_16 : decode cX8_checksum 16 = .ok (.if_icmp .ge 47, 3) := by decide +kernel
theorem dX8_checksum_19 : decode cX8_checksum 19 = .ok (.iconst 0, 1) := by decide +kernel
theorem dX8_checksum_20 : decode cX8_checksum 20 = .ok (.istore 4, 2) := by decide +kernel
theorem dX8_checksum_22 : decode cX8_checksum 22 = .ok (.iload 4, 2) := by decide +kernel
theorem dX8_checksum_24 : decode cX8_checksum 24 = .ok (.aload_n 0, 1) := by decide +kernel
theorem dX8_checksum_25 : decode cX8_checksum 25 = .ok (.getfield 85, 3) := by decide +kernel
theorem dX8_checksum_28 : decode cX8_checksum 28 = .ok (.if_icmp .ge 29, 3) := by decide +kernel
theorem dX8_checksum_31 : decode cX8_checksum 31 = .ok (.ldc2_w 215, 3) := by decide +kernel
theorem dX8_checksum_34 : decode cX8_checksum 34 = .ok (.lload_n 1, 1) := by decide +kernel
theorem dX8_checksum_35 : decode cX8_checksum 35 = .ok (.lmul, 1) := by decide +kernel
theorem dX8_checksum_36 : decode cX8_checksum 36 = .ok (.aload_n 0, 1) := by decide +kernel
theorem dX8_checksum_37 : decode cX8_checksum 37 = .ok (.getfield 20, 3) := by decide +kernel
theorem dX8_checksum_40 : decode cX8_checksum 40 = .ok (.bipush 10, 2) := by decide +kernel
theorem dX8_checksum_42 : decode cX8_checksum 42 = .ok (.iload_n 3, 1) := by decide +kernel
theorem dX8_checksum_43 : decode cX8_checksum 43 = .ok (.imul, 1) := by decide +kernel
theorem dX8_checksum_44 : decode cX8_checksum 44 = .ok (.iload 4, 2) := by decide +kernel
theorem dX8_checksum_46 : decode cX8_checksum 46 = .ok (.iadd, 1) := by decide +kernel
theorem dX8_checksum_47 : decode cX8_checksum 47 = .ok (.iaload, 1) := by decide +kernel
theorem dX8_checksum_48 : decode cX8_checksum 48 = .ok (.i2l, 1) := by decide +kernel
theorem dX8_checksum_49 : decode cX8_checksum 49 = .ok (.ladd, 1) := by decide +kernel
theorem dX8_checksum_50 : decode cX8_checksum 50 = .ok (.lstore_n 1, 1) := by decide +kernel
theorem dX8_checksum_51 : decode cX8_checksum 51 = .ok (.iinc 4 1, 3) := by decide +kernel
theorem dX8_checksum_54 : decode cX8_checksum 54 = .ok (.goto (-32), 3) := by decide +kernel
theorem dX8_checksum_57 : decode cX8_checksum 57 = .ok (.iinc 3 1, 3) := by decide +kernel
theorem dX8_checksum_60 : decode cX8_checksum 60 = .ok (.goto (-49), 3) := by decide +kernel
theorem dX8_checksum_63 : decode cX8_checksum 63 = .ok (.ldc2_w 215, 3) := by decide +kernel
theorem dX8_checksum_66 : decode cX8_checksum 66 = .ok (.ldc2_w 215, 3) := by decide +kernel
theorem dX8_checksum_69 : decode cX8_checksum 69 = .ok (.ldc2_w 215, 3) := by decide +kernel
theorem dX8_checksum_72 : decode cX8_checksum 72 = .ok (.ldc2_w 215, 3) := by decide +kernel
theorem dX8_checksum_75 : decode cX8_checksum 75 = .ok (.lload_n 1, 1) := by decide +kernel
theorem dX8_checksum_76 : decode cX8_checksum 76 = .ok (.lmul, 1) := by decide +kernel
theorem dX8_checksum_77 : decode cX8_checksum 77 = .ok (.aload_n 0, 1) := by decide +kernel
theorem dX8_checksum_78 : decode cX8_checksum 78 = .ok (.getfield 106, 3) := by decide +kernel
theorem dX8_checksum_81 : decode cX8_checksum 81 = .ok (.i2l, 1) := by decide +kernel
theorem dX8_checksum_82 : decode cX8_checksum 82 = .ok (.ladd, 1) := by decide +kernel
theorem dX8_checksum_83 : decode cX8_checksum 83 = .ok (.lmul, 1) := by decide +kernel
theorem dX8_checksum_84 : decode cX8_checksum 84 = .ok (.aload_n 0, 1) := by decide +kernel
theorem dX8_checksum_85 : decode cX8_checksum 85 = .ok (.getfield 109, 3) := by decide +kernel
theorem dX8_checksum_88 : decode cX8_checksum 88 = .ok (.i2l, 1) := by decide +kernel
theorem dX8_checksum_89 : decode cX8_checksum 89 = .ok (.ladd, 1) := by decide +kernel
theorem dX8_checksum_90 : decode cX8_checksum 90 = .ok (.lmul, 1) := by decide +kernel
theorem dX8_checksum_91 : decode cX8_checksum 91 = .ok (.aload_n 0, 1) := by decide +kernel
theorem dX8_checksum_92 : decode cX8_checksum 92 = .ok (.getfield 115, 3) := by decide +kernel
theorem dX8_checksum_95 : decode cX8_checksum 95 = .ok (.i2l, 1) := by decide +kernel
theorem dX8_checksum_96 : decode cX8_checksum 96 = .ok (.ladd, 1) := by decide +kernel
theorem dX8_checksum_97 : decode cX8_checksum 97 = .ok (.lmul, 1) := by decide +kernel
theorem dX8_checksum_98 : decode cX8_checksum 98 = .ok (.aload_n 0, 1) := by decide +kernel
theorem dX8_checksum_99 : decode cX8_checksum 99 = .ok (.getfield 118, 3) := by decide +kernel
theorem dX8_checksum_102 : decode cX8_checksum 102 = .ok (.i2l, 1) := by decide +kernel
theorem dX8_checksum_103 : decode cX8_checksum 103 = .ok (.ladd, 1) := by decide +kernel
theorem dX8_checksum_104 : decode cX8_checksum 104 = .ok (.lstore_n 1, 1) := by decide +kernel
theorem dX8_checksum_105 : decode cX8_checksum 105 = .ok (.iconst 0, 1) := by decide +kernel
theorem dX8_checksum_106 : decode cX8_checksum 106 = .ok (.istore_n 3, 1) := by decide +kernel
theorem dX8_checksum_107 : decode cX8_checksum 107 = .ok (.iload_n 3, 1) := by decide +kernel
theorem dX8_checksum_108 : decode cX8_checksum 108 = .ok (.aload_n 0, 1) := by decide +kernel
theorem dX8_checksum_109 : decode cX8_checksum 109 = .ok (.getfield 88, 3) := by decide +kernel
theorem dX8_checksum_112 : decode cX8_checksum 112 = .ok (.if_icmp .ge 23, 3) := by decide +kernel
theorem dX8_checksum_115 : decode cX8_checksum 115 = .ok (.ldc2_w 215, 3) := by decide +kernel
theorem dX8_checksum_118 : decode cX8_checksum 118 = .ok (.lload_n 1, 1) := by decide +kernel
theorem dX8_checksum_119 : decode cX8_checksum 119 = .ok (.lmul, 1) := by decide +kernel
theorem dX8_checksum_120 : decode cX8_checksum 120 = .ok (.aload_n 0, 1) := by decide +kernel
theorem dX8_checksum_121 : decode cX8_checksum 121 = .ok (.getfield 54, 3) := by decide +kernel
theorem dX8_checksum_124 : decode cX8_checksum 124 = .ok (.iload_n 3, 1) := by decide +kernel
theorem dX8_checksum_125 : decode cX8_checksum 125 = .ok (.iaload, 1) := by decide +kernel
theorem dX8_checksum_126 : decode cX8_checksum 126 = .ok (.i2l, 1) := by decide +kernel
theorem dX8_checksum_127 : decode cX8_checksum 127 = .ok (.ladd, 1) := by decide +kernel
theorem dX8_checksum_128 : decode cX8_checksum 128 = .ok (.lstore_n 1, 1) := by decide +kernel
theorem dX8_checksum_129 : decode cX8_checksum 129 = .ok (.iinc 3 1, 3) := by decide +kernel
theorem dX8_checksum_132 : decode cX8_checksum 132 = .ok (.goto (-25), 3) := by decide +kernel
theorem dX8_checksum_135 : decode cX8_checksum 135 = .ok (.lload_n 1, 1) := by decide +kernel
theorem dX8_checksum_136 : decode cX8_checksum 136 = .ok (.lreturn, 1) := by decide +kernel
theorem dX8_payers_0 : decode cX8_payers 0 = .ok (.iconst 0, 1) := by decide +kernel
theorem dX8_payers_1 : decode cX8_payers 1 = .ok (.istore_n 1, 1) := by decide +kernel
theorem dX8_payers_2 : decode cX8_payers 2 = .ok (.iconst 0, 1) := by decide +kernel
theorem dX8_payers_3 : decode cX8_payers 3 = .ok (.istore_n 2, 1) := by decide +kernel
theorem dX8_payers_4 : decode cX8_payers 4 = .ok (.iload_n 2, 1) := by decide +kernel
theorem dX8_payers_5 : decode cX8_payers 5 = .ok (.bipush 80, 2) := by decide +kernel
theorem dX8_payers_7 : decode cX8_payers 7 = .ok (.if_icmp .ge 28, 3) := by decide +kernel
theorem dX8_payers_10 : decode cX8_payers 10 = .ok (.iload_n 1, 1) := by decide +kernel
theorem dX8_payers_11 : decode cX8_payers 11 = .ok (.aload_n 0, 1) := by decide +kernel
theorem dX8_payers_12 : decode cX8_payers 12 = .ok (.getfield 7, 3) := by decide +kernel
theorem dX8_payers_15 : decode cX8_payers 15 = .ok (.iload_n 2, 1) := by decide +kernel
theorem dX8_payers_16 : decode cX8_payers 16 = .ok (.caload, 1) := by decide +kernel
theorem dX8_payers_17 : decode cX8_payers 17 = .ok (.bipush 112, 2) := by decide +kernel
theorem dX8_payers_19 : decode cX8_payers 19 = .ok (.if_icmp .ne 7, 3) := by decide +kernel
theorem dX8_payers_22 : decode cX8_payers 22 = .ok (.iconst 1, 1) := by decide +kernel
theorem dX8_payers_23 : decode cX8_payers 23 = .ok (.goto 4, 3) := by decide +kernel
theorem dX8_payers_26 : decode cX8_payers 26 = .ok (.iconst 0, 1) := by decide +kernel
theorem dX8_payers_27 : decode cX8_payers 27 = .ok (.iadd, 1) := by decide +kernel
theorem dX8_payers_28 : decode cX8_payers 28 = .ok (.istore_n 1, 1) := by decide +kernel
theorem dX8_payers_29 : decode cX8_payers 29 = .ok (.iinc 2 1, 3) := by decide +kernel
theorem dX8_payers_32 : decode cX8_payers 32 = .ok (.goto (-28), 3) := by decide +kernel
theorem dX8_payers_35 : decode cX8_payers 35 = .ok (.iload_n 1, 1) := by decide +kernel
theorem dX8_payers_36 : decode cX8_payers 36 = .ok (.ireturn, 1) := by decide +kernel
theorem dX8_joiningShare_0 : decode cX8_joiningShare 0 = .ok (.aload_n 0, 1) := by decide +kernel
theorem dX8_joiningShare_1 : decode cX8_joiningShare 1 = .ok (.aload_n 0, 1) := by decide +kernel
theorem dX8_joiningShare_2 : decode cX8_joiningShare 2 = .ok (.invokevirtual 217, 3) := by decide +kernel
theorem dX8_joiningShare_5 : decode cX8_joiningShare 5 = .ok (.ifCond .ne 7, 3) := by decide +kernel
theorem dX8_joiningShare_8 : decode cX8_joiningShare 8 = .ok (.iconst 1, 1) := by decide +kernel
theorem dX8_joiningShare_9 : decode cX8_joiningShare 9 = .ok (.goto 4, 3) := by decide +kernel
theorem dX8_joiningShare_12 : decode cX8_joiningShare 12 = .ok (.iconst 0, 1) := by decide +kernel
theorem dX8_joiningShare_13 : decode cX8_joiningShare 13 = .ok (.putfield 121, 3) := by decide +kernel
theorem dX8_joiningShare_16 : decode cX8_joiningShare 16 = .ok (.aload_n 0, 1) := by decide +kernel
theorem dX8_joiningShare_17 : decode cX8_joiningShare 17 = .ok (.getfield 121, 3) := by decide +kernel
theorem dX8_joiningShare_20 : decode cX8_joiningShare 20 = .ok (.ifCond .le 7, 3) := by decide +kernel
theorem dX8_joiningShare_23 : decode cX8_joiningShare 23 = .ok (.fconst 0, 1) := by decide +kernel
theorem dX8_joiningShare_24 : decode cX8_joiningShare 24 = .ok (.goto 14, 3) := by decide +kernel
theorem dX8_joiningShare_27 : decode cX8_joiningShare 27 = .ok (.aload_n 0, 1) := by decide +kernel
theorem dX8_joiningShare_28 : decode cX8_joiningShare 28 = .ok (.invokevirtual 201, 3) := by decide +kernel
theorem dX8_joiningShare_31 : decode cX8_joiningShare 31 = .ok (.i2f, 1) := by decide +kernel
theorem dX8_joiningShare_32 : decode cX8_joiningShare 32 = .ok (.aload_n 0, 1) := by decide +kernel
theorem dX8_joiningShare_33 : decode cX8_joiningShare 33 = .ok (.invokevirtual 217, 3) := by decide +kernel
theorem dX8_joiningShare_36 : decode cX8_joiningShare 36 = .ok (.i2f, 1) := by decide +kernel
theorem dX8_joiningShare_37 : decode cX8_joiningShare 37 = .ok (.fdiv, 1) := by decide +kernel
theorem dX8_joiningShare_38 : decode cX8_joiningShare 38 = .ok (.freturn, 1) := by decide +kernel
theorem dX8_meanNoise_0 : decode cX8_meanNoise 0 = .ok (.aload_n 0, 1) := by decide +kernel
theorem dX8_meanNoise_1 : decode cX8_meanNoise 1 = .ok (.aload_n 0, 1) := by decide +kernel
theorem dX8_meanNoise_2 : decode cX8_meanNoise 2 = .ok (.getfield 81, 3) := by decide +kernel
theorem dX8_meanNoise_5 : decode cX8_meanNoise 5 = .ok (.ifCond .ne 7, 3) := by decide +kernel
theorem dX8_meanNoise_8 : decode cX8_meanNoise 8 = .ok (.iconst 1, 1) := by decide +kernel
theorem dX8_meanNoise_9 : decode cX8_meanNoise 9 = .ok (.goto 4, 3) := by decide +kernel
theorem dX8_meanNoise_12 : decode cX8_meanNoise 12 = .ok (.iconst 0, 1) := by decide +kernel
theorem dX8_meanNoise_13 : decode cX8_meanNoise 13 = .ok (.putfield 121, 3) := by decide +kernel
theorem dX8_meanNoise_16 : decode cX8_meanNoise 16 = .ok (.aload_n 0, 1) := by decide +kernel
theorem dX8_meanNoise_17 : decode cX8_meanNoise 17 = .ok (.getfield 121, 3) := by decide +kernel
theorem dX8_meanNoise_20 : decode cX8_meanNoise 20 = .ok (.ifCond .le 7, 3) := by decide +kernel
theorem dX8_meanNoise_23 : decode cX8_meanNoise 23 = .ok (.dconst 0, 1) := by decide +kernel
theorem dX8_meanNoise_24 : decode cX8_meanNoise 24 = .ok (.goto 19, 3) := by decide +kernel
theorem dX8_meanNoise_27 : decode cX8_meanNoise 27 = .ok (.aload_n 0, 1) := by decide +kernel
theorem dX8_meanNoise_28 : decode cX8_meanNoise 28 = .ok (.invokevirtual 187, 3) := by decide +kernel
theorem dX8_meanNoise_31 : decode cX8_meanNoise 31 = .ok (.i2d, 1) := by decide +kernel
theorem dX8_meanNoise_32 : decode cX8_meanNoise 32 = .ok (.aload_n 0, 1) := by decide +kernel
theorem dX8_meanNoise_33 : decode cX8_meanNoise 33 = .ok (.getfield 81, 3) := by decide +kernel
theorem dX8_meanNoise_36 : decode cX8_meanNoise 36 = .ok (.aload_n 0, 1) := by decide +kernel
theorem dX8_meanNoise_37 : decode cX8_meanNoise 37 = .ok (.getfield 85, 3) := by decide +kernel
theorem dX8_meanNoise_40 : decode cX8_meanNoise 40 = .ok (.imul, 1) := by decide +kernel
theorem dX8_meanNoise_41 : decode cX8_meanNoise 41 = .ok (.i2d, 1) := by decide +kernel
theorem dX8_meanNoise_42 : decode cX8_meanNoise 42 = .ok (.ddiv, 1) := by decide +kernel
theorem dX8_meanNoise_43 : decode cX8_meanNoise 43 = .ok (.dreturn, 1) := by decide +kernel
theorem dX8_isSound_0 : decode cX8_isSound 0 = .ok (.aload_n 0, 1) := by decide +kernel
theorem dX8_isSound_1 : decode cX8_isSound 1 = .ok (.iconst 0, 1) := by decide +kernel
theorem dX8_isSound_2 : decode cX8_isSound 2 = .ok (.putfield 121, 3) := by decide +kernel
theorem dX8_isSound_5 : decode cX8_isSound 5 = .ok (.iconst 1, 1) := by decide +kernel
theorem dX8_isSound_6 : decode cX8_isSound 6 = .ok (.ireturn, 1) := by decide +kernel
