theorem dX8_init_0 : decode cX8_init 0 = .ok (.aload_n 0, 1) := by decide +kernel
theorem dX8_init_1 : decode cX8_init 1 = .ok (.invokespecial 1, 3) := by decide +kernel
theorem dX8_init_4 : decode cX8_init 4 = .ok (.aload_n 0, 1) := by decide +kernel
theorem dX8_init_5 : decode cX8_init 5 = .ok (.iconst 4, 1) := by decide +kernel
theorem dX8_init_6 : decode cX8_init 6 = .ok (.newarray .int, 2) := by decide +kernel
theorem dX8_init_8 : decode cX8_init 8 = .ok (.putfield 7, 3) := by decide +kernel
theorem dX8_init_11 : decode cX8_init 11 = .ok (.aload_n 0, 1) := by decide +kernel
theorem dX8_init_12 : decode cX8_init 12 = .ok (.iconst 4, 1) := by decide +kernel
theorem dX8_init_13 : decode cX8_init 13 = .ok (.newarray .int, 2) := by decide +kernel
theorem dX8_init_15 : decode cX8_init 15 = .ok (.putfield 13, 3) := by decide +kernel
theorem dX8_init_18 : decode cX8_init 18 = .ok (.aload_n 0, 1) := by decide +kernel
theorem dX8_init_19 : decode cX8_init 19 = .ok (.iconst 4, 1) := by decide +kernel
theorem dX8_init_20 : decode cX8_init 20 = .ok (.newarray .int, 2) := by decide +kernel
theorem dX8_init_22 : decode cX8_init 22 = .ok (.putfield 16, 3) := by decide +kernel
theorem dX8_init_25 : decode cX8_init 25 = .ok (.aload_n 0, 1) := by decide +kernel
theorem dX8_init_26 : decode cX8_init 26 = .ok (.bipush 6, 2) := by decide +kernel
theorem dX8_init_28 : decode cX8_init 28 = .ok (.newarray .int, 2) := by decide +kernel
theorem dX8_init_30 : decode cX8_init 30 = .ok (.putfield 19, 3) := by decide +kernel
theorem dX8_init_33 : decode cX8_init 33 = .ok (.aload_n 0, 1) := by decide +kernel
theorem dX8_init_34 : decode cX8_init 34 = .ok (.iconst 1, 1) := by decide +kernel
theorem dX8_init_35 : decode cX8_init 35 = .ok (.putfield 22, 3) := by decide +kernel
theorem dX8_init_38 : decode cX8_init 38 = .ok (.aload_n 0, 1) := by decide +kernel
theorem dX8_init_39 : decode cX8_init 39 = .ok (.bipush 8, 2) := by decide +kernel
theorem dX8_init_41 : decode cX8_init 41 = .ok (.newarray .int, 2) := by decide +kernel
theorem dX8_init_43 : decode cX8_init 43 = .ok (.putfield 26, 3) := by decide +kernel
theorem dX8_init_46 : decode cX8_init 46 = .ok (.aload_n 0, 1) := by decide +kernel
theorem dX8_init_47 : decode cX8_init 47 = .ok (.bipush 8, 2) := by decide +kernel
theorem dX8_init_49 : decode cX8_init 49 = .ok (.newarray .int, 2) := by decide +kernel
theorem dX8_init_51 : decode cX8_init 51 = .ok (.putfield 29, 3) := by decide +kernel
theorem dX8_init_54 : decode cX8_init 54 = .ok (.aload_n 0, 1) := by decide +kernel
theorem dX8_init_55 : decode cX8_init 55 = .ok (.bipush 8, 2) := by decide +kernel
theorem dX8_init_57 : decode cX8_init 57 = .ok (.newarray .int, 2) := by decide +kernel
theorem dX8_init_59 : decode cX8_init 59 = .ok (.putfield 32, 3) := by decide +kernel
theorem dX8_init_62 : decode cX8_init 62 = .ok (.aload_n 0, 1) := by decide +kernel
theorem dX8_init_63 : decode cX8_init 63 = .ok (.bipush 8, 2) := by decide +kernel
theorem dX8_init_65 : decode cX8_init 65 = .ok (.newarray .int, 2) := by decide +kernel
theorem dX8_init_67 : decode cX8_init 67 = .ok (.putfield 35, 3) := by decide +kernel
theorem dX8_init_70 : decode cX8_init 70 = .ok (.aload_n 0, 1) := by decide +kernel
theorem dX8_init_71 : decode cX8_init 71 = .ok (.bipush 8, 2) := by decide +kernel
theorem dX8_init_73 : decode cX8_init 73 = .ok (.newarray .boolean, 2) := by decide +kernel
theorem dX8_init_75 : decode cX8_init 75 = .ok (.putfield 38, 3) := by decide +kernel
theorem dX8_init_78 : decode cX8_init 78 = .ok (.aload_n 0, 1) := by decide +kernel
theorem dX8_init_79 : decode cX8_init 79 = .ok (.bipush 12, 2) := by decide +kernel
theorem dX8_init_81 : decode cX8_init 81 = .ok (.newarray .int, 2) := by decide +kernel
theorem dX8_init_83 : decode cX8_init 83 = .ok (.putfield 42, 3) := by decide +kernel
theorem dX8_init_86 : decode cX8_init 86 = .ok (.aload_n 0, 1) := by decide +kernel
theorem dX8_init_87 : decode cX8_init 87 = .ok (.bipush 12, 2) := by decide +kernel
theorem dX8_init_89 : decode cX8_init 89 = .ok (.newarray .int, 2) := by decide +kernel
theorem dX8_init_91 : decode cX8_init 91 = .ok (.putfield 45, 3) := by decide +kernel
theorem dX8_init_94 : decode cX8_init 94 = .ok (.aload_n 0, 1) := by decide +kernel
theorem dX8_init_95 : decode cX8_init 95 = .ok (.bipush 12, 2) := by decide +kernel
theorem dX8_init_97 : decode cX8_init 97 = .ok (.newarray .int, 2) := by decide +kernel
theorem dX8_init_99 : decode cX8_init 99 = .ok (.putfield 48, 3) := by decide +kernel
theorem dX8_init_102 : decode cX8_init 102 = .ok (.aload_n 0, 1) := by decide +kernel
theorem dX8_init_103 : decode cX8_init 103 = .ok (.bipush 12, 2) := by decide +kernel
theorem dX8_init_105 : decode cX8_init 105 = .ok (.newarray .int, 2) := by decide +kernel
theorem dX8_init_107 : decode cX8_init 107 = .ok (.putfield 51, 3) := by decide +kernel
theorem dX8_init_110 : decode cX8_init 110 = .ok (.aload_n 0, 1) := by decide +kernel
theorem dX8_init_111 : decode cX8_init 111 = .ok (.bipush 12, 2) := by decide +kernel
theorem dX8_init_113 : decode cX8_init 113 = .ok (.newarray .int, 2) := by decide +kernel
theorem dX8_init_115 : decode cX8_init 115 = .ok (.putfield 54, 3) := by decide +kernel
theorem dX8_init_118 : decode cX8_init 118 = .ok (.aload_n 0, 1) := by decide +kernel
theorem dX8_init_119 : decode cX8_init 119 = .ok (.iconst 1, 1) := by decide +kernel
theorem dX8_init_120 : decode cX8_init 120 = .ok (.putfield 57, 3) := by decide +kernel
theorem dX8_init_123 : decode cX8_init 123 = .ok (.aload_n 0, 1) := by decide +kernel
theorem dX8_init_124 : decode cX8_init 124 = .ok (.iconst 4, 1) := by decide +kernel
theorem dX8_init_125 : decode cX8_init 125 = .ok (.newarray .int, 2) := by decide +kernel
theorem dX8_init_127 : decode cX8_init 127 = .ok (.putfield 60, 3) := by decide +kernel
theorem dX8_init_130 : decode cX8_init 130 = .ok (.aload_n 0, 1) := by decide +kernel
theorem dX8_init_131 : decode cX8_init 131 = .ok (.iconst 4, 1) := by decide +kernel
theorem dX8_init_132 : decode cX8_init 132 = .ok (.newarray .int, 2) := by decide +kernel
theorem dX8_init_134 : decode cX8_init 134 = .ok (.putfield 63, 3) := by decide +kernel
theorem dX8_init_137 : decode cX8_init 137 = .ok (.aload_n 0, 1) := by decide +kernel
theorem dX8_init_138 : decode cX8_init 138 = .ok (.bipush 24, 2) := by decide +kernel
theorem dX8_init_140 : decode cX8_init 140 = .ok (.newarray .int, 2) := by decide +kernel
theorem dX8_init_142 : decode cX8_init 142 = .ok (.putfield 66, 3) := by decide +kernel
theorem dX8_init_145 : decode cX8_init 145 = .ok (.aload_n 0, 1) := by decide +kernel
theorem dX8_init_146 : decode cX8_init 146 = .ok (.ldc 69, 2) := by decide +kernel
theorem dX8_init_148 : decode cX8_init 148 = .ok (.putfield 70, 3) := by decide +kernel
theorem dX8_init_151 : decode cX8_init 151 = .ok (.aload_n 0, 1) := by decide +kernel
theorem dX8_init_152 : decode cX8_init 152 = .ok (.ldc 73, 2) := by decide +kernel
theorem dX8_init_154 : decode cX8_init 154 = .ok (.putfield 74, 3) := by decide +kernel
theorem dX8_init_157 : decode cX8_init 157 = .ok (.aload_n 0, 1) := by decide +kernel
theorem dX8_init_158 : decode cX8_init 158 = .ok (.sipush 401, 3) := by decide +kernel
theorem dX8_init_161 : decode cX8_init 161 = .ok (.newarray .long, 2) := by decide +kernel
theorem dX8_init_163 : decode cX8_init 163 = .ok (.putfield 77, 3) := by decide +kernel
theorem dX8_init_166 : decode cX8_init 166 = .ok (.aload_n 0, 1) := by decide +kernel
theorem dX8_init_167 : decode cX8_init 167 = .ok (.sipush 401, 3) := by decide +kernel
theorem dX8_init_170 : decode cX8_init 170 = .ok (.newarray .long, 2) := by decide +kernel
theorem dX8_init_172 : decode cX8_init 172 = .ok (.putfield 81, 3) := by decide +kernel
theorem dX8_init_175 : decode cX8_init 175 = .ok (.aload_n 0, 1) := by decide +kernel
theorem dX8_init_176 : decode cX8_init 176 = .ok (.getfield 7, 3) := by decide +kernel
theorem dX8_init_179 : decode cX8_init 179 = .ok (.iconst 0, 1) := by decide +kernel
theorem dX8_init_180 : decode cX8_init 180 = .ok (.bipush 100, 2) := by decide +kernel
theorem dX8_init_182 : decode cX8_init 182 = .ok (.iastore, 1) := by decide +kernel
theorem dX8_init_183 : decode cX8_init 183 = .ok (.aload_n 0, 1) := by decide +kernel
theorem dX8_init_184 : decode cX8_init 184 = .ok (.getfield 7, 3) := by decide +kernel
theorem dX8_init_187 : decode cX8_init 187 = .ok (.iconst 1, 1) := by decide +kernel
theorem dX8_init_188 : decode cX8_init 188 = .ok (.bipush 40, 2) := by decide +kernel
theorem dX8_init_190 : decode cX8_init 190 = .ok (.iastore, 1) := by decide +kernel
theorem dX8_init_191 : decode cX8_init 191 = .ok (.aload_n 0, 1) := by decide +kernel
theorem dX8_init_192 : decode cX8_init 192 = .ok (.getfield 7, 3) := by decide +kernel
theorem dX8_init_195 : decode cX8_init 195 = .ok (.iconst 2, 1) := by decide +kernel
theorem dX8_init_196 : decode cX8_init 196 = .ok (.bipush 10, 2) := by decide +kernel
theorem dX8_init_198 : decode cX8_init 198 = .ok (.iastore, 1) := by decide +kernel
theorem dX8_init_199 : decode cX8_init 199 = .ok (.aload_n 0, 1) := by decide +kernel
theorem dX8_init_200 : decode cX8_init 200 = .ok (.getfield 7, 3) := by decide +kernel
theorem dX8_init_203 : decode cX8_init 203 = .ok (.iconst 3, 1) := by decide +kernel
theorem dX8_init_204 : decode cX8_init 204 = .ok (.iconst 1, 1) := by decide +kernel
theorem dX8_init_205 : decode cX8_init 205 = .ok (.iastore, 1) := by decide +kernel
theorem dX8_init_206 : decode cX8_init 206 = .ok (.aload_n 0, 1) := by decide +kernel
theorem dX8_init_207 : decode cX8_init 207 = .ok (.getfield 13, 3) := by decide +kernel
theorem dX8_init_210 : decode cX8_init 210 = .ok (.iconst 1, 1) := by decide +kernel
theorem dX8_init_211 : decode cX8_init 211 = .ok (.bipush 20, 2) := by decide +kernel
theorem dX8_init_213 : decode cX8_init 213 = .ok (.iastore, 1) := by decide +kernel
theorem dX8_init_214 : decode cX8_init 214 = .ok (.aload_n 0, 1) := by decide +kernel
theorem dX8_init_215 : decode cX8_init 215 = .ok (.getfield 13, 3) := by decide +kernel
theorem dX8_init_218 : decode cX8_init 218 = .ok (.iconst 2, 1) := by decide +kernel
theorem dX8_init_219 : decode cX8_init 219 = .ok (.sipush 150, 3) := by decide +kernel
theorem dX8_init_222 : decode cX8_init 222 = .ok (.iastore, 1) := by decide +kernel
theorem dX8_init_223 : decode cX8_init 223 = .ok (.aload_n 0, 1) := by decide +kernel
theorem dX8_init_224 : decode cX8_init 224 = .ok (.getfield 13, 3) := by decide +kernel
theorem dX8_init_227 : decode cX8_init 227 = .ok (.iconst 3, 1) := by decide +kernel
theorem dX8_init_228 : decode cX8_init 228 = .ok (.sipush 600, 3) := by decide +kernel
theorem dX8_init_231 : decode cX8_init 231 = .ok (.iastore, 1) := by decide +kernel
theorem dX8_init_232 : decode cX8_init 232 = .ok (.aload_n 0, 1) := by decide +kernel
theorem dX8_init_233 : decode cX8_init 233 = .ok (.getfield 16, 3) := by decide +kernel
theorem dX8_init_236 : decode cX8_init 236 = .ok (.iconst 1, 1) := by decide +kernel
theorem dX8_init_237 : decode cX8_init 237 = .ok (.iconst 1, 1) := by decide +kernel
theorem dX8_init_238 : decode cX8_init 238 = .ok (.iastore, 1) := by decide +kernel
theorem dX8_init_239 : decode cX8_init 239 = .ok (.aload_n 0, 1) := by decide +kernel
theorem dX8_init_240 : decode cX8_init 240 = .ok (.getfield 16, 3) := by decide +kernel
theorem dX8_init_243 : decode cX8_init 243 = .ok (.iconst 2, 1) := by decide +kernel
theorem dX8_init_244 : decode cX8_init 244 = .ok (.iconst 3, 1) := by decide +kernel
theorem dX8_init_245 : decode cX8_init 245 = .ok (.iastore, 1) := by decide +kernel
theorem dX8_init_246 : decode cX8_init 246 = .ok (.aload_n 0, 1) := by decide +kernel
theorem dX8_init_247 : decode cX8_init 247 = .ok (.getfield 16, 3) := by decide +kernel
theorem dX8_init_250 : decode cX8_init 250 = .ok (.iconst 3, 1) := by decide +kernel
theorem dX8_init_251 : decode cX8_init 251 = .ok (.bipush 8, 2) := by decide +kernel
theorem dX8_init_253 : decode cX8_init 253 = .ok (.iastore, 1) := by decide +kernel
theorem dX8_init_254 : decode cX8_init 254 = .ok (.iconst 0, 1) := by decide +kernel
theorem dX8_init_255 : decode cX8_init 255 = .ok (.istore_n 1, 1) := by decide +kernel
theorem dX8_init_256 : decode cX8_init 256 = .ok (.iload_n 1, 1) := by decide +kernel
theorem dX8_init_257 : decode cX8_init 257 = .ok (.bipush 6, 2) := by decide +kernel
theorem dX8_init_259 : decode cX8_init 259 = .ok (.if_icmp .ge 16, 3) := by decide +kernel
theorem dX8_init_262 : decode cX8_init 262 = .ok (.aload_n 0, 1) := by decide +kernel
theorem dX8_init_263 : decode cX8_init 263 = .ok (.getfield 19, 3) := by decide +kernel
theorem dX8_init_266 : decode cX8_init 266 = .ok (.iload_n 1, 1) := by decide +kernel
theorem dX8_init_267 : decode cX8_init 267 = .ok (.iconst 3, 1) := by decide +kernel
theorem dX8_init_268 : decode cX8_init 268 = .ok (.iastore, 1) := by decide +kernel
theorem dX8_init_269 : decode cX8_init 269 = .ok (.iinc 1 1, 3) := by decide +kernel
theorem dX8_init_272 : decode cX8_init 272 = .ok (.goto (-16), 3) := by decide +kernel
theorem dX8_init_275 : decode cX8_init 275 = .ok (.return_, 1) := by decide +kernel
theorem dX8_thrown_0 : decode cX8_thrown 0 = .ok (.aload_n 0, 1) := by decide +kernel
theorem dX8_thrown_1 : decode cX8_thrown 1 = .ok (.getfield 84, 3) := by decide +kernel
theorem dX8_thrown_4 : decode cX8_thrown 4 = .ok (.ireturn, 1) := by decide +kernel
theorem dX8_fails_0 : decode cX8_fails 0 = .ok (.aload_n 0, 1) := by decide +kernel
theorem dX8_fails_1 : decode cX8_fails 1 = .ok (.iload_n 1, 1) := by decide +kernel
theorem dX8_fails_2 : decode cX8_fails 2 = .ok (.putfield 84, 3) := by decide +kernel
theorem dX8_fails_5 : decode cX8_fails 5 = .ok (.iconst 0, 1) := by decide +kernel
theorem dX8_fails_6 : decode cX8_fails 6 = .ok (.ireturn, 1) := by decide +kernel
theorem dX8_asks_0 : decode cX8_asks 0 = .ok (.aload_n 0, 1) := by decide +kernel
theorem dX8_asks_1 : decode cX8_asks 1 = .ok (.iload_n 1, 1) := by decide +kernel
theorem dX8_asks_2 : decode cX8_asks 2 = .ok (.ifCond .eq 7, 3) := by decide +kernel
theorem dX8_asks_5 : decode cX8_asks 5 = .ok (.iconst 0, 1) := by decide +kernel
theorem dX8_asks_6 : decode cX8_asks 6 = .ok (.goto 4, 3) := by decide +kernel
theorem dX8_asks_9 : decode cX8_asks 9 = .ok (.iconst 1, 1) := by decide +kernel
theorem dX8_asks_10 : decode cX8_asks 10 = .ok (.putfield 84, 3) := by decide +kernel
theorem dX8_asks_13 : decode cX8_asks 13 = .ok (.iload_n 1, 1) := by decide +kernel
theorem dX8_asks_14 : decode cX8_asks 14 = .ok (.ireturn, 1) := by decide +kernel
theorem dX8_in_0 : decode cX8_in 0 = .ok (.iload_n 0, 1) := by decide +kernel
theorem dX8_in_1 : decode cX8_in 1 = .ok (.iload_n 1, 1) := by decide +kernel
theorem dX8_in_2 : decode cX8_in 2 = .ok (.if_icmp .lt 12, 3) := by decide +kernel
theorem dX8_in_5 : decode cX8_in 5 = .ok (.iload_n 0, 1) := by decide +kernel
theorem dX8_in_6 : decode cX8_in 6 = .ok (.iload_n 2, 1) := by decide +kernel
theorem dX8_in_7 : decode cX8_in 7 = .ok (.if_icmp .gt 7, 3) := by decide +kernel
theorem dX8_in_10 : decode cX8_in 10 = .ok (.iconst 1, 1) := by decide +kernel
theorem dX8_in_11 : decode cX8_in 11 = .ok (.goto 4, 3) := by decide +kernel
theorem dX8_in_14 : decode cX8_in 14 = .ok (.iconst 0, 1) := by decide +kernel
theorem dX8_in_15 : decode cX8_in 15 = .ok (.ireturn, 1) := by decide +kernel
theorem dX8_spends_0 : decode cX8_spends 0 = .ok (.aload_n 0, 1) := by decide +kernel
theorem dX8_spends_1 : decode cX8_spends 1 = .ok (.dup, 1) := by decide +kernel
theorem dX8_spends_2 : decode cX8_spends 2 = .ok (.getfield 87, 3) := by decide +kernel
theorem dX8_spends_5 : decode cX8_spends 5 = .ok (.lload_n 1, 1) := by decide +kernel
theorem dX8_spends_6 : decode cX8_spends 6 = .ok (.ladd, 1) := by decide +kernel
theorem dX8_spends_7 : decode cX8_spends 7 = .ok (.putfield 87, 3) := by decide +kernel
theorem dX8_spends_10 : decode cX8_spends 10 = .ok (.aload_n 0, 1) := by decide +kernel
theorem dX8_spends_11 : decode cX8_spends 11 = .ok (.dup, 1) := by decide +kernel
theorem dX8_spends_12 : decode cX8_spends 12 = .ok (.getfield 91, 3) := by decide +kernel
theorem dX8_spends_15 : decode cX8_spends 15 = .ok (.lload_n 1, 1) := by decide +kernel
theorem dX8_spends_16 : decode cX8_spends 16 = .ok (.ladd, 1) := by decide +kernel
theorem dX8_spends_17 : decode cX8_spends 17 = .ok (.putfield 91, 3) := by decide +kernel
theorem dX8_spends_20 : decode cX8_spends 20 = .ok (.return_, 1) := by decide +kernel
theorem dX8_wakes_0 : decode cX8_wakes 0 = .ok (.aload_n 0, 1) := by decide +kernel
theorem dX8_wakes_1 : decode cX8_wakes 1 = .ok (.getfield 60, 3) := by decide +kernel
theorem dX8_wakes_4 : decode cX8_wakes 4 = .ok (.aload_n 0, 1) := by decide +kernel
theorem dX8_wakes_5 : decode cX8_wakes 5 = .ok (.getfield 94, 3) := by decide +kernel
theorem dX8_wakes_8 : decode cX8_wakes 8 = .ok (.iconst 4, 1) := by decide +kernel
theorem dX8_wakes_9 : decode cX8_wakes 9 = .ok (.irem, 1) := by decide +kernel
theorem dX8_wakes_10 : decode cX8_wakes 10 = .ok (.aload_n 0, 1) := by decide +kernel
theorem dX8_wakes_11 : decode cX8_wakes 11 = .ok (.getfield 97, 3) := by decide +kernel
theorem dX8_wakes_14 : decode cX8_wakes 14 = .ok (.aload_n 0, 1) := by decide +kernel
theorem dX8_wakes_15 : decode cX8_wakes 15 = .ok (.getfield 100, 3) := by decide +kernel
theorem dX8_wakes_18 : decode cX8_wakes 18 = .ok (.isub, 1) := by decide +kernel
theorem dX8_wakes_19 : decode cX8_wakes 19 = .ok (.iastore, 1) := by decide +kernel
theorem dX8_wakes_20 : decode cX8_wakes 20 = .ok (.aload_n 0, 1) := by decide +kernel
theorem dX8_wakes_21 : decode cX8_wakes 21 = .ok (.dup, 1) := by decide +kernel
theorem dX8_wakes_22 : decode cX8_wakes 22 = .ok (.getfield 94, 3) := by decide +kernel
theorem dX8_wakes_25 : decode cX8_wakes 25 = .ok (.iconst 1, 1) := by decide +kernel
theorem dX8_wakes_26 : decode cX8_wakes 26 = .ok (.iadd, 1) := by decide +kernel
theorem dX8_wakes_27 : decode cX8_wakes 27 = .ok (.putfield 94, 3) := by decide +kernel
theorem dX8_wakes_30 : decode cX8_wakes 30 = .ok (.aload_n 0, 1) := by decide +kernel
theorem dX8_wakes_31 : decode cX8_wakes 31 = .ok (.iconst 0, 1) := by decide +kernel
theorem dX8_wakes_32 : decode cX8_wakes 32 = .ok (.putfield 103, 3) := by decide +kernel
theorem dX8_wakes_35 : decode cX8_wakes 35 = .ok (.return_, 1) := by decide +kernel
theorem dX8_stirs_0 : decode cX8_stirs 0 = .ok (.aload_n 0, 1) := by decide +kernel
theorem dX8_stirs_1 : decode cX8_stirs 1 = .ok (.getfield 103, 3) := by decide +kernel
theorem dX8_stirs_4 : decode cX8_stirs 4 = .ok (.ifCond .le 28, 3) := by decide +kernel
theorem dX8_stirs_7 : decode cX8_stirs 7 = .ok (.aload_n 0, 1) := by decide +kernel
theorem dX8_stirs_8 : decode cX8_stirs 8 = .ok (.aload_n 0, 1) := by decide +kernel
theorem dX8_stirs_9 : decode cX8_stirs 9 = .ok (.getfield 7, 3) := by decide +kernel
theorem dX8_stirs_12 : decode cX8_stirs 12 = .ok (.iconst 0, 1) := by decide +kernel
theorem dX8_stirs_13 : decode cX8_stirs 13 = .ok (.iaload, 1) := by decide +kernel
theorem dX8_stirs_14 : decode cX8_stirs 14 = .ok (.aload_n 0, 1) := by decide +kernel
theorem dX8_stirs_15 : decode cX8_stirs 15 = .ok (.getfield 16, 3) := by decide +kernel
theorem dX8_stirs_18 : decode cX8_stirs 18 = .ok (.aload_n 0, 1) := by decide +kernel
theorem dX8_stirs_19 : decode cX8_stirs 19 = .ok (.getfield 103, 3) := by decide +kernel
theorem dX8_stirs_22 : decode cX8_stirs 22 = .ok (.iaload, 1) := by decide +kernel
theorem dX8_stirs_23 : decode cX8_stirs 23 = .ok (.imul, 1) := by decide +kernel
theorem dX8_stirs_24 : decode cX8_stirs 24 = .ok (.i2l, 1) := by decide +kernel
theorem dX8_stirs_25 : decode cX8_stirs 25 = .ok (.invokevirtual 106, 3) := by decide +kernel
theorem dX8_stirs_28 : decode cX8_stirs 28 = .ok (.aload_n 0, 1) := by decide +kernel
theorem dX8_stirs_29 : decode cX8_stirs 29 = .ok (.invokevirtual 110, 3) := by decide +kernel
theorem dX8_stirs_32 : decode cX8_stirs 32 = .ok (.return_, 1) := by decide +kernel
theorem dX8_setState_0 : decode cX8_setState 0 = .ok (.aload_n 0, 1) := by decide +kernel
theorem dX8_setState_1 : decode cX8_setState 1 = .ok (.iload_n 1, 1) := by decide +kernel
theorem dX8_setState_2 : decode cX8_setState 2 = .ok (.iconst 1, 1) := by decide +kernel
theorem dX8_setState_3 : decode cX8_setState 3 = .ok (.iconst 3, 1) := by decide +kernel
theorem dX8_setState_4 : decode cX8_setState 4 = .ok (.invokestatic 113, 3) := by decide +kernel
theorem dX8_setState_7 : decode cX8_setState 7 = .ok (.ifCond .eq 40, 3) := by decide +kernel
theorem dX8_setState_10 : decode cX8_setState 10 = .ok (.iload_n 2, 1) := by decide +kernel
theorem dX8_setState_11 : decode cX8_setState 11 = .ok (.iconst 0, 1) := by decide +kernel
theorem dX8_setState_12 : decode cX8_setState 12 = .ok (.sipush 1000, 3) := by decide +kernel
theorem dX8_setState_15 : decode cX8_setState 15 = .ok (.invokestatic 113, 3) := by decide +kernel
theorem dX8_setState_18 : decode cX8_setState 18 = .ok (.ifCond .eq 29, 3) := by decide +kernel
theorem dX8_setState_21 : decode cX8_setState 21 = .ok (.iload_n 3, 1) := by decide +kernel
theorem dX8_setState_22 : decode cX8_setState 22 = .ok (.iconst 0, 1) := by decide +kernel
theorem dX8_setState_23 : decode cX8_setState 23 = .ok (.sipush 10000, 3) := by decide +kernel
theorem dX8_setState_26 : decode cX8_setState 26 = .ok (.invokestatic 113, 3) := by decide +kernel
theorem dX8_setState_29 : decode cX8_setState 29 = .ok (.ifCond .eq 18, 3) := by decide +kernel
theorem dX8_setState_32 : decode cX8_setState 32 = .ok (.iload 4, 2) := by decide +kernel
theorem dX8_setState_34 : decode cX8_setState 34 = .ok (.iconst 0, 1) := by decide +kernel
theorem dX8_setState_35 : decode cX8_setState 35 = .ok (.bipush 100, 2) := by decide +kernel
theorem dX8_setState_37 : decode cX8_setState 37 = .ok (.invokestatic 113, 3) := by decide +kernel
theorem dX8_setState_40 : decode cX8_setState 40 = .ok (.ifCond .eq 7, 3) := by decide +kernel
theorem dX8_setState_43 : decode cX8_setState 43 = .ok (.iconst 1, 1) := by decide +kernel
theorem dX8_setState_44 : decode cX8_setState 44 = .ok (.goto 4, 3) := by decide +kernel
theorem dX8_setState_47 : decode cX8_setState 47 = .ok (.iconst 0, 1) := by decide +kernel
theorem dX8_setState_48 : decode cX8_setState 48 = .ok (.invokevirtual 117, 3) := by decide +kernel
theorem dX8_setState_51 : decode cX8_setState 51 = .ok (.ifCond .ne 4, 3) := by decide +kernel
theorem dX8_setState_54 : decode cX8_setState 54 = .ok (.return_, 1) := by decide +kernel
theorem dX8_setState_55 : decode cX8_setState 55 = .ok (.aload_n 0, 1) := by decide +kernel
theorem dX8_setState_56 : decode cX8_setState 56 = .ok (.invokevirtual 121, 3) := by decide +kernel
theorem dX8_setState_59 : decode cX8_setState 59 = .ok (.aload_n 0, 1) := by decide +kernel
theorem dX8_setState_60 : decode cX8_setState 60 = .ok (.getfield 7, 3) := by decide +kernel
theorem dX8_setState_63 : decode cX8_setState 63 = .ok (.iload_n 1, 1) := by decide +kernel
theorem dX8_setState_64 : decode cX8_setState 64 = .ok (.iload_n 2, 1) := by decide +kernel
theorem dX8_setState_65 : decode cX8_setState 65 = .ok (.iastore, 1) := by decide +kernel
theorem dX8_setState_66 : decode cX8_setState 66 = .ok (.aload_n 0, 1) := by decide +kernel
theorem dX8_setState_67 : decode cX8_setState 67 = .ok (.getfield 13, 3) := by decide +kernel
theorem dX8_setState_70 : decode cX8_setState 70 = .ok (.iload_n 1, 1) := by decide +kernel
theorem dX8_setState_71 : decode cX8_setState 71 = .ok (.iload_n 3, 1) := by decide +kernel
theorem dX8_setState_72 : decode cX8_setState 72 = .ok (.iastore, 1) := by decide +kernel
theorem dX8_setState_73 : decode cX8_setState 73 = .ok (.aload_n 0, 1) := by decide +kernel
theorem dX8_setState_74 : decode cX8_setState 74 = .ok (.getfield 16, 3) := by decide +kernel
theorem dX8_setState_77 : decode cX8_setState 77 = .ok (.iload_n 1, 1) := by decide +kernel
theorem dX8_setState_78 : decode cX8_setState 78 = .ok (.iload 4, 2) := by decide +kernel
theorem dX8_setState_80 : decode cX8_setState 80 = .ok (.iastore, 1) := by decide +kernel
theorem dX8_setState_81 : decode cX8_setState 81 = .ok (.return_, 1) := by decide +kernel
theorem dX8_setAwake_0 : decode cX8_setAwake 0 = .ok (.aload_n 0, 1) := by decide +kernel
theorem dX8_setAwake_1 : decode cX8_setAwake 1 = .ok (.iload_n 1, 1) := by decide +kernel
theorem dX8_setAwake_2 : decode cX8_setAwake 2 = .ok (.iconst 0, 1) := by decide +kernel
theorem dX8_setAwake_3 : decode cX8_setAwake 3 = .ok (.sipush 1000, 3) := by decide +kernel
theorem dX8_setAwake_6 : decode cX8_setAwake 6 = .ok (.invokestatic 113, 3) := by decide +kernel
theorem dX8_setAwake_9 : decode cX8_setAwake 9 = .ok (.invokevirtual 117, 3) := by decide +kernel
theorem dX8_setAwake_12 : decode cX8_setAwake 12 = .ok (.ifCond .ne 5, 3) := by decide +kernel
theorem dX8_setAwake_15 : decode cX8_setAwake 15 = .ok (.iconst 0, 1) := by decide +kernel
theorem dX8_setAwake_16 : decode cX8_setAwake 16 = .ok (.ireturn, 1) := by decide +kernel
theorem dX8_setAwake_17 : decode cX8_setAwake 17 = .ok (.aload_n 0, 1) := by decide +kernel
theorem dX8_setAwake_18 : decode cX8_setAwake 18 = .ok (.invokevirtual 121, 3) := by decide +kernel
theorem dX8_setAwake_21 : decode cX8_setAwake 21 = .ok (.aload_n 0, 1) := by decide +kernel
theorem dX8_setAwake_22 : decode cX8_setAwake 22 = .ok (.getfield 7, 3) := by decide +kernel
theorem dX8_setAwake_25 : decode cX8_setAwake 25 = .ok (.iconst 0, 1) := by decide +kernel
theorem dX8_setAwake_26 : decode cX8_setAwake 26 = .ok (.iaload, 1) := by decide +kernel
theorem dX8_setAwake_27 : decode cX8_setAwake 27 = .ok (.istore_n 2, 1) := by decide +kernel
theorem dX8_setAwake_28 : decode cX8_setAwake 28 = .ok (.aload_n 0, 1) := by decide +kernel
theorem dX8_setAwake_29 : decode cX8_setAwake 29 = .ok (.getfield 7, 3) := by decide +kernel
theorem dX8_setAwake_32 : decode cX8_setAwake 32 = .ok (.iconst 0, 1) := by decide +kernel
theorem dX8_setAwake_33 : decode cX8_setAwake 33 = .ok (.iload_n 1, 1) := by decide +kernel
theorem dX8_setAwake_34 : decode cX8_setAwake 34 = .ok (.iastore, 1) := by decide +kernel
theorem dX8_setAwake_35 : decode cX8_setAwake 35 = .ok (.iload_n 2, 1) := by decide +kernel
theorem dX8_setAwake_36 : decode cX8_setAwake 36 = .ok (.ireturn, 1) := by decide +kernel
theorem dX8_vote_0 : decode cX8_vote 0 = .ok (.aload_n 0, 1) := by decide +kernel
theorem dX8_vote_1 : decode cX8_vote 1 = .ok (.iload_n 1, 1) := by decide +kernel
theorem dX8_vote_2 : decode cX8_vote 2 = .ok (.iconst 0, 1) := by decide +kernel
theorem dX8_vote_3 : decode cX8_vote 3 = .ok (.iconst 5, 1) := by decide +kernel
theorem dX8_vote_4 : decode cX8_vote 4 = .ok (.invokestatic 113, 3) := by decide +kernel
theorem dX8_vote_7 : decode cX8_vote 7 = .ok (.ifCond .eq 16, 3) := by decide +kernel
theorem dX8_vote_10 : decode cX8_vote 10 = .ok (.iload_n 2, 1) := by decide +kernel
theorem dX8_vote_11 : decode cX8_vote 11 = .ok (.iconst 0, 1) := by decide +kernel
theorem dX8_vote_12 : decode cX8_vote 12 = .ok (.iconst 3, 1) := by decide +kernel
theorem dX8_vote_13 : decode cX8_vote 13 = .ok (.invokestatic 113, 3) := by decide +kernel
theorem dX8_vote_16 : decode cX8_vote 16 = .ok (.ifCond .eq 7, 3) := by decide +kernel
theorem dX8_vote_19 : decode cX8_vote 19 = .ok (.iconst 1, 1) := by decide +kernel
theorem dX8_vote_20 : decode cX8_vote 20 = .ok (.goto 4, 3) := by decide +kernel
theorem dX8_vote_23 : decode cX8_vote 23 = .ok (.iconst 0, 1) := by decide +kernel
theorem dX8_vote_24 : decode cX8_vote 24 = .ok (.invokevirtual 117, 3) := by decide +kernel
theorem dX8_vote_27 : decode cX8_vote 27 = .ok (.ifCond .ne 5, 3) := by decide +kernel
theorem dX8_vote_30 : decode cX8_vote 30 = .ok (.iconst 0, 1) := by decide +kernel
theorem dX8_vote_31 : decode cX8_vote 31 = .ok (.ireturn, 1) := by decide +kernel
theorem dX8_vote_32 : decode cX8_vote 32 = .ok (.aload_n 0, 1) := by decide +kernel
theorem dX8_vote_33 : decode cX8_vote 33 = .ok (.invokevirtual 121, 3) := by decide +kernel
theorem dX8_vote_36 : decode cX8_vote 36 = .ok (.aload_n 0, 1) := by decide +kernel
theorem dX8_vote_37 : decode cX8_vote 37 = .ok (.getfield 19, 3) := by decide +kernel
theorem dX8_vote_40 : decode cX8_vote 40 = .ok (.iload_n 1, 1) := by decide +kernel
theorem dX8_vote_41 : decode cX8_vote 41 = .ok (.iaload, 1) := by decide +kernel
theorem dX8_vote_42 : decode cX8_vote 42 = .ok (.istore_n 3, 1) := by decide +kernel
theorem dX8_vote_43 : decode cX8_vote 43 = .ok (.aload_n 0, 1) := by decide +kernel
theorem dX8_vote_44 : decode cX8_vote 44 = .ok (.getfield 19, 3) := by decide +kernel
theorem dX8_vote_47 : decode cX8_vote 47 = .ok (.iload_n 1, 1) := by decide +kernel
theorem dX8_vote_48 : decode cX8_vote 48 = .ok (.iload_n 2, 1) := by decide +kernel
theorem dX8_vote_49 : decode cX8_vote 49 = .ok (.iastore, 1) := by decide +kernel
theorem dX8_vote_50 : decode cX8_vote 50 = .ok (.iload_n 3, 1) := by decide +kernel
theorem dX8_vote_51 : decode cX8_vote 51 = .ok (.ireturn, 1) := by decide +kernel
theorem dX8_isClock_0 : decode cX8_isClock 0 = .ok (.iload_n 1, 1) := by decide +kernel
theorem dX8_isClock_1 : decode cX8_isClock 1 = .ok (.ifCond .lt 15, 3) := by decide +kernel
theorem dX8_isClock_4 : decode cX8_isClock 4 = .ok (.iload_n 1, 1) := by decide +kernel
theorem dX8_isClock_5 : decode cX8_isClock 5 = .ok (.aload_n 0, 1) := by decide +kernel
theorem dX8_isClock_6 : decode cX8_isClock 6 = .ok (.getfield 22, 3) := by decide +kernel
theorem dX8_isClock_9 : decode cX8_isClock 9 = .ok (.if_icmp .ge 7, 3) := by decide +kernel
theorem dX8_isClock_12 : decode cX8_isClock 12 = .ok (.iconst 1, 1) := by decide +kernel
theorem dX8_isClock_13 : decode cX8_isClock 13 = .ok (.goto 4, 3) := by decide +kernel
theorem dX8_isClock_16 : decode cX8_isClock 16 = .ok (.iconst 0, 1) := by decide +kernel
theorem dX8_isClock_17 : decode cX8_isClock 17 = .ok (.ireturn, 1) := by decide +kernel
theorem dX8_addClock_0 : decode cX8_addClock 0 = .ok (.aload_n 0, 1) := by decide +kernel
theorem dX8_addClock_1 : decode cX8_addClock 1 = .ok (.aload_n 0, 1) := by decide +kernel
theorem dX8_addClock_2 : decode cX8_addClock 2 = .ok (.iload_n 1, 1) := by decide +kernel
theorem dX8_addClock_3 : decode cX8_addClock 3 = .ok (.invokevirtual 124, 3) := by decide +kernel
theorem dX8_addClock_6 : decode cX8_addClock 6 = .ok (.invokevirtual 117, 3) := by decide +kernel
theorem dX8_addClock_9 : decode cX8_addClock 9 = .ok (.ifCond .ne 5, 3) := by decide +kernel
theorem dX8_addClock_12 : decode cX8_addClock 12 = .ok (.iconst 0, 1) := by decide +kernel
theorem dX8_addClock_13 : decode cX8_addClock 13 = .ok (.ireturn, 1) := by decide +kernel
theorem dX8_addClock_14 : decode cX8_addClock 14 = .ok (.iload_n 2, 1) := by decide +kernel
theorem dX8_addClock_15 : decode cX8_addClock 15 = .ok (.iconst 1, 1) := by decide +kernel
theorem dX8_addClock_16 : decode cX8_addClock 16 = .ok (.bipush 64, 2) := by decide +kernel
theorem dX8_addClock_18 : decode cX8_addClock 18 = .ok (.invokestatic 113, 3) := by decide +kernel
theorem dX8_addClock_21 : decode cX8_addClock 21 = .ok (.ifCond .eq 12, 3) := by decide +kernel
theorem dX8_addClock_24 : decode cX8_addClock 24 = .ok (.iload_n 3, 1) := by decide +kernel
theorem dX8_addClock_25 : decode cX8_addClock 25 = .ok (.iconst 0, 1) := by decide +kernel
theorem dX8_addClock_26 : decode cX8_addClock 26 = .ok (.iconst 3, 1) := by decide +kernel
theorem dX8_addClock_27 : decode cX8_addClock 27 = .ok (.invokestatic 113, 3) := by decide +kernel
theorem dX8_addClock_30 : decode cX8_addClock 30 = .ok (.ifCond .ne 9, 3) := by decide +kernel
theorem dX8_addClock_33 : decode cX8_addClock 33 = .ok (.aload_n 0, 1) := by decide +kernel
theorem dX8_addClock_34 : decode cX8_addClock 34 = .ok (.iconst 2, 1) := by decide +kernel
theorem dX8_addClock_35 : decode cX8_addClock 35 = .ok (.invokevirtual 128, 3) := by decide +kernel
theorem dX8_addClock_38 : decode cX8_addClock 38 = .ok (.ireturn, 1) := by decide +kernel
theorem dX8_addClock_39 : decode cX8_addClock 39 = .ok (.aload_n 0, 1) := by decide +kernel
theorem dX8_addClock_40 : decode cX8_addClock 40 = .ok (.getfield 22, 3) := by decide +kernel
theorem dX8_addClock_43 : decode cX8_addClock 43 = .ok (.bipush 8, 2) := by decide +kernel
theorem dX8_addClock_45 : decode cX8_addClock 45 = .ok (.if_icmp .ne 9, 3) := by decide +kernel
theorem dX8_addClock_48 : decode cX8_addClock 48 = .ok (.aload_n 0, 1) := by decide +kernel
theorem dX8_addClock_49 : decode cX8_addClock 49 = .ok (.iconst 3, 1) := by decide +kernel
theorem dX8_addClock_50 : decode cX8_addClock 50 = .ok (.invokevirtual 128, 3) := by decide +kernel
theorem dX8_addClock_53 : decode cX8_addClock 53 = .ok (.ireturn, 1) := by decide +kernel
theorem dX8_addClock_54 : decode cX8_addClock 54 = .ok (.aload_n 0, 1) := by decide +kernel
theorem dX8_addClock_55 : decode cX8_addClock 55 = .ok (.invokevirtual 121, 3) := by decide +kernel
theorem dX8_addClock_58 : decode cX8_addClock 58 = .ok (.aload_n 0, 1) := by decide +kernel
theorem dX8_addClock_59 : decode cX8_addClock 59 = .ok (.getfield 26, 3) := by decide +kernel
theorem dX8_addClock_62 : decode cX8_addClock 62 = .ok (.aload_n 0, 1) := by decide +kernel
theorem dX8_addClock_63 : decode cX8_addClock 63 = .ok (.getfield 22, 3) := by decide +kernel
theorem dX8_addClock_66 : decode cX8_addClock 66 = .ok (.iload_n 1, 1) := by decide +kernel
theorem dX8_addClock_67 : decode cX8_addClock 67 = .ok (.iastore, 1) := by decide +kernel
theorem dX8_addClock_68 : decode cX8_addClock 68 = .ok (.aload_n 0, 1) := by decide +kernel
theorem dX8_addClock_69 : decode cX8_addClock 69 = .ok (.getfield 29, 3) := by decide +kernel
theorem dX8_addClock_72 : decode cX8_addClock 72 = .ok (.aload_n 0, 1) := by decide +kernel
theorem dX8_addClock_73 : decode cX8_addClock 73 = .ok (.getfield 22, 3) := by decide +kernel
theorem dX8_addClock_76 : decode cX8_addClock 76 = .ok (.iload_n 2, 1) := by decide +kernel
theorem dX8_addClock_77 : decode cX8_addClock 77 = .ok (.iastore, 1) := by decide +kernel
theorem dX8_addClock_78 : decode cX8_addClock 78 = .ok (.aload_n 0, 1) := by decide +kernel
theorem dX8_addClock_79 : decode cX8_addClock 79 = .ok (.getfield 32, 3) := by decide +kernel
theorem dX8_addClock_82 : decode cX8_addClock 82 = .ok (.aload_n 0, 1) := by decide +kernel
theorem dX8_addClock_83 : decode cX8_addClock 83 = .ok (.getfield 22, 3) := by decide +kernel
theorem dX8_addClock_86 : decode cX8_addClock 86 = .ok (.iload_n 3, 1) := by decide +kernel
theorem dX8_addClock_87 : decode cX8_addClock 87 = .ok (.iastore, 1) := by decide +kernel
theorem dX8_addClock_88 : decode cX8_addClock 88 = .ok (.aload_n 0, 1) := by decide +kernel
theorem dX8_addClock_89 : decode cX8_addClock 89 = .ok (.dup, 1) := by decide +kernel
theorem dX8_addClock_90 : decode cX8_addClock 90 = .ok (.getfield 22, 3) := by decide +kernel
theorem dX8_addClock_93 : decode cX8_addClock 93 = .ok (.iconst 1, 1) := by decide +kernel
theorem dX8_addClock_94 : decode cX8_addClock 94 = .ok (.iadd, 1) := by decide +kernel
theorem dX8_addClock_95 : decode cX8_addClock 95 = .ok (.putfield 22, 3) := by decide +kernel
theorem dX8_addClock_98 : decode cX8_addClock 98 = .ok (.aload_n 0, 1) := by decide +kernel
theorem dX8_addClock_99 : decode cX8_addClock 99 = .ok (.getfield 22, 3) := by decide +kernel
theorem dX8_addClock_102 : decode cX8_addClock 102 = .ok (.iconst 1, 1) := by decide +kernel
theorem dX8_addClock_103 : decode cX8_addClock 103 = .ok (.isub, 1) := by decide +kernel
theorem dX8_addClock_104 : decode cX8_addClock 104 = .ok (.ireturn, 1) := by decide +kernel
theorem dX8_use_0 : decode cX8_use 0 = .ok (.aload_n 0, 1) := by decide +kernel
theorem dX8_use_1 : decode cX8_use 1 = .ok (.aload_n 0, 1) := by decide +kernel
theorem dX8_use_2 : decode cX8_use 2 = .ok (.iload_n 1, 1) := by decide +kernel
theorem dX8_use_3 : decode cX8_use 3 = .ok (.invokevirtual 124, 3) := by decide +kernel
theorem dX8_use_6 : decode cX8_use 6 = .ok (.invokevirtual 117, 3) := by decide +kernel
theorem dX8_use_9 : decode cX8_use 9 = .ok (.ifCond .ne 5, 3) := by decide +kernel
theorem dX8_use_12 : decode cX8_use 12 = .ok (.iconst 0, 1) := by decide +kernel
theorem dX8_use_13 : decode cX8_use 13 = .ok (.ireturn, 1) := by decide +kernel
theorem dX8_use_14 : decode cX8_use 14 = .ok (.aload_n 0, 1) := by decide +kernel
theorem dX8_use_15 : decode cX8_use 15 = .ok (.getfield 35, 3) := by decide +kernel
theorem dX8_use_18 : decode cX8_use 18 = .ok (.iload_n 1, 1) := by decide +kernel
theorem dX8_use_19 : decode cX8_use 19 = .ok (.iaload, 1) := by decide +kernel
theorem dX8_use_20 : decode cX8_use 20 = .ok (.bipush 9, 2) := by decide +kernel
theorem dX8_use_22 : decode cX8_use 22 = .ok (.if_icmp .ne 9, 3) := by decide +kernel
theorem dX8_use_25 : decode cX8_use 25 = .ok (.aload_n 0, 1) := by decide +kernel
theorem dX8_use_26 : decode cX8_use 26 = .ok (.iconst 2, 1) := by decide +kernel
theorem dX8_use_27 : decode cX8_use 27 = .ok (.invokevirtual 128, 3) := by decide +kernel
theorem dX8_use_30 : decode cX8_use 30 = .ok (.ireturn, 1) := by decide +kernel
theorem dX8_use_31 : decode cX8_use 31 = .ok (.aload_n 0, 1) := by decide +kernel
theorem dX8_use_32 : decode cX8_use 32 = .ok (.invokevirtual 121, 3) := by decide +kernel
theorem dX8_use_35 : decode cX8_use 35 = .ok (.aload_n 0, 1) := by decide +kernel
theorem dX8_use_36 : decode cX8_use 36 = .ok (.getfield 35, 3) := by decide +kernel
theorem dX8_use_39 : decode cX8_use 39 = .ok (.iload_n 1, 1) := by decide +kernel
theorem dX8_use_40 : decode cX8_use 40 = .ok (.dup2, 1) := by decide +kernel
theorem dX8_use_41 : decode cX8_use 41 = .ok (.iaload, 1) := by decide +kernel
theorem dX8_use_42 : decode cX8_use 42 = .ok (.iconst 1, 1) := by decide +kernel
theorem dX8_use_43 : decode cX8_use 43 = .ok (.iadd, 1) := by decide +kernel
theorem dX8_use_44 : decode cX8_use 44 = .ok (.iastore, 1) := by decide +kernel
theorem dX8_use_45 : decode cX8_use 45 = .ok (.aload_n 0, 1) := by decide +kernel
theorem dX8_use_46 : decode cX8_use 46 = .ok (.getfield 35, 3) := by decide +kernel
theorem dX8_use_49 : decode cX8_use 49 = .ok (.iload_n 1, 1) := by decide +kernel
theorem dX8_use_50 : decode cX8_use 50 = .ok (.iaload, 1) := by decide +kernel
theorem dX8_use_51 : decode cX8_use 51 = .ok (.ireturn, 1) := by decide +kernel
theorem dX8_release_0 : decode cX8_release 0 = .ok (.aload_n 0, 1) := by decide +kernel
theorem dX8_release_1 : decode cX8_release 1 = .ok (.aload_n 0, 1) := by decide +kernel
theorem dX8_release_2 : decode cX8_release 2 = .ok (.iload_n 1, 1) := by decide +kernel
theorem dX8_release_3 : decode cX8_release 3 = .ok (.invokevirtual 124, 3) := by decide +kernel
theorem dX8_release_6 : decode cX8_release 6 = .ok (.invokevirtual 117, 3) := by decide +kernel
theorem dX8_release_9 : decode cX8_release 9 = .ok (.ifCond .ne 5, 3) := by decide +kernel
theorem dX8_release_12 : decode cX8_release 12 = .ok (.iconst 0, 1) := by decide +kernel
theorem dX8_release_13 : decode cX8_release 13 = .ok (.ireturn, 1) := by decide +kernel
theorem dX8_release_14 : decode cX8_release 14 = .ok (.aload_n 0, 1) := by decide +kernel
theorem dX8_release_15 : decode cX8_release 15 = .ok (.getfield 35, 3) := by decide +kernel
theorem dX8_release_18 : decode cX8_release 18 = .ok (.iload_n 1, 1) := by decide +kernel
theorem dX8_release_19 : decode cX8_release 19 = .ok (.iaload, 1) := by decide +kernel
theorem dX8_release_20 : decode cX8_release 20 = .ok (.ifCond .ne 9, 3) := by decide +kernel
theorem dX8_release_23 : decode cX8_release 23 = .ok (.aload_n 0, 1) := by decide +kernel
theorem dX8_release_24 : decode cX8_release 24 = .ok (.iconst 2, 1) := by decide +kernel
theorem dX8_release_25 : decode cX8_release 25 = .ok (.invokevirtual 128, 3) := by decide +kernel
theorem dX8_release_28 : decode cX8_release 28 = .ok (.ireturn, 1) := by decide +kernel
theorem dX8_release_29 : decode cX8_release 29 = .ok (.aload_n 0, 1) := by decide +kernel
theorem dX8_release_30 : decode cX8_release 30 = .ok (.invokevirtual 121, 3) := by decide +kernel
theorem dX8_release_33 : decode cX8_release 33 = .ok (.aload_n 0, 1) := by decide +kernel
theorem dX8_release_34 : decode cX8_release 34 = .ok (.getfield 35, 3) := by decide +kernel
theorem dX8_release_37 : decode cX8_release 37 = .ok (.iload_n 1, 1) := by decide +kernel
theorem dX8_release_38 : decode cX8_release 38 = .ok (.dup2, 1) := by decide +kernel
theorem dX8_release_39 : decode cX8_release 39 = .ok (.iaload, 1) := by decide +kernel
theorem dX8_release_40 : decode cX8_release 40 = .ok (.iconst 1, 1) := by decide +kernel
theorem dX8_release_41 : decode cX8_release 41 = .ok (.isub, 1) := by decide +kernel
theorem dX8_release_42 : decode cX8_release 42 = .ok (.iastore, 1) := by decide +kernel
theorem dX8_release_43 : decode cX8_release 43 = .ok (.aload_n 0, 1) := by decide +kernel
theorem dX8_release_44 : decode cX8_release 44 = .ok (.getfield 35, 3) := by decide +kernel
theorem dX8_release_47 : decode cX8_release 47 = .ok (.iload_n 1, 1) := by decide +kernel
theorem dX8_release_48 : decode cX8_release 48 = .ok (.iaload, 1) := by decide +kernel
theorem dX8_release_49 : decode cX8_release 49 = .ok (.ireturn, 1) := by decide +kernel
theorem dX8_findsRunning_0 : decode cX8_findsRunning 0 = .ok (.iconst 0, 1) := by decide +kernel
theorem dX8_findsRunning_1 : decode cX8_findsRunning 1 = .ok (.istore_n 1, 1) := by decide +kernel
theorem dX8_findsRunning_2 : decode cX8_findsRunning 2 = .ok (.iload_n 1, 1) := by decide +kernel
theorem dX8_findsRunning_3 : decode cX8_findsRunning 3 = .ok (.bipush 8, 2) := by decide +kernel
theorem dX8_findsRunning_5 : decode cX8_findsRunning 5 = .ok (.if_icmp .ge 29, 3) := by decide +kernel
theorem dX8_findsRunning_8 : decode cX8_findsRunning 8 = .ok (.aload_n 0, 1) := by decide +kernel
theorem dX8_findsRunning_9 : decode cX8_findsRunning 9 = .ok (.getfield 38, 3) := by decide +kernel
theorem dX8_findsRunning_12 : decode cX8_findsRunning 12 = .ok (.iload_n 1, 1) := by decide +kernel
theorem dX8_findsRunning_13 : decode cX8_findsRunning 13 = .ok (.aload_n 0, 1) := by decide +kernel
theorem dX8_findsRunning_14 : decode cX8_findsRunning 14 = .ok (.getfield 35, 3) := by decide +kernel
theorem dX8_findsRunning_17 : decode cX8_findsRunning 17 = .ok (.iload_n 1, 1) := by decide +kernel
theorem dX8_findsRunning_18 : decode cX8_findsRunning 18 = .ok (.iaload, 1) := by decide +kernel
theorem dX8_findsRunning_19 : decode cX8_findsRunning 19 = .ok (.ifCond .le 7, 3) := by decide +kernel
theorem dX8_findsRunning_22 : decode cX8_findsRunning 22 = .ok (.iconst 1, 1) := by decide +kernel
theorem dX8_findsRunning_23 : decode cX8_findsRunning 23 = .ok (.goto 4, 3) := by decide +kernel
theorem dX8_findsRunning_26 : decode cX8_findsRunning 26 = .ok (.iconst 0, 1) := by decide +kernel
theorem dX8_findsRunning_27 : decode cX8_findsRunning 27 = .ok (.bastore, 1) := by decide +kernel
theorem dX8_findsRunning_28 : decode cX8_findsRunning 28 = .ok (.iinc 1 1, 3) := by decide +kernel
theorem dX8_findsRunning_31 : decode cX8_findsRunning 31 = .ok (.goto (-29), 3) := by decide +kernel
theorem dX8_findsRunning_34 : decode cX8_findsRunning 34 = .ok (.aload_n 0, 1) := by decide +kernel
theorem dX8_findsRunning_35 : decode cX8_findsRunning 35 = .ok (.getfield 22, 3) := by decide +kernel
theorem dX8_findsRunning_38 : decode cX8_findsRunning 38 = .ok (.iconst 1, 1) := by decide +kernel
theorem dX8_findsRunning_39 : decode cX8_findsRunning 39 = .ok (.isub, 1) := by decide +kernel
theorem dX8_findsRunning_40 : decode cX8_findsRunning 40 = .ok (.istore_n 1, 1) := by decide +kernel
theorem dX8_findsRunning_41 : decode cX8_findsRunning 41 = .ok (.iload_n 1, 1) := by decide +kernel
theorem dX8_findsRunning_42 : decode cX8_findsRunning 42 = .ok (.ifCond .le 48, 3) := by decide +kernel
theorem dX8_findsRunning_45 : decode cX8_findsRunning 45 = .ok (.aload_n 0, 1) := by decide +kernel
theorem dX8_findsRunning_46 : decode cX8_findsRunning 46 = .ok (.getfield 38, 3) := by decide +kernel
theorem dX8_findsRunning_49 : decode cX8_findsRunning 49 = .ok (.aload_n 0, 1) := by decide +kernel
theorem dX8_findsRunning_50 : decode cX8_findsRunning 50 = .ok (.getfield 26, 3) := by decide +kernel
theorem dX8_findsRunning_53 : decode cX8_findsRunning 53 = .ok (.iload_n 1, 1) := by decide +kernel
theorem dX8_findsRunning_54 : decode cX8_findsRunning 54 = .ok (.iaload, 1) := by decide +kernel
theorem dX8_findsRunning_55 : decode cX8_findsRunning 55 = .ok (.aload_n 0, 1) := by decide +kernel
theorem dX8_findsRunning_56 : decode cX8_findsRunning 56 = .ok (.getfield 38, 3) := by decide +kernel
theorem dX8_findsRunning_59 : decode cX8_findsRunning 59 = .ok (.aload_n 0, 1) := by decide +kernel
theorem dX8_findsRunning_60 : decode cX8_findsRunning 60 = .ok (.getfield 26, 3) := by decide +kernel
theorem dX8_findsRunning_63 : decode cX8_findsRunning 63 = .ok (.iload_n 1, 1) := by decide +kernel
theorem dX8_findsRunning_64 : decode cX8_findsRunning 64 = .ok (.iaload, 1) := by decide +kernel
theorem dX8_findsRunning_65 : decode cX8_findsRunning 65 = .ok (.baload, 1) := by decide +kernel
theorem dX8_findsRunning_66 : decode cX8_findsRunning 66 = .ok (.ifCond .ne 12, 3) := by decide +kernel
theorem dX8_findsRunning_69 : decode cX8_findsRunning 69 = .ok (.aload_n 0, 1) := by decide +kernel
theorem dX8_findsRunning_70 : decode cX8_findsRunning 70 = .ok (.getfield 38, 3) := by decide +kernel
theorem dX8_findsRunning_73 : decode cX8_findsRunning 73 = .ok (.iload_n 1, 1) := by decide +kernel
theorem dX8_findsRunning_74 : decode cX8_findsRunning 74 = .ok (.baload, 1) := by decide +kernel
theorem dX8_findsRunning_75 : decode cX8_findsRunning 75 = .ok (.ifCond .eq 7, 3) := by decide +kernel
theorem dX8_findsRunning_78 : decode cX8_findsRunning 78 = .ok (.iconst 1, 1) := by decide +kernel
theorem dX8_findsRunning_79 : decode cX8_findsRunning 79 = .ok (.goto 4, 3) := by decide +kernel
theorem dX8_findsRunning_82 : decode cX8_findsRunning 82 = .ok (.iconst 0, 1) := by decide +kernel
theorem dX8_findsRunning_83 : decode cX8_findsRunning 83 = .ok (.bastore, 1) := by decide +kernel
theorem dX8_findsRunning_84 : decode cX8_findsRunning 84 = .ok (.iinc 1 (-1), 3) := by decide +kernel
theorem dX8_findsRunning_87 : decode cX8_findsRunning 87 = .ok (.goto (-46), 3) := by decide +kernel
theorem dX8_findsRunning_90 : decode cX8_findsRunning 90 = .ok (.return_, 1) := by decide +kernel
theorem dX8_runs_0 : decode cX8_runs 0 = .ok (.aload_n 0, 1) := by decide +kernel
theorem dX8_runs_1 : decode cX8_runs 1 = .ok (.aload_n 0, 1) := by decide +kernel
theorem dX8_runs_2 : decode cX8_runs 2 = .ok (.iload_n 1, 1) := by decide +kernel
theorem dX8_runs_3 : decode cX8_runs 3 = .ok (.invokevirtual 124, 3) := by decide +kernel
theorem dX8_runs_6 : decode cX8_runs 6 = .ok (.invokevirtual 117, 3) := by decide +kernel
theorem dX8_runs_9 : decode cX8_runs 9 = .ok (.ifCond .ne 5, 3) := by decide +kernel
theorem dX8_runs_12 : decode cX8_runs 12 = .ok (.iconst 0, 1) := by decide +kernel
theorem dX8_runs_13 : decode cX8_runs 13 = .ok (.ireturn, 1) := by decide +kernel
theorem dX8_runs_14 : decode cX8_runs 14 = .ok (.aload_n 0, 1) := by decide +kernel
theorem dX8_runs_15 : decode cX8_runs 15 = .ok (.invokevirtual 132, 3) := by decide +kernel
theorem dX8_runs_18 : decode cX8_runs 18 = .ok (.aload_n 0, 1) := by decide +kernel
theorem dX8_runs_19 : decode cX8_runs 19 = .ok (.getfield 38, 3) := by decide +kernel
theorem dX8_runs_22 : decode cX8_runs 22 = .ok (.iload_n 1, 1) := by decide +kernel
theorem dX8_runs_23 : decode cX8_runs 23 = .ok (.baload, 1) := by decide +kernel
theorem dX8_runs_24 : decode cX8_runs 24 = .ok (.ireturn, 1) := by decide +kernel
theorem dX8_frequency_0 : decode cX8_frequency 0 = .ok (.aload_n 0, 1) := by decide +kernel
theorem dX8_frequency_1 : decode cX8_frequency 1 = .ok (.aload_n 0, 1) := by decide +kernel
theorem dX8_frequency_2 : decode cX8_frequency 2 = .ok (.iload_n 1, 1) := by decide +kernel
theorem dX8_frequency_3 : decode cX8_frequency 3 = .ok (.invokevirtual 124, 3) := by decide +kernel
theorem dX8_frequency_6 : decode cX8_frequency 6 = .ok (.invokevirtual 117, 3) := by decide +kernel
theorem dX8_frequency_9 : decode cX8_frequency 9 = .ok (.ifCond .ne 5, 3) := by decide +kernel
theorem dX8_frequency_12 : decode cX8_frequency 12 = .ok (.iconst 0, 1) := by decide +kernel
theorem dX8_frequency_13 : decode cX8_frequency 13 = .ok (.ireturn, 1) := by decide +kernel
theorem dX8_frequency_14 : decode cX8_frequency 14 = .ok (.iconst 1, 1) := by decide +kernel
theorem dX8_frequency_15 : decode cX8_frequency 15 = .ok (.istore_n 2, 1) := by decide +kernel
theorem dX8_frequency_16 : decode cX8_frequency 16 = .ok (.iload_n 1, 1) := by decide +kernel
theorem dX8_frequency_17 : decode cX8_frequency 17 = .ok (.istore_n 3, 1) := by decide +kernel
theorem dX8_frequency_18 : decode cX8_frequency 18 = .ok (.iload_n 3, 1) := by decide +kernel
theorem dX8_frequency_19 : decode cX8_frequency 19 = .ok (.ifCond .le 37, 3) := by decide +kernel
theorem dX8_frequency_22 : decode cX8_frequency 22 = .ok (.iload_n 2, 1) := by decide +kernel
theorem dX8_frequency_23 : decode cX8_frequency 23 = .ok (.aload_n 0, 1) := by decide +kernel
theorem dX8_frequency_24 : decode cX8_frequency 24 = .ok (.getfield 29, 3) := by decide +kernel
theorem dX8_frequency_27 : decode cX8_frequency 27 = .ok (.iload_n 3, 1) := by decide +kernel
theorem dX8_frequency_28 : decode cX8_frequency 28 = .ok (.iaload, 1) := by decide +kernel
theorem dX8_frequency_29 : decode cX8_frequency 29 = .ok (.imul, 1) := by decide +kernel
theorem dX8_frequency_30 : decode cX8_frequency 30 = .ok (.istore_n 2, 1) := by decide +kernel
theorem dX8_frequency_31 : decode cX8_frequency 31 = .ok (.iload_n 2, 1) := by decide +kernel
theorem dX8_frequency_32 : decode cX8_frequency 32 = .ok (.sipush 4800, 3) := by decide +kernel
theorem dX8_frequency_35 : decode cX8_frequency 35 = .ok (.if_icmp .le 9, 3) := by decide +kernel
theorem dX8_frequency_38 : decode cX8_frequency 38 = .ok (.sipush 4801, 3) := by decide +kernel
theorem dX8_frequency_41 : decode cX8_frequency 41 = .ok (.goto 4, 3) := by decide +kernel
theorem dX8_frequency_44 : decode cX8_frequency 44 = .ok (.iload_n 2, 1) := by decide +kernel
theorem dX8_frequency_45 : decode cX8_frequency 45 = .ok (.istore_n 2, 1) := by decide +kernel
theorem dX8_frequency_46 : decode cX8_frequency 46 = .ok (.aload_n 0, 1) := by decide +kernel
theorem dX8_frequency_47 : decode cX8_frequency 47 = .ok (.getfield 26, 3) := by decide +kernel
theorem dX8_frequency_50 : decode cX8_frequency 50 = .ok (.iload_n 3, 1) := by decide +kernel
theorem dX8_frequency_51 : decode cX8_frequency 51 = .ok (.iaload, 1) := by decide +kernel
theorem dX8_frequency_52 : decode cX8_frequency 52 = .ok (.istore_n 3, 1) := by decide +kernel
theorem dX8_frequency_53 : decode cX8_frequency 53 = .ok (.goto (-35), 3) := by decide +kernel
theorem dX8_frequency_56 : decode cX8_frequency 56 = .ok (.sipush 4800, 3) := by decide +kernel
theorem dX8_frequency_59 : decode cX8_frequency 59 = .ok (.iload_n 2, 1) := by decide +kernel
theorem dX8_frequency_60 : decode cX8_frequency 60 = .ok (.idiv, 1) := by decide +kernel
theorem dX8_frequency_61 : decode cX8_frequency 61 = .ok (.ireturn, 1) := by decide +kernel
theorem dX8_deepestNow_0 : decode cX8_deepestNow 0 = .ok (.iconst 3, 1) := by decide +kernel
theorem dX8_deepestNow_1 : decode cX8_deepestNow 1 = .ok (.istore_n 1, 1) := by decide +kernel
theorem dX8_deepestNow_2 : decode cX8_deepestNow 2 = .ok (.iconst 0, 1) := by decide +kernel
theorem dX8_deepestNow_3 : decode cX8_deepestNow 3 = .ok (.istore_n 2, 1) := by decide +kernel
theorem dX8_deepestNow_4 : decode cX8_deepestNow 4 = .ok (.iload_n 2, 1) := by decide +kernel
theorem dX8_deepestNow_5 : decode cX8_deepestNow 5 = .ok (.bipush 6, 2) := by decide +kernel
theorem dX8_deepestNow_7 : decode cX8_deepestNow 7 = .ok (.if_icmp .ge 30, 3) := by decide +kernel
theorem dX8_deepestNow_10 : decode cX8_deepestNow 10 = .ok (.aload_n 0, 1) := by decide +kernel
theorem dX8_deepestNow_11 : decode cX8_deepestNow 11 = .ok (.getfield 19, 3) := by decide +kernel
theorem dX8_deepestNow_14 : decode cX8_deepestNow 14 = .ok (.iload_n 2, 1) := by decide +kernel
theorem dX8_deepestNow_15 : decode cX8_deepestNow 15 = .ok (.iaload, 1) := by decide +kernel
theorem dX8_deepestNow_16 : decode cX8_deepestNow 16 = .ok (.iload_n 1, 1) := by decide +kernel
theorem dX8_deepestNow_17 : decode cX8_deepestNow 17 = .ok (.if_icmp .ge 12, 3) := by decide +kernel
theorem dX8_deepestNow_20 : decode cX8_deepestNow 20 = .ok (.aload_n 0, 1) := by decide +kernel
theorem dX8_deepestNow_21 : decode cX8_deepestNow 21 = .ok (.getfield 19, 3) := by decide +kernel
theorem dX8_deepestNow_24 : decode cX8_deepestNow 24 = .ok (.iload_n 2, 1) := by decide +kernel
theorem dX8_deepestNow_25 : decode cX8_deepestNow 25 = .ok (.iaload, 1) := by decide +kernel
theorem dX8_deepestNow_26 : decode cX8_deepestNow 26 = .ok (.goto 4, 3) := by decide +kernel
theorem dX8_deepestNow_29 : decode cX8_deepestNow 29 = .ok (.iload_n 1, 1) := by decide +kernel
theorem dX8_deepestNow_30 : decode cX8_deepestNow 30 = .ok (.istore_n 1, 1) := by decide +kernel
theorem dX8_deepestNow_31 : decode cX8_deepestNow 31 = .ok (.iinc 2 1, 3) := by decide +kernel
theorem dX8_deepestNow_34 : decode cX8_deepestNow 34 = .ok (.goto (-30), 3) := by decide +kernel
theorem dX8_deepestNow_37 : decode cX8_deepestNow 37 = .ok (.aload_n 0, 1) := by decide +kernel
theorem dX8_deepestNow_38 : decode cX8_deepestNow 38 = .ok (.invokevirtual 132, 3) := by decide +kernel
theorem dX8_deepestNow_41 : decode cX8_deepestNow 41 = .ok (.iconst 1, 1) := by decide +kernel
theorem dX8_deepestNow_42 : decode cX8_deepestNow 42 = .ok (.istore_n 2, 1) := by decide +kernel
theorem dX8_deepestNow_43 : decode cX8_deepestNow 43 = .ok (.iload_n 2, 1) := by decide +kernel
theorem dX8_deepestNow_44 : decode cX8_deepestNow 44 = .ok (.aload_n 0, 1) := by decide +kernel
theorem dX8_deepestNow_45 : decode cX8_deepestNow 45 = .ok (.getfield 22, 3) := by decide +kernel
theorem dX8_deepestNow_48 : decode cX8_deepestNow 48 = .ok (.if_icmp .ge 39, 3) := by decide +kernel
theorem dX8_deepestNow_51 : decode cX8_deepestNow 51 = .ok (.aload_n 0, 1) := by decide +kernel
theorem dX8_deepestNow_52 : decode cX8_deepestNow 52 = .ok (.getfield 38, 3) := by decide +kernel
theorem dX8_deepestNow_55 : decode cX8_deepestNow 55 = .ok (.iload_n 2, 1) := by decide +kernel
theorem dX8_deepestNow_56 : decode cX8_deepestNow 56 = .ok (.baload, 1) := by decide +kernel
theorem dX8_deepestNow_57 : decode cX8_deepestNow 57 = .ok (.ifCond .eq 22, 3) := by decide +kernel
theorem dX8_deepestNow_60 : decode cX8_deepestNow 60 = .ok (.aload_n 0, 1) := by decide +kernel
theorem dX8_deepestNow_61 : decode cX8_deepestNow 61 = .ok (.getfield 32, 3) := by decide +kernel
theorem dX8_deepestNow_64 : decode cX8_deepestNow 64 = .ok (.iload_n 2, 1) := by decide +kernel
theorem dX8_deepestNow_65 : decode cX8_deepestNow 65 = .ok (.iaload, 1) := by decide +kernel
theorem dX8_deepestNow_66 : decode cX8_deepestNow 66 = .ok (.iload_n 1, 1) := by decide +kernel
theorem dX8_deepestNow_67 : decode cX8_deepestNow 67 = .ok (.if_icmp .ge 12, 3) := by decide +kernel
theorem dX8_deepestNow_70 : decode cX8_deepestNow 70 = .ok (.aload_n 0, 1) := by decide +kernel
theorem dX8_deepestNow_71 : decode cX8_deepestNow 71 = .ok (.getfield 32, 3) := by decide +kernel
theorem dX8_deepestNow_74 : decode cX8_deepestNow 74 = .ok (.iload_n 2, 1) := by decide +kernel
theorem dX8_deepestNow_75 : decode cX8_deepestNow 75 = .ok (.iaload, 1) := by decide +kernel
theorem dX8_deepestNow_76 : decode cX8_deepestNow 76 = .ok (.goto 4, 3) := by decide +kernel
theorem dX8_deepestNow_79 : decode cX8_deepestNow 79 = .ok (.iload_n 1, 1) := by decide +kernel
theorem dX8_deepestNow_80 : decode cX8_deepestNow 80 = .ok (.istore_n 1, 1) := by decide +kernel
theorem dX8_deepestNow_81 : decode cX8_deepestNow 81 = .ok (.iinc 2 1, 3) := by decide +kernel
theorem dX8_deepestNow_84 : decode cX8_deepestNow 84 = .ok (.goto (-41), 3) := by decide +kernel
theorem dX8_deepestNow_87 : decode cX8_deepestNow 87 = .ok (.iload_n 1, 1) := by decide +kernel
theorem dX8_deepestNow_88 : decode cX8_deepestNow 88 = .ok (.ireturn, 1) := by decide +kernel
theorem dX8_depth_0 : decode cX8_depth 0 = .ok (.aload_n 0, 1) := by decide +kernel
theorem dX8_depth_1 : decode cX8_depth 1 = .ok (.iconst 0, 1) := by decide +kernel
theorem dX8_depth_2 : decode cX8_depth 2 = .ok (.putfield 84, 3) := by decide +kernel
theorem dX8_depth_5 : decode cX8_depth 5 = .ok (.aload_n 0, 1) := by decide +kernel
theorem dX8_depth_6 : decode cX8_depth 6 = .ok (.invokevirtual 135, 3) := by decide +kernel
theorem dX8_depth_9 : decode cX8_depth 9 = .ok (.ireturn, 1) := by decide +kernel
theorem dX8_idleCost_0 : decode cX8_idleCost 0 = .ok (.iload_n 1, 1) := by decide +kernel
theorem dX8_idleCost_1 : decode cX8_idleCost 1 = .ok (.ifCond .ne 16, 3) := by decide +kernel
theorem dX8_idleCost_4 : decode cX8_idleCost 4 = .ok (.iload_n 2, 1) := by decide +kernel
theorem dX8_idleCost_5 : decode cX8_idleCost 5 = .ok (.i2l, 1) := by decide +kernel
theorem dX8_idleCost_6 : decode cX8_idleCost 6 = .ok (.aload_n 0, 1) := by decide +kernel
theorem dX8_idleCost_7 : decode cX8_idleCost 7 = .ok (.getfield 7, 3) := by decide +kernel
theorem dX8_idleCost_10 : decode cX8_idleCost 10 = .ok (.iconst 0, 1) := by decide +kernel
theorem dX8_idleCost_11 : decode cX8_idleCost 11 = .ok (.iaload, 1) := by decide +kernel
theorem dX8_idleCost_12 : decode cX8_idleCost 12 = .ok (.i2l, 1) := by decide +kernel
theorem dX8_idleCost_13 : decode cX8_idleCost 13 = .ok (.lmul, 1) := by decide +kernel
theorem dX8_idleCost_14 : decode cX8_idleCost 14 = .ok (.goto 44, 3) := by decide +kernel
theorem dX8_idleCost_17 : decode cX8_idleCost 17 = .ok (.aload_n 0, 1) := by decide +kernel
theorem dX8_idleCost_18 : decode cX8_idleCost 18 = .ok (.getfield 13, 3) := by decide +kernel
theorem dX8_idleCost_21 : decode cX8_idleCost 21 = .ok (.iload_n 1, 1) := by decide +kernel
theorem dX8_idleCost_22 : decode cX8_idleCost 22 = .ok (.iaload, 1) := by decide +kernel
theorem dX8_idleCost_23 : decode cX8_idleCost 23 = .ok (.i2l, 1) := by decide +kernel
theorem dX8_idleCost_24 : decode cX8_idleCost 24 = .ok (.aload_n 0, 1) := by decide +kernel
theorem dX8_idleCost_25 : decode cX8_idleCost 25 = .ok (.getfield 7, 3) := by decide +kernel
theorem dX8_idleCost_28 : decode cX8_idleCost 28 = .ok (.iload_n 1, 1) := by decide +kernel
theorem dX8_idleCost_29 : decode cX8_idleCost 29 = .ok (.iaload, 1) := by decide +kernel
theorem dX8_idleCost_30 : decode cX8_idleCost 30 = .ok (.i2l, 1) := by decide +kernel
theorem dX8_idleCost_31 : decode cX8_idleCost 31 = .ok (.iload_n 2, 1) := by decide +kernel
theorem dX8_idleCost_32 : decode cX8_idleCost 32 = .ok (.aload_n 0, 1) := by decide +kernel
theorem dX8_idleCost_33 : decode cX8_idleCost 33 = .ok (.getfield 16, 3) := by decide +kernel
theorem dX8_idleCost_36 : decode cX8_idleCost 36 = .ok (.iload_n 1, 1) := by decide +kernel
theorem dX8_idleCost_37 : decode cX8_idleCost 37 = .ok (.iaload, 1) := by decide +kernel
theorem dX8_idleCost_38 : decode cX8_idleCost 38 = .ok (.isub, 1) := by decide +kernel
theorem dX8_idleCost_39 : decode cX8_idleCost 39 = .ok (.i2l, 1) := by decide +kernel
theorem dX8_idleCost_40 : decode cX8_idleCost 40 = .ok (.lmul, 1) := by decide +kernel
theorem dX8_idleCost_41 : decode cX8_idleCost 41 = .ok (.ladd, 1) := by decide +kernel
theorem dX8_idleCost_42 : decode cX8_idleCost 42 = .ok (.aload_n 0, 1) := by decide +kernel
theorem dX8_idleCost_43 : decode cX8_idleCost 43 = .ok (.getfield 7, 3) := by decide +kernel
theorem dX8_idleCost_46 : decode cX8_idleCost 46 = .ok (.iconst 0, 1) := by decide +kernel
theorem dX8_idleCost_47 : decode cX8_idleCost 47 = .ok (.iaload, 1) := by decide +kernel
theorem dX8_idleCost_48 : decode cX8_idleCost 48 = .ok (.i2l, 1) := by decide +kernel
theorem dX8_idleCost_49 : decode cX8_idleCost 49 = .ok (.aload_n 0, 1) := by decide +kernel
theorem dX8_idleCost_50 : decode cX8_idleCost 50 = .ok (.getfield 16, 3) := by decide +kernel
theorem dX8_idleCost_53 : decode cX8_idleCost 53 = .ok (.iload_n 1, 1) := by decide +kernel
theorem dX8_idleCost_54 : decode cX8_idleCost 54 = .ok (.iaload, 1) := by decide +kernel
theorem dX8_idleCost_55 : decode cX8_idleCost 55 = .ok (.i2l, 1) := by decide +kernel
theorem dX8_idleCost_56 : decode cX8_idleCost 56 = .ok (.lmul, 1) := by decide +kernel
theorem dX8_idleCost_57 : decode cX8_idleCost 57 = .ok (.ladd, 1) := by decide +kernel
theorem dX8_idleCost_58 : decode cX8_idleCost 58 = .ok (.lreturn, 1) := by decide +kernel
theorem dX8_evenAt_0 : decode cX8_evenAt 0 = .ok (.aload_n 0, 1) := by decide +kernel
theorem dX8_evenAt_1 : decode cX8_evenAt 1 = .ok (.getfield 16, 3) := by decide +kernel
theorem dX8_evenAt_4 : decode cX8_evenAt 4 = .ok (.iload_n 1, 1) := by decide +kernel
theorem dX8_evenAt_5 : decode cX8_evenAt 5 = .ok (.iaload, 1) := by decide +kernel
theorem dX8_evenAt_6 : decode cX8_evenAt 6 = .ok (.istore_n 2, 1) := by decide +kernel
theorem dX8_evenAt_7 : decode cX8_evenAt 7 = .ok (.iload_n 2, 1) := by decide +kernel
theorem dX8_evenAt_8 : decode cX8_evenAt 8 = .ok (.sipush 5000, 3) := by decide +kernel
theorem dX8_evenAt_11 : decode cX8_evenAt 11 = .ok (.if_icmp .gt 25, 3) := by decide +kernel
theorem dX8_evenAt_14 : decode cX8_evenAt 14 = .ok (.aload_n 0, 1) := by decide +kernel
theorem dX8_evenAt_15 : decode cX8_evenAt 15 = .ok (.iload_n 1, 1) := by decide +kernel
theorem dX8_evenAt_16 : decode cX8_evenAt 16 = .ok (.iload_n 2, 1) := by decide +kernel
theorem dX8_evenAt_17 : decode cX8_evenAt 17 = .ok (.invokevirtual 139, 3) := by decide +kernel
theorem dX8_evenAt_20 : decode cX8_evenAt 20 = .ok (.aload_n 0, 1) := by decide +kernel
theorem dX8_evenAt_21 : decode cX8_evenAt 21 = .ok (.iconst 0, 1) := by decide +kernel
theorem dX8_evenAt_22 : decode cX8_evenAt 22 = .ok (.iload_n 2, 1) := by decide +kernel
theorem dX8_evenAt_23 : decode cX8_evenAt 23 = .ok (.invokevirtual 139, 3) := by decide +kernel
theorem dX8_evenAt_26 : decode cX8_evenAt 26 = .ok (.lcmp, 1) := by decide +kernel
theorem dX8_evenAt_27 : decode cX8_evenAt 27 = .ok (.ifCond .le 9, 3) := by decide +kernel
theorem dX8_evenAt_30 : decode cX8_evenAt 30 = .ok (.iinc 2 1, 3) := by decide +kernel
theorem dX8_evenAt_33 : decode cX8_evenAt 33 = .ok (.goto (-26), 3) := by decide +kernel
theorem dX8_evenAt_36 : decode cX8_evenAt 36 = .ok (.iload_n 2, 1) := by decide +kernel
theorem dX8_evenAt_37 : decode cX8_evenAt 37 = .ok (.sipush 5000, 3) := by decide +kernel
theorem dX8_evenAt_40 : decode cX8_evenAt 40 = .ok (.if_icmp .le 7, 3) := by decide +kernel
theorem dX8_evenAt_43 : decode cX8_evenAt 43 = .ok (.iconst (-1), 1) := by decide +kernel
theorem dX8_evenAt_44 : decode cX8_evenAt 44 = .ok (.goto 4, 3) := by decide +kernel
theorem dX8_evenAt_47 : decode cX8_evenAt 47 = .ok (.iload_n 2, 1) := by decide +kernel
theorem dX8_evenAt_48 : decode cX8_evenAt 48 = .ok (.ireturn, 1) := by decide +kernel
theorem dX8_breakEven_0 : decode cX8_breakEven 0 = .ok (.aload_n 0, 1) := by decide +kernel
theorem dX8_breakEven_1 : decode cX8_breakEven 1 = .ok (.iload_n 1, 1) := by decide +kernel
theorem dX8_breakEven_2 : decode cX8_breakEven 2 = .ok (.iconst 1, 1) := by decide +kernel
theorem dX8_breakEven_3 : decode cX8_breakEven 3 = .ok (.iconst 3, 1) := by decide +kernel
theorem dX8_breakEven_4 : decode cX8_breakEven 4 = .ok (.invokestatic 113, 3) := by decide +kernel
theorem dX8_breakEven_7 : decode cX8_breakEven 7 = .ok (.invokevirtual 117, 3) := by decide +kernel
theorem dX8_breakEven_10 : decode cX8_breakEven 10 = .ok (.ifCond .eq 11, 3) := by decide +kernel
theorem dX8_breakEven_13 : decode cX8_breakEven 13 = .ok (.aload_n 0, 1) := by decide +kernel
theorem dX8_breakEven_14 : decode cX8_breakEven 14 = .ok (.iload_n 1, 1) := by decide +kernel
theorem dX8_breakEven_15 : decode cX8_breakEven 15 = .ok (.invokevirtual 143, 3) := by decide +kernel
theorem dX8_breakEven_18 : decode cX8_breakEven 18 = .ok (.goto 4, 3) := by decide +kernel
theorem dX8_breakEven_21 : decode cX8_breakEven 21 = .ok (.iconst 0, 1) := by decide +kernel
theorem dX8_breakEven_22 : decode cX8_breakEven 22 = .ok (.ireturn, 1) := by decide +kernel
theorem dX8_schedule_0 : decode cX8_schedule 0 = .ok (.aload_n 0, 1) := by decide +kernel
theorem dX8_schedule_1 : decode cX8_schedule 1 = .ok (.iload_n 1, 1) := by decide +kernel
theorem dX8_schedule_2 : decode cX8_schedule 2 = .ok (.aload_n 0, 1) := by decide +kernel
theorem dX8_schedule_3 : decode cX8_schedule 3 = .ok (.getfield 97, 3) := by decide +kernel
theorem dX8_schedule_6 : decode cX8_schedule 6 = .ok (.aload_n 0, 1) := by decide +kernel
theorem dX8_schedule_7 : decode cX8_schedule 7 = .ok (.getfield 97, 3) := by decide +kernel
theorem dX8_schedule_10 : decode cX8_schedule 10 = .ok (.sipush 1000, 3) := by decide +kernel
theorem dX8_schedule_13 : decode cX8_schedule 13 = .ok (.iadd, 1) := by decide +kernel
theorem dX8_schedule_14 : decode cX8_schedule 14 = .ok (.invokestatic 113, 3) := by decide +kernel
theorem dX8_schedule_17 : decode cX8_schedule 17 = .ok (.ifCond .eq 28, 3) := by decide +kernel
theorem dX8_schedule_20 : decode cX8_schedule 20 = .ok (.iload_n 2, 1) := by decide +kernel
theorem dX8_schedule_21 : decode cX8_schedule 21 = .ok (.iconst 0, 1) := by decide +kernel
theorem dX8_schedule_22 : decode cX8_schedule 22 = .ok (.sipush 500, 3) := by decide +kernel
theorem dX8_schedule_25 : decode cX8_schedule 25 = .ok (.invokestatic 113, 3) := by decide +kernel
theorem dX8_schedule_28 : decode cX8_schedule 28 = .ok (.ifCond .eq 17, 3) := by decide +kernel
theorem dX8_schedule_31 : decode cX8_schedule 31 = .ok (.iload_n 3, 1) := by decide +kernel
theorem dX8_schedule_32 : decode cX8_schedule 32 = .ok (.iconst 1, 1) := by decide +kernel
theorem dX8_schedule_33 : decode cX8_schedule 33 = .ok (.bipush 50, 2) := by decide +kernel
theorem dX8_schedule_35 : decode cX8_schedule 35 = .ok (.invokestatic 113, 3) := by decide +kernel
theorem dX8_schedule_38 : decode cX8_schedule 38 = .ok (.ifCond .eq 7, 3) := by decide +kernel
theorem dX8_schedule_41 : decode cX8_schedule 41 = .ok (.iconst 1, 1) := by decide +kernel
theorem dX8_schedule_42 : decode cX8_schedule 42 = .ok (.goto 4, 3) := by decide +kernel
theorem dX8_schedule_45 : decode cX8_schedule 45 = .ok (.iconst 0, 1) := by decide +kernel
theorem dX8_schedule_46 : decode cX8_schedule 46 = .ok (.invokevirtual 117, 3) := by decide +kernel
theorem dX8_schedule_49 : decode cX8_schedule 49 = .ok (.ifCond .ne 5, 3) := by decide +kernel
theorem dX8_schedule_52 : decode cX8_schedule 52 = .ok (.iconst 0, 1) := by decide +kernel
theorem dX8_schedule_53 : decode cX8_schedule 53 = .ok (.ireturn, 1) := by decide +kernel
theorem dX8_schedule_54 : decode cX8_schedule 54 = .ok (.aload_n 0, 1) := by decide +kernel
theorem dX8_schedule_55 : decode cX8_schedule 55 = .ok (.getfield 146, 3) := by decide +kernel
theorem dX8_schedule_58 : decode cX8_schedule 58 = .ok (.bipush 12, 2) := by decide +kernel
theorem dX8_schedule_60 : decode cX8_schedule 60 = .ok (.if_icmp .ne 9, 3) := by decide +kernel
theorem dX8_schedule_63 : decode cX8_schedule 63 = .ok (.aload_n 0, 1) := by decide +kernel
theorem dX8_schedule_64 : decode cX8_schedule 64 = .ok (.iconst 2, 1) := by decide +kernel
theorem dX8_schedule_65 : decode cX8_schedule 65 = .ok (.invokevirtual 128, 3) := by decide +kernel
theorem dX8_schedule_68 : decode cX8_schedule 68 = .ok (.ireturn, 1) := by decide +kernel
theorem dX8_schedule_69 : decode cX8_schedule 69 = .ok (.aload_n 0, 1) := by decide +kernel
theorem dX8_schedule_70 : decode cX8_schedule 70 = .ok (.invokevirtual 121, 3) := by decide +kernel
theorem dX8_schedule_73 : decode cX8_schedule 73 = .ok (.aload_n 0, 1) := by decide +kernel
theorem dX8_schedule_74 : decode cX8_schedule 74 = .ok (.getfield 42, 3) := by decide +kernel
theorem dX8_schedule_77 : decode cX8_schedule 77 = .ok (.aload_n 0, 1) := by decide +kernel
theorem dX8_schedule_78 : decode cX8_schedule 78 = .ok (.getfield 146, 3) := by decide +kernel
theorem dX8_schedule_81 : decode cX8_schedule 81 = .ok (.iload_n 1, 1) := by decide +kernel
theorem dX8_schedule_82 : decode cX8_schedule 82 = .ok (.iastore, 1) := by decide +kernel
theorem dX8_schedule_83 : decode cX8_schedule 83 = .ok (.aload_n 0, 1) := by decide +kernel
theorem dX8_schedule_84 : decode cX8_schedule 84 = .ok (.getfield 45, 3) := by decide +kernel
theorem dX8_schedule_87 : decode cX8_schedule 87 = .ok (.aload_n 0, 1) := by decide +kernel
theorem dX8_schedule_88 : decode cX8_schedule 88 = .ok (.getfield 146, 3) := by decide +kernel
theorem dX8_schedule_91 : decode cX8_schedule 91 = .ok (.iload_n 1, 1) := by decide +kernel
theorem dX8_schedule_92 : decode cX8_schedule 92 = .ok (.iload_n 2, 1) := by decide +kernel
theorem dX8_schedule_93 : decode cX8_schedule 93 = .ok (.iadd, 1) := by decide +kernel
theorem dX8_schedule_94 : decode cX8_schedule 94 = .ok (.iastore, 1) := by decide +kernel
theorem dX8_schedule_95 : decode cX8_schedule 95 = .ok (.aload_n 0, 1) := by decide +kernel
theorem dX8_schedule_96 : decode cX8_schedule 96 = .ok (.getfield 48, 3) := by decide +kernel
theorem dX8_schedule_99 : decode cX8_schedule 99 = .ok (.aload_n 0, 1) := by decide +kernel
theorem dX8_schedule_100 : decode cX8_schedule 100 = .ok (.getfield 146, 3) := by decide +kernel
theorem dX8_schedule_103 : decode cX8_schedule 103 = .ok (.iload_n 3, 1) := by decide +kernel
theorem dX8_schedule_104 : decode cX8_schedule 104 = .ok (.iastore, 1) := by decide +kernel
theorem dX8_schedule_105 : decode cX8_schedule 105 = .ok (.aload_n 0, 1) := by decide +kernel
theorem dX8_schedule_106 : decode cX8_schedule 106 = .ok (.dup, 1) := by decide +kernel
theorem dX8_schedule_107 : decode cX8_schedule 107 = .ok (.getfield 146, 3) := by decide +kernel
theorem dX8_schedule_110 : decode cX8_schedule 110 = .ok (.iconst 1, 1) := by decide +kernel
theorem dX8_schedule_111 : decode cX8_schedule 111 = .ok (.iadd, 1) := by decide +kernel
theorem dX8_schedule_112 : decode cX8_schedule 112 = .ok (.putfield 146, 3) := by decide +kernel
theorem dX8_schedule_115 : decode cX8_schedule 115 = .ok (.aload_n 0, 1) := by decide +kernel
theorem dX8_schedule_116 : decode cX8_schedule 116 = .ok (.getfield 146, 3) := by decide +kernel
theorem dX8_schedule_119 : decode cX8_schedule 119 = .ok (.ireturn, 1) := by decide +kernel
theorem dX8_addEvent_0 : decode cX8_addEvent 0 = .ok (.aload_n 0, 1) := by decide +kernel
theorem dX8_addEvent_1 : decode cX8_addEvent 1 = .ok (.iload_n 1, 1) := by decide +kernel
theorem dX8_addEvent_2 : decode cX8_addEvent 2 = .ok (.aload_n 0, 1) := by decide +kernel
theorem dX8_addEvent_3 : decode cX8_addEvent 3 = .ok (.getfield 97, 3) := by decide +kernel
theorem dX8_addEvent_6 : decode cX8_addEvent 6 = .ok (.aload_n 0, 1) := by decide +kernel
theorem dX8_addEvent_7 : decode cX8_addEvent 7 = .ok (.getfield 97, 3) := by decide +kernel
theorem dX8_addEvent_10 : decode cX8_addEvent 10 = .ok (.sipush 1000, 3) := by decide +kernel
theorem dX8_addEvent_13 : decode cX8_addEvent 13 = .ok (.iadd, 1) := by decide +kernel
theorem dX8_addEvent_14 : decode cX8_addEvent 14 = .ok (.invokestatic 113, 3) := by decide +kernel
theorem dX8_addEvent_17 : decode cX8_addEvent 17 = .ok (.ifCond .eq 17, 3) := by decide +kernel
theorem dX8_addEvent_20 : decode cX8_addEvent 20 = .ok (.iload_n 2, 1) := by decide +kernel
theorem dX8_addEvent_21 : decode cX8_addEvent 21 = .ok (.iconst 1, 1) := by decide +kernel
theorem dX8_addEvent_22 : decode cX8_addEvent 22 = .ok (.bipush 50, 2) := by decide +kernel
theorem dX8_addEvent_24 : decode cX8_addEvent 24 = .ok (.invokestatic 113, 3) := by decide +kernel
theorem dX8_addEvent_27 : decode cX8_addEvent 27 = .ok (.ifCond .eq 7, 3) := by decide +kernel
theorem dX8_addEvent_30 : decode cX8_addEvent 30 = .ok (.iconst 1, 1) := by decide +kernel
theorem dX8_addEvent_31 : decode cX8_addEvent 31 = .ok (.goto 4, 3) := by decide +kernel
theorem dX8_addEvent_34 : decode cX8_addEvent 34 = .ok (.iconst 0, 1) := by decide +kernel
theorem dX8_addEvent_35 : decode cX8_addEvent 35 = .ok (.invokevirtual 117, 3) := by decide +kernel
theorem dX8_addEvent_38 : decode cX8_addEvent 38 = .ok (.ifCond .ne 5, 3) := by decide +kernel
theorem dX8_addEvent_41 : decode cX8_addEvent 41 = .ok (.iconst 0, 1) := by decide +kernel
theorem dX8_addEvent_42 : decode cX8_addEvent 42 = .ok (.ireturn, 1) := by decide +kernel
theorem dX8_addEvent_43 : decode cX8_addEvent 43 = .ok (.aload_n 0, 1) := by decide +kernel
theorem dX8_addEvent_44 : decode cX8_addEvent 44 = .ok (.getfield 149, 3) := by decide +kernel
theorem dX8_addEvent_47 : decode cX8_addEvent 47 = .ok (.bipush 12, 2) := by decide +kernel
theorem dX8_addEvent_49 : decode cX8_addEvent 49 = .ok (.if_icmp .ne 9, 3) := by decide +kernel
theorem dX8_addEvent_52 : decode cX8_addEvent 52 = .ok (.aload_n 0, 1) := by decide +kernel
theorem dX8_addEvent_53 : decode cX8_addEvent 53 = .ok (.iconst 2, 1) := by decide +kernel
theorem dX8_addEvent_54 : decode cX8_addEvent 54 = .ok (.invokevirtual 128, 3) := by decide +kernel
theorem dX8_addEvent_57 : decode cX8_addEvent 57 = .ok (.ireturn, 1) := by decide +kernel
theorem dX8_addEvent_58 : decode cX8_addEvent 58 = .ok (.aload_n 0, 1) := by decide +kernel
theorem dX8_addEvent_59 : decode cX8_addEvent 59 = .ok (.getfield 51, 3) := by decide +kernel
theorem dX8_addEvent_62 : decode cX8_addEvent 62 = .ok (.aload_n 0, 1) := by decide +kernel
theorem dX8_addEvent_63 : decode cX8_addEvent 63 = .ok (.getfield 149, 3) := by decide +kernel
theorem dX8_addEvent_66 : decode cX8_addEvent 66 = .ok (.iload_n 1, 1) := by decide +kernel
theorem dX8_addEvent_67 : decode cX8_addEvent 67 = .ok (.iastore, 1) := by decide +kernel
theorem dX8_addEvent_68 : decode cX8_addEvent 68 = .ok (.aload_n 0, 1) := by decide +kernel
theorem dX8_addEvent_69 : decode cX8_addEvent 69 = .ok (.getfield 54, 3) := by decide +kernel
theorem dX8_addEvent_72 : decode cX8_addEvent 72 = .ok (.aload_n 0, 1) := by decide +kernel
theorem dX8_addEvent_73 : decode cX8_addEvent 73 = .ok (.getfield 149, 3) := by decide +kernel
theorem dX8_addEvent_76 : decode cX8_addEvent 76 = .ok (.iload_n 2, 1) := by decide +kernel
theorem dX8_addEvent_77 : decode cX8_addEvent 77 = .ok (.iastore, 1) := by decide +kernel
theorem dX8_addEvent_78 : decode cX8_addEvent 78 = .ok (.aload_n 0, 1) := by decide +kernel
theorem dX8_addEvent_79 : decode cX8_addEvent 79 = .ok (.dup, 1) := by decide +kernel
theorem dX8_addEvent_80 : decode cX8_addEvent 80 = .ok (.getfield 149, 3) := by decide +kernel
theorem dX8_addEvent_83 : decode cX8_addEvent 83 = .ok (.iconst 1, 1) := by decide +kernel
theorem dX8_addEvent_84 : decode cX8_addEvent 84 = .ok (.iadd, 1) := by decide +kernel
theorem dX8_addEvent_85 : decode cX8_addEvent 85 = .ok (.putfield 149, 3) := by decide +kernel
theorem dX8_addEvent_88 : decode cX8_addEvent 88 = .ok (.aload_n 0, 1) := by decide +kernel
theorem dX8_addEvent_89 : decode cX8_addEvent 89 = .ok (.getfield 149, 3) := by decide +kernel
theorem dX8_addEvent_92 : decode cX8_addEvent 92 = .ok (.ireturn, 1) := by decide +kernel
theorem dX8_setRule_0 : decode cX8_setRule 0 = .ok (.aload_n 0, 1) := by decide +kernel
theorem dX8_setRule_1 : decode cX8_setRule 1 = .ok (.iload_n 1, 1) := by decide +kernel
theorem dX8_setRule_2 : decode cX8_setRule 2 = .ok (.iconst 0, 1) := by decide +kernel
theorem dX8_setRule_3 : decode cX8_setRule 3 = .ok (.iconst 2, 1) := by decide +kernel
theorem dX8_setRule_4 : decode cX8_setRule 4 = .ok (.invokestatic 113, 3) := by decide +kernel
theorem dX8_setRule_7 : decode cX8_setRule 7 = .ok (.invokevirtual 117, 3) := by decide +kernel
theorem dX8_setRule_10 : decode cX8_setRule 10 = .ok (.ifCond .ne 5, 3) := by decide +kernel
theorem dX8_setRule_13 : decode cX8_setRule 13 = .ok (.iconst 0, 1) := by decide +kernel
theorem dX8_setRule_14 : decode cX8_setRule 14 = .ok (.ireturn, 1) := by decide +kernel
theorem dX8_setRule_15 : decode cX8_setRule 15 = .ok (.aload_n 0, 1) := by decide +kernel
theorem dX8_setRule_16 : decode cX8_setRule 16 = .ok (.invokevirtual 121, 3) := by decide +kernel
theorem dX8_setRule_19 : decode cX8_setRule 19 = .ok (.aload_n 0, 1) := by decide +kernel
theorem dX8_setRule_20 : decode cX8_setRule 20 = .ok (.getfield 57, 3) := by decide +kernel
theorem dX8_setRule_23 : decode cX8_setRule 23 = .ok (.istore_n 2, 1) := by decide +kernel
theorem dX8_setRule_24 : decode cX8_setRule 24 = .ok (.aload_n 0, 1) := by decide +kernel
theorem dX8_setRule_25 : decode cX8_setRule 25 = .ok (.iload_n 1, 1) := by decide +kernel
theorem dX8_setRule_26 : decode cX8_setRule 26 = .ok (.putfield 57, 3) := by decide +kernel
theorem dX8_setRule_29 : decode cX8_setRule 29 = .ok (.iload_n 2, 1) := by decide +kernel
theorem dX8_setRule_30 : decode cX8_setRule 30 = .ok (.ireturn, 1) := by decide +kernel
theorem dX8_timers_0 : decode cX8_timers 0 = .ok (.aload_n 0, 1) := by decide +kernel
theorem dX8_timers_1 : decode cX8_timers 1 = .ok (.iconst 0, 1) := by decide +kernel
theorem dX8_timers_2 : decode cX8_timers 2 = .ok (.putfield 84, 3) := by decide +kernel
theorem dX8_timers_5 : decode cX8_timers 5 = .ok (.aload_n 0, 1) := by decide +kernel
theorem dX8_timers_6 : decode cX8_timers 6 = .ok (.getfield 146, 3) := by decide +kernel
theorem dX8_timers_9 : decode cX8_timers 9 = .ok (.ireturn, 1) := by decide +kernel
theorem dX8_next_0 : decode cX8_next 0 = .ok (.ldc 152, 2) := by decide +kernel
theorem dX8_next_2 : decode cX8_next 2 = .ok (.istore_n 1, 1) := by decide +kernel
theorem dX8_next_3 : decode cX8_next 3 = .ok (.iconst 0, 1) := by decide +kernel
theorem dX8_next_4 : decode cX8_next 4 = .ok (.istore_n 2, 1) := by decide +kernel
theorem dX8_next_5 : decode cX8_next 5 = .ok (.iload_n 2, 1) := by decide +kernel
theorem dX8_next_6 : decode cX8_next 6 = .ok (.aload_n 0, 1) := by decide +kernel
theorem dX8_next_7 : decode cX8_next 7 = .ok (.getfield 146, 3) := by decide +kernel
theorem dX8_next_10 : decode cX8_next 10 = .ok (.if_icmp .ge 30, 3) := by decide +kernel
theorem dX8_next_13 : decode cX8_next 13 = .ok (.aload_n 0, 1) := by decide +kernel
theorem dX8_next_14 : decode cX8_next 14 = .ok (.getfield 45, 3) := by decide +kernel
theorem dX8_next_17 : decode cX8_next 17 = .ok (.iload_n 2, 1) := by decide +kernel
theorem dX8_next_18 : decode cX8_next 18 = .ok (.iaload, 1) := by decide +kernel
theorem dX8_next_19 : decode cX8_next 19 = .ok (.iload_n 1, 1) := by decide +kernel
theorem dX8_next_20 : decode cX8_next 20 = .ok (.if_icmp .ge 12, 3) := by decide +kernel
theorem dX8_next_23 : decode cX8_next 23 = .ok (.aload_n 0, 1) := by decide +kernel
theorem dX8_next_24 : decode cX8_next 24 = .ok (.getfield 45, 3) := by decide +kernel
theorem dX8_next_27 : decode cX8_next 27 = .ok (.iload_n 2, 1) := by decide +kernel
theorem dX8_next_28 : decode cX8_next 28 = .ok (.iaload, 1) := by decide +kernel
theorem dX8_next_29 : decode cX8_next 29 = .ok (.goto 4, 3) := by decide +kernel
theorem dX8_next_32 : decode cX8_next 32 = .ok (.iload_n 1, 1) := by decide +kernel
theorem dX8_next_33 : decode cX8_next 33 = .ok (.istore_n 1, 1) := by decide +kernel
theorem dX8_next_34 : decode cX8_next 34 = .ok (.iinc 2 1, 3) := by decide +kernel
theorem dX8_next_37 : decode cX8_next 37 = .ok (.goto (-32), 3) := by decide +kernel
theorem dX8_next_40 : decode cX8_next 40 = .ok (.iload_n 1, 1) := by decide +kernel
theorem dX8_next_41 : decode cX8_next 41 = .ok (.ireturn, 1) := by decide +kernel
theorem dX8_nextWakeup_0 : decode cX8_nextWakeup 0 = .ok (.aload_n 0, 1) := by decide +kernel
theorem dX8_nextWakeup_1 : decode cX8_nextWakeup 1 = .ok (.iconst 0, 1) := by decide +kernel
theorem dX8_nextWakeup_2 : decode cX8_nextWakeup 2 = .ok (.putfield 84, 3) := by decide +kernel
theorem dX8_nextWakeup_5 : decode cX8_nextWakeup 5 = .ok (.aload_n 0, 1) := by decide +kernel
theorem dX8_nextWakeup_6 : decode cX8_nextWakeup 6 = .ok (.getfield 146, 3) := by decide +kernel
theorem dX8_nextWakeup_9 : decode cX8_nextWakeup 9 = .ok (.ifCond .ne 7, 3) := by decide +kernel
theorem dX8_nextWakeup_12 : decode cX8_nextWakeup 12 = .ok (.iconst (-1), 1) := by decide +kernel
theorem dX8_nextWakeup_13 : decode cX8_nextWakeup 13 = .ok (.goto 7, 3) := by decide +kernel
theorem dX8_nextWakeup_16 : decode cX8_nextWakeup 16 = .ok (.aload_n 0, 1) := by decide +kernel
theorem dX8_nextWakeup_17 : decode cX8_nextWakeup 17 = .ok (.invokevirtual 153, 3) := by decide +kernel
theorem dX8_nextWakeup_20 : decode cX8_nextWakeup 20 = .ok (.ireturn, 1) := by decide +kernel
theorem dX8_isEvent_0 : decode cX8_isEvent 0 = .ok (.iconst 0, 1) := by decide +kernel
theorem dX8_isEvent_1 : decode cX8_isEvent 1 = .ok (.istore_n 1, 1) := by decide +kernel
theorem dX8_isEvent_2 : decode cX8_isEvent 2 = .ok (.iconst 0, 1) := by decide +kernel
theorem dX8_isEvent_3 : decode cX8_isEvent 3 = .ok (.istore_n 2, 1) := by decide +kernel
theorem dX8_isEvent_4 : decode cX8_isEvent 4 = .ok (.iload_n 2, 1) := by decide +kernel
theorem dX8_isEvent_5 : decode cX8_isEvent 5 = .ok (.aload_n 0, 1) := by decide +kernel
