theorem dX12_waysOfCall_0 : decode cX12_waysOfCall 0 = .ok (.aload_n 0, 1) := by decide +kernel
theorem dX12_waysOfCall_1 : decode cX12_waysOfCall 1 = .ok (.getfield 235, 3) := by decide +kernel
theorem dX12_waysOfCall_4 : decode cX12_waysOfCall 4 = .ok (.sipush 639, 3) := by decide +kernel
theorem dX12_waysOfCall_7 : decode cX12_waysOfCall 7 = .ok (.iaload, 1) := by decide +kernel
theorem dX12_waysOfCall_8 : decode cX12_waysOfCall 8 = .ok (.istore_n 2, 1) := by decide +kernel
theorem dX12_waysOfCall_9 : decode cX12_waysOfCall 9 = .ok (.aload_n 0, 1) := by decide +kernel
theorem dX12_waysOfCall_10 : decode cX12_waysOfCall 10 = .ok (.iload_n 2, 1) := by decide +kernel
theorem dX12_waysOfCall_11 : decode cX12_waysOfCall 11 = .ok (.iload_n 1, 1) := by decide +kernel
theorem dX12_waysOfCall_12 : decode cX12_waysOfCall 12 = .ok (.isub, 1) := by decide +kernel
theorem dX12_waysOfCall_13 : decode cX12_waysOfCall 13 = .ok (.iconst 1, 1) := by decide +kernel
theorem dX12_waysOfCall_14 : decode cX12_waysOfCall 14 = .ok (.isub, 1) := by decide +kernel
theorem dX12_waysOfCall_15 : decode cX12_waysOfCall 15 = .ok (.iload_n 2, 1) := by decide +kernel
theorem dX12_waysOfCall_16 : decode cX12_waysOfCall 16 = .ok (.iload_n 1, 1) := by decide +kernel
theorem dX12_waysOfCall_17 : decode cX12_waysOfCall 17 = .ok (.isub, 1) := by decide +kernel
theorem dX12_waysOfCall_18 : decode cX12_waysOfCall 18 = .ok (.iconst 2, 1) := by decide +kernel
theorem dX12_waysOfCall_19 : decode cX12_waysOfCall 19 = .ok (.isub, 1) := by decide +kernel
theorem dX12_waysOfCall_20 : decode cX12_waysOfCall 20 = .ok (.iload_n 2, 1) := by decide +kernel
theorem dX12_waysOfCall_21 : decode cX12_waysOfCall 21 = .ok (.iload_n 1, 1) := by decide +kernel
theorem dX12_waysOfCall_22 : decode cX12_waysOfCall 22 = .ok (.isub, 1) := by decide +kernel
theorem dX12_waysOfCall_23 : decode cX12_waysOfCall 23 = .ok (.iload_n 1, 1) := by decide +kernel
theorem dX12_waysOfCall_24 : decode cX12_waysOfCall 24 = .ok (.iload_n 1, 1) := by decide +kernel
theorem dX12_waysOfCall_25 : decode cX12_waysOfCall 25 = .ok (.iconst 2, 1) := by decide +kernel
theorem dX12_waysOfCall_26 : decode cX12_waysOfCall 26 = .ok (.iadd, 1) := by decide +kernel
theorem dX12_waysOfCall_27 : decode cX12_waysOfCall 27 = .ok (.invokevirtual 1320, 3) := by decide +kernel
theorem dX12_waysOfCall_30 : decode cX12_waysOfCall 30 = .ok (.return_, 1) := by decide +kernel
theorem dX12_waysOfNew_0 : decode cX12_waysOfNew 0 = .ok (.aload_n 0, 1) := by decide +kernel
theorem dX12_waysOfNew_1 : decode cX12_waysOfNew 1 = .ok (.getfield 235, 3) := by decide +kernel
theorem dX12_waysOfNew_4 : decode cX12_waysOfNew 4 = .ok (.sipush 639, 3) := by decide +kernel
theorem dX12_waysOfNew_7 : decode cX12_waysOfNew 7 = .ok (.iaload, 1) := by decide +kernel
theorem dX12_waysOfNew_8 : decode cX12_waysOfNew 8 = .ok (.istore_n 3, 1) := by decide +kernel
theorem dX12_waysOfNew_9 : decode cX12_waysOfNew 9 = .ok (.aload_n 0, 1) := by decide +kernel
theorem dX12_waysOfNew_10 : decode cX12_waysOfNew 10 = .ok (.iload_n 1, 1) := by decide +kernel
theorem dX12_waysOfNew_11 : decode cX12_waysOfNew 11 = .ok (.invokevirtual 1195, 3) := by decide +kernel
theorem dX12_waysOfNew_14 : decode cX12_waysOfNew 14 = .ok (.istore 4, 2) := by decide +kernel
theorem dX12_waysOfNew_16 : decode cX12_waysOfNew 16 = .ok (.aload_n 0, 1) := by decide +kernel
theorem dX12_waysOfNew_17 : decode cX12_waysOfNew 17 = .ok (.getfield 220, 3) := by decide +kernel
theorem dX12_waysOfNew_20 : decode cX12_waysOfNew 20 = .ok (.iload 4, 2) := by decide +kernel
theorem dX12_waysOfNew_22 : decode cX12_waysOfNew 22 = .ok (.laload, 1) := by decide +kernel
theorem dX12_waysOfNew_23 : decode cX12_waysOfNew 23 = .ok (.lstore 5, 2) := by decide +kernel
theorem dX12_waysOfNew_25 : decode cX12_waysOfNew 25 = .ok (.aload_n 0, 1) := by decide +kernel
theorem dX12_waysOfNew_26 : decode cX12_waysOfNew 26 = .ok (.getfield 223, 3) := by decide +kernel
theorem dX12_waysOfNew_29 : decode cX12_waysOfNew 29 = .ok (.iload 4, 2) := by decide +kernel
theorem dX12_waysOfNew_31 : decode cX12_waysOfNew 31 = .ok (.laload, 1) := by decide +kernel
theorem dX12_waysOfNew_32 : decode cX12_waysOfNew 32 = .ok (.lstore 7, 2) := by decide +kernel
theorem dX12_waysOfNew_34 : decode cX12_waysOfNew 34 = .ok (.aload_n 0, 1) := by decide +kernel
theorem dX12_waysOfNew_35 : decode cX12_waysOfNew 35 = .ok (.iload 4, 2) := by decide +kernel
theorem dX12_waysOfNew_37 : decode cX12_waysOfNew 37 = .ok (.invokevirtual 1059, 3) := by decide +kernel
theorem dX12_waysOfNew_40 : decode cX12_waysOfNew 40 = .ok (.ifCond .eq 7, 3) := by decide +kernel
theorem dX12_waysOfNew_43 : decode cX12_waysOfNew 43 = .ok (.iconst 1, 1) := by decide +kernel
theorem dX12_waysOfNew_44 : decode cX12_waysOfNew 44 = .ok (.goto 4, 3) := by decide +kernel
theorem dX12_waysOfNew_47 : decode cX12_waysOfNew 47 = .ok (.iconst 0, 1) := by decide +kernel
theorem dX12_waysOfNew_48 : decode cX12_waysOfNew 48 = .ok (.istore 9, 2) := by decide +kernel
theorem dX12_waysOfNew_50 : decode cX12_waysOfNew 50 = .ok (.iconst 0, 1) := by decide +kernel
theorem dX12_waysOfNew_51 : decode cX12_waysOfNew 51 = .ok (.istore 10, 2) := by decide +kernel
theorem dX12_waysOfNew_53 : decode cX12_waysOfNew 53 = .ok (.iconst 0, 1) := by decide +kernel
theorem dX12_waysOfNew_54 : decode cX12_waysOfNew 54 = .ok (.istore 11, 2) := by decide +kernel
theorem dX12_waysOfNew_56 : decode cX12_waysOfNew 56 = .ok (.iload 11, 2) := by decide +kernel
theorem dX12_waysOfNew_58 : decode cX12_waysOfNew 58 = .ok (.aload_n 0, 1) := by decide +kernel
theorem dX12_waysOfNew_59 : decode cX12_waysOfNew 59 = .ok (.getfield 765, 3) := by decide +kernel
theorem dX12_waysOfNew_62 : decode cX12_waysOfNew 62 = .ok (.if_icmp .ge 99, 3) := by decide +kernel
theorem dX12_waysOfNew_65 : decode cX12_waysOfNew 65 = .ok (.lload 5, 2) := by decide +kernel
theorem dX12_waysOfNew_67 : decode cX12_waysOfNew 67 = .ok (.lload 7, 2) := by decide +kernel
theorem dX12_waysOfNew_69 : decode cX12_waysOfNew 69 = .ok (.iload 11, 2) := by decide +kernel
theorem dX12_waysOfNew_71 : decode cX12_waysOfNew 71 = .ok (.invokestatic 1125, 3) := by decide +kernel
theorem dX12_waysOfNew_74 : decode cX12_waysOfNew 74 = .ok (.ifCond .ne 6, 3) := by decide +kernel
theorem dX12_waysOfNew_77 : decode cX12_waysOfNew 77 = .ok (.goto 78, 3) := by decide +kernel
theorem dX12_waysOfNew_80 : decode cX12_waysOfNew 80 = .ok (.aload_n 0, 1) := by decide +kernel
theorem dX12_waysOfNew_81 : decode cX12_waysOfNew 81 = .ok (.iload 11, 2) := by decide +kernel
theorem dX12_waysOfNew_83 : decode cX12_waysOfNew 83 = .ok (.invokevirtual 1326, 3) := by decide +kernel
theorem dX12_waysOfNew_86 : decode cX12_waysOfNew 86 = .ok (.ifCond .gt 24, 3) := by decide +kernel
theorem dX12_waysOfNew_89 : decode cX12_waysOfNew 89 = .ok (.iload 11, 2) := by decide +kernel
theorem dX12_waysOfNew_91 : decode cX12_waysOfNew 91 = .ok (.bipush 10, 2) := by decide +kernel
theorem dX12_waysOfNew_93 : decode cX12_waysOfNew 93 = .ok (.if_icmp .lt 21, 3) := by decide +kernel
theorem dX12_waysOfNew_96 : decode cX12_waysOfNew 96 = .ok (.iload 11, 2) := by decide +kernel
theorem dX12_waysOfNew_98 : decode cX12_waysOfNew 98 = .ok (.bipush 17, 2) := by decide +kernel
theorem dX12_waysOfNew_100 : decode cX12_waysOfNew 100 = .ok (.if_icmp .gt 14, 3) := by decide +kernel
theorem dX12_waysOfNew_103 : decode cX12_waysOfNew 103 = .ok (.iload 11, 2) := by decide +kernel
theorem dX12_waysOfNew_105 : decode cX12_waysOfNew 105 = .ok (.bipush 13, 2) := by decide +kernel
theorem dX12_waysOfNew_107 : decode cX12_waysOfNew 107 = .ok (.if_icmp .eq 7, 3) := by decide +kernel
theorem dX12_waysOfNew_110 : decode cX12_waysOfNew 110 = .ok (.iconst 1, 1) := by decide +kernel
theorem dX12_waysOfNew_111 : decode cX12_waysOfNew 111 = .ok (.goto 4, 3) := by decide +kernel
theorem dX12_waysOfNew_114 : decode cX12_waysOfNew 114 = .ok (.iconst 0, 1) := by decide +kernel
theorem dX12_waysOfNew_115 : decode cX12_waysOfNew 115 = .ok (.istore 12, 2) := by decide +kernel
theorem dX12_waysOfNew_117 : decode cX12_waysOfNew 117 = .ok (.iload 9, 2) := by decide +kernel
theorem dX12_waysOfNew_119 : decode cX12_waysOfNew 119 = .ok (.ifCond .ne 8, 3) := by decide +kernel
theorem dX12_waysOfNew_122 : decode cX12_waysOfNew 122 = .ok (.iload 12, 2) := by decide +kernel
theorem dX12_waysOfNew_124 : decode cX12_waysOfNew 124 = .ok (.ifCond .ne 7, 3) := by decide +kernel
theorem dX12_waysOfNew_127 : decode cX12_waysOfNew 127 = .ok (.iconst 1, 1) := by decide +kernel
theorem dX12_waysOfNew_128 : decode cX12_waysOfNew 128 = .ok (.goto 4, 3) := by decide +kernel
theorem dX12_waysOfNew_131 : decode cX12_waysOfNew 131 = .ok (.iconst 0, 1) := by decide +kernel
theorem dX12_waysOfNew_132 : decode cX12_waysOfNew 132 = .ok (.istore 9, 2) := by decide +kernel
theorem dX12_waysOfNew_134 : decode cX12_waysOfNew 134 = .ok (.iload 10, 2) := by decide +kernel
theorem dX12_waysOfNew_136 : decode cX12_waysOfNew 136 = .ok (.ifCond .ne 12, 3) := by decide +kernel
theorem dX12_waysOfNew_139 : decode cX12_waysOfNew 139 = .ok (.aload_n 0, 1) := by decide +kernel
theorem dX12_waysOfNew_140 : decode cX12_waysOfNew 140 = .ok (.iload 11, 2) := by decide +kernel
theorem dX12_waysOfNew_142 : decode cX12_waysOfNew 142 = .ok (.invokevirtual 1326, 3) := by decide +kernel
theorem dX12_waysOfNew_145 : decode cX12_waysOfNew 145 = .ok (.ifCond .le 7, 3) := by decide +kernel
theorem dX12_waysOfNew_148 : decode cX12_waysOfNew 148 = .ok (.iconst 1, 1) := by decide +kernel
theorem dX12_waysOfNew_149 : decode cX12_waysOfNew 149 = .ok (.goto 4, 3) := by decide +kernel
theorem dX12_waysOfNew_152 : decode cX12_waysOfNew 152 = .ok (.iconst 0, 1) := by decide +kernel
theorem dX12_waysOfNew_153 : decode cX12_waysOfNew 153 = .ok (.istore 10, 2) := by decide +kernel
theorem dX12_waysOfNew_155 : decode cX12_waysOfNew 155 = .ok (.iinc 11 1, 3) := by decide +kernel
theorem dX12_waysOfNew_158 : decode cX12_waysOfNew 158 = .ok (.goto (-102), 3) := by decide +kernel
theorem dX12_waysOfNew_161 : decode cX12_waysOfNew 161 = .ok (.iload 9, 2) := by decide +kernel
theorem dX12_waysOfNew_163 : decode cX12_waysOfNew 163 = .ok (.ifCond .eq 13, 3) := by decide +kernel
theorem dX12_waysOfNew_166 : decode cX12_waysOfNew 166 = .ok (.aload_n 0, 1) := by decide +kernel
theorem dX12_waysOfNew_167 : decode cX12_waysOfNew 167 = .ok (.aload_n 0, 1) := by decide +kernel
theorem dX12_waysOfNew_168 : decode cX12_waysOfNew 168 = .ok (.getfield 1188, 3) := by decide +kernel
theorem dX12_waysOfNew_171 : decode cX12_waysOfNew 171 = .ok (.bipush 6, 2) := by decide +kernel
theorem dX12_waysOfNew_173 : decode cX12_waysOfNew 173 = .ok (.invokevirtual 1292, 3) := by decide +kernel
theorem dX12_waysOfNew_176 : decode cX12_waysOfNew 176 = .ok (.bipush 10, 2) := by decide +kernel
theorem dX12_waysOfNew_178 : decode cX12_waysOfNew 178 = .ok (.istore 11, 2) := by decide +kernel
theorem dX12_waysOfNew_180 : decode cX12_waysOfNew 180 = .ok (.iload 11, 2) := by decide +kernel
theorem dX12_waysOfNew_182 : decode cX12_waysOfNew 182 = .ok (.bipush 18, 2) := by decide +kernel
theorem dX12_waysOfNew_184 : decode cX12_waysOfNew 184 = .ok (.if_icmp .ge 42, 3) := by decide +kernel
theorem dX12_waysOfNew_187 : decode cX12_waysOfNew 187 = .ok (.iload 11, 2) := by decide +kernel
theorem dX12_waysOfNew_189 : decode cX12_waysOfNew 189 = .ok (.bipush 13, 2) := by decide +kernel
theorem dX12_waysOfNew_191 : decode cX12_waysOfNew 191 = .ok (.if_icmp .eq 29, 3) := by decide +kernel
theorem dX12_waysOfNew_194 : decode cX12_waysOfNew 194 = .ok (.lload 5, 2) := by decide +kernel
theorem dX12_waysOfNew_196 : decode cX12_waysOfNew 196 = .ok (.lload 7, 2) := by decide +kernel
theorem dX12_waysOfNew_198 : decode cX12_waysOfNew 198 = .ok (.iload 11, 2) := by decide +kernel
theorem dX12_waysOfNew_200 : decode cX12_waysOfNew 200 = .ok (.invokestatic 1125, 3) := by decide +kernel
theorem dX12_waysOfNew_203 : decode cX12_waysOfNew 203 = .ok (.ifCond .eq 17, 3) := by decide +kernel
theorem dX12_waysOfNew_206 : decode cX12_waysOfNew 206 = .ok (.aload_n 0, 1) := by decide +kernel
theorem dX12_waysOfNew_207 : decode cX12_waysOfNew 207 = .ok (.iload 11, 2) := by decide +kernel
theorem dX12_waysOfNew_209 : decode cX12_waysOfNew 209 = .ok (.iconst (-1), 1) := by decide +kernel
theorem dX12_waysOfNew_210 : decode cX12_waysOfNew 210 = .ok (.iload_n 3, 1) := by decide +kernel
theorem dX12_waysOfNew_211 : decode cX12_waysOfNew 211 = .ok (.iload_n 1, 1) := by decide +kernel
theorem dX12_waysOfNew_212 : decode cX12_waysOfNew 212 = .ok (.isub, 1) := by decide +kernel
theorem dX12_waysOfNew_213 : decode cX12_waysOfNew 213 = .ok (.iload_n 1, 1) := by decide +kernel
theorem dX12_waysOfNew_214 : decode cX12_waysOfNew 214 = .ok (.iload_n 1, 1) := by decide +kernel
theorem dX12_waysOfNew_215 : decode cX12_waysOfNew 215 = .ok (.iconst 1, 1) := by decide +kernel
theorem dX12_waysOfNew_216 : decode cX12_waysOfNew 216 = .ok (.iadd, 1) := by decide +kernel
theorem dX12_waysOfNew_217 : decode cX12_waysOfNew 217 = .ok (.invokevirtual 1329, 3) := by decide +kernel
theorem dX12_waysOfNew_220 : decode cX12_waysOfNew 220 = .ok (.iinc 11 1, 3) := by decide +kernel
theorem dX12_waysOfNew_223 : decode cX12_waysOfNew 223 = .ok (.goto (-43), 3) := by decide +kernel
theorem dX12_waysOfNew_226 : decode cX12_waysOfNew 226 = .ok (.iload 10, 2) := by decide +kernel
theorem dX12_waysOfNew_228 : decode cX12_waysOfNew 228 = .ok (.ifCond .eq 18, 3) := by decide +kernel
theorem dX12_waysOfNew_231 : decode cX12_waysOfNew 231 = .ok (.aload_n 0, 1) := by decide +kernel
theorem dX12_waysOfNew_232 : decode cX12_waysOfNew 232 = .ok (.lload 5, 2) := by decide +kernel
theorem dX12_waysOfNew_234 : decode cX12_waysOfNew 234 = .ok (.lload 7, 2) := by decide +kernel
theorem dX12_waysOfNew_236 : decode cX12_waysOfNew 236 = .ok (.iload_n 2, 1) := by decide +kernel
theorem dX12_waysOfNew_237 : decode cX12_waysOfNew 237 = .ok (.invokevirtual 1336, 3) := by decide +kernel
theorem dX12_waysOfNew_240 : decode cX12_waysOfNew 240 = .ok (.aload_n 0, 1) := by decide +kernel
theorem dX12_waysOfNew_241 : decode cX12_waysOfNew 241 = .ok (.bipush 8, 2) := by decide +kernel
theorem dX12_waysOfNew_243 : decode cX12_waysOfNew 243 = .ok (.invokevirtual 1214, 3) := by decide +kernel
theorem dX12_waysOfNew_246 : decode cX12_waysOfNew 246 = .ok (.iconst 1, 1) := by decide +kernel
theorem dX12_waysOfNew_247 : decode cX12_waysOfNew 247 = .ok (.istore 11, 2) := by decide +kernel
theorem dX12_waysOfNew_249 : decode cX12_waysOfNew 249 = .ok (.iload 11, 2) := by decide +kernel
theorem dX12_waysOfNew_251 : decode cX12_waysOfNew 251 = .ok (.aload_n 0, 1) := by decide +kernel
theorem dX12_waysOfNew_252 : decode cX12_waysOfNew 252 = .ok (.getfield 527, 3) := by decide +kernel
theorem dX12_waysOfNew_255 : decode cX12_waysOfNew 255 = .ok (.if_icmp .ge 28, 3) := by decide +kernel
theorem dX12_waysOfNew_258 : decode cX12_waysOfNew 258 = .ok (.aload_n 0, 1) := by decide +kernel
theorem dX12_waysOfNew_259 : decode cX12_waysOfNew 259 = .ok (.iload 11, 2) := by decide +kernel
theorem dX12_waysOfNew_261 : decode cX12_waysOfNew 261 = .ok (.lload 5, 2) := by decide +kernel
theorem dX12_waysOfNew_263 : decode cX12_waysOfNew 263 = .ok (.lload 7, 2) := by decide +kernel
theorem dX12_waysOfNew_265 : decode cX12_waysOfNew 265 = .ok (.iconst (-1), 1) := by decide +kernel
theorem dX12_waysOfNew_266 : decode cX12_waysOfNew 266 = .ok (.iload_n 3, 1) := by decide +kernel
theorem dX12_waysOfNew_267 : decode cX12_waysOfNew 267 = .ok (.iload_n 1, 1) := by decide +kernel
theorem dX12_waysOfNew_268 : decode cX12_waysOfNew 268 = .ok (.isub, 1) := by decide +kernel
theorem dX12_waysOfNew_269 : decode cX12_waysOfNew 269 = .ok (.iload_n 1, 1) := by decide +kernel
theorem dX12_waysOfNew_270 : decode cX12_waysOfNew 270 = .ok (.iload_n 1, 1) := by decide +kernel
theorem dX12_waysOfNew_271 : decode cX12_waysOfNew 271 = .ok (.iconst 1, 1) := by decide +kernel
theorem dX12_waysOfNew_272 : decode cX12_waysOfNew 272 = .ok (.iadd, 1) := by decide +kernel
theorem dX12_waysOfNew_273 : decode cX12_waysOfNew 273 = .ok (.iload_n 2, 1) := by decide +kernel
theorem dX12_waysOfNew_274 : decode cX12_waysOfNew 274 = .ok (.invokevirtual 1332, 3) := by decide +kernel
theorem dX12_waysOfNew_277 : decode cX12_waysOfNew 277 = .ok (.iinc 11 1, 3) := by decide +kernel
theorem dX12_waysOfNew_280 : decode cX12_waysOfNew 280 = .ok (.goto (-31), 3) := by decide +kernel
theorem dX12_waysOfNew_283 : decode cX12_waysOfNew 283 = .ok (.return_, 1) := by decide +kernel
theorem dX12_waysOfOther_0 : decode cX12_waysOfOther 0 = .ok (.ldc_w 1218, 3) := by decide +kernel
theorem dX12_waysOfOther_3 : decode cX12_waysOfOther 3 = .ok (.istore_n 3, 1) := by decide +kernel
theorem dX12_waysOfOther_4 : decode cX12_waysOfOther 4 = .ok (.aload_n 0, 1) := by decide +kernel
theorem dX12_waysOfOther_5 : decode cX12_waysOfOther 5 = .ok (.getfield 235, 3) := by decide +kernel
theorem dX12_waysOfOther_8 : decode cX12_waysOfOther 8 = .ok (.sipush 639, 3) := by decide +kernel
theorem dX12_waysOfOther_11 : decode cX12_waysOfOther 11 = .ok (.iaload, 1) := by decide +kernel
theorem dX12_waysOfOther_12 : decode cX12_waysOfOther 12 = .ok (.ifCond .le 13, 3) := by decide +kernel
theorem dX12_waysOfOther_15 : decode cX12_waysOfOther 15 = .ok (.aload_n 0, 1) := by decide +kernel
theorem dX12_waysOfOther_16 : decode cX12_waysOfOther 16 = .ok (.aload_n 0, 1) := by decide +kernel
theorem dX12_waysOfOther_17 : decode cX12_waysOfOther 17 = .ok (.iconst 0, 1) := by decide +kernel
theorem dX12_waysOfOther_18 : decode cX12_waysOfOther 18 = .ok (.invokevirtual 1195, 3) := by decide +kernel
theorem dX12_waysOfOther_21 : decode cX12_waysOfOther 21 = .ok (.iload_n 3, 1) := by decide +kernel
theorem dX12_waysOfOther_22 : decode cX12_waysOfOther 22 = .ok (.invokevirtual 1092, 3) := by decide +kernel
theorem dX12_waysOfOther_25 : decode cX12_waysOfOther 25 = .ok (.iload_n 1, 1) := by decide +kernel
theorem dX12_waysOfOther_26 : decode cX12_waysOfOther 26 = .ok (.tableswitch 343 17 29 #[66, 85, 101, 130, 186, 194, 194, 194, 204, 245, 252, 308, 327], 66) := by decide +kernel
theorem dX12_waysOfOther_92 : decode cX12_waysOfOther 92 = .ok (.aload_n 0, 1) := by decide +kernel
theorem dX12_waysOfOther_93 : decode cX12_waysOfOther 93 = .ok (.getfield 235, 3) := by decide +kernel
theorem dX12_waysOfOther_96 : decode cX12_waysOfOther 96 = .ok (.sipush 639, 3) := by decide +kernel
theorem dX12_waysOfOther_99 : decode cX12_waysOfOther 99 = .ok (.dup2, 1) := by decide +kernel
theorem dX12_waysOfOther_100 : decode cX12_waysOfOther 100 = .ok (.iaload, 1) := by decide +kernel
theorem dX12_waysOfOther_101 : decode cX12_waysOfOther 101 = .ok (.iconst 1, 1) := by decide +kernel
theorem dX12_waysOfOther_102 : decode cX12_waysOfOther 102 = .ok (.isub, 1) := by decide +kernel
theorem dX12_waysOfOther_103 : decode cX12_waysOfOther 103 = .ok (.iastore, 1) := by decide +kernel
theorem dX12_waysOfOther_104 : decode cX12_waysOfOther 104 = .ok (.aload_n 0, 1) := by decide +kernel
theorem dX12_waysOfOther_105 : decode cX12_waysOfOther 105 = .ok (.invokevirtual 1222, 3) := by decide +kernel
theorem dX12_waysOfOther_108 : decode cX12_waysOfOther 108 = .ok (.goto 291, 3) := by decide +kernel
theorem dX12_waysOfOther_111 : decode cX12_waysOfOther 111 = .ok (.aload_n 0, 1) := by decide +kernel
theorem dX12_waysOfOther_112 : decode cX12_waysOfOther 112 = .ok (.iload_n 3, 1) := by decide +kernel
theorem dX12_waysOfOther_113 : decode cX12_waysOfOther 113 = .ok (.aload_n 0, 1) := by decide +kernel
theorem dX12_waysOfOther_114 : decode cX12_waysOfOther 114 = .ok (.invokevirtual 1201, 3) := by decide +kernel
theorem dX12_waysOfOther_117 : decode cX12_waysOfOther 117 = .ok (.invokevirtual 1092, 3) := by decide +kernel
theorem dX12_waysOfOther_120 : decode cX12_waysOfOther 120 = .ok (.aload_n 0, 1) := by decide +kernel
theorem dX12_waysOfOther_121 : decode cX12_waysOfOther 121 = .ok (.invokevirtual 1222, 3) := by decide +kernel
theorem dX12_waysOfOther_124 : decode cX12_waysOfOther 124 = .ok (.goto 275, 3) := by decide +kernel
theorem dX12_waysOfOther_127 : decode cX12_waysOfOther 127 = .ok (.aload_n 0, 1) := by decide +kernel
theorem dX12_waysOfOther_128 : decode cX12_waysOfOther 128 = .ok (.aload_n 0, 1) := by decide +kernel
theorem dX12_waysOfOther_129 : decode cX12_waysOfOther 129 = .ok (.iconst 1, 1) := by decide +kernel
theorem dX12_waysOfOther_130 : decode cX12_waysOfOther 130 = .ok (.invokevirtual 1195, 3) := by decide +kernel
theorem dX12_waysOfOther_133 : decode cX12_waysOfOther 133 = .ok (.aload_n 0, 1) := by decide +kernel
theorem dX12_waysOfOther_134 : decode cX12_waysOfOther 134 = .ok (.invokevirtual 1201, 3) := by decide +kernel
theorem dX12_waysOfOther_137 : decode cX12_waysOfOther 137 = .ok (.invokevirtual 1092, 3) := by decide +kernel
theorem dX12_waysOfOther_140 : decode cX12_waysOfOther 140 = .ok (.aload_n 0, 1) := by decide +kernel
theorem dX12_waysOfOther_141 : decode cX12_waysOfOther 141 = .ok (.iload_n 3, 1) := by decide +kernel
theorem dX12_waysOfOther_142 : decode cX12_waysOfOther 142 = .ok (.aload_n 0, 1) := by decide +kernel
theorem dX12_waysOfOther_143 : decode cX12_waysOfOther 143 = .ok (.invokevirtual 1201, 3) := by decide +kernel
theorem dX12_waysOfOther_146 : decode cX12_waysOfOther 146 = .ok (.invokevirtual 1092, 3) := by decide +kernel
theorem dX12_waysOfOther_149 : decode cX12_waysOfOther 149 = .ok (.aload_n 0, 1) := by decide +kernel
theorem dX12_waysOfOther_150 : decode cX12_waysOfOther 150 = .ok (.invokevirtual 1222, 3) := by decide +kernel
theorem dX12_waysOfOther_153 : decode cX12_waysOfOther 153 = .ok (.goto 246, 3) := by decide +kernel
theorem dX12_waysOfOther_156 : decode cX12_waysOfOther 156 = .ok (.aload_n 0, 1) := by decide +kernel
theorem dX12_waysOfOther_157 : decode cX12_waysOfOther 157 = .ok (.invokevirtual 1201, 3) := by decide +kernel
theorem dX12_waysOfOther_160 : decode cX12_waysOfOther 160 = .ok (.istore 4, 2) := by decide +kernel
theorem dX12_waysOfOther_162 : decode cX12_waysOfOther 162 = .ok (.aload_n 0, 1) := by decide +kernel
theorem dX12_waysOfOther_163 : decode cX12_waysOfOther 163 = .ok (.iload 4, 2) := by decide +kernel
theorem dX12_waysOfOther_165 : decode cX12_waysOfOther 165 = .ok (.iconst 1, 1) := by decide +kernel
theorem dX12_waysOfOther_166 : decode cX12_waysOfOther 166 = .ok (.isub, 1) := by decide +kernel
theorem dX12_waysOfOther_167 : decode cX12_waysOfOther 167 = .ok (.iload 4, 2) := by decide +kernel
theorem dX12_waysOfOther_169 : decode cX12_waysOfOther 169 = .ok (.invokevirtual 1092, 3) := by decide +kernel
theorem dX12_waysOfOther_172 : decode cX12_waysOfOther 172 = .ok (.aload_n 0, 1) := by decide +kernel
theorem dX12_waysOfOther_173 : decode cX12_waysOfOther 173 = .ok (.iload 4, 2) := by decide +kernel
theorem dX12_waysOfOther_175 : decode cX12_waysOfOther 175 = .ok (.iconst 2, 1) := by decide +kernel
theorem dX12_waysOfOther_176 : decode cX12_waysOfOther 176 = .ok (.isub, 1) := by decide +kernel
theorem dX12_waysOfOther_177 : decode cX12_waysOfOther 177 = .ok (.iload 4, 2) := by decide +kernel
theorem dX12_waysOfOther_179 : decode cX12_waysOfOther 179 = .ok (.iconst 1, 1) := by decide +kernel
theorem dX12_waysOfOther_180 : decode cX12_waysOfOther 180 = .ok (.isub, 1) := by decide +kernel
theorem dX12_waysOfOther_181 : decode cX12_waysOfOther 181 = .ok (.invokevirtual 1092, 3) := by decide +kernel
theorem dX12_waysOfOther_184 : decode cX12_waysOfOther 184 = .ok (.aload_n 0, 1) := by decide +kernel
theorem dX12_waysOfOther_185 : decode cX12_waysOfOther 185 = .ok (.iload 4, 2) := by decide +kernel
theorem dX12_waysOfOther_187 : decode cX12_waysOfOther 187 = .ok (.iconst 3, 1) := by decide +kernel
theorem dX12_waysOfOther_188 : decode cX12_waysOfOther 188 = .ok (.isub, 1) := by decide +kernel
theorem dX12_waysOfOther_189 : decode cX12_waysOfOther 189 = .ok (.iload 4, 2) := by decide +kernel
theorem dX12_waysOfOther_191 : decode cX12_waysOfOther 191 = .ok (.iconst 2, 1) := by decide +kernel
theorem dX12_waysOfOther_192 : decode cX12_waysOfOther 192 = .ok (.isub, 1) := by decide +kernel
theorem dX12_waysOfOther_193 : decode cX12_waysOfOther 193 = .ok (.invokevirtual 1092, 3) := by decide +kernel
theorem dX12_waysOfOther_196 : decode cX12_waysOfOther 196 = .ok (.aload_n 0, 1) := by decide +kernel
theorem dX12_waysOfOther_197 : decode cX12_waysOfOther 197 = .ok (.iload_n 3, 1) := by decide +kernel
theorem dX12_waysOfOther_198 : decode cX12_waysOfOther 198 = .ok (.iload 4, 2) := by decide +kernel
theorem dX12_waysOfOther_200 : decode cX12_waysOfOther 200 = .ok (.iconst 3, 1) := by decide +kernel
theorem dX12_waysOfOther_201 : decode cX12_waysOfOther 201 = .ok (.isub, 1) := by decide +kernel
theorem dX12_waysOfOther_202 : decode cX12_waysOfOther 202 = .ok (.invokevirtual 1092, 3) := by decide +kernel
theorem dX12_waysOfOther_205 : decode cX12_waysOfOther 205 = .ok (.aload_n 0, 1) := by decide +kernel
theorem dX12_waysOfOther_206 : decode cX12_waysOfOther 206 = .ok (.invokevirtual 1222, 3) := by decide +kernel
theorem dX12_waysOfOther_209 : decode cX12_waysOfOther 209 = .ok (.goto 190, 3) := by decide +kernel
theorem dX12_waysOfOther_212 : decode cX12_waysOfOther 212 = .ok (.aload_n 0, 1) := by decide +kernel
theorem dX12_waysOfOther_213 : decode cX12_waysOfOther 213 = .ok (.iload_n 2, 1) := by decide +kernel
theorem dX12_waysOfOther_214 : decode cX12_waysOfOther 214 = .ok (.invokevirtual 1274, 3) := by decide +kernel
theorem dX12_waysOfOther_217 : decode cX12_waysOfOther 217 = .ok (.goto 182, 3) := by decide +kernel
theorem dX12_waysOfOther_220 : decode cX12_waysOfOther 220 = .ok (.aload_n 0, 1) := by decide +kernel
theorem dX12_waysOfOther_221 : decode cX12_waysOfOther 221 = .ok (.iload_n 1, 1) := by decide +kernel
theorem dX12_waysOfOther_222 : decode cX12_waysOfOther 222 = .ok (.iload_n 2, 1) := by decide +kernel
theorem dX12_waysOfOther_223 : decode cX12_waysOfOther 223 = .ok (.iload_n 3, 1) := by decide +kernel
theorem dX12_waysOfOther_224 : decode cX12_waysOfOther 224 = .ok (.invokevirtual 1277, 3) := by decide +kernel
theorem dX12_waysOfOther_227 : decode cX12_waysOfOther 227 = .ok (.goto 172, 3) := by decide +kernel
theorem dX12_waysOfOther_230 : decode cX12_waysOfOther 230 = .ok (.aload_n 0, 1) := by decide +kernel
theorem dX12_waysOfOther_231 : decode cX12_waysOfOther 231 = .ok (.getfield 235, 3) := by decide +kernel
theorem dX12_waysOfOther_234 : decode cX12_waysOfOther 234 = .ok (.sipush 639, 3) := by decide +kernel
theorem dX12_waysOfOther_237 : decode cX12_waysOfOther 237 = .ok (.iconst 0, 1) := by decide +kernel
theorem dX12_waysOfOther_238 : decode cX12_waysOfOther 238 = .ok (.iastore, 1) := by decide +kernel
theorem dX12_waysOfOther_239 : decode cX12_waysOfOther 239 = .ok (.aload_n 0, 1) := by decide +kernel
theorem dX12_waysOfOther_240 : decode cX12_waysOfOther 240 = .ok (.iload_n 3, 1) := by decide +kernel
theorem dX12_waysOfOther_241 : decode cX12_waysOfOther 241 = .ok (.aload_n 0, 1) := by decide +kernel
theorem dX12_waysOfOther_242 : decode cX12_waysOfOther 242 = .ok (.invokevirtual 1201, 3) := by decide +kernel
theorem dX12_waysOfOther_245 : decode cX12_waysOfOther 245 = .ok (.invokevirtual 1092, 3) := by decide +kernel
theorem dX12_waysOfOther_248 : decode cX12_waysOfOther 248 = .ok (.aload_n 0, 1) := by decide +kernel
theorem dX12_waysOfOther_249 : decode cX12_waysOfOther 249 = .ok (.aload_n 0, 1) := by decide +kernel
theorem dX12_waysOfOther_250 : decode cX12_waysOfOther 250 = .ok (.getfield 606, 3) := by decide +kernel
theorem dX12_waysOfOther_253 : decode cX12_waysOfOther 253 = .ok (.iconst 2, 1) := by decide +kernel
theorem dX12_waysOfOther_254 : decode cX12_waysOfOther 254 = .ok (.aload_n 0, 1) := by decide +kernel
theorem dX12_waysOfOther_255 : decode cX12_waysOfOther 255 = .ok (.getfield 98, 3) := by decide +kernel
theorem dX12_waysOfOther_258 : decode cX12_waysOfOther 258 = .ok (.aload_n 0, 1) := by decide +kernel
theorem dX12_waysOfOther_259 : decode cX12_waysOfOther 259 = .ok (.getfield 1188, 3) := by decide +kernel
theorem dX12_waysOfOther_262 : decode cX12_waysOfOther 262 = .ok (.iaload, 1) := by decide +kernel
theorem dX12_waysOfOther_263 : decode cX12_waysOfOther 263 = .ok (.imul, 1) := by decide +kernel
theorem dX12_waysOfOther_264 : decode cX12_waysOfOther 264 = .ok (.iadd, 1) := by decide +kernel
theorem dX12_waysOfOther_265 : decode cX12_waysOfOther 265 = .ok (.invokevirtual 1191, 3) := by decide +kernel
theorem dX12_waysOfOther_268 : decode cX12_waysOfOther 268 = .ok (.goto 131, 3) := by decide +kernel
theorem dX12_waysOfOther_271 : decode cX12_waysOfOther 271 = .ok (.aload_n 0, 1) := by decide +kernel
theorem dX12_waysOfOther_272 : decode cX12_waysOfOther 272 = .ok (.invokevirtual 1280, 3) := by decide +kernel
theorem dX12_waysOfOther_275 : decode cX12_waysOfOther 275 = .ok (.goto 124, 3) := by decide +kernel
theorem dX12_waysOfOther_278 : decode cX12_waysOfOther 278 = .ok (.sipush 25560, 3) := by decide +kernel
theorem dX12_waysOfOther_281 : decode cX12_waysOfOther 281 = .ok (.aload_n 0, 1) := by decide +kernel
theorem dX12_waysOfOther_282 : decode cX12_waysOfOther 282 = .ok (.getfield 247, 3) := by decide +kernel
theorem dX12_waysOfOther_285 : decode cX12_waysOfOther 285 = .ok (.sipush 639, 3) := by decide +kernel
theorem dX12_waysOfOther_288 : decode cX12_waysOfOther 288 = .ok (.iaload, 1) := by decide +kernel
theorem dX12_waysOfOther_289 : decode cX12_waysOfOther 289 = .ok (.iadd, 1) := by decide +kernel
theorem dX12_waysOfOther_290 : decode cX12_waysOfOther 290 = .ok (.istore 4, 2) := by decide +kernel
theorem dX12_waysOfOther_292 : decode cX12_waysOfOther 292 = .ok (.aload_n 0, 1) := by decide +kernel
theorem dX12_waysOfOther_293 : decode cX12_waysOfOther 293 = .ok (.getfield 250, 3) := by decide +kernel
theorem dX12_waysOfOther_296 : decode cX12_waysOfOther 296 = .ok (.iload 4, 2) := by decide +kernel
theorem dX12_waysOfOther_298 : decode cX12_waysOfOther 298 = .ok (.iload_n 2, 1) := by decide +kernel
theorem dX12_waysOfOther_299 : decode cX12_waysOfOther 299 = .ok (.iastore, 1) := by decide +kernel
theorem dX12_waysOfOther_300 : decode cX12_waysOfOther 300 = .ok (.aload_n 0, 1) := by decide +kernel
theorem dX12_waysOfOther_301 : decode cX12_waysOfOther 301 = .ok (.getfield 253, 3) := by decide +kernel
theorem dX12_waysOfOther_304 : decode cX12_waysOfOther 304 = .ok (.iload 4, 2) := by decide +kernel
theorem dX12_waysOfOther_306 : decode cX12_waysOfOther 306 = .ok (.aload_n 0, 1) := by decide +kernel
theorem dX12_waysOfOther_307 : decode cX12_waysOfOther 307 = .ok (.getfield 235, 3) := by decide +kernel
theorem dX12_waysOfOther_310 : decode cX12_waysOfOther 310 = .ok (.sipush 639, 3) := by decide +kernel
theorem dX12_waysOfOther_313 : decode cX12_waysOfOther 313 = .ok (.iaload, 1) := by decide +kernel
theorem dX12_waysOfOther_314 : decode cX12_waysOfOther 314 = .ok (.iastore, 1) := by decide +kernel
theorem dX12_waysOfOther_315 : decode cX12_waysOfOther 315 = .ok (.aload_n 0, 1) := by decide +kernel
theorem dX12_waysOfOther_316 : decode cX12_waysOfOther 316 = .ok (.getfield 247, 3) := by decide +kernel
theorem dX12_waysOfOther_319 : decode cX12_waysOfOther 319 = .ok (.sipush 639, 3) := by decide +kernel
theorem dX12_waysOfOther_322 : decode cX12_waysOfOther 322 = .ok (.dup2, 1) := by decide +kernel
theorem dX12_waysOfOther_323 : decode cX12_waysOfOther 323 = .ok (.iaload, 1) := by decide +kernel
theorem dX12_waysOfOther_324 : decode cX12_waysOfOther 324 = .ok (.iconst 1, 1) := by decide +kernel
theorem dX12_waysOfOther_325 : decode cX12_waysOfOther 325 = .ok (.iadd, 1) := by decide +kernel
theorem dX12_waysOfOther_326 : decode cX12_waysOfOther 326 = .ok (.iastore, 1) := by decide +kernel
theorem dX12_waysOfOther_327 : decode cX12_waysOfOther 327 = .ok (.aload_n 0, 1) := by decide +kernel
theorem dX12_waysOfOther_328 : decode cX12_waysOfOther 328 = .ok (.invokevirtual 1222, 3) := by decide +kernel
theorem dX12_waysOfOther_331 : decode cX12_waysOfOther 331 = .ok (.goto 68, 3) := by decide +kernel
theorem dX12_waysOfOther_334 : decode cX12_waysOfOther 334 = .ok (.aload_n 0, 1) := by decide +kernel
theorem dX12_waysOfOther_335 : decode cX12_waysOfOther 335 = .ok (.getfield 247, 3) := by decide +kernel
theorem dX12_waysOfOther_338 : decode cX12_waysOfOther 338 = .ok (.sipush 639, 3) := by decide +kernel
theorem dX12_waysOfOther_341 : decode cX12_waysOfOther 341 = .ok (.dup2, 1) := by decide +kernel
theorem dX12_waysOfOther_342 : decode cX12_waysOfOther 342 = .ok (.iaload, 1) := by decide +kernel
theorem dX12_waysOfOther_343 : decode cX12_waysOfOther 343 = .ok (.iconst 1, 1) := by decide +kernel
theorem dX12_waysOfOther_344 : decode cX12_waysOfOther 344 = .ok (.isub, 1) := by decide +kernel
theorem dX12_waysOfOther_345 : decode cX12_waysOfOther 345 = .ok (.iastore, 1) := by decide +kernel
theorem dX12_waysOfOther_346 : decode cX12_waysOfOther 346 = .ok (.aload_n 0, 1) := by decide +kernel
theorem dX12_waysOfOther_347 : decode cX12_waysOfOther 347 = .ok (.invokevirtual 1222, 3) := by decide +kernel
theorem dX12_waysOfOther_350 : decode cX12_waysOfOther 350 = .ok (.goto 49, 3) := by decide +kernel
theorem dX12_waysOfOther_353 : decode cX12_waysOfOther 353 = .ok (.aload_n 0, 1) := by decide +kernel
theorem dX12_waysOfOther_354 : decode cX12_waysOfOther 354 = .ok (.aload_n 0, 1) := by decide +kernel
theorem dX12_waysOfOther_355 : decode cX12_waysOfOther 355 = .ok (.iconst 0, 1) := by decide +kernel
theorem dX12_waysOfOther_356 : decode cX12_waysOfOther 356 = .ok (.invokevirtual 1195, 3) := by decide +kernel
theorem dX12_waysOfOther_359 : decode cX12_waysOfOther 359 = .ok (.invokevirtual 1066, 3) := by decide +kernel
theorem dX12_waysOfOther_362 : decode cX12_waysOfOther 362 = .ok (.aload_n 0, 1) := by decide +kernel
theorem dX12_waysOfOther_363 : decode cX12_waysOfOther 363 = .ok (.invokevirtual 1222, 3) := by decide +kernel
theorem dX12_waysOfOther_366 : decode cX12_waysOfOther 366 = .ok (.goto 33, 3) := by decide +kernel
theorem dX12_waysOfOther_369 : decode cX12_waysOfOther 369 = .ok (.aload_n 0, 1) := by decide +kernel
theorem dX12_waysOfOther_370 : decode cX12_waysOfOther 370 = .ok (.aload_n 0, 1) := by decide +kernel
theorem dX12_waysOfOther_371 : decode cX12_waysOfOther 371 = .ok (.invokevirtual 1201, 3) := by decide +kernel
theorem dX12_waysOfOther_374 : decode cX12_waysOfOther 374 = .ok (.iconst (-1), 1) := by decide +kernel
theorem dX12_waysOfOther_375 : decode cX12_waysOfOther 375 = .ok (.invokevirtual 1078, 3) := by decide +kernel
theorem dX12_waysOfOther_378 : decode cX12_waysOfOther 378 = .ok (.aload_n 0, 1) := by decide +kernel
theorem dX12_waysOfOther_379 : decode cX12_waysOfOther 379 = .ok (.invokevirtual 1222, 3) := by decide +kernel
theorem dX12_waysOfOther_382 : decode cX12_waysOfOther 382 = .ok (.aload_n 0, 1) := by decide +kernel
theorem dX12_waysOfOther_383 : decode cX12_waysOfOther 383 = .ok (.getfield 235, 3) := by decide +kernel
theorem dX12_waysOfOther_386 : decode cX12_waysOfOther 386 = .ok (.sipush 639, 3) := by decide +kernel
theorem dX12_waysOfOther_389 : decode cX12_waysOfOther 389 = .ok (.dup2, 1) := by decide +kernel
theorem dX12_waysOfOther_390 : decode cX12_waysOfOther 390 = .ok (.iaload, 1) := by decide +kernel
theorem dX12_waysOfOther_391 : decode cX12_waysOfOther 391 = .ok (.iconst 2, 1) := by decide +kernel
theorem dX12_waysOfOther_392 : decode cX12_waysOfOther 392 = .ok (.isub, 1) := by decide +kernel
theorem dX12_waysOfOther_393 : decode cX12_waysOfOther 393 = .ok (.iastore, 1) := by decide +kernel
theorem dX12_waysOfOther_394 : decode cX12_waysOfOther 394 = .ok (.aload_n 0, 1) := by decide +kernel
theorem dX12_waysOfOther_395 : decode cX12_waysOfOther 395 = .ok (.iload_n 2, 1) := by decide +kernel
theorem dX12_waysOfOther_396 : decode cX12_waysOfOther 396 = .ok (.invokevirtual 1274, 3) := by decide +kernel
theorem dX12_waysOfOther_399 : decode cX12_waysOfOther 399 = .ok (.return_, 1) := by decide +kernel

def q_waysOfCall (p1 : Int) (S : sv_S) : Option Value → sv_S → Prop := fun v S' => v = none ∧ sm_ok S' ∧ sv_mod [68, 69, 70, 81, 82, 83, 84, 85, 86, 71, 74, 75, 1127, 78, 79, 80, 72, 76, 77, 1143, 1144, 5, 1011, 1150, 1149, 1145, 1113, 1111, 1112, 91, 1147, 1100031] S S' ∧ (sm_ST (S' 71) (S' 74) (S' 75) (S' 78) (S' 79) (S' 80) (S' 27) (S' 1100007) (S' 1100023) (S' 1100024) (S' 1046 0) ((S' 1046 0) + 2 * (S' 1032 0)) (S' 1127 0) ∧ 465000 ≤ (S' 1127 0) ∧ (S' 1127 0) + sm_hs (S' 71) (S' 1100007) ≤ 635000 ∧ (S' 75 639) = 647340 ∧ (∀ k : Int, (S 71 k) = 1 → (S' 71 k) = 1) ∧ sm_DR (S' 72) (S' 71) (S' 1046 0) ∧ (641 * (sm_cm (S' 71) + sm_pt (S' 68) (S' 69) (S' 70) + sm_pl (S' 81) (S' 82) (S' 83) (S' 84) (S' 85) (S' 86) + sm_ps (S' 76) (S' 77)) + sm_du (S' 72)) ≤ (641 * (sm_cm (S 71) + sm_pt (S 68) (S 69) (S 70) + sm_pl (S 81) (S 82) (S 83) (S 84) (S 85) (S 86) + sm_ps (S 76) (S 77)) + sm_du (S 72)) ∧ 0 ≤ (S' 1147 0) ∧ (S' 1147 0) ≤ 12 ∧ (∀ k : Int, 0 ≤ k → k < (S' 1147 0) → 635639 ≤ (S' 91 k) ∧ (S' 91 k) < 647800))
theorem la_waysOfCall_0 : (0 : Int) ≤ 639 ∧ (639 : Int) < 640 := by omega
theorem la_waysOfCall_1 {x0 x1 x2 : Int} (h0 : x0 ≤ 400) (h1 : x0 = x1) (h2 : 0 ≤ x2) (h3 : x2 + 2 ≤ x1) : sv_R (x0 - x2 - 1) := by omega
theorem la_waysOfCall_2 {x0 x1 x2 : Int} (h0 : x0 ≤ 400) (h1 : x0 = x1) (h2 : 0 ≤ x2) (h3 : x2 + 2 ≤ x1) : sv_R (x0 - x2 - 2) := by omega
theorem la_waysOfCall_3 {x0 x1 x2 : Int} (h0 : x0 ≤ 400) (h1 : x0 = x1) (h2 : 0 ≤ x2) (h3 : x2 + 2 ≤ x1) : sv_R (x0 - x2) := by omega
theorem la_waysOfCall_4 {x0 : Int} (h0 : 0 ≤ x0) (h1 : x0 ≤ 8) : sv_R (x0 + 2) := by omega
theorem la_waysOfCall_5 {x0 x1 x2 : Int} (h0 : x0 = x1) (h1 : x2 + 2 ≤ x1) : (-1) ≤ x0 - x2 - 1 := by omega
theorem la_waysOfCall_6 {x0 x1 : Int} (h0 : x0 ≤ 400) (h1 : 0 ≤ x1) : x0 - x1 - 1 ≤ 450 := by omega
theorem la_waysOfCall_7 {x0 x1 : Int} (h0 : (-1) ≤ x0 - x1 - 1) (h1 : ¬ x0 - x1 - 1 = (-1)) : (-1) < x0 - x1 - 1 := by omega
theorem la_waysOfCall_8 {x0 x1 x2 : Int} (h0 : x0 = x1) (h1 : x2 + 2 ≤ x1) : (-1) ≤ x0 - x2 - 2 := by omega
theorem la_waysOfCall_9 {x0 x1 : Int} (h0 : x0 ≤ 400) (h1 : 0 ≤ x1) : x0 - x1 - 2 ≤ 450 := by omega
theorem la_waysOfCall_10 {x0 x1 x2 : Int} (h0 : x0 = x1) (h1 : x2 + 2 ≤ x1) : 0 ≤ x0 - x2 := by omega
theorem la_waysOfCall_11 {x0 x1 x2 : Int} (h0 : x0 = x1) (h1 : x2 + 2 ≤ x1) : ¬ x0 - x2 - 2 = (-1) := by omega
theorem la_waysOfCall_12 {x0 x1 : Int} (h0 : x0 + 1 < x1) : ¬ x1 ≤ x0 := by omega
theorem la_waysOfCall_13 {x0 x1 : Int} (h0 : x0 + 1 < x1) : ¬ x1 ≤ x0 + 1 := by omega
theorem la_waysOfCall_14 {x0 x1 x2 : Int} (h0 : x0 ≤ 400) (h1 : x1 = 1) : x0 - x2 + x2 + x1 ≤ 440 := by omega
theorem la_waysOfCall_15 {x0 : Int} (h0 : 0 ≤ x0) : 1 ≤ x0 + 2 := by omega
theorem la_waysOfCall_16 {x0 x1 x2 : Int} (h0 : x0 = x1 - x2 - 1) : x0 = x1 - (x2 + 2) + 1 := by omega
theorem la_waysOfCall_17 {x0 x1 x2 : Int} (h0 : x0 = x1) (h1 : x2 + 2 ≤ x1) : ¬ x0 - x2 - 1 = (-1) := by omega
theorem la_waysOfCall_18 {x0 x1 x2 : Int} (h0 : 0 ≤ x0) (h1 : x1 = x0 + 2) (h2 : x2 = x1) : 0 ≤ x2 := by omega
theorem la_waysOfCall_19 {x0 x1 x2 : Int} (h0 : 0 ≤ x0) (h1 : x1 = x0 + 2) (h2 : x2 = x1) : 0 ≤ 10 + x2 := by omega
theorem la_waysOfCall_20 {x0 x1 x2 : Int} (h0 : x0 ≤ 8) (h1 : x1 = x0 + 2) (h2 : x2 = x1) : 10 + x2 + 1 ≤ 22 := by omega
set_option maxHeartbeats 2000000 in
theorem f_waysOfCall : ∀ (p1 : Int) (S : sv_S), sm_ok S → sv_R p1 → (29 ≤ (S 1071 0) ∧ (S 1071 0) ≤ 127 ∧ 31 ≤ (S 1008 0) ∧ (S 1008 0) ≤ 90 ∧ 1 ≤ (S 1032 0) ∧ (S 1032 0) ≤ 11 ∧ 0 ≤ (S 1055 0) ∧ (S 1055 0) ≤ 19 ∧ (S 1071 0) = 29 + 6 * ((S 1032 0) - 1) + 2 * (S 1055 0) ∧ 0 ≤ (S 1046 0) ∧ (S 1046 0) + 2 * (S 1032 0) ≤ 500 ∧ sm_PD (S 1046 0) (S 1032 0) (S 1071 0) (S 1008 0) ∧ 0 ≤ (S 1071 0) * ((S 1008 0) + 1) ∧ (S 1071 0) * ((S 1008 0) + 1) ≤ 11557 ∧ 31 ≤ (S 1007 0) ∧ (S 1007 0) ≤ 400 ∧ sm_LN (S 4) 400 (S 1007 0) ∧ (S 75 639) = 647340 ∧ sm_ST (S 71) (S 74) (S 75) (S 78) (S 79) (S 80) (S 27) (S 1100007) (S 1100023) (S 1100024) (S 1046 0) ((S 1046 0) + 2 * (S 1032 0)) (S 1127 0) ∧ 465000 ≤ (S 1127 0) ∧ (S 1127 0) + sm_hs (S 71) (S 1100007) ≤ 635000 ∧ sm_NH (S 1100007) ∧ sm_CT (S 26) (S 27) (S 28) (S 29) (S 1100007) (S 1100023) (S 1100024) (S 1100025) (S 21) (S 1046 0) (S 1032 0) (S 1008 0) (S 1055 0) ∧ (∀ k : Int, (S 1046 0) ≤ k → k < ((S 1046 0) + 2 * (S 1032 0)) → (S 1100007 k) = 1) ∧ sm_DR (S 72) (S 71) (S 1046 0) ∧ 0 ≤ (S 74 639) ∧ (S 74 639) ≤ 400 ∧ 0 ≤ (S 78 639) ∧ (S 78 639) ≤ 40 ∧ (S 78 639) = sm_dp (S 1100024) (S 1100031 0) ∧ -1 ≤ (S 1100031 0) ∧ (S 1100031 0) < (S 1046 0) ∧ (0 ≤ (S 1100031 0) → (S 26 (S 1100031 0)) = 27) ∧ sm_TC (S 79) (S 80) (S 27) (S 1100007) (S 1100023) (S 1100024) 25560 (S 1100031 0) ∧ 0 ≤ (S 1148 0) ∧ (S 1148 0) < (S 1046 0) ∧ (S 71 (S 1148 0)) = 1 ∧ (S 74 639) = (S 1100007 (S 1148 0)) ∧ (S 1100031 0) = (S 1100023 (S 1148 0)) ∧ (∀ g : Int, 0 ≤ g → g < (S 1032 0) → 0 ≤ (S 30 g) ∧ (S 30 g) < (S 1046 0) ∧ (S 1100007 (S 30 g)) = 0 ∧ (S 1100023 (S 30 g)) = -1 ∧ 0 ≤ (S 33 g) ∧ (S 33 g) ≤ 100 ∧ 0 ≤ (S 20 g) ∧ (S 20 g) ≤ 8) ∧ sm_VN (S 32) (S 33) (S 1032 0) (S 1008 0) ∧ 0 ≤ (S 1147 0) ∧ (S 1147 0) ≤ 12 ∧ (∀ k : Int, 0 ≤ k → k < (S 1147 0) → 635639 ≤ (S 91 k) ∧ (S 91 k) < 647800) ∧ 0 ≤ p1 ∧ p1 ≤ 8 ∧ p1 + 2 ≤ (S 1100007 (S 1148 0)) ∧ (S 1100007 ((S 1148 0) + 1)) = (S 1100007 (S 1148 0)) - p1 - 1 ∧ (S 1148 0) + 1 < (S 1046 0) ∧ (S 1100023 ((S 1148 0) + 1)) = (S 1100023 (S 1148 0))) → ((sm_CT (S 26) (S 27) (S 28) (S 29) (S 1100007) (S 1100023) (S 1100024) (S 1100025) (S 21) (S 1046 0) (S 1032 0) (S 1008 0) (S 1055 0) → 0 ≤ (S 1148 0) → (S 1148 0) < (S 1046 0) → 0 ≤ (S 1100007 (S 1148 0)) ∧ (S 1100007 (S 1148 0)) ≤ 396 ∧ -1 ≤ (S 1100023 (S 1148 0)) ∧ (S 1100023 (S 1148 0)) < (S 1148 0)) → (0 ≤ (639 : Int) ∧ (639 : Int) < 640) ∧ (sv_R (S 74 (639 : Int)) → (sv_R (((S 74 (639 : Int)) - p1) - (1 : Int))) ∧ (sv_R (((S 74 (639 : Int)) - p1) - (2 : Int))) ∧ (sv_R ((S 74 (639 : Int)) - p1)) ∧ (sv_R (p1 + (2 : Int))) ∧ (29 ≤ (S 1071 0) ∧ (S 1071 0) ≤ 127 ∧ 31 ≤ (S 1008 0) ∧ (S 1008 0) ≤ 90 ∧ 1 ≤ (S 1032 0) ∧ (S 1032 0) ≤ 11 ∧ 0 ≤ (S 1055 0) ∧ (S 1055 0) ≤ 19 ∧ (S 1071 0) = 29 + 6 * ((S 1032 0) - 1) + 2 * (S 1055 0) ∧ 0 ≤ (S 1046 0) ∧ (S 1046 0) + 2 * (S 1032 0) ≤ 500 ∧ sm_PD (S 1046 0) (S 1032 0) (S 1071 0) (S 1008 0) ∧ 0 ≤ (S 1071 0) * ((S 1008 0) + 1) ∧ (S 1071 0) * ((S 1008 0) + 1) ≤ 11557 ∧ 31 ≤ (S 1007 0) ∧ (S 1007 0) ≤ 400 ∧ sm_LN (S 4) 400 (S 1007 0) ∧ (S 75 639) = 647340 ∧ sm_ST (S 71) (S 74) (S 75) (S 78) (S 79) (S 80) (S 27) (S 1100007) (S 1100023) (S 1100024) (S 1046 0) ((S 1046 0) + 2 * (S 1032 0)) (S 1127 0) ∧ 465000 ≤ (S 1127 0) ∧ (S 1127 0) + sm_hs (S 71) (S 1100007) ≤ 635000 ∧ sm_NH (S 1100007) ∧ sm_CT (S 26) (S 27) (S 28) (S 29) (S 1100007) (S 1100023) (S 1100024) (S 1100025) (S 21) (S 1046 0) (S 1032 0) (S 1008 0) (S 1055 0) ∧ (∀ k : Int, (S 1046 0) ≤ k → k < ((S 1046 0) + 2 * (S 1032 0)) → (S 1100007 k) = 1) ∧ sm_DR (S 72) (S 71) (S 1046 0) ∧ 0 ≤ (S 1148 0) ∧ (S 1148 0) < (S 1046 0) ∧ (S 71 (S 1148 0)) = 1 ∧ (∀ g : Int, 0 ≤ g → g < (S 1032 0) → 0 ≤ (S 30 g) ∧ (S 30 g) < (S 1046 0) ∧ (S 1100007 (S 30 g)) = 0 ∧ (S 1100023 (S 30 g)) = -1 ∧ 0 ≤ (S 33 g) ∧ (S 33 g) ≤ 100 ∧ 0 ≤ (S 20 g) ∧ (S 20 g) ≤ 8) ∧ sm_VN (S 32) (S 33) (S 1032 0) (S 1008 0) ∧ 0 ≤ (S 1147 0) ∧ (S 1147 0) ≤ 12 ∧ (∀ k : Int, 0 ≤ k → k < (S 1147 0) → 635639 ≤ (S 91 k) ∧ (S 91 k) < 647800) ∧ -1 ≤ (((S 74 (639 : Int)) - p1) - (1 : Int)) ∧ (((S 74 (639 : Int)) - p1) - (1 : Int)) ≤ 450 ∧ (¬ (((S 74 (639 : Int)) - p1) - (1 : Int)) = -1 → -1 ≤ (((S 74 (639 : Int)) - p1) - (2 : Int)) ∧ (((S 74 (639 : Int)) - p1) - (2 : Int)) ≤ 450 ∧ 0 ≤ ((S 74 (639 : Int)) - p1) ∧ 0 ≤ p1 ∧ p1 ≤ 8 ∧ ((S 74 (639 : Int)) - p1) + p1 + (if (((S 74 (639 : Int)) - p1) - (2 : Int)) = -1 then 0 else 1) ≤ 440) ∧ 1 ≤ (p1 + (2 : Int)) ∧ (p1 + (2 : Int)) ≤ (S 1100007 (S 1148 0)) ∧ (S 1100007 ((S 1148 0) + 1)) = (S 1100007 (S 1148 0)) - (p1 + (2 : Int)) + 1 ∧ (S 1148 0) + 1 < (S 1046 0) ∧ (S 1100023 ((S 1148 0) + 1)) = (S 1100023 (S 1148 0))) ∧ (0 ≤ ((if (((S 74 (639 : Int)) - p1) - (1 : Int)) = -1 then 0 else if (((S 74 (639 : Int)) - p1) - (2 : Int)) = -1 then 1 else p1 + 2))) ∧ (0 ≤ ((10 + (if (((S 74 (639 : Int)) - p1) - (1 : Int)) = -1 then 0 else if (((S 74 (639 : Int)) - p1) - (2 : Int)) = -1 then 1 else p1 + 2))) ∧ ((10 + (if (((S 74 (639 : Int)) - p1) - (1 : Int)) = -1 then 0 else if (((S 74 (639 : Int)) - p1) - (2 : Int)) = -1 then 1 else p1 + 2))) + 1 ≤ (22 : Int)) ∧ (∀ g11 : sv_S, (sm_ST (g11 71) (g11 74) (g11 75) (g11 78) (g11 79) (g11 80) (S 27) (S 1100007) (S 1100023) (S 1100024) (S 1046 0) ((S 1046 0) + 2 * (S 1032 0)) (g11 1127 0) ∧ 465000 ≤ (g11 1127 0) ∧ (g11 1127 0) + sm_hs (g11 71) (S 1100007) ≤ 635000 ∧ (g11 75 639) = 647340 ∧ (∀ k : Int, (S 71 k) = 1 → (g11 71 k) = 1) ∧ sm_DR (g11 72) (g11 71) (S 1046 0) ∧ (641 * (sm_cm (g11 71) + sm_pt (g11 68) (g11 69) (g11 70) + sm_pl (g11 81) (g11 82) (g11 83) (g11 84) (g11 85) (g11 86) + sm_ps (g11 76) (g11 77)) + sm_du (g11 72)) ≤ (641 * (sm_cm (S 71) + sm_pt (S 68) (S 69) (S 70) + sm_pl (S 81) (S 82) (S 83) (S 84) (S 85) (S 86) + sm_ps (S 76) (S 77)) + sm_du (S 72)) ∧ 0 ≤ (g11 1147 0) ∧ (g11 1147 0) ≤ 12 ∧ (∀ k : Int, 0 ≤ k → k < (g11 1147 0) → 635639 ≤ (g11 91 k) ∧ (g11 91 k) < 647800)) → (sm_ST (g11 71) (g11 74) (g11 75) (g11 78) (g11 79) (g11 80) (S 27) (S 1100007) (S 1100023) (S 1100024) (S 1046 0) ((S 1046 0) + 2 * (S 1032 0)) (g11 1127 0) ∧ 465000 ≤ (g11 1127 0) ∧ (g11 1127 0) + sm_hs (g11 71) (S 1100007) ≤ 635000 ∧ (g11 75 639) = 647340 ∧ (∀ k : Int, (S 71 k) = 1 → (g11 71 k) = 1) ∧ sm_DR (g11 72) (g11 71) (S 1046 0) ∧ (641 * (sm_cm (g11 71) + sm_pt (g11 68) (g11 69) (g11 70) + sm_pl (g11 81) (g11 82) (g11 83) (g11 84) (g11 85) (g11 86) + sm_ps (g11 76) (g11 77)) + sm_du (g11 72)) ≤ (641 * (sm_cm (S 71) + sm_pt (S 68) (S 69) (S 70) + sm_pl (S 81) (S 82) (S 83) (S 84) (S 85) (S 86) + sm_ps (S 76) (S 77)) + sm_du (S 72)) ∧ 0 ≤ (g11 1147 0) ∧ (g11 1147 0) ≤ 12 ∧ (∀ k : Int, 0 ≤ k → k < (g11 1147 0) → 635639 ≤ (g11 91 k) ∧ (g11 91 k) < 647800))))) := by
  intro p1
  intro S
  intro h1_
  intro h2_
  rintro ⟨h3_, ⟨h4_, ⟨h5_, ⟨h6_, ⟨h7_, ⟨h8_, ⟨h9_, ⟨h10_, ⟨h11_, ⟨h12_, ⟨h13_, ⟨h14_, ⟨h15_, ⟨h16_, ⟨h17_, ⟨h18_, ⟨h19_, ⟨h20_, ⟨h21_, ⟨h22_, ⟨h23_, ⟨h24_, ⟨h25_, ⟨h26_, ⟨h27_, ⟨h28_, ⟨h29_, ⟨h30_, ⟨h31_, ⟨h32_, ⟨h33_, ⟨h34_, ⟨h35_, ⟨h36_, ⟨h37_, ⟨h38_, ⟨h39_, ⟨h40_, ⟨h41_, ⟨h42_, ⟨h43_, ⟨h44_, ⟨h45_, ⟨h46_, ⟨h47_, ⟨h48_, ⟨h49_, ⟨h50_, ⟨h51_, h52_⟩⟩⟩⟩⟩⟩⟩⟩⟩⟩⟩⟩⟩⟩⟩⟩⟩⟩⟩⟩⟩⟩⟩⟩⟩⟩⟩⟩⟩⟩⟩⟩⟩⟩⟩⟩⟩⟩⟩⟩⟩⟩⟩⟩⟩⟩⟩⟩⟩
  intro h53_
  have h54_ := (h53_ h25_)
  have h55_ := (h54_ h37_)
  obtain ⟨h56_, ⟨h57_, ⟨h58_, h59_⟩⟩⟩ := (h55_ h38_)
  refine ⟨la_waysOfCall_0, ?_⟩
  intro h60_
  refine ⟨(la_waysOfCall_1 h29_ h40_ h47_ h49_), ?_⟩
  refine ⟨(la_waysOfCall_2 h29_ h40_ h47_ h49_), ?_⟩
  refine ⟨(la_waysOfCall_3 h29_ h40_ h47_ h49_), ?_⟩
  refine ⟨(la_waysOfCall_4 h47_ h48_), ?_⟩
  refine ⟨?_, ?_⟩
  · skip
    refine ⟨h3_, ?_⟩
    refine ⟨h4_, ?_⟩
    refine ⟨h5_, ?_⟩
    refine ⟨h6_, ?_⟩
    refine ⟨h7_, ?_⟩
    refine ⟨h8_, ?_⟩
    refine ⟨h9_, ?_⟩
    refine ⟨h10_, ?_⟩
    refine ⟨h11_, ?_⟩
    refine ⟨h12_, ?_⟩
    refine ⟨h13_, ?_⟩
    refine ⟨h14_, ?_⟩
    refine ⟨h15_, ?_⟩
    refine ⟨h16_, ?_⟩
    refine ⟨h17_, ?_⟩
    refine ⟨h18_, ?_⟩
    refine ⟨h19_, ?_⟩
    refine ⟨h20_, ?_⟩
    refine ⟨h21_, ?_⟩
    refine ⟨h22_, ?_⟩
    refine ⟨h23_, ?_⟩
    refine ⟨h24_, ?_⟩
    refine ⟨h25_, ?_⟩
    refine ⟨h26_, ?_⟩
    refine ⟨h27_, ?_⟩
    refine ⟨h37_, ?_⟩
    refine ⟨h38_, ?_⟩
    refine ⟨h39_, ?_⟩
    refine ⟨h42_, ?_⟩
    refine ⟨h43_, ?_⟩
    refine ⟨h44_, ?_⟩
    refine ⟨h45_, ?_⟩
    refine ⟨h46_, ?_⟩
    refine ⟨(la_waysOfCall_5 h40_ h49_), ?_⟩
    refine ⟨(la_waysOfCall_6 h29_ h47_), ?_⟩
    refine ⟨?_, ?_⟩
    · skip
      intro h61_
      refine ⟨(la_waysOfCall_8 h40_ h49_), ?_⟩
      refine ⟨(la_waysOfCall_9 h29_ h47_), ?_⟩
      refine ⟨(la_waysOfCall_10 h40_ h49_), ?_⟩
      refine ⟨h47_, ?_⟩
      refine ⟨h48_, ?_⟩
      have h62_ := (h26_ (S 1148 0))
      have h63_ := (h26_ (S 1148 0 + 1))
      have e64_ : (if S 74 639 - p1 - 2 = (-1) then 0 else 1 : Int) = 1 := if_neg (la_waysOfCall_11 h40_ h49_)
      exact (la_waysOfCall_14 h29_ e64_)
    refine ⟨(la_waysOfCall_15 h47_), ?_⟩
    refine ⟨h49_, ?_⟩
    refine ⟨(la_waysOfCall_16 h50_), ?_⟩
    refine ⟨h51_, ?_⟩
    exact h52_
  refine ⟨?_, ?_⟩
  · skip
    have h65_ := (h26_ (S 1148 0))
    have h66_ := (h26_ (S 1148 0 + 1))
    have e67_ : (if S 74 639 - p1 - 2 = (-1) then 1 else p1 + 2 : Int) = p1 + 2 := if_neg (la_waysOfCall_11 h40_ h49_)
    have e68_ : (if S 74 639 - p1 - 1 = (-1) then 0 else (if S 74 639 - p1 - 2 = (-1) then 1 else p1 + 2) : Int) = (if S 74 639 - p1 - 2 = (-1) then 1 else p1 + 2) := if_neg (la_waysOfCall_17 h40_ h49_)
    exact (la_waysOfCall_18 h47_ e67_ e68_)
  refine ⟨?_, ?_⟩
  · skip
    refine ⟨?_, ?_⟩
    · skip
      have h69_ := (h26_ (S 1148 0))
      have h70_ := (h26_ (S 1148 0 + 1))
      have e71_ : (if S 74 639 - p1 - 2 = (-1) then 1 else p1 + 2 : Int) = p1 + 2 := if_neg (la_waysOfCall_11 h40_ h49_)
      have e72_ : (if S 74 639 - p1 - 1 = (-1) then 0 else (if S 74 639 - p1 - 2 = (-1) then 1 else p1 + 2) : Int) = (if S 74 639 - p1 - 2 = (-1) then 1 else p1 + 2) := if_neg (la_waysOfCall_17 h40_ h49_)
      exact (la_waysOfCall_19 h47_ e71_ e72_)
    have h73_ := (h26_ (S 1148 0))
    have h74_ := (h26_ (S 1148 0 + 1))
    have e75_ : (if S 74 639 - p1 - 2 = (-1) then 1 else p1 + 2 : Int) = p1 + 2 := if_neg (la_waysOfCall_11 h40_ h49_)
    have e76_ : (if S 74 639 - p1 - 1 = (-1) then 0 else (if S 74 639 - p1 - 2 = (-1) then 1 else p1 + 2) : Int) = (if S 74 639 - p1 - 2 = (-1) then 1 else p1 + 2) := if_neg (la_waysOfCall_17 h40_ h49_)
    exact (la_waysOfCall_20 h48_ e75_ e76_)
  intro g11
  rintro ⟨h77_, ⟨h78_, ⟨h79_, ⟨h80_, ⟨h81_, ⟨h82_, ⟨h83_, ⟨h84_, ⟨h85_, h86_⟩⟩⟩⟩⟩⟩⟩⟩⟩
  refine ⟨h77_, ?_⟩
  refine ⟨h78_, ?_⟩
  refine ⟨h79_, ?_⟩
  refine ⟨h80_, ?_⟩
  refine ⟨h81_, ?_⟩
  refine ⟨h82_, ?_⟩
  refine ⟨h83_, ?_⟩
  refine ⟨h84_, ?_⟩
  refine ⟨h85_, ?_⟩
  intro k
  intro h87_
  intro h88_
  refine ⟨?_, ?_⟩
  · skip
    have h89_ := (h26_ (S 1148 0))
    have h90_ := (h26_ (S 1148 0 + 1))
    have h91_ := ((h81_ (S 1148 0)) h39_)
    obtain ⟨h92_, h93_⟩ := (((h86_ k) h87_) h88_)
    exact h92_
  have h94_ := (h26_ (S 1148 0))
  have h95_ := (h26_ (S 1148 0 + 1))
  have h96_ := ((h81_ (S 1148 0)) h39_)
  obtain ⟨h97_, h98_⟩ := (((h86_ k) h87_) h88_)
  exact h98_
set_option maxRecDepth 8000 in
set_option maxHeartbeats 2000000 in
theorem t_waysOfCall : ∀ (p1 : Int) (S : sv_S), sm_ok S → sv_R p1 → (29 ≤ (S 1071 0) ∧ (S 1071 0) ≤ 127 ∧ 31 ≤ (S 1008 0) ∧ (S 1008 0) ≤ 90 ∧ 1 ≤ (S 1032 0) ∧ (S 1032 0) ≤ 11 ∧ 0 ≤ (S 1055 0) ∧ (S 1055 0) ≤ 19 ∧ (S 1071 0) = 29 + 6 * ((S 1032 0) - 1) + 2 * (S 1055 0) ∧ 0 ≤ (S 1046 0) ∧ (S 1046 0) + 2 * (S 1032 0) ≤ 500 ∧ sm_PD (S 1046 0) (S 1032 0) (S 1071 0) (S 1008 0) ∧ 0 ≤ (S 1071 0) * ((S 1008 0) + 1) ∧ (S 1071 0) * ((S 1008 0) + 1) ≤ 11557 ∧ 31 ≤ (S 1007 0) ∧ (S 1007 0) ≤ 400 ∧ sm_LN (S 4) 400 (S 1007 0) ∧ (S 75 639) = 647340 ∧ sm_ST (S 71) (S 74) (S 75) (S 78) (S 79) (S 80) (S 27) (S 1100007) (S 1100023) (S 1100024) (S 1046 0) ((S 1046 0) + 2 * (S 1032 0)) (S 1127 0) ∧ 465000 ≤ (S 1127 0) ∧ (S 1127 0) + sm_hs (S 71) (S 1100007) ≤ 635000 ∧ sm_NH (S 1100007) ∧ sm_CT (S 26) (S 27) (S 28) (S 29) (S 1100007) (S 1100023) (S 1100024) (S 1100025) (S 21) (S 1046 0) (S 1032 0) (S 1008 0) (S 1055 0) ∧ (∀ k : Int, (S 1046 0) ≤ k → k < ((S 1046 0) + 2 * (S 1032 0)) → (S 1100007 k) = 1) ∧ sm_DR (S 72) (S 71) (S 1046 0) ∧ 0 ≤ (S 74 639) ∧ (S 74 639) ≤ 400 ∧ 0 ≤ (S 78 639) ∧ (S 78 639) ≤ 40 ∧ (S 78 639) = sm_dp (S 1100024) (S 1100031 0) ∧ -1 ≤ (S 1100031 0) ∧ (S 1100031 0) < (S 1046 0) ∧ (0 ≤ (S 1100031 0) → (S 26 (S 1100031 0)) = 27) ∧ sm_TC (S 79) (S 80) (S 27) (S 1100007) (S 1100023) (S 1100024) 25560 (S 1100031 0) ∧ 0 ≤ (S 1148 0) ∧ (S 1148 0) < (S 1046 0) ∧ (S 71 (S 1148 0)) = 1 ∧ (S 74 639) = (S 1100007 (S 1148 0)) ∧ (S 1100031 0) = (S 1100023 (S 1148 0)) ∧ (∀ g : Int, 0 ≤ g → g < (S 1032 0) → 0 ≤ (S 30 g) ∧ (S 30 g) < (S 1046 0) ∧ (S 1100007 (S 30 g)) = 0 ∧ (S 1100023 (S 30 g)) = -1 ∧ 0 ≤ (S 33 g) ∧ (S 33 g) ≤ 100 ∧ 0 ≤ (S 20 g) ∧ (S 20 g) ≤ 8) ∧ sm_VN (S 32) (S 33) (S 1032 0) (S 1008 0) ∧ 0 ≤ (S 1147 0) ∧ (S 1147 0) ≤ 12 ∧ (∀ k : Int, 0 ≤ k → k < (S 1147 0) → 635639 ≤ (S 91 k) ∧ (S 91 k) < 647800) ∧ 0 ≤ p1 ∧ p1 ≤ 8 ∧ p1 + 2 ≤ (S 1100007 (S 1148 0)) ∧ (S 1100007 ((S 1148 0) + 1)) = (S 1100007 (S 1148 0)) - p1 - 1 ∧ (S 1148 0) + 1 < (S 1046 0) ∧ (S 1100023 ((S 1148 0) + 1)) = (S 1100023 (S 1148 0))) → sv_T sm_XS sm_cs sm_L sm_sh 22 (q_waysOfCall p1 S) 280 0 (lv_args 0 [.ref 0, sv_I p1]) [] S := by
  intro p1 S hok hp1 hpre
  have h := f_waysOfCall p1 S hok hp1 hpre
  have hM := sm_h280
  show sv_T sm_XS sm_cs sm_L sm_sh 22 (q_waysOfCall p1 S) 280 0 [(0, .ref 0), (1, sv_I p1)] [] S
  have k1 : (sm_CT (S 26) (S 27) (S 28) (S 29) (S 1100007) (S 1100023) (S 1100024) (S 1100025) (S 21) (S 1046 0) (S 1032 0) (S 1008 0) (S 1055 0) → 0 ≤ (S 1148 0) → (S 1148 0) < (S 1046 0) → 0 ≤ (S 1100007 (S 1148 0)) ∧ (S 1100007 (S 1148 0)) ≤ 396 ∧ -1 ≤ (S 1100023 (S 1148 0)) ∧ (S 1100023 (S 1148 0)) < (S 1148 0)) := fun h h0 h1 => by have q := sm_ct_0 h _ h0 h1; exact ⟨q.2.2.2.2.1, q.2.2.2.2.2.1, q.2.2.2.2.2.2.2.1, q.2.2.2.2.2.2.2.2.1⟩
  have h := h k1
  refine sv_aload_n hM dX12_waysOfCall_0 rfl rfl ?_
  refine sv_getA hM dX12_waysOfCall_1 sm_fl_235 (sm_a0 _) sm_k125 rfl ?_
  refine sv_sipush (d := (639 : Int)) hM dX12_waysOfCall_4 rfl rfl ?_
  obtain ⟨o2, h⟩ := h
  have k3 : sv_R (S 74 (639 : Int)) := sm_okI hok sm_r74 (639 : Int)
  have h := h k3
  refine sv_iald hM dX12_waysOfCall_7 (sm_a74 _) (by decide) o2.1 o2.2 rfl (x := (S 74 (639 : Int))) rfl ?_
  refine sv_istore_n hM dX12_waysOfCall_8 (by decide) rfl ?_
  show sv_T sm_XS sm_cs sm_L sm_sh 22 (q_waysOfCall p1 S) 280 9 [(0, .ref 0), (1, sv_I p1), (2, sv_I (S 74 (639 : Int)))] [] S
  refine sv_aload_n hM dX12_waysOfCall_9 rfl rfl ?_
  refine sv_iload_n hM dX12_waysOfCall_10 rfl rfl ?_
  refine sv_iload_n hM dX12_waysOfCall_11 rfl rfl ?_
  refine sv_isub hM dX12_waysOfCall_12 rfl ?_
  refine sv_iconst (d := (1 : Int)) hM dX12_waysOfCall_13 rfl rfl ?_
  refine sv_isub hM dX12_waysOfCall_14 rfl ?_
  refine sv_iload_n hM dX12_waysOfCall_15 rfl rfl ?_
  refine sv_iload_n hM dX12_waysOfCall_16 rfl rfl ?_
  refine sv_isub hM dX12_waysOfCall_17 rfl ?_
  refine sv_iconst (d := (2 : Int)) hM dX12_waysOfCall_18 rfl rfl ?_
  refine sv_isub hM dX12_waysOfCall_19 rfl ?_
  refine sv_iload_n hM dX12_waysOfCall_20 rfl rfl ?_
  refine sv_iload_n hM dX12_waysOfCall_21 rfl rfl ?_
  refine sv_isub hM dX12_waysOfCall_22 rfl ?_
  refine sv_iload_n hM dX12_waysOfCall_23 rfl rfl ?_
  refine sv_iload_n hM dX12_waysOfCall_24 rfl rfl ?_
  refine sv_iconst (d := (2 : Int)) hM dX12_waysOfCall_25 rfl rfl ?_
  refine sv_iadd hM dX12_waysOfCall_26 rfl ?_
  obtain ⟨o4, h⟩ := h
  obtain ⟨o5, h⟩ := h
  obtain ⟨o6, h⟩ := h
  obtain ⟨o7, h⟩ := h
  obtain ⟨o8, h⟩ := h
  obtain ⟨o9, h⟩ := h
  obtain ⟨o10, h⟩ := h
  refine sv_callV hM dX12_waysOfCall_27 sm_iv_1320 (by decide) (sm_a0 _) rfl rfl (Nat.le_of_ble_eq_true rfl) sm_h281 (Nat.le_of_ble_eq_true rfl) (Nat.le_of_ble_eq_true rfl) (F' := (((10 + (if (((S 74 (639 : Int)) - p1) - (1 : Int)) = -1 then 0 else if (((S 74 (639 : Int)) - p1) - (2 : Int)) = -1 then 1 else p1 + 2)))).toNat) (sv_Fe o10) rfl (t_callWays (((S 74 (639 : Int)) - p1) - (1 : Int)) (((S 74 (639 : Int)) - p1) - (2 : Int)) ((S 74 (639 : Int)) - p1) p1 (p1 + (2 : Int)) S hok o4 o5 o6 hp1 o7 o8 o9) (fun v S1 hq => ?_)
  obtain ⟨rfl, ok12, md13, hpo14⟩ := hq
  obtain ⟨g11, rfl⟩ : ∃ g, S1 = sv_sts S [68, 69, 70, 81, 82, 83, 84, 85, 86, 71, 74, 75, 1127, 78, 79, 80, 72, 76, 77, 1143, 1144, 5, 1011, 1150, 1149, 1145, 1113, 1111, 1112, 91, 1147, 1100031] g := ⟨_, md13.eq⟩
  show sv_T sm_XS sm_cs sm_L sm_sh 22 (q_waysOfCall p1 S) 280 30 [(0, .ref 0), (1, sv_I p1), (2, sv_I (S 74 (639 : Int)))] [] (sv_sts S [68, 69, 70, 81, 82, 83, 84, 85, 86, 71, 74, 75, 1127, 78, 79, 80, 72, 76, 77, 1143, 1144, 5, 1011, 1150, 1149, 1145, 1113, 1111, 1112, 91, 1147, 1100031] g11)
  have md15 : sv_mod [68, 69, 70, 81, 82, 83, 84, 85, 86, 71, 74, 75, 1127, 78, 79, 80, 72, 76, 77, 1143, 1144, 5, 1011, 1150, 1149, 1145, 1113, 1111, 1112, 91, 1147, 1100031] S (sv_sts S [68, 69, 70, 81, 82, 83, 84, 85, 86, 71, 74, 75, 1127, 78, 79, 80, 72, 76, 77, 1143, 1144, 5, 1011, 1150, 1149, 1145, 1113, 1111, 1112, 91, 1147, 1100031] g11) := sv_mod.sts sv_mod.rf (by decide)
  have h := h g11 hpo14
  exact sv_vret hM dX12_waysOfCall_30 rfl ⟨rfl, ok12, md15, h⟩
def q_waysOfNew (p1 : Int) (p2 : Int) (S : sv_S) : Option Value → sv_S → Prop := fun v S' => v = none ∧ sm_ok S' ∧ sv_mod [68, 69, 70, 81, 82, 83, 84, 85, 86, 71, 74, 75, 1127, 78, 79, 80, 72, 76, 77, 1143, 1144, 5, 1011, 1150, 1149, 1145, 1113, 1111, 1112, 91, 1147, 1100031] S S' ∧ (sm_ST (S' 71) (S' 74) (S' 75) (S' 78) (S' 79) (S' 80) (S' 27) (S' 1100007) (S' 1100023) (S' 1100024) (S' 1046 0) ((S' 1046 0) + 2 * (S' 1032 0)) (S' 1127 0) ∧ 465000 ≤ (S' 1127 0) ∧ (S' 1127 0) + sm_hs (S' 71) (S' 1100007) ≤ 635000 ∧ (S' 75 639) = 647340 ∧ (∀ k : Int, (S 71 k) = 1 → (S' 71 k) = 1) ∧ sm_DR (S' 72) (S' 71) (S' 1046 0) ∧ (641 * (sm_cm (S' 71) + sm_pt (S' 68) (S' 69) (S' 70) + sm_pl (S' 81) (S' 82) (S' 83) (S' 84) (S' 85) (S' 86) + sm_ps (S' 76) (S' 77)) + sm_du (S' 72)) ≤ (641 * (sm_cm (S 71) + sm_pt (S 68) (S 69) (S 70) + sm_pl (S 81) (S 82) (S 83) (S 84) (S 85) (S 86) + sm_ps (S 76) (S 77)) + sm_du (S 72)) ∧ 0 ≤ (S' 1147 0) ∧ (S' 1147 0) ≤ 12 ∧ (∀ k : Int, 0 ≤ k → k < (S' 1147 0) → 635639 ≤ (S' 91 k) ∧ (S' 91 k) < 647800))
theorem la_waysOfNew_0 : (0 : Int) ≤ 639 ∧ (639 : Int) < 640 := by omega
theorem la_waysOfNew_1 {x0 x1 x2 x3 : Int} (h0 : x0 = 647340) (h1 : x1 = x2) (h2 : 0 ≤ x3) (h3 : x3 ≤ 8) (h4 : x3 + 1 ≤ x2) (h5 : x2 ≤ 396) : x0 = 647340 ∧ 0 ≤ x1 ∧ x1 ≤ 400 ∧ (-1) ≤ x3 ∧ x3 ≤ 1000 := by omega
theorem la_waysOfNew_2 {x0 x1 x2 x3 : Int} (h0 : x0 ≤ 400) (h1 : x0 = x1) (h2 : 0 ≤ x2) (h3 : x2 + 1 ≤ x1) (h4 : x3 = 647339 + x0 - x2) : 0 ≤ x3 ∧ x3 < 647800 := by omega
theorem la_waysOfNew_3 : (0 : Int) ≤ 0 := by omega
theorem la_waysOfNew_4 {x0 : Int} (h0 : 29 ≤ x0) : 0 ≤ x0 := by omega
theorem la_waysOfNew_5 : (0 : Int) = 0 ∨ (0 : Int) = 1 := by omega
theorem la_waysOfNew_6 {x0 x1 : Int} (h0 : x0 ≤ x1) : 0 ≤ x1 - x0 := by omega
theorem la_waysOfNew_7 : (10 : Int) ≤ 10 := by omega
theorem la_waysOfNew_8 : (10 : Int) ≤ 18 := by omega
theorem la_waysOfNew_9 {x0 : Int} (h0 : x0 ≤ 18) : 0 ≤ 18 - x0 := by omega
theorem la_waysOfNew_10 : (1 : Int) ≤ 1 := by omega
theorem la_waysOfNew_11 {x0 x1 : Int} (h0 : x0 + 1 < x1) : ¬ x1 ≤ x0 := by omega
theorem la_waysOfNew_12 {x0 x1 : Int} (h0 : x0 + 1 < x1) : ¬ x1 ≤ x0 + 1 := by omega
theorem la_waysOfNew_13 {x0 x1 x2 x3 x4 x5 x6 x7 x8 x9 x10 x11 x12 x13 x14 : Int} (h0 : 641 * (x0 + x1 + x2 + x3) + x4 ≤ 641 * (x5 + x6 + x7 + x8) + x9) (h1 : 641 * (x10 + x11 + x12 + x13) + x14 ≤ 641 * (x0 + x1 + x2 + x3) + x4) : 641 * (x10 + x11 + x12 + x13) + x14 ≤ 641 * (x5 + x6 + x7 + x8) + x9 := by omega
theorem la_waysOfNew_14 {x0 x1 x2 : Int} (h0 : x0 ≤ 400) (h1 : x0 = x1) (h2 : 0 ≤ x2) (h3 : x2 + 1 ≤ x1) : sv_R (x0 - x2) := by omega
theorem la_waysOfNew_15 {x0 : Int} (h0 : 0 ≤ x0) (h1 : x0 ≤ 8) : sv_R (x0 + 1) := by omega
theorem la_waysOfNew_16 {x0 x1 : Int} (h0 : ¬ x0 ≤ x1) : x1 < x0 := by omega
theorem la_waysOfNew_17 : ((-1) : Int) ≤ (-1) := by omega
theorem la_waysOfNew_18 : ((-1) : Int) ≤ 450 := by omega
theorem la_waysOfNew_19 {x0 x1 x2 : Int} (h0 : x0 = x1) (h1 : x2 + 1 ≤ x1) : 0 ≤ x0 - x2 := by omega
theorem la_waysOfNew_20 {x0 x1 : Int} (h0 : x0 ≤ 400) (h1 : 0 ≤ x1) : x0 - x1 ≤ 450 := by omega
theorem la_waysOfNew_21 {x0 : Int} (h0 : 0 ≤ x0) : 1 ≤ x0 + 1 := by omega
theorem la_waysOfNew_22 {x0 x1 x2 : Int} (h0 : x0 = x1 - x2) : x0 = x1 - (x2 + 1) + 1 := by omega
theorem la_waysOfNew_23 {x0 : Int} (h0 : 0 ≤ x0) : (-1) ≤ x0 := by omega
theorem la_waysOfNew_24 {x0 x1 : Int} (h0 : x0 ≤ 11) (h1 : 1 ≤ x1) (h2 : ¬ x0 ≤ x1) : sv_R (x1 + 1) := by omega
theorem la_waysOfNew_25 {x0 : Int} (h0 : 1 ≤ x0) : 1 ≤ x0 + 1 := by omega
theorem la_waysOfNew_26 {x0 x1 : Int} (h0 : ¬ x0 ≤ x1) : x1 + 1 ≤ x0 := by omega
theorem la_waysOfNew_27 {x0 x1 : Int} : x0 - (x1 + 1) < x0 - x1 := by omega
theorem la_waysOfNew_28 {x0 : Int} (h0 : x0 = 0) : ¬ x0 = 1 := by omega
theorem la_waysOfNew_29 {x0 x1 x2 x3 x4 : Int} : 641 * (x0 + x1 + x2 + x3) + x4 ≤ 641 * (x0 + x1 + x2 + x3) + x4 := by omega
theorem la_waysOfNew_30 {x0 : Int} (h0 : x0 = 1) : 0 ≤ x0 := by omega
theorem la_waysOfNew_31 {x0 : Int} (h0 : 0 ≤ x0) (h1 : ¬ x0 = 0) : 0 < x0 := by omega
theorem la_waysOfNew_32 {x0 x1 : Int} (h0 : 0 ≤ x0) (h1 : x0 + 1 < x1) : 0 ≤ x0 ∧ x0 < x1 ∧ (6 : Int) ≤ 8 ∧ (8 : Int) ≤ 8 := by omega
theorem la_waysOfNew_33 {x0 x1 x2 : Int} (h0 : x0 = x1) (h1 : x2 = x1) : x2 = x0 := by omega
theorem la_waysOfNew_34 {x0 : Int} (h0 : x0 = 13) : sv_R (x0 + 1) := by omega
theorem la_waysOfNew_35 {x0 : Int} (h0 : x0 = 13) : 10 ≤ x0 + 1 := by omega
theorem la_waysOfNew_36 {x0 : Int} (h0 : x0 = 13) : x0 + 1 ≤ 18 := by omega
theorem la_waysOfNew_37 {x0 : Int} : 18 - (x0 + 1) < 18 - x0 := by omega
theorem la_waysOfNew_38 {x0 : Int} (h0 : 10 ≤ x0) (h1 : ¬ 18 ≤ x0) : 0 ≤ x0 ∧ x0 < 128 := by omega
theorem la_waysOfNew_39 {x0 : Int} (h0 : 10 ≤ x0) (h1 : ¬ 18 ≤ x0) : sv_R (x0 + 1) := by omega
theorem la_waysOfNew_40 {x0 : Int} (h0 : 10 ≤ x0) : 10 ≤ x0 + 1 := by omega
theorem la_waysOfNew_41 {x0 : Int} (h0 : ¬ 18 ≤ x0) : x0 + 1 ≤ 18 := by omega
theorem la_waysOfNew_42 {x0 : Int} (h0 : 10 ≤ x0) : 9 ≤ x0 := by omega
theorem la_waysOfNew_43 {x0 : Int} (h0 : ¬ 18 ≤ x0) : x0 ≤ 22 := by omega
theorem la_waysOfNew_44 {x0 : Int} (h0 : ¬ 18 ≤ x0) : ¬ x0 = 20 := by omega
theorem la_waysOfNew_45 {x0 x1 x2 : Int} (h0 : 0 ≤ x0) (h1 : x1 = 1) (h2 : x0 + 1 < x2) : 0 ≤ x0 ∧ x0 < x2 ∧ x1 = 1 ∧ x0 = x0 ∧ (6 : Int) ≤ 6 ∧ (6 : Int) ≤ 8 := by omega
theorem la_waysOfNew_46 {x0 x1 : Int} (h0 : x0 ≤ 127) (h1 : 0 ≤ x1) (h2 : ¬ x0 ≤ x1) : 0 ≤ x1 ∧ x1 < 128 := by omega
theorem la_waysOfNew_47 {x0 x1 : Int} (h0 : x0 ≤ 127) (h1 : 0 ≤ x1) (h2 : ¬ x0 ≤ x1) : sv_R (x1 + 1) := by omega
theorem la_waysOfNew_48 {x0 : Int} (h0 : 0 ≤ x0) : 0 ≤ x0 + 1 := by omega
theorem la_waysOfNew_49 {x0 : Int} : ¬ x0 = 0 → (1 : Int) = 0 ∨ (1 : Int) = 1 := by omega
theorem la_waysOfNew_50 {x0 : Int} (h0 : ¬ ¬ x0 = 0) : ¬ x0 = 1 := by omega
theorem la_waysOfNew_51 {x0 x1 x2 : Int} (h0 : x0 ≤ 127) (h1 : 1 ≤ x1) (h2 : x1 ≤ 11) (h3 : 0 ≤ x2) (h4 : ¬ x0 ≤ x2) : 1 ≤ x1 ∧ x1 ≤ 11 ∧ 0 ≤ x2 ∧ x2 ≤ 200 := by omega
theorem la_waysOfNew_52 {x0 : Int} : x0 ≤ 0 → (0 : Int) = 0 ∨ (0 : Int) = 1 := by omega
theorem la_waysOfNew_53 : (1 : Int) = 0 ∨ (1 : Int) = 1 := by omega
theorem la_waysOfNew_54 {x0 : Int} : ¬ x0 = 0 → (0 : Int) = 0 ∨ (0 : Int) = 1 := by omega
theorem la_waysOfNew_55 {x0 : Int} : 0 < x0 → (1 : Int) = 0 ∨ (1 : Int) = 1 := by omega
theorem la_waysOfNew_56 {x0 : Int} : x0 < 10 → (0 : Int) = 0 ∨ (0 : Int) = 1 := by omega
theorem la_waysOfNew_57 {x0 : Int} : 17 < x0 → (0 : Int) = 0 ∨ (0 : Int) = 1 := by omega
theorem la_waysOfNew_58 {x0 : Int} : x0 = 13 → (0 : Int) = 0 ∨ (0 : Int) = 1 := by omega
theorem la_waysOfNew_59 {x0 : Int} : x0 = 0 → (0 : Int) = 0 ∨ (0 : Int) = 1 := by omega
set_option maxHeartbeats 2000000 in
theorem f_waysOfNew : ∀ (p1 : Int) (p2 : Int) (S : sv_S), sm_ok S → sv_R p1 → sv_R p2 → (29 ≤ (S 1071 0) ∧ (S 1071 0) ≤ 127 ∧ 31 ≤ (S 1008 0) ∧ (S 1008 0) ≤ 90 ∧ 1 ≤ (S 1032 0) ∧ (S 1032 0) ≤ 11 ∧ 0 ≤ (S 1055 0) ∧ (S 1055 0) ≤ 19 ∧ (S 1071 0) = 29 + 6 * ((S 1032 0) - 1) + 2 * (S 1055 0) ∧ 0 ≤ (S 1046 0) ∧ (S 1046 0) + 2 * (S 1032 0) ≤ 500 ∧ sm_PD (S 1046 0) (S 1032 0) (S 1071 0) (S 1008 0) ∧ 0 ≤ (S 1071 0) * ((S 1008 0) + 1) ∧ (S 1071 0) * ((S 1008 0) + 1) ≤ 11557 ∧ 31 ≤ (S 1007 0) ∧ (S 1007 0) ≤ 400 ∧ sm_LN (S 4) 400 (S 1007 0) ∧ (S 75 639) = 647340 ∧ sm_ST (S 71) (S 74) (S 75) (S 78) (S 79) (S 80) (S 27) (S 1100007) (S 1100023) (S 1100024) (S 1046 0) ((S 1046 0) + 2 * (S 1032 0)) (S 1127 0) ∧ 465000 ≤ (S 1127 0) ∧ (S 1127 0) + sm_hs (S 71) (S 1100007) ≤ 635000 ∧ sm_NH (S 1100007) ∧ sm_CT (S 26) (S 27) (S 28) (S 29) (S 1100007) (S 1100023) (S 1100024) (S 1100025) (S 21) (S 1046 0) (S 1032 0) (S 1008 0) (S 1055 0) ∧ (∀ k : Int, (S 1046 0) ≤ k → k < ((S 1046 0) + 2 * (S 1032 0)) → (S 1100007 k) = 1) ∧ sm_DR (S 72) (S 71) (S 1046 0) ∧ 0 ≤ (S 74 639) ∧ (S 74 639) ≤ 400 ∧ 0 ≤ (S 78 639) ∧ (S 78 639) ≤ 40 ∧ (S 78 639) = sm_dp (S 1100024) (S 1100031 0) ∧ -1 ≤ (S 1100031 0) ∧ (S 1100031 0) < (S 1046 0) ∧ (0 ≤ (S 1100031 0) → (S 26 (S 1100031 0)) = 27) ∧ sm_TC (S 79) (S 80) (S 27) (S 1100007) (S 1100023) (S 1100024) 25560 (S 1100031 0) ∧ 0 ≤ (S 1148 0) ∧ (S 1148 0) < (S 1046 0) ∧ (S 71 (S 1148 0)) = 1 ∧ (S 74 639) = (S 1100007 (S 1148 0)) ∧ (S 1100031 0) = (S 1100023 (S 1148 0)) ∧ (∀ g : Int, 0 ≤ g → g < (S 1032 0) → 0 ≤ (S 30 g) ∧ (S 30 g) < (S 1046 0) ∧ (S 1100007 (S 30 g)) = 0 ∧ (S 1100023 (S 30 g)) = -1 ∧ 0 ≤ (S 33 g) ∧ (S 33 g) ≤ 100 ∧ 0 ≤ (S 20 g) ∧ (S 20 g) ≤ 8) ∧ sm_VN (S 32) (S 33) (S 1032 0) (S 1008 0) ∧ 0 ≤ (S 1147 0) ∧ (S 1147 0) ≤ 12 ∧ (∀ k : Int, 0 ≤ k → k < (S 1147 0) → 635639 ≤ (S 91 k) ∧ (S 91 k) < 647800) ∧ 0 ≤ p1 ∧ p1 ≤ 8 ∧ p1 + 1 ≤ (S 1100007 (S 1148 0)) ∧ (S 1100007 ((S 1148 0) + 1)) = (S 1100007 (S 1148 0)) - p1 ∧ (S 1148 0) + 1 < (S 1046 0) ∧ (S 1100023 ((S 1148 0) + 1)) = (S 1100023 (S 1148 0)) ∧ 0 ≤ p2 ∧ p2 < (S 1055 0)) → ((sm_CT (S 26) (S 27) (S 28) (S 29) (S 1100007) (S 1100023) (S 1100024) (S 1100025) (S 21) (S 1046 0) (S 1032 0) (S 1008 0) (S 1055 0) → 0 ≤ (S 1148 0) → (S 1148 0) < (S 1046 0) → 0 ≤ (S 1100007 (S 1148 0)) ∧ (S 1100007 (S 1148 0)) ≤ 396 ∧ -1 ≤ (S 1100023 (S 1148 0)) ∧ (S 1100023 (S 1148 0)) < (S 1148 0)) → (0 ≤ (639 : Int) ∧ (639 : Int) < 640) ∧ (sv_R (S 74 (639 : Int)) → ((S 75 639) = 647340 ∧ 0 ≤ (S 74 639) ∧ (S 74 639) ≤ 400 ∧ -1 ≤ p1 ∧ p1 ≤ 1000) ∧ (∀ r9 : Int, sv_R r9 → (r9 = 647339 + (S 74 639) - p1) → (0 ≤ r9 ∧ r9 < 647800) ∧ (sv_RL (S 69 r9) → (sv_RL (S 70 r9) → ((∀ s13 : Int, sv_R s13 → (s13 = 0 ∨ s13 = 1) → ((0 ≤ (0 : Int) ∧ (0 : Int) ≤ (S 1071 0) ∧ (s13 = 0 ∨ s13 = 1) ∧ ((0 : Int) = 0 ∨ (0 : Int) = 1)) ∧ (∀ l9_15 : Int, sv_R l9_15 → ∀ l10_16 : Int, sv_R l10_16 → ∀ l11_17 : Int, sv_R l11_17 → (0 ≤ l11_17 ∧ l11_17 ≤ (S 1071 0) ∧ (l9_15 = 0 ∨ l9_15 = 1) ∧ (l10_16 = 0 ∨ l10_16 = 1)) → (0 ≤ (S 1071 0) - l11_17) ∧ (sv_R (S 1071 0) → ((((S 1071 0) ≤ l11_17) → ((∀ g22 : sv_S, (sm_ST (g22 71) (g22 74) (g22 75) (g22 78) (g22 79) (g22 80) (S 27) (S 1100007) (S 1100023) (S 1100024) (S 1046 0) ((S 1046 0) + 2 * (S 1032 0)) (g22 1127 0) ∧ 465000 ≤ (g22 1127 0) ∧ (g22 1127 0) + sm_hs (g22 71) (S 1100007) ≤ 635000 ∧ (g22 75 639) = 647340 ∧ (∀ k : Int, (S 71 k) = 1 → (g22 71 k) = 1) ∧ sm_DR (g22 72) (g22 71) (S 1046 0) ∧ (641 * (sm_cm (g22 71) + sm_pt (g22 68) (g22 69) (g22 70) + sm_pl (g22 81) (g22 82) (g22 83) (g22 84) (g22 85) (g22 86) + sm_ps (g22 76) (g22 77)) + sm_du (g22 72)) ≤ (641 * (sm_cm (S 71) + sm_pt (S 68) (S 69) (S 70) + sm_pl (S 81) (S 82) (S 83) (S 84) (S 85) (S 86) + sm_ps (S 76) (S 77)) + sm_du (S 72)) ∧ 0 ≤ (g22 1147 0) ∧ (g22 1147 0) ≤ 12 ∧ (∀ k : Int, 0 ≤ k → k < (g22 1147 0) → 635639 ≤ (g22 91 k) ∧ (g22 91 k) < 647800)) → ((10 ≤ (10 : Int) ∧ (10 : Int) ≤ 18 ∧ sm_ST (g22 71) (g22 74) (g22 75) (g22 78) (g22 79) (g22 80) (S 27) (S 1100007) (S 1100023) (S 1100024) (S 1046 0) ((S 1046 0) + 2 * (S 1032 0)) (g22 1127 0) ∧ 465000 ≤ (g22 1127 0) ∧ (g22 1127 0) + sm_hs (g22 71) (S 1100007) ≤ 635000 ∧ (g22 75 639) = 647340 ∧ (∀ k : Int, (S 71 k) = 1 → (g22 71 k) = 1) ∧ sm_DR (g22 72) (g22 71) (S 1046 0) ∧ (641 * (sm_cm (g22 71) + sm_pt (g22 68) (g22 69) (g22 70) + sm_pl (g22 81) (g22 82) (g22 83) (g22 84) (g22 85) (g22 86) + sm_ps (g22 76) (g22 77)) + sm_du (g22 72)) ≤ (641 * (sm_cm (S 71) + sm_pt (S 68) (S 69) (S 70) + sm_pl (S 81) (S 82) (S 83) (S 84) (S 85) (S 86) + sm_ps (S 76) (S 77)) + sm_du (S 72)) ∧ 0 ≤ (g22 1147 0) ∧ (g22 1147 0) ≤ 12 ∧ (∀ k : Int, 0 ≤ k → k < (g22 1147 0) → 635639 ≤ (g22 91 k) ∧ (g22 91 k) < 647800)) ∧ (∀ l11_28 : Int, sv_R l11_28 → ∀ g27 : sv_S, (10 ≤ l11_28 ∧ l11_28 ≤ 18 ∧ sm_ST (g27 71) (g27 74) (g27 75) (g27 78) (g27 79) (g27 80) (S 27) (S 1100007) (S 1100023) (S 1100024) (S 1046 0) ((S 1046 0) + 2 * (S 1032 0)) (g27 1127 0) ∧ 465000 ≤ (g27 1127 0) ∧ (g27 1127 0) + sm_hs (g27 71) (S 1100007) ≤ 635000 ∧ (g27 75 639) = 647340 ∧ (∀ k : Int, (S 71 k) = 1 → (g27 71 k) = 1) ∧ sm_DR (g27 72) (g27 71) (S 1046 0) ∧ (641 * (sm_cm (g27 71) + sm_pt (g27 68) (g27 69) (g27 70) + sm_pl (g27 81) (g27 82) (g27 83) (g27 84) (g27 85) (g27 86) + sm_ps (g27 76) (g27 77)) + sm_du (g27 72)) ≤ (641 * (sm_cm (S 71) + sm_pt (S 68) (S 69) (S 70) + sm_pl (S 81) (S 82) (S 83) (S 84) (S 85) (S 86) + sm_ps (S 76) (S 77)) + sm_du (S 72)) ∧ 0 ≤ (g27 1147 0) ∧ (g27 1147 0) ≤ 12 ∧ (∀ k : Int, 0 ≤ k → k < (g27 1147 0) → 635639 ≤ (g27 91 k) ∧ (g27 91 k) < 647800)) → (0 ≤ 18 - l11_28) ∧ ((((18 : Int) ≤ l11_28) → ((∀ g34 : sv_S, (sm_ST (g34 71) (g34 74) (g34 75) (g34 78) (g34 79) (g34 80) (S 27) (S 1100007) (S 1100023) (S 1100024) (S 1046 0) ((S 1046 0) + 2 * (S 1032 0)) (g34 1127 0) ∧ 465000 ≤ (g34 1127 0) ∧ (g34 1127 0) + sm_hs (g34 71) (S 1100007) ≤ 635000 ∧ (g34 75 639) = 647340 ∧ (∀ k : Int, (g27 71 k) = 1 → (g34 71 k) = 1) ∧ sm_DR (g34 72) (g34 71) (S 1046 0) ∧ (641 * (sm_cm (g34 71) + sm_pt (g34 68) (g34 69) (g34 70) + sm_pl (g34 81) (g34 82) (g34 83) (g34 84) (g34 85) (g34 86) + sm_ps (g34 76) (g34 77)) + sm_du (g34 72)) ≤ (641 * (sm_cm (g27 71) + sm_pt (g27 68) (g27 69) (g27 70) + sm_pl (g27 81) (g27 82) (g27 83) (g27 84) (g27 85) (g27 86) + sm_ps (g27 76) (g27 77)) + sm_du (g27 72)) ∧ 0 ≤ (g34 1147 0) ∧ (g34 1147 0) ≤ 12 ∧ (∀ k : Int, 0 ≤ k → k < (g34 1147 0) → 635639 ≤ (g34 91 k) ∧ (g34 91 k) < 647800)) → ((1 ≤ (1 : Int) ∧ (1 : Int) ≤ (S 1032 0) ∧ sm_ST (g34 71) (g34 74) (g34 75) (g34 78) (g34 79) (g34 80) (S 27) (S 1100007) (S 1100023) (S 1100024) (S 1046 0) ((S 1046 0) + 2 * (S 1032 0)) (g34 1127 0) ∧ 465000 ≤ (g34 1127 0) ∧ (g34 1127 0) + sm_hs (g34 71) (S 1100007) ≤ 635000 ∧ (g34 75 639) = 647340 ∧ (∀ k : Int, (S 71 k) = 1 → (g34 71 k) = 1) ∧ sm_DR (g34 72) (g34 71) (S 1046 0) ∧ (641 * (sm_cm (g34 71) + sm_pt (g34 68) (g34 69) (g34 70) + sm_pl (g34 81) (g34 82) (g34 83) (g34 84) (g34 85) (g34 86) + sm_ps (g34 76) (g34 77)) + sm_du (g34 72)) ≤ (641 * (sm_cm (S 71) + sm_pt (S 68) (S 69) (S 70) + sm_pl (S 81) (S 82) (S 83) (S 84) (S 85) (S 86) + sm_ps (S 76) (S 77)) + sm_du (S 72)) ∧ 0 ≤ (g34 1147 0) ∧ (g34 1147 0) ≤ 12 ∧ (∀ k : Int, 0 ≤ k → k < (g34 1147 0) → 635639 ≤ (g34 91 k) ∧ (g34 91 k) < 647800)) ∧ (∀ l11_41 : Int, sv_R l11_41 → ∀ g40 : sv_S, (1 ≤ l11_41 ∧ l11_41 ≤ (S 1032 0) ∧ sm_ST (g40 71) (g40 74) (g40 75) (g40 78) (g40 79) (g40 80) (S 27) (S 1100007) (S 1100023) (S 1100024) (S 1046 0) ((S 1046 0) + 2 * (S 1032 0)) (g40 1127 0) ∧ 465000 ≤ (g40 1127 0) ∧ (g40 1127 0) + sm_hs (g40 71) (S 1100007) ≤ 635000 ∧ (g40 75 639) = 647340 ∧ (∀ k : Int, (S 71 k) = 1 → (g40 71 k) = 1) ∧ sm_DR (g40 72) (g40 71) (S 1046 0) ∧ (641 * (sm_cm (g40 71) + sm_pt (g40 68) (g40 69) (g40 70) + sm_pl (g40 81) (g40 82) (g40 83) (g40 84) (g40 85) (g40 86) + sm_ps (g40 76) (g40 77)) + sm_du (g40 72)) ≤ (641 * (sm_cm (S 71) + sm_pt (S 68) (S 69) (S 70) + sm_pl (S 81) (S 82) (S 83) (S 84) (S 85) (S 86) + sm_ps (S 76) (S 77)) + sm_du (S 72)) ∧ 0 ≤ (g40 1147 0) ∧ (g40 1147 0) ≤ 12 ∧ (∀ k : Int, 0 ≤ k → k < (g40 1147 0) → 635639 ≤ (g40 91 k) ∧ (g40 91 k) < 647800)) → (0 ≤ (S 1032 0) - l11_41) ∧ (sv_R (S 1032 0) → ((((S 1032 0) ≤ l11_41) → (sm_ST (g40 71) (g40 74) (g40 75) (g40 78) (g40 79) (g40 80) (S 27) (S 1100007) (S 1100023) (S 1100024) (S 1046 0) ((S 1046 0) + 2 * (S 1032 0)) (g40 1127 0) ∧ 465000 ≤ (g40 1127 0) ∧ (g40 1127 0) + sm_hs (g40 71) (S 1100007) ≤ 635000 ∧ (g40 75 639) = 647340 ∧ (∀ k : Int, (S 71 k) = 1 → (g40 71 k) = 1) ∧ sm_DR (g40 72) (g40 71) (S 1046 0) ∧ (641 * (sm_cm (g40 71) + sm_pt (g40 68) (g40 69) (g40 70) + sm_pl (g40 81) (g40 82) (g40 83) (g40 84) (g40 85) (g40 86) + sm_ps (g40 76) (g40 77)) + sm_du (g40 72)) ≤ (641 * (sm_cm (S 71) + sm_pt (S 68) (S 69) (S 70) + sm_pl (S 81) (S 82) (S 83) (S 84) (S 85) (S 86) + sm_ps (S 76) (S 77)) + sm_du (S 72)) ∧ 0 ≤ (g40 1147 0) ∧ (g40 1147 0) ≤ 12 ∧ (∀ k : Int, 0 ≤ k → k < (g40 1147 0) → 635639 ≤ (g40 91 k) ∧ (g40 91 k) < 647800))) ∧ ((¬ ((S 1032 0) ≤ l11_41)) → (sv_R ((S 74 (639 : Int)) - p1)) ∧ (sv_R (p1 + (1 : Int))) ∧ (29 ≤ (S 1071 0) ∧ (S 1071 0) ≤ 127 ∧ 31 ≤ (S 1008 0) ∧ (S 1008 0) ≤ 90 ∧ 1 ≤ (S 1032 0) ∧ (S 1032 0) ≤ 11 ∧ 0 ≤ (S 1055 0) ∧ (S 1055 0) ≤ 19 ∧ (S 1071 0) = 29 + 6 * ((S 1032 0) - 1) + 2 * (S 1055 0) ∧ 0 ≤ (S 1046 0) ∧ (S 1046 0) + 2 * (S 1032 0) ≤ 500 ∧ sm_PD (S 1046 0) (S 1032 0) (S 1071 0) (S 1008 0) ∧ 0 ≤ (S 1071 0) * ((S 1008 0) + 1) ∧ (S 1071 0) * ((S 1008 0) + 1) ≤ 11557 ∧ 31 ≤ (S 1007 0) ∧ (S 1007 0) ≤ 400 ∧ sm_LN (S 4) 400 (S 1007 0) ∧ (g40 75 639) = 647340 ∧ sm_ST (g40 71) (g40 74) (g40 75) (g40 78) (g40 79) (g40 80) (S 27) (S 1100007) (S 1100023) (S 1100024) (S 1046 0) ((S 1046 0) + 2 * (S 1032 0)) (g40 1127 0) ∧ 465000 ≤ (g40 1127 0) ∧ (g40 1127 0) + sm_hs (g40 71) (S 1100007) ≤ 635000 ∧ sm_NH (S 1100007) ∧ sm_CT (S 26) (S 27) (S 28) (S 29) (S 1100007) (S 1100023) (S 1100024) (S 1100025) (S 21) (S 1046 0) (S 1032 0) (S 1008 0) (S 1055 0) ∧ (∀ k : Int, (S 1046 0) ≤ k → k < ((S 1046 0) + 2 * (S 1032 0)) → (S 1100007 k) = 1) ∧ sm_DR (g40 72) (g40 71) (S 1046 0) ∧ 0 ≤ (S 1148 0) ∧ (S 1148 0) < (S 1046 0) ∧ (g40 71 (S 1148 0)) = 1 ∧ (∀ g : Int, 0 ≤ g → g < (S 1032 0) → 0 ≤ (S 30 g) ∧ (S 30 g) < (S 1046 0) ∧ (S 1100007 (S 30 g)) = 0 ∧ (S 1100023 (S 30 g)) = -1 ∧ 0 ≤ (S 33 g) ∧ (S 33 g) ≤ 100 ∧ 0 ≤ (S 20 g) ∧ (S 20 g) ≤ 8) ∧ sm_VN (S 32) (S 33) (S 1032 0) (S 1008 0) ∧ 0 ≤ (g40 1147 0) ∧ (g40 1147 0) ≤ 12 ∧ (∀ k : Int, 0 ≤ k → k < (g40 1147 0) → 635639 ≤ (g40 91 k) ∧ (g40 91 k) < 647800) ∧ 1 ≤ l11_41 ∧ l11_41 < (S 1032 0) ∧ -1 ≤ (-1 : Int) ∧ (-1 : Int) ≤ 450 ∧ 0 ≤ ((S 74 (639 : Int)) - p1) ∧ ((S 74 (639 : Int)) - p1) ≤ 450 ∧ 0 ≤ p1 ∧ p1 ≤ 8 ∧ 1 ≤ (p1 + (1 : Int)) ∧ (p1 + (1 : Int)) ≤ (S 1100007 (S 1148 0)) ∧ (S 1100007 ((S 1148 0) + 1)) = (S 1100007 (S 1148 0)) - (p1 + (1 : Int)) + 1 ∧ (S 1148 0) + 1 < (S 1046 0) ∧ (S 1100023 ((S 1148 0) + 1)) = (S 1100023 (S 1148 0)) ∧ -1 ≤ p2 ∧ p2 < (S 1055 0)) ∧ (∀ g52 : sv_S, (sm_ST (g52 71) (g52 74) (g52 75) (g52 78) (g52 79) (g52 80) (S 27) (S 1100007) (S 1100023) (S 1100024) (S 1046 0) ((S 1046 0) + 2 * (S 1032 0)) (g52 1127 0) ∧ 465000 ≤ (g52 1127 0) ∧ (g52 1127 0) + sm_hs (g52 71) (S 1100007) ≤ 635000 ∧ (g52 75 639) = 647340 ∧ (∀ k : Int, (g40 71 k) = 1 → (g52 71 k) = 1) ∧ sm_DR (g52 72) (g52 71) (S 1046 0) ∧ (641 * (sm_cm (g52 71) + sm_pt (g52 68) (g52 69) (g52 70) + sm_pl (g52 81) (g52 82) (g52 83) (g52 84) (g52 85) (g52 86) + sm_ps (g52 76) (g52 77)) + sm_du (g52 72)) ≤ (641 * (sm_cm (g40 71) + sm_pt (g40 68) (g40 69) (g40 70) + sm_pl (g40 81) (g40 82) (g40 83) (g40 84) (g40 85) (g40 86) + sm_ps (g40 76) (g40 77)) + sm_du (g40 72)) ∧ 0 ≤ (g52 1147 0) ∧ (g52 1147 0) ≤ 12 ∧ (∀ k : Int, 0 ≤ k → k < (g52 1147 0) → 635639 ≤ (g52 91 k) ∧ (g52 91 k) < 647800)) → (sv_R (l11_41 + (1 : Int))) ∧ ((1 ≤ (l11_41 + (1 : Int)) ∧ (l11_41 + (1 : Int)) ≤ (S 1032 0) ∧ sm_ST (g52 71) (g52 74) (g52 75) (g52 78) (g52 79) (g52 80) (S 27) (S 1100007) (S 1100023) (S 1100024) (S 1046 0) ((S 1046 0) + 2 * (S 1032 0)) (g52 1127 0) ∧ 465000 ≤ (g52 1127 0) ∧ (g52 1127 0) + sm_hs (g52 71) (S 1100007) ≤ 635000 ∧ (g52 75 639) = 647340 ∧ (∀ k : Int, (S 71 k) = 1 → (g52 71 k) = 1) ∧ sm_DR (g52 72) (g52 71) (S 1046 0) ∧ (641 * (sm_cm (g52 71) + sm_pt (g52 68) (g52 69) (g52 70) + sm_pl (g52 81) (g52 82) (g52 83) (g52 84) (g52 85) (g52 86) + sm_ps (g52 76) (g52 77)) + sm_du (g52 72)) ≤ (641 * (sm_cm (S 71) + sm_pt (S 68) (S 69) (S 70) + sm_pl (S 81) (S 82) (S 83) (S 84) (S 85) (S 86) + sm_ps (S 76) (S 77)) + sm_du (S 72)) ∧ 0 ≤ (g52 1147 0) ∧ (g52 1147 0) ≤ 12 ∧ (∀ k : Int, 0 ≤ k → k < (g52 1147 0) → 635639 ≤ (g52 91 k) ∧ (g52 91 k) < 647800)) ∧ ((S 1032 0) - (l11_41 + (1 : Int))) < ((S 1032 0) - l11_41))))))))) ∧ (((l10_16 = (0 : Int)) → (sm_ST (g27 71) (g27 74) (g27 75) (g27 78) (g27 79) (g27 80) (S 27) (S 1100007) (S 1100023) (S 1100024) (S 1046 0) ((S 1046 0) + 2 * (S 1032 0)) (g27 1127 0) ∧ 465000 ≤ (g27 1127 0) ∧ (g27 1127 0) + sm_hs (g27 71) (S 1100007) ≤ 635000 ∧ (g27 75 639) = 647340 ∧ (∀ k : Int, (g27 71 k) = 1 → (g27 71 k) = 1) ∧ sm_DR (g27 72) (g27 71) (S 1046 0) ∧ (641 * (sm_cm (g27 71) + sm_pt (g27 68) (g27 69) (g27 70) + sm_pl (g27 81) (g27 82) (g27 83) (g27 84) (g27 85) (g27 86) + sm_ps (g27 76) (g27 77)) + sm_du (g27 72)) ≤ (641 * (sm_cm (g27 71) + sm_pt (g27 68) (g27 69) (g27 70) + sm_pl (g27 81) (g27 82) (g27 83) (g27 84) (g27 85) (g27 86) + sm_ps (g27 76) (g27 77)) + sm_du (g27 72)) ∧ 0 ≤ (g27 1147 0) ∧ (g27 1147 0) ≤ 12 ∧ (∀ k : Int, 0 ≤ k → k < (g27 1147 0) → 635639 ≤ (g27 91 k) ∧ (g27 91 k) < 647800))) ∧ ((¬ (l10_16 = (0 : Int))) → (29 ≤ (S 1071 0) ∧ (S 1071 0) ≤ 127 ∧ 31 ≤ (S 1008 0) ∧ (S 1008 0) ≤ 90 ∧ 1 ≤ (S 1032 0) ∧ (S 1032 0) ≤ 11 ∧ 0 ≤ (S 1055 0) ∧ (S 1055 0) ≤ 19 ∧ (S 1071 0) = 29 + 6 * ((S 1032 0) - 1) + 2 * (S 1055 0) ∧ 0 ≤ (S 1046 0) ∧ (S 1046 0) + 2 * (S 1032 0) ≤ 500 ∧ sm_PD (S 1046 0) (S 1032 0) (S 1071 0) (S 1008 0) ∧ 0 ≤ (S 1071 0) * ((S 1008 0) + 1) ∧ (S 1071 0) * ((S 1008 0) + 1) ≤ 11557 ∧ 31 ≤ (S 1007 0) ∧ (S 1007 0) ≤ 400 ∧ sm_LN (S 4) 400 (S 1007 0) ∧ (g27 75 639) = 647340 ∧ sm_ST (g27 71) (g27 74) (g27 75) (g27 78) (g27 79) (g27 80) (S 27) (S 1100007) (S 1100023) (S 1100024) (S 1046 0) ((S 1046 0) + 2 * (S 1032 0)) (g27 1127 0) ∧ 465000 ≤ (g27 1127 0) ∧ (g27 1127 0) + sm_hs (g27 71) (S 1100007) ≤ 635000 ∧ sm_NH (S 1100007) ∧ sm_CT (S 26) (S 27) (S 28) (S 29) (S 1100007) (S 1100023) (S 1100024) (S 1100025) (S 21) (S 1046 0) (S 1032 0) (S 1008 0) (S 1055 0) ∧ (∀ k : Int, (S 1046 0) ≤ k → k < ((S 1046 0) + 2 * (S 1032 0)) → (S 1100007 k) = 1) ∧ sm_DR (g27 72) (g27 71) (S 1046 0) ∧ 0 ≤ (S 1148 0) ∧ (S 1148 0) < (S 1046 0) ∧ (g27 71 (S 1148 0)) = 1 ∧ -1 ≤ p2 ∧ p2 < (S 1055 0) ∧ 0 ≤ (g27 1147 0) ∧ (g27 1147 0) ≤ 12 ∧ (∀ k : Int, 0 ≤ k → k < (g27 1147 0) → 635639 ≤ (g27 91 k) ∧ (g27 91 k) < 647800)) ∧ (∀ g62 : sv_S, (sm_ST (g62 71) (g62 74) (g62 75) (g62 78) (g62 79) (g62 80) (S 27) (S 1100007) (S 1100023) (S 1100024) (S 1046 0) ((S 1046 0) + 2 * (S 1032 0)) (g62 1127 0) ∧ 465000 ≤ (g62 1127 0) ∧ (g62 1127 0) + sm_hs (g62 71) (S 1100007) ≤ 635000 ∧ (g62 75 639) = 647340 ∧ (∀ k : Int, (g27 71 k) = 1 → (g62 71 k) = 1) ∧ sm_DR (g62 72) (g62 71) (S 1046 0) ∧ (641 * (sm_cm (g62 71) + sm_pt (g62 68) (g62 69) (g62 70) + sm_pl (g62 81) (g62 82) (g62 83) (g62 84) (g62 85) (g62 86) + sm_ps (g62 76) (g62 77)) + sm_du (g62 72)) ≤ (641 * (sm_cm (g27 71) + sm_pt (g27 68) (g27 69) (g27 70) + sm_pl (g27 81) (g27 82) (g27 83) (g27 84) (g27 85) (g27 86) + sm_ps (g27 76) (g27 77)) + sm_du (g27 72)) ∧ 0 ≤ (g62 74 639) ∧ (g62 74 639) ≤ 400 ∧ 0 ≤ (g62 78 639) ∧ (g62 78 639) ≤ 40 ∧ (g62 78 639) = sm_dp (S 1100024) (g62 1100031 0) ∧ -1 ≤ (g62 1100031 0) ∧ (g62 1100031 0) < (S 1046 0) ∧ (0 ≤ (g62 1100031 0) → (S 26 (g62 1100031 0)) = 27) ∧ sm_TC (g62 79) (g62 80) (S 27) (S 1100007) (S 1100023) (S 1100024) 25560 (g62 1100031 0) ∧ (g62 74 639) = (S 1100007 (S 1148 0)) ∧ (g62 1100031 0) = (S 1100023 (S 1148 0)) ∧ 0 ≤ (g62 1147 0) ∧ (g62 1147 0) ≤ 12 ∧ (∀ k : Int, 0 ≤ k → k < (g62 1147 0) → 635639 ≤ (g62 91 k) ∧ (g62 91 k) < 647800)) → (29 ≤ (S 1071 0) ∧ (S 1071 0) ≤ 127 ∧ 31 ≤ (S 1008 0) ∧ (S 1008 0) ≤ 90 ∧ 1 ≤ (S 1032 0) ∧ (S 1032 0) ≤ 11 ∧ 0 ≤ (S 1055 0) ∧ (S 1055 0) ≤ 19 ∧ (S 1071 0) = 29 + 6 * ((S 1032 0) - 1) + 2 * (S 1055 0) ∧ 0 ≤ (S 1046 0) ∧ (S 1046 0) + 2 * (S 1032 0) ≤ 500 ∧ sm_PD (S 1046 0) (S 1032 0) (S 1071 0) (S 1008 0) ∧ 0 ≤ (S 1071 0) * ((S 1008 0) + 1) ∧ (S 1071 0) * ((S 1008 0) + 1) ≤ 11557 ∧ 31 ≤ (S 1007 0) ∧ (S 1007 0) ≤ 400 ∧ sm_LN (S 4) 400 (S 1007 0) ∧ (g62 75 639) = 647340 ∧ sm_ST (g62 71) (g62 74) (g62 75) (g62 78) (g62 79) (g62 80) (S 27) (S 1100007) (S 1100023) (S 1100024) (S 1046 0) ((S 1046 0) + 2 * (S 1032 0)) (g62 1127 0) ∧ 465000 ≤ (g62 1127 0) ∧ (g62 1127 0) + sm_hs (g62 71) (S 1100007) ≤ 635000 ∧ sm_NH (S 1100007) ∧ sm_CT (S 26) (S 27) (S 28) (S 29) (S 1100007) (S 1100023) (S 1100024) (S 1100025) (S 21) (S 1046 0) (S 1032 0) (S 1008 0) (S 1055 0) ∧ (∀ k : Int, (S 1046 0) ≤ k → k < ((S 1046 0) + 2 * (S 1032 0)) → (S 1100007 k) = 1) ∧ sm_DR (g62 72) (g62 71) (S 1046 0) ∧ 0 ≤ (g62 74 639) ∧ (g62 74 639) ≤ 400 ∧ 0 ≤ (g62 78 639) ∧ (g62 78 639) ≤ 40 ∧ (g62 78 639) = sm_dp (S 1100024) (g62 1100031 0) ∧ -1 ≤ (g62 1100031 0) ∧ (g62 1100031 0) < (S 1046 0) ∧ (0 ≤ (g62 1100031 0) → (S 26 (g62 1100031 0)) = 27) ∧ sm_TC (g62 79) (g62 80) (S 27) (S 1100007) (S 1100023) (S 1100024) 25560 (g62 1100031 0) ∧ 0 ≤ (S 1148 0) ∧ (S 1148 0) < (S 1046 0) ∧ 6 ≤ (8 : Int) ∧ (8 : Int) ≤ 8) ∧ (∀ g70 : sv_S, (sm_ST (g70 71) (g70 74) (g70 75) (g70 78) (g70 79) (g70 80) (S 27) (S 1100007) (S 1100023) (S 1100024) (S 1046 0) ((S 1046 0) + 2 * (S 1032 0)) (g70 1127 0) ∧ 465000 ≤ (g70 1127 0) ∧ (g70 1127 0) + sm_hs (g70 71) (S 1100007) ≤ 635000 ∧ (g70 75 639) = 647340 ∧ (∀ k : Int, (g62 71 k) = 1 → (g70 71 k) = 1) ∧ sm_DR (g70 72) (g70 71) (S 1046 0) ∧ (641 * (sm_cm (g70 71) + sm_pt (g70 68) (g70 69) (g70 70) + sm_pl (g70 81) (g70 82) (g70 83) (g70 84) (g70 85) (g70 86) + sm_ps (g70 76) (g70 77)) + sm_du (g70 72)) ≤ (641 * (sm_cm (g62 71) + sm_pt (g62 68) (g62 69) (g62 70) + sm_pl (g62 81) (g62 82) (g62 83) (g62 84) (g62 85) (g62 86) + sm_ps (g62 76) (g62 77)) + sm_du (g62 72))) → (sm_ST (g70 71) (g70 74) (g70 75) (g70 78) (g70 79) (g70 80) (S 27) (S 1100007) (S 1100023) (S 1100024) (S 1046 0) ((S 1046 0) + 2 * (S 1032 0)) (g70 1127 0) ∧ 465000 ≤ (g70 1127 0) ∧ (g70 1127 0) + sm_hs (g70 71) (S 1100007) ≤ 635000 ∧ (g70 75 639) = 647340 ∧ (∀ k : Int, (g27 71 k) = 1 → (g70 71 k) = 1) ∧ sm_DR (g70 72) (g70 71) (S 1046 0) ∧ (641 * (sm_cm (g70 71) + sm_pt (g70 68) (g70 69) (g70 70) + sm_pl (g70 81) (g70 82) (g70 83) (g70 84) (g70 85) (g70 86) + sm_ps (g70 76) (g70 77)) + sm_du (g70 72)) ≤ (641 * (sm_cm (g27 71) + sm_pt (g27 68) (g27 69) (g27 70) + sm_pl (g27 81) (g27 82) (g27 83) (g27 84) (g27 85) (g27 86) + sm_ps (g27 76) (g27 77)) + sm_du (g27 72)) ∧ 0 ≤ (g62 1147 0) ∧ (g62 1147 0) ≤ 12 ∧ (∀ k : Int, 0 ≤ k → k < (g62 1147 0) → 635639 ≤ (g62 91 k) ∧ (g62 91 k) < 647800)))))))) ∧ ((¬ ((18 : Int) ≤ l11_28)) → (((l11_28 = (13 : Int)) → (sv_R (l11_28 + (1 : Int))) ∧ ((10 ≤ (l11_28 + (1 : Int)) ∧ (l11_28 + (1 : Int)) ≤ 18 ∧ sm_ST (g27 71) (g27 74) (g27 75) (g27 78) (g27 79) (g27 80) (S 27) (S 1100007) (S 1100023) (S 1100024) (S 1046 0) ((S 1046 0) + 2 * (S 1032 0)) (g27 1127 0) ∧ 465000 ≤ (g27 1127 0) ∧ (g27 1127 0) + sm_hs (g27 71) (S 1100007) ≤ 635000 ∧ (g27 75 639) = 647340 ∧ (∀ k : Int, (S 71 k) = 1 → (g27 71 k) = 1) ∧ sm_DR (g27 72) (g27 71) (S 1046 0) ∧ (641 * (sm_cm (g27 71) + sm_pt (g27 68) (g27 69) (g27 70) + sm_pl (g27 81) (g27 82) (g27 83) (g27 84) (g27 85) (g27 86) + sm_ps (g27 76) (g27 77)) + sm_du (g27 72)) ≤ (641 * (sm_cm (S 71) + sm_pt (S 68) (S 69) (S 70) + sm_pl (S 81) (S 82) (S 83) (S 84) (S 85) (S 86) + sm_ps (S 76) (S 77)) + sm_du (S 72)) ∧ 0 ≤ (g27 1147 0) ∧ (g27 1147 0) ≤ 12 ∧ (∀ k : Int, 0 ≤ k → k < (g27 1147 0) → 635639 ≤ (g27 91 k) ∧ (g27 91 k) < 647800)) ∧ (18 - (l11_28 + (1 : Int))) < (18 - l11_28))) ∧ ((¬ (l11_28 = (13 : Int))) → (0 ≤ l11_28 ∧ l11_28 < 128) ∧ (∀ r83 : Int, sv_R r83 → (r83 = sm_in (S 69 r9) (S 70 r9) l11_28 ∧ (r83 = 0 ∨ r83 = 1)) → (((r83 = (0 : Int)) → (sv_R (l11_28 + (1 : Int))) ∧ ((10 ≤ (l11_28 + (1 : Int)) ∧ (l11_28 + (1 : Int)) ≤ 18 ∧ sm_ST (g27 71) (g27 74) (g27 75) (g27 78) (g27 79) (g27 80) (S 27) (S 1100007) (S 1100023) (S 1100024) (S 1046 0) ((S 1046 0) + 2 * (S 1032 0)) (g27 1127 0) ∧ 465000 ≤ (g27 1127 0) ∧ (g27 1127 0) + sm_hs (g27 71) (S 1100007) ≤ 635000 ∧ (g27 75 639) = 647340 ∧ (∀ k : Int, (S 71 k) = 1 → (g27 71 k) = 1) ∧ sm_DR (g27 72) (g27 71) (S 1046 0) ∧ (641 * (sm_cm (g27 71) + sm_pt (g27 68) (g27 69) (g27 70) + sm_pl (g27 81) (g27 82) (g27 83) (g27 84) (g27 85) (g27 86) + sm_ps (g27 76) (g27 77)) + sm_du (g27 72)) ≤ (641 * (sm_cm (S 71) + sm_pt (S 68) (S 69) (S 70) + sm_pl (S 81) (S 82) (S 83) (S 84) (S 85) (S 86) + sm_ps (S 76) (S 77)) + sm_du (S 72)) ∧ 0 ≤ (g27 1147 0) ∧ (g27 1147 0) ≤ 12 ∧ (∀ k : Int, 0 ≤ k → k < (g27 1147 0) → 635639 ≤ (g27 91 k) ∧ (g27 91 k) < 647800)) ∧ (18 - (l11_28 + (1 : Int))) < (18 - l11_28))) ∧ ((¬ (r83 = (0 : Int))) → (sv_R ((S 74 (639 : Int)) - p1)) ∧ (sv_R (p1 + (1 : Int))) ∧ (29 ≤ (S 1071 0) ∧ (S 1071 0) ≤ 127 ∧ 31 ≤ (S 1008 0) ∧ (S 1008 0) ≤ 90 ∧ 1 ≤ (S 1032 0) ∧ (S 1032 0) ≤ 11 ∧ 0 ≤ (S 1055 0) ∧ (S 1055 0) ≤ 19 ∧ (S 1071 0) = 29 + 6 * ((S 1032 0) - 1) + 2 * (S 1055 0) ∧ 0 ≤ (S 1046 0) ∧ (S 1046 0) + 2 * (S 1032 0) ≤ 500 ∧ sm_PD (S 1046 0) (S 1032 0) (S 1071 0) (S 1008 0) ∧ 0 ≤ (S 1071 0) * ((S 1008 0) + 1) ∧ (S 1071 0) * ((S 1008 0) + 1) ≤ 11557 ∧ 31 ≤ (S 1007 0) ∧ (S 1007 0) ≤ 400 ∧ sm_LN (S 4) 400 (S 1007 0) ∧ (g27 75 639) = 647340 ∧ sm_ST (g27 71) (g27 74) (g27 75) (g27 78) (g27 79) (g27 80) (S 27) (S 1100007) (S 1100023) (S 1100024) (S 1046 0) ((S 1046 0) + 2 * (S 1032 0)) (g27 1127 0) ∧ 465000 ≤ (g27 1127 0) ∧ (g27 1127 0) + sm_hs (g27 71) (S 1100007) ≤ 635000 ∧ sm_NH (S 1100007) ∧ sm_CT (S 26) (S 27) (S 28) (S 29) (S 1100007) (S 1100023) (S 1100024) (S 1100025) (S 21) (S 1046 0) (S 1032 0) (S 1008 0) (S 1055 0) ∧ (∀ k : Int, (S 1046 0) ≤ k → k < ((S 1046 0) + 2 * (S 1032 0)) → (S 1100007 k) = 1) ∧ sm_DR (g27 72) (g27 71) (S 1046 0) ∧ 0 ≤ (S 1148 0) ∧ (S 1148 0) < (S 1046 0) ∧ (g27 71 (S 1148 0)) = 1 ∧ 9 ≤ l11_28 ∧ l11_28 ≤ 22 ∧ ¬ l11_28 = 20 ∧ -1 ≤ (-1 : Int) ∧ (-1 : Int) ≤ 450 ∧ 0 ≤ ((S 74 (639 : Int)) - p1) ∧ ((S 74 (639 : Int)) - p1) ≤ 450 ∧ 0 ≤ p1 ∧ p1 ≤ 8 ∧ 1 ≤ (p1 + (1 : Int)) ∧ (p1 + (1 : Int)) ≤ (S 1100007 (S 1148 0)) ∧ (S 1100007 ((S 1148 0) + 1)) = (S 1100007 (S 1148 0)) - (p1 + (1 : Int)) + 1 ∧ (S 1148 0) + 1 < (S 1046 0) ∧ (S 1100023 ((S 1148 0) + 1)) = (S 1100023 (S 1148 0))) ∧ (∀ g88 : sv_S, (sm_ST (g88 71) (g88 74) (g88 75) (g88 78) (g88 79) (g88 80) (S 27) (S 1100007) (S 1100023) (S 1100024) (S 1046 0) ((S 1046 0) + 2 * (S 1032 0)) (g88 1127 0) ∧ 465000 ≤ (g88 1127 0) ∧ (g88 1127 0) + sm_hs (g88 71) (S 1100007) ≤ 635000 ∧ (g88 75 639) = 647340 ∧ (∀ k : Int, (g27 71 k) = 1 → (g88 71 k) = 1) ∧ sm_DR (g88 72) (g88 71) (S 1046 0) ∧ (641 * (sm_cm (g88 71) + sm_pt (g88 68) (g88 69) (g88 70) + sm_pl (g88 81) (g88 82) (g88 83) (g88 84) (g88 85) (g88 86) + sm_ps (g88 76) (g88 77)) + sm_du (g88 72)) ≤ (641 * (sm_cm (g27 71) + sm_pt (g27 68) (g27 69) (g27 70) + sm_pl (g27 81) (g27 82) (g27 83) (g27 84) (g27 85) (g27 86) + sm_ps (g27 76) (g27 77)) + sm_du (g27 72))) → (sv_R (l11_28 + (1 : Int))) ∧ ((10 ≤ (l11_28 + (1 : Int)) ∧ (l11_28 + (1 : Int)) ≤ 18 ∧ sm_ST (g88 71) (g88 74) (g88 75) (g88 78) (g88 79) (g88 80) (S 27) (S 1100007) (S 1100023) (S 1100024) (S 1046 0) ((S 1046 0) + 2 * (S 1032 0)) (g88 1127 0) ∧ 465000 ≤ (g88 1127 0) ∧ (g88 1127 0) + sm_hs (g88 71) (S 1100007) ≤ 635000 ∧ (g88 75 639) = 647340 ∧ (∀ k : Int, (S 71 k) = 1 → (g88 71 k) = 1) ∧ sm_DR (g88 72) (g88 71) (S 1046 0) ∧ (641 * (sm_cm (g88 71) + sm_pt (g88 68) (g88 69) (g88 70) + sm_pl (g88 81) (g88 82) (g88 83) (g88 84) (g88 85) (g88 86) + sm_ps (g88 76) (g88 77)) + sm_du (g88 72)) ≤ (641 * (sm_cm (S 71) + sm_pt (S 68) (S 69) (S 70) + sm_pl (S 81) (S 82) (S 83) (S 84) (S 85) (S 86) + sm_ps (S 76) (S 77)) + sm_du (S 72)) ∧ 0 ≤ (g27 1147 0) ∧ (g27 1147 0) ≤ 12 ∧ (∀ k : Int, 0 ≤ k → k < (g27 1147 0) → 635639 ≤ (g27 91 k) ∧ (g27 91 k) < 647800)) ∧ (18 - (l11_28 + (1 : Int))) < (18 - l11_28))))))))))))) ∧ (((l9_15 = (0 : Int)) → (sm_ST (S 71) (S 74) (S 75) (S 78) (S 79) (S 80) (S 27) (S 1100007) (S 1100023) (S 1100024) (S 1046 0) ((S 1046 0) + 2 * (S 1032 0)) (S 1127 0) ∧ 465000 ≤ (S 1127 0) ∧ (S 1127 0) + sm_hs (S 71) (S 1100007) ≤ 635000 ∧ (S 75 639) = 647340 ∧ (∀ k : Int, (S 71 k) = 1 → (S 71 k) = 1) ∧ sm_DR (S 72) (S 71) (S 1046 0) ∧ (641 * (sm_cm (S 71) + sm_pt (S 68) (S 69) (S 70) + sm_pl (S 81) (S 82) (S 83) (S 84) (S 85) (S 86) + sm_ps (S 76) (S 77)) + sm_du (S 72)) ≤ (641 * (sm_cm (S 71) + sm_pt (S 68) (S 69) (S 70) + sm_pl (S 81) (S 82) (S 83) (S 84) (S 85) (S 86) + sm_ps (S 76) (S 77)) + sm_du (S 72)) ∧ 0 ≤ (S 1147 0) ∧ (S 1147 0) ≤ 12 ∧ (∀ k : Int, 0 ≤ k → k < (S 1147 0) → 635639 ≤ (S 91 k) ∧ (S 91 k) < 647800))) ∧ ((¬ (l9_15 = (0 : Int))) → (sv_R (S 1148 0) → (29 ≤ (S 1071 0) ∧ (S 1071 0) ≤ 127 ∧ 31 ≤ (S 1008 0) ∧ (S 1008 0) ≤ 90 ∧ 1 ≤ (S 1032 0) ∧ (S 1032 0) ≤ 11 ∧ 0 ≤ (S 1055 0) ∧ (S 1055 0) ≤ 19 ∧ (S 1071 0) = 29 + 6 * ((S 1032 0) - 1) + 2 * (S 1055 0) ∧ 0 ≤ (S 1046 0) ∧ (S 1046 0) + 2 * (S 1032 0) ≤ 500 ∧ sm_PD (S 1046 0) (S 1032 0) (S 1071 0) (S 1008 0) ∧ 0 ≤ (S 1071 0) * ((S 1008 0) + 1) ∧ (S 1071 0) * ((S 1008 0) + 1) ≤ 11557 ∧ 31 ≤ (S 1007 0) ∧ (S 1007 0) ≤ 400 ∧ sm_LN (S 4) 400 (S 1007 0) ∧ (S 75 639) = 647340 ∧ sm_ST (S 71) (S 74) (S 75) (S 78) (S 79) (S 80) (S 27) (S 1100007) (S 1100023) (S 1100024) (S 1046 0) ((S 1046 0) + 2 * (S 1032 0)) (S 1127 0) ∧ 465000 ≤ (S 1127 0) ∧ (S 1127 0) + sm_hs (S 71) (S 1100007) ≤ 635000 ∧ sm_NH (S 1100007) ∧ sm_CT (S 26) (S 27) (S 28) (S 29) (S 1100007) (S 1100023) (S 1100024) (S 1100025) (S 21) (S 1046 0) (S 1032 0) (S 1008 0) (S 1055 0) ∧ (∀ k : Int, (S 1046 0) ≤ k → k < ((S 1046 0) + 2 * (S 1032 0)) → (S 1100007 k) = 1) ∧ sm_DR (S 72) (S 71) (S 1046 0) ∧ 0 ≤ (S 1148 0) ∧ (S 1148 0) < (S 1046 0) ∧ (S 71 (S 1148 0)) = 1 ∧ (S 1148 0) = (S 1148 0) ∧ 6 ≤ (6 : Int) ∧ (6 : Int) ≤ 8) ∧ (∀ g98 : sv_S, (sm_ST (g98 71) (g98 74) (g98 75) (g98 78) (g98 79) (g98 80) (S 27) (S 1100007) (S 1100023) (S 1100024) (S 1046 0) ((S 1046 0) + 2 * (S 1032 0)) (g98 1127 0) ∧ 465000 ≤ (g98 1127 0) ∧ (g98 1127 0) + sm_hs (g98 71) (S 1100007) ≤ 635000 ∧ (g98 75 639) = 647340 ∧ (∀ k : Int, (S 71 k) = 1 → (g98 71 k) = 1) ∧ sm_DR (g98 72) (g98 71) (S 1046 0) ∧ (641 * (sm_cm (g98 71) + sm_pt (g98 68) (g98 69) (g98 70) + sm_pl (g98 81) (g98 82) (g98 83) (g98 84) (g98 85) (g98 86) + sm_ps (g98 76) (g98 77)) + sm_du (g98 72)) ≤ (641 * (sm_cm (S 71) + sm_pt (S 68) (S 69) (S 70) + sm_pl (S 81) (S 82) (S 83) (S 84) (S 85) (S 86) + sm_ps (S 76) (S 77)) + sm_du (S 72))) → (sm_ST (g98 71) (g98 74) (g98 75) (g98 78) (g98 79) (g98 80) (S 27) (S 1100007) (S 1100023) (S 1100024) (S 1046 0) ((S 1046 0) + 2 * (S 1032 0)) (g98 1127 0) ∧ 465000 ≤ (g98 1127 0) ∧ (g98 1127 0) + sm_hs (g98 71) (S 1100007) ≤ 635000 ∧ (g98 75 639) = 647340 ∧ (∀ k : Int, (S 71 k) = 1 → (g98 71 k) = 1) ∧ sm_DR (g98 72) (g98 71) (S 1046 0) ∧ (641 * (sm_cm (g98 71) + sm_pt (g98 68) (g98 69) (g98 70) + sm_pl (g98 81) (g98 82) (g98 83) (g98 84) (g98 85) (g98 86) + sm_ps (g98 76) (g98 77)) + sm_du (g98 72)) ≤ (641 * (sm_cm (S 71) + sm_pt (S 68) (S 69) (S 70) + sm_pl (S 81) (S 82) (S 83) (S 84) (S 85) (S 86) + sm_ps (S 76) (S 77)) + sm_du (S 72)) ∧ 0 ≤ (S 1147 0) ∧ (S 1147 0) ≤ 12 ∧ (∀ k : Int, 0 ≤ k → k < (S 1147 0) → 635639 ≤ (S 91 k) ∧ (S 91 k) < 647800)))))))) ∧ ((¬ ((S 1071 0) ≤ l11_17)) → (0 ≤ l11_17 ∧ l11_17 < 128) ∧ (∀ r109 : Int, sv_R r109 → (r109 = sm_in (S 69 r9) (S 70 r9) l11_17 ∧ (r109 = 0 ∨ r109 = 1)) → (((¬ r109 = (0 : Int)) → ((∀ s110 : Int, sv_R s110 → (s110 = 0 ∨ s110 = 1) → ((∀ s112 : Int, sv_R s112 → (s112 = 0 ∨ s112 = 1) → ((∀ s114 : Int, sv_R s114 → (s114 = 0 ∨ s114 = 1) → (sv_R (l11_17 + (1 : Int))) ∧ ((0 ≤ (l11_17 + (1 : Int)) ∧ (l11_17 + (1 : Int)) ≤ (S 1071 0) ∧ (s112 = 0 ∨ s112 = 1) ∧ (s114 = 0 ∨ s114 = 1)) ∧ ((S 1071 0) - (l11_17 + (1 : Int))) < ((S 1071 0) - l11_17))) ∧ (((¬ l10_16 = (0 : Int)) → ((1 : Int) = 0 ∨ (1 : Int) = 1)) ∧ ((¬ (¬ l10_16 = (0 : Int))) → (1 ≤ (S 1032 0) ∧ (S 1032 0) ≤ 11 ∧ 0 ≤ l11_17 ∧ l11_17 ≤ 200) ∧ (∀ r123 : Int, sv_R r123 → (0 ≤ r123 ∧ r123 < (S 1032 0)) → (((r123 ≤ (0 : Int)) → ((0 : Int) = 0 ∨ (0 : Int) = 1)) ∧ ((¬ (r123 ≤ (0 : Int))) → ((1 : Int) = 0 ∨ (1 : Int) = 1)))))))) ∧ (((¬ l9_15 = (0 : Int)) → ((1 : Int) = 0 ∨ (1 : Int) = 1)) ∧ ((¬ (¬ l9_15 = (0 : Int))) → (((¬ s110 = (0 : Int)) → ((0 : Int) = 0 ∨ (0 : Int) = 1)) ∧ ((¬ (¬ s110 = (0 : Int))) → ((1 : Int) = 0 ∨ (1 : Int) = 1))))))) ∧ (1 ≤ (S 1032 0) ∧ (S 1032 0) ≤ 11 ∧ 0 ≤ l11_17 ∧ l11_17 ≤ 200) ∧ (∀ r131 : Int, sv_R r131 → (0 ≤ r131 ∧ r131 < (S 1032 0)) → ((((0 : Int) < r131) → ((1 : Int) = 0 ∨ (1 : Int) = 1)) ∧ ((¬ ((0 : Int) < r131)) → (((l11_17 < (10 : Int)) → ((0 : Int) = 0 ∨ (0 : Int) = 1)) ∧ ((¬ (l11_17 < (10 : Int))) → ((((17 : Int) < l11_17) → ((0 : Int) = 0 ∨ (0 : Int) = 1)) ∧ ((¬ ((17 : Int) < l11_17)) → (((l11_17 = (13 : Int)) → ((0 : Int) = 0 ∨ (0 : Int) = 1)) ∧ ((¬ (l11_17 = (13 : Int))) → ((1 : Int) = 0 ∨ (1 : Int) = 1)))))))))))) ∧ ((¬ (¬ r109 = (0 : Int))) → (sv_R (l11_17 + (1 : Int))) ∧ ((0 ≤ (l11_17 + (1 : Int)) ∧ (l11_17 + (1 : Int)) ≤ (S 1071 0) ∧ (l9_15 = 0 ∨ l9_15 = 1) ∧ (l10_16 = 0 ∨ l10_16 = 1)) ∧ ((S 1071 0) - (l11_17 + (1 : Int))) < ((S 1071 0) - l11_17))))))))))) ∧ (∀ r138 : Int, sv_R r138 → (sm_iand ((S 68 r9) % 1024) (-513) = r138) → (((r138 = (0 : Int)) → ((0 : Int) = 0 ∨ (0 : Int) = 1)) ∧ ((¬ (r138 = (0 : Int))) → ((1 : Int) = 0 ∨ (1 : Int) = 1)))))))))) := by
  intro p1
  intro p2
  intro S
  intro h1_
  intro h2_
  intro h3_
  rintro ⟨h4_, ⟨h5_, ⟨h6_, ⟨h7_, ⟨h8_, ⟨h9_, ⟨h10_, ⟨h11_, ⟨h12_, ⟨h13_, ⟨h14_, ⟨h15_, ⟨h16_, ⟨h17_, ⟨h18_, ⟨h19_, ⟨h20_, ⟨h21_, ⟨h22_, ⟨h23_, ⟨h24_, ⟨h25_, ⟨h26_, ⟨h27_, ⟨h28_, ⟨h29_, ⟨h30_, ⟨h31_, ⟨h32_, ⟨h33_, ⟨h34_, ⟨h35_, ⟨h36_, ⟨h37_, ⟨h38_, ⟨h39_, ⟨h40_, ⟨h41_, ⟨h42_, ⟨h43_, ⟨h44_, ⟨h45_, ⟨h46_, ⟨h47_, ⟨h48_, ⟨h49_, ⟨h50_, ⟨h51_, ⟨h52_, ⟨h53_, ⟨h54_, h55_⟩⟩⟩⟩⟩⟩⟩⟩⟩⟩⟩⟩⟩⟩⟩⟩⟩⟩⟩⟩⟩⟩⟩⟩⟩⟩⟩⟩⟩⟩⟩⟩⟩⟩⟩⟩⟩⟩⟩⟩⟩⟩⟩⟩⟩⟩⟩⟩⟩⟩⟩
  intro h56_
  have h57_ := (h56_ h26_)
  have h58_ := (h57_ h38_)
  obtain ⟨h59_, ⟨h60_, ⟨h61_, h62_⟩⟩⟩ := (h58_ h39_)
  refine ⟨la_waysOfNew_0, ?_⟩
  intro h63_
  refine ⟨(la_waysOfNew_1 h21_ h41_ h48_ h49_ h50_ h60_), ?_⟩
  intro r9
  intro h64_
  intro h65_
  refine ⟨(la_waysOfNew_2 h30_ h41_ h48_ h50_ h65_), ?_⟩
  intro h66_
  intro h67_
  refine ⟨?_, ?_⟩
  · skip
    intro s13
    intro h68_
    intro h69_
    refine ⟨⟨la_waysOfNew_3, ⟨(la_waysOfNew_4 h4_), ⟨h69_, la_waysOfNew_5⟩⟩⟩, ?_⟩
    intro l9_15
    intro h70_
    intro l10_16
    intro h71_
    intro l11_17
    intro h72_
    rintro ⟨h73_, ⟨h74_, ⟨h75_, h76_⟩⟩⟩
    refine ⟨(la_waysOfNew_6 h74_), ?_⟩
    intro h77_
    refine ⟨?_, ?_⟩
    · skip
      intro h78_
      refine ⟨?_, ?_⟩
      · skip
        intro g22
        rintro ⟨h79_, ⟨h80_, ⟨h81_, ⟨h82_, ⟨h83_, ⟨h84_, ⟨h85_, ⟨h86_, ⟨h87_, h88_⟩⟩⟩⟩⟩⟩⟩⟩⟩
        refine ⟨⟨la_waysOfNew_7, ⟨la_waysOfNew_8, ⟨h79_, ⟨h80_, ⟨h81_, ⟨h82_, ⟨h83_, ⟨h84_, ⟨h85_, ⟨h86_, ⟨h87_, h88_⟩⟩⟩⟩⟩⟩⟩⟩⟩⟩⟩, ?_⟩
        intro l11_28
        intro h89_
        intro g27
        rintro ⟨h90_, ⟨h91_, ⟨h92_, ⟨h93_, ⟨h94_, ⟨h95_, ⟨h96_, ⟨h97_, ⟨h98_, ⟨h99_, ⟨h100_, h101_⟩⟩⟩⟩⟩⟩⟩⟩⟩⟩⟩
        refine ⟨(la_waysOfNew_9 h91_), ?_⟩
        refine ⟨?_, ?_⟩
        · skip
          intro h102_
          refine ⟨?_, ?_⟩
          · skip
            intro g34
            rintro ⟨h103_, ⟨h104_, ⟨h105_, ⟨h106_, ⟨h107_, ⟨h108_, ⟨h109_, ⟨h110_, ⟨h111_, h112_⟩⟩⟩⟩⟩⟩⟩⟩⟩
            refine ⟨?_, ?_⟩
            · skip
              refine ⟨la_waysOfNew_10, ?_⟩
              refine ⟨h8_, ?_⟩
              refine ⟨h103_, ?_⟩
              refine ⟨h104_, ?_⟩
              refine ⟨h105_, ?_⟩
              refine ⟨h106_, ?_⟩
              refine ⟨?_, ?_⟩
              · skip
                intro k
                intro h113_
                have h114_ := (h27_ (S 1148 0))
                have h115_ := (h27_ (S 1148 0 + 1))
                have h116_ := ((h83_ (S 1148 0)) h40_)
                have h117_ := ((h83_ k) h113_)
                have h118_ := ((h96_ (S 1148 0)) h40_)
                have h119_ := ((h96_ k) h113_)
                have h120_ := ((h107_ k) h119_)
                have h121_ := ((h107_ (S 1148 0)) h118_)
                exact h120_
              refine ⟨h108_, ?_⟩
              refine ⟨(la_waysOfNew_13 h98_ h109_), ?_⟩
              refine ⟨h110_, ?_⟩
              refine ⟨h111_, ?_⟩
              intro kv1
              intro h122_
              intro h123_
              refine ⟨?_, ?_⟩
              · skip
                have h124_ := (h27_ (S 1148 0))
                have h125_ := (h27_ (S 1148 0 + 1))
                have h126_ := ((h83_ (S 1148 0)) h40_)
                have h127_ := ((h96_ (S 1148 0)) h40_)
                obtain ⟨h128_, h129_⟩ := (((h112_ kv1) h122_) h123_)
                have h130_ := ((h107_ (S 1148 0)) h127_)
                exact h128_
              have h131_ := (h27_ (S 1148 0))
              have h132_ := (h27_ (S 1148 0 + 1))
              have h133_ := ((h83_ (S 1148 0)) h40_)
              have h134_ := ((h96_ (S 1148 0)) h40_)
              obtain ⟨h135_, h136_⟩ := (((h112_ kv1) h122_) h123_)
              have h137_ := ((h107_ (S 1148 0)) h134_)
              exact h136_
            intro l11_41
            intro h138_
            intro g40
            rintro ⟨h139_, ⟨h140_, ⟨h141_, ⟨h142_, ⟨h143_, ⟨h144_, ⟨h145_, ⟨h146_, ⟨h147_, ⟨h148_, ⟨h149_, h150_⟩⟩⟩⟩⟩⟩⟩⟩⟩⟩⟩
            refine ⟨(la_waysOfNew_6 h140_), ?_⟩
            intro h151_
            refine ⟨?_, ?_⟩
            · skip
              intro h152_
              refine ⟨h141_, ?_⟩
              refine ⟨h142_, ?_⟩
              refine ⟨h143_, ?_⟩
              refine ⟨h144_, ?_⟩
              refine ⟨h145_, ?_⟩
              refine ⟨h146_, ?_⟩
              refine ⟨h147_, ?_⟩
              refine ⟨h148_, ?_⟩
              refine ⟨h149_, ?_⟩
              intro kv2
              intro h153_
              intro h154_
              refine ⟨?_, ?_⟩
              · skip
                have h155_ := (h27_ (S 1148 0))
                have h156_ := (h27_ (S 1148 0 + 1))
                have h157_ := ((h83_ (S 1148 0)) h40_)
                have h158_ := ((h96_ (S 1148 0)) h40_)
                have h159_ := ((h145_ (S 1148 0)) h40_)
                obtain ⟨h160_, h161_⟩ := (((h150_ kv2) h153_) h154_)
                have h162_ := ((h107_ (S 1148 0)) h158_)
                exact h160_
              have h163_ := (h27_ (S 1148 0))
              have h164_ := (h27_ (S 1148 0 + 1))
              have h165_ := ((h83_ (S 1148 0)) h40_)
              have h166_ := ((h96_ (S 1148 0)) h40_)
              have h167_ := ((h145_ (S 1148 0)) h40_)
              obtain ⟨h168_, h169_⟩ := (((h150_ kv2) h153_) h154_)
              have h170_ := ((h107_ (S 1148 0)) h166_)
              exact h169_
            intro h171_
            refine ⟨(la_waysOfNew_14 h30_ h41_ h48_ h50_), ?_⟩
            refine ⟨(la_waysOfNew_15 h48_ h49_), ?_⟩
            refine ⟨?_, ?_⟩
            · skip
              refine ⟨h4_, ?_⟩
              refine ⟨h5_, ?_⟩
              refine ⟨h6_, ?_⟩
              refine ⟨h7_, ?_⟩
              refine ⟨h8_, ?_⟩
              refine ⟨h9_, ?_⟩
              refine ⟨h10_, ?_⟩
              refine ⟨h11_, ?_⟩
              refine ⟨h12_, ?_⟩
              refine ⟨h13_, ?_⟩
              refine ⟨h14_, ?_⟩
              refine ⟨h15_, ?_⟩
              refine ⟨h16_, ?_⟩
              refine ⟨h17_, ?_⟩
              refine ⟨h18_, ?_⟩
              refine ⟨h19_, ?_⟩
              refine ⟨h20_, ?_⟩
              refine ⟨h144_, ?_⟩
              refine ⟨h141_, ?_⟩
              refine ⟨h142_, ?_⟩
              refine ⟨h143_, ?_⟩
              refine ⟨h25_, ?_⟩
              refine ⟨h26_, ?_⟩
              refine ⟨h27_, ?_⟩
              refine ⟨h146_, ?_⟩
              refine ⟨h38_, ?_⟩
              refine ⟨h39_, ?_⟩
              refine ⟨?_, ?_⟩
              · skip
                have h172_ := (h27_ (S 1148 0))
                have h173_ := (h27_ (S 1148 0 + 1))
                have h174_ := ((h83_ (S 1148 0)) h40_)
                have h175_ := ((h96_ (S 1148 0)) h40_)
                have h176_ := ((h145_ (S 1148 0)) h40_)
                have h177_ := ((h107_ (S 1148 0)) h175_)
                exact h176_
              refine ⟨h43_, ?_⟩
              refine ⟨h44_, ?_⟩
              refine ⟨h148_, ?_⟩
              refine ⟨h149_, ?_⟩
              refine ⟨h150_, ?_⟩
              refine ⟨h139_, ?_⟩
              refine ⟨(la_waysOfNew_16 h171_), ?_⟩
              refine ⟨la_waysOfNew_17, ?_⟩
              refine ⟨la_waysOfNew_18, ?_⟩
              refine ⟨(la_waysOfNew_19 h41_ h50_), ?_⟩
              refine ⟨(la_waysOfNew_20 h30_ h48_), ?_⟩
              refine ⟨h48_, ?_⟩
              refine ⟨h49_, ?_⟩
              refine ⟨(la_waysOfNew_21 h48_), ?_⟩
              refine ⟨h50_, ?_⟩
              refine ⟨(la_waysOfNew_22 h51_), ?_⟩
              refine ⟨h52_, ?_⟩
              refine ⟨h53_, ?_⟩
              refine ⟨(la_waysOfNew_23 h54_), ?_⟩
              exact h55_
            intro g52
            rintro ⟨h178_, ⟨h179_, ⟨h180_, ⟨h181_, ⟨h182_, ⟨h183_, ⟨h184_, ⟨h185_, ⟨h186_, h187_⟩⟩⟩⟩⟩⟩⟩⟩⟩
            refine ⟨(la_waysOfNew_24 h9_ h139_ h171_), ?_⟩
            refine ⟨?_, ?_⟩
            · skip
              refine ⟨(la_waysOfNew_25 h139_), ?_⟩
              refine ⟨(la_waysOfNew_26 h171_), ?_⟩
              refine ⟨h178_, ?_⟩
              refine ⟨h179_, ?_⟩
              refine ⟨h180_, ?_⟩
              refine ⟨h181_, ?_⟩
              refine ⟨?_, ?_⟩
              · skip
                intro kv3
                intro h188_
                have h189_ := (h27_ (S 1148 0))
                have h190_ := (h27_ (S 1148 0 + 1))
                have h191_ := ((h83_ (S 1148 0)) h40_)
                have h192_ := ((h83_ kv3) h188_)
                have h193_ := ((h96_ (S 1148 0)) h40_)
                have h194_ := ((h96_ kv3) h188_)
                have h195_ := ((h145_ (S 1148 0)) h40_)
                have h196_ := ((h145_ kv3) h188_)
                have h197_ := ((h182_ kv3) h196_)
                have h198_ := ((h107_ (S 1148 0)) h193_)
                have h199_ := ((h107_ kv3) h194_)
                have h200_ := ((h182_ (S 1148 0)) h195_)
                exact h197_
              refine ⟨h183_, ?_⟩
              refine ⟨(la_waysOfNew_13 h147_ h184_), ?_⟩
              refine ⟨h185_, ?_⟩
              refine ⟨h186_, ?_⟩
              intro kv4
              intro h201_
              intro h202_
              refine ⟨?_, ?_⟩
              · skip
                have h203_ := (h27_ (S 1148 0))
                have h204_ := (h27_ (S 1148 0 + 1))
                have h205_ := ((h83_ (S 1148 0)) h40_)
                have h206_ := ((h96_ (S 1148 0)) h40_)
                have h207_ := ((h145_ (S 1148 0)) h40_)
                obtain ⟨h208_, h209_⟩ := (((h187_ kv4) h201_) h202_)
                have h210_ := ((h107_ (S 1148 0)) h206_)
                have h211_ := ((h182_ (S 1148 0)) h207_)
                exact h208_
              have h212_ := (h27_ (S 1148 0))
              have h213_ := (h27_ (S 1148 0 + 1))
              have h214_ := ((h83_ (S 1148 0)) h40_)
              have h215_ := ((h96_ (S 1148 0)) h40_)
              have h216_ := ((h145_ (S 1148 0)) h40_)
              obtain ⟨h217_, h218_⟩ := (((h187_ kv4) h201_) h202_)
              have h219_ := ((h107_ (S 1148 0)) h215_)
              have h220_ := ((h182_ (S 1148 0)) h216_)
              exact h218_
            exact la_waysOfNew_27
          refine ⟨?_, ?_⟩
          · skip
            intro h221_
            have h222_ := (h76_.resolve_right (la_waysOfNew_28 h221_))
            refine ⟨h92_, ?_⟩
            refine ⟨h93_, ?_⟩
            refine ⟨h94_, ?_⟩
            refine ⟨h95_, ?_⟩
            refine ⟨?_, ?_⟩
            · skip
              intro kv5
              intro h223_
              exact h223_
            refine ⟨h97_, ?_⟩
            refine ⟨la_waysOfNew_29, ?_⟩
            refine ⟨h99_, ?_⟩
            refine ⟨h100_, ?_⟩
            intro kv6
            intro h224_
            intro h225_
            refine ⟨?_, ?_⟩
            · skip
              have h226_ := (h27_ (S 1148 0))
              have h227_ := (h27_ (S 1148 0 + 1))
              have h228_ := ((h83_ (S 1148 0)) h40_)
              have h229_ := ((h96_ (S 1148 0)) h40_)
              obtain ⟨h230_, h231_⟩ := (((h101_ kv6) h224_) h225_)
              exact h230_
            have h232_ := (h27_ (S 1148 0))
            have h233_ := (h27_ (S 1148 0 + 1))
            have h234_ := ((h83_ (S 1148 0)) h40_)
            have h235_ := ((h96_ (S 1148 0)) h40_)
            obtain ⟨h236_, h237_⟩ := (((h101_ kv6) h224_) h225_)
            exact h237_
          intro h238_
          have h239_ := (h76_.resolve_left h238_)
          refine ⟨?_, ?_⟩
          · skip
            refine ⟨h4_, ?_⟩
            refine ⟨h5_, ?_⟩
            refine ⟨h6_, ?_⟩
            refine ⟨h7_, ?_⟩
            refine ⟨h8_, ?_⟩
            refine ⟨h9_, ?_⟩
            refine ⟨h10_, ?_⟩
            refine ⟨h11_, ?_⟩
            refine ⟨h12_, ?_⟩
            refine ⟨h13_, ?_⟩
            refine ⟨h14_, ?_⟩
            refine ⟨h15_, ?_⟩
            refine ⟨h16_, ?_⟩
            refine ⟨h17_, ?_⟩
            refine ⟨h18_, ?_⟩
            refine ⟨h19_, ?_⟩
            refine ⟨h20_, ?_⟩
            refine ⟨h95_, ?_⟩
            refine ⟨h92_, ?_⟩
            refine ⟨h93_, ?_⟩
            refine ⟨h94_, ?_⟩
            refine ⟨h25_, ?_⟩
            refine ⟨h26_, ?_⟩
            refine ⟨h27_, ?_⟩
            refine ⟨h97_, ?_⟩
            refine ⟨h38_, ?_⟩
            refine ⟨h39_, ?_⟩
            refine ⟨?_, ?_⟩
            · skip
              have h240_ := (h27_ (S 1148 0))
              have h241_ := (h27_ (S 1148 0 + 1))
              have h242_ := ((h83_ (S 1148 0)) h40_)
              have h243_ := ((h96_ (S 1148 0)) h40_)
              exact h243_
            refine ⟨(la_waysOfNew_23 h54_), ?_⟩
            refine ⟨h55_, ?_⟩
            refine ⟨h99_, ?_⟩
            refine ⟨h100_, ?_⟩
            intro kv7
            intro h244_
            intro h245_
            refine ⟨?_, ?_⟩
            · skip
              have h246_ := (h27_ (S 1148 0))
              have h247_ := (h27_ (S 1148 0 + 1))
              have h248_ := ((h83_ (S 1148 0)) h40_)
              have h249_ := ((h96_ (S 1148 0)) h40_)
              obtain ⟨h250_, h251_⟩ := (((h101_ kv7) h244_) h245_)
              exact h250_
            have h252_ := (h27_ (S 1148 0))
            have h253_ := (h27_ (S 1148 0 + 1))
            have h254_ := ((h83_ (S 1148 0)) h40_)
            have h255_ := ((h96_ (S 1148 0)) h40_)
            obtain ⟨h256_, h257_⟩ := (((h101_ kv7) h244_) h245_)
            exact h257_
          intro g62
          rintro ⟨h258_, ⟨h259_, ⟨h260_, ⟨h261_, ⟨h262_, ⟨h263_, ⟨h264_, ⟨h265_, ⟨h266_, ⟨h267_, ⟨h268_, ⟨h269_, ⟨h270_, ⟨h271_, ⟨h272_, ⟨h273_, ⟨h274_, ⟨h275_, ⟨h276_, ⟨h277_, h278_⟩⟩⟩⟩⟩⟩⟩⟩⟩⟩⟩⟩⟩⟩⟩⟩⟩⟩⟩⟩
          refine ⟨⟨h4_, ⟨h5_, ⟨h6_, ⟨h7_, ⟨h8_, ⟨h9_, ⟨h10_, ⟨h11_, ⟨h12_, ⟨h13_, ⟨h14_, ⟨h15_, ⟨h16_, ⟨h17_, ⟨h18_, ⟨h19_, ⟨h20_, ⟨h261_, ⟨h258_, ⟨h259_, ⟨h260_, ⟨h25_, ⟨h26_, ⟨h27_, ⟨h263_, ⟨h265_, ⟨h266_, ⟨h267_, ⟨h268_, ⟨h269_, ⟨h270_, ⟨h271_, ⟨h272_, ⟨h273_, (la_waysOfNew_32 h38_ h52_)⟩⟩⟩⟩⟩⟩⟩⟩⟩⟩⟩⟩⟩⟩⟩⟩⟩⟩⟩⟩⟩⟩⟩⟩⟩⟩⟩⟩⟩⟩⟩⟩⟩⟩, ?_⟩
          intro g70
          rintro ⟨h279_, ⟨h280_, ⟨h281_, ⟨h282_, ⟨h283_, ⟨h284_, h285_⟩⟩⟩⟩⟩⟩
          refine ⟨h279_, ?_⟩
          refine ⟨h280_, ?_⟩
          refine ⟨h281_, ?_⟩
          refine ⟨h282_, ?_⟩
          refine ⟨?_, ?_⟩
          · skip
            intro kv8
            intro h286_
            have h287_ := (h27_ (S 1148 0))
            have h288_ := (h27_ (S 1148 0 + 1))
            have h289_ := ((h83_ (S 1148 0)) h40_)
            have h290_ := (h96_ kv8)
            have h291_ := ((h96_ (S 1148 0)) h40_)
            have h292_ := ((h262_ kv8) h286_)
            have h293_ := ((h283_ kv8) h292_)
            have h294_ := (h83_ kv8)
            have h295_ := ((h262_ (S 1148 0)) h291_)
            have e296_ : S 26 (g62 1100031 0) = S 26 (S 1100031 0) := congrArg ((S 26)) (la_waysOfNew_33 h42_ h275_)
            have e297_ : sm_dp (S 1100024) (g62 1100031 0) = sm_dp (S 1100024) (S 1100031 0) := congrArg ((sm_dp (S 1100024))) (la_waysOfNew_33 h42_ h275_)
            exact h293_
          refine ⟨h284_, ?_⟩
          refine ⟨(la_waysOfNew_13 h264_ h285_), ?_⟩
          refine ⟨h276_, ?_⟩
          refine ⟨h277_, ?_⟩
          intro kv9
          intro h298_
          intro h299_
          refine ⟨?_, ?_⟩
          · skip
            have h300_ := (h27_ (S 1148 0))
            have h301_ := (h27_ (S 1148 0 + 1))
            have h302_ := ((h83_ (S 1148 0)) h40_)
            have h303_ := ((h96_ (S 1148 0)) h40_)
            obtain ⟨h304_, h305_⟩ := (((h278_ kv9) h298_) h299_)
            have h306_ := ((h262_ (S 1148 0)) h303_)
            have e307_ : S 26 (g62 1100031 0) = S 26 (S 1100031 0) := congrArg ((S 26)) (la_waysOfNew_33 h42_ h275_)
            have e308_ : sm_dp (S 1100024) (g62 1100031 0) = sm_dp (S 1100024) (S 1100031 0) := congrArg ((sm_dp (S 1100024))) (la_waysOfNew_33 h42_ h275_)
            exact h304_
          have h309_ := (h27_ (S 1148 0))
          have h310_ := (h27_ (S 1148 0 + 1))
          have h311_ := ((h83_ (S 1148 0)) h40_)
          have h312_ := ((h96_ (S 1148 0)) h40_)
          obtain ⟨h313_, h314_⟩ := (((h278_ kv9) h298_) h299_)
          have h315_ := ((h262_ (S 1148 0)) h312_)
          have e316_ : S 26 (g62 1100031 0) = S 26 (S 1100031 0) := congrArg ((S 26)) (la_waysOfNew_33 h42_ h275_)
          have e317_ : sm_dp (S 1100024) (g62 1100031 0) = sm_dp (S 1100024) (S 1100031 0) := congrArg ((sm_dp (S 1100024))) (la_waysOfNew_33 h42_ h275_)
          exact h314_
        intro h318_
        refine ⟨?_, ?_⟩
        · skip
          intro h319_
          refine ⟨(la_waysOfNew_34 h319_), ?_⟩
          refine ⟨⟨(la_waysOfNew_35 h319_), ⟨(la_waysOfNew_36 h319_), ⟨h92_, ⟨h93_, ⟨h94_, ⟨h95_, ⟨h96_, ⟨h97_, ⟨h98_, ⟨h99_, ⟨h100_, h101_⟩⟩⟩⟩⟩⟩⟩⟩⟩⟩⟩, ?_⟩
          exact la_waysOfNew_37
        intro h320_
        refine ⟨(la_waysOfNew_38 h90_ h318_), ?_⟩
        intro r83
        intro h321_
        rintro ⟨h322_, h323_⟩
        refine ⟨?_, ?_⟩
        · skip
          intro h324_
          have h325_ := (h323_.resolve_right (la_waysOfNew_28 h324_))
          refine ⟨(la_waysOfNew_39 h90_ h318_), ?_⟩
          refine ⟨⟨(la_waysOfNew_40 h90_), ⟨(la_waysOfNew_41 h318_), ⟨h92_, ⟨h93_, ⟨h94_, ⟨h95_, ⟨h96_, ⟨h97_, ⟨h98_, ⟨h99_, ⟨h100_, h101_⟩⟩⟩⟩⟩⟩⟩⟩⟩⟩⟩, ?_⟩
          exact la_waysOfNew_37
        intro h326_
        have h327_ := (h323_.resolve_left h326_)
        refine ⟨(la_waysOfNew_14 h30_ h41_ h48_ h50_), ?_⟩
        refine ⟨(la_waysOfNew_15 h48_ h49_), ?_⟩
        refine ⟨?_, ?_⟩
        · skip
          refine ⟨h4_, ?_⟩
          refine ⟨h5_, ?_⟩
          refine ⟨h6_, ?_⟩
          refine ⟨h7_, ?_⟩
          refine ⟨h8_, ?_⟩
          refine ⟨h9_, ?_⟩
          refine ⟨h10_, ?_⟩
          refine ⟨h11_, ?_⟩
          refine ⟨h12_, ?_⟩
          refine ⟨h13_, ?_⟩
          refine ⟨h14_, ?_⟩
          refine ⟨h15_, ?_⟩
          refine ⟨h16_, ?_⟩
          refine ⟨h17_, ?_⟩
          refine ⟨h18_, ?_⟩
          refine ⟨h19_, ?_⟩
          refine ⟨h20_, ?_⟩
          refine ⟨h95_, ?_⟩
          refine ⟨h92_, ?_⟩
          refine ⟨h93_, ?_⟩
          refine ⟨h94_, ?_⟩
          refine ⟨h25_, ?_⟩
          refine ⟨h26_, ?_⟩
          refine ⟨h27_, ?_⟩
          refine ⟨h97_, ?_⟩
          refine ⟨h38_, ?_⟩
          refine ⟨h39_, ?_⟩
          refine ⟨?_, ?_⟩
          · skip
            have h328_ := (h27_ (S 1148 0))
            have h329_ := (h27_ (S 1148 0 + 1))
            have h330_ := ((h83_ (S 1148 0)) h40_)
            have h331_ := ((h96_ (S 1148 0)) h40_)
            exact h331_
          refine ⟨(la_waysOfNew_42 h90_), ?_⟩
          refine ⟨(la_waysOfNew_43 h318_), ?_⟩
          refine ⟨(la_waysOfNew_44 h318_), ?_⟩
          refine ⟨la_waysOfNew_17, ?_⟩
          refine ⟨la_waysOfNew_18, ?_⟩
          refine ⟨(la_waysOfNew_19 h41_ h50_), ?_⟩
          refine ⟨(la_waysOfNew_20 h30_ h48_), ?_⟩
          refine ⟨h48_, ?_⟩
          refine ⟨h49_, ?_⟩
          refine ⟨(la_waysOfNew_21 h48_), ?_⟩
          refine ⟨h50_, ?_⟩
          refine ⟨(la_waysOfNew_22 h51_), ?_⟩
          refine ⟨h52_, ?_⟩
          exact h53_
        intro g88
        rintro ⟨h332_, ⟨h333_, ⟨h334_, ⟨h335_, ⟨h336_, ⟨h337_, h338_⟩⟩⟩⟩⟩⟩
        refine ⟨(la_waysOfNew_39 h90_ h318_), ?_⟩
        refine ⟨?_, ?_⟩
        · skip
          refine ⟨(la_waysOfNew_40 h90_), ?_⟩
          refine ⟨(la_waysOfNew_41 h318_), ?_⟩
          refine ⟨h332_, ?_⟩
          refine ⟨h333_, ?_⟩
          refine ⟨h334_, ?_⟩
          refine ⟨h335_, ?_⟩
          refine ⟨?_, ?_⟩
          · skip
            intro kv10
            intro h339_
            have h340_ := (h27_ (S 1148 0))
            have h341_ := (h27_ (S 1148 0 + 1))
            have h342_ := ((h83_ kv10) h339_)
            have h343_ := ((h83_ (S 1148 0)) h40_)
            have h344_ := ((h96_ kv10) h339_)
            have h345_ := ((h96_ (S 1148 0)) h40_)
            have h346_ := ((h336_ kv10) h344_)
            have h347_ := ((h336_ (S 1148 0)) h345_)
            exact h346_
          refine ⟨h337_, ?_⟩
          refine ⟨(la_waysOfNew_13 h98_ h338_), ?_⟩
          refine ⟨h99_, ?_⟩
          refine ⟨h100_, ?_⟩
          intro kv11
          intro h348_
          intro h349_
          refine ⟨?_, ?_⟩
          · skip
            have h350_ := (h27_ (S 1148 0))
            have h351_ := (h27_ (S 1148 0 + 1))
            have h352_ := ((h83_ (S 1148 0)) h40_)
            have h353_ := ((h96_ (S 1148 0)) h40_)
            obtain ⟨h354_, h355_⟩ := (((h101_ kv11) h348_) h349_)
            have h356_ := ((h336_ (S 1148 0)) h353_)
            exact h354_
          have h357_ := (h27_ (S 1148 0))
          have h358_ := (h27_ (S 1148 0 + 1))
          have h359_ := ((h83_ (S 1148 0)) h40_)
          have h360_ := ((h96_ (S 1148 0)) h40_)
          obtain ⟨h361_, h362_⟩ := (((h101_ kv11) h348_) h349_)
          have h363_ := ((h336_ (S 1148 0)) h360_)
          exact h362_
        exact la_waysOfNew_37
      refine ⟨?_, ?_⟩
      · skip
        intro h364_
        have h365_ := (h75_.resolve_right (la_waysOfNew_28 h364_))
        refine ⟨h22_, ?_⟩
        refine ⟨h23_, ?_⟩
        refine ⟨h24_, ?_⟩
        refine ⟨h21_, ?_⟩
        refine ⟨?_, ?_⟩
        · skip
          intro kv12
          intro h366_
          exact h366_
        refine ⟨h28_, ?_⟩
        refine ⟨la_waysOfNew_29, ?_⟩
        refine ⟨h45_, ?_⟩
        refine ⟨h46_, ?_⟩
        intro kv13
        intro h367_
        intro h368_
        refine ⟨?_, ?_⟩
        · skip
          have h369_ := (h27_ (S 1148 0))
          have h370_ := (h27_ (S 1148 0 + 1))
          obtain ⟨h371_, h372_⟩ := (((h47_ kv13) h367_) h368_)
          exact h371_
        have h373_ := (h27_ (S 1148 0))
        have h374_ := (h27_ (S 1148 0 + 1))
        obtain ⟨h375_, h376_⟩ := (((h47_ kv13) h367_) h368_)
        exact h376_
      intro h377_
      have h378_ := (h75_.resolve_left h377_)
      intro h379_
      refine ⟨⟨h4_, ⟨h5_, ⟨h6_, ⟨h7_, ⟨h8_, ⟨h9_, ⟨h10_, ⟨h11_, ⟨h12_, ⟨h13_, ⟨h14_, ⟨h15_, ⟨h16_, ⟨h17_, ⟨h18_, ⟨h19_, ⟨h20_, ⟨h21_, ⟨h22_, ⟨h23_, ⟨h24_, ⟨h25_, ⟨h26_, ⟨h27_, ⟨h28_, (la_waysOfNew_45 h38_ h40_ h52_)⟩⟩⟩⟩⟩⟩⟩⟩⟩⟩⟩⟩⟩⟩⟩⟩⟩⟩⟩⟩⟩⟩⟩⟩⟩, ?_⟩
      intro g98
      rintro ⟨h380_, ⟨h381_, ⟨h382_, ⟨h383_, ⟨h384_, ⟨h385_, h386_⟩⟩⟩⟩⟩⟩
      refine ⟨h380_, ?_⟩
      refine ⟨h381_, ?_⟩
      refine ⟨h382_, ?_⟩
      refine ⟨h383_, ?_⟩
      refine ⟨h384_, ?_⟩
      refine ⟨h385_, ?_⟩
      refine ⟨h386_, ?_⟩
      refine ⟨h45_, ?_⟩
      refine ⟨h46_, ?_⟩
      intro kv14
      intro h387_
      intro h388_
      refine ⟨?_, ?_⟩
      · skip
        have h389_ := (h27_ (S 1148 0))
        have h390_ := (h27_ (S 1148 0 + 1))
        obtain ⟨h391_, h392_⟩ := (((h47_ kv14) h387_) h388_)
        have h393_ := ((h384_ (S 1148 0)) h40_)
        exact h391_
      have h394_ := (h27_ (S 1148 0))
      have h395_ := (h27_ (S 1148 0 + 1))
      obtain ⟨h396_, h397_⟩ := (((h47_ kv14) h387_) h388_)
      have h398_ := ((h384_ (S 1148 0)) h40_)
      exact h397_
    intro h399_
    refine ⟨(la_waysOfNew_46 h5_ h73_ h399_), ?_⟩
    intro r109
    intro h400_
    rintro ⟨h401_, h402_⟩
    refine ⟨?_, ?_⟩
    · skip
      intro h403_
      have h404_ := (h402_.resolve_left h403_)
      refine ⟨?_, ?_⟩
      · skip
        intro s110
        intro h405_
        intro h406_
        refine ⟨?_, ?_⟩
        · skip
          intro s112
          intro h407_
          intro h408_
          refine ⟨?_, ?_⟩
          · skip
            intro s114
            intro h409_
            intro h410_
            refine ⟨(la_waysOfNew_47 h5_ h73_ h399_), ?_⟩
            refine ⟨⟨(la_waysOfNew_48 h73_), ⟨(la_waysOfNew_26 h399_), ⟨h408_, h410_⟩⟩⟩, ?_⟩
            exact la_waysOfNew_27
          refine ⟨la_waysOfNew_49, ?_⟩
          intro h411_
          have h412_ := (h76_.resolve_right (la_waysOfNew_50 h411_))
          refine ⟨(la_waysOfNew_51 h5_ h8_ h9_ h73_ h399_), ?_⟩
          intro r123
          intro h413_
          rintro ⟨h414_, h415_⟩
          refine ⟨la_waysOfNew_52, ?_⟩
          intro h416_
          exact la_waysOfNew_53
        refine ⟨la_waysOfNew_49, ?_⟩
        intro h417_
        have h418_ := (h75_.resolve_right (la_waysOfNew_50 h417_))
        refine ⟨la_waysOfNew_54, ?_⟩
        intro h419_
        have h420_ := (h406_.resolve_right (la_waysOfNew_50 h419_))
        exact la_waysOfNew_53
      refine ⟨(la_waysOfNew_51 h5_ h8_ h9_ h73_ h399_), ?_⟩
      intro r131
      intro h421_
      rintro ⟨h422_, h423_⟩
      refine ⟨la_waysOfNew_55, ?_⟩
      intro h424_
      refine ⟨la_waysOfNew_56, ?_⟩
      intro h425_
      refine ⟨la_waysOfNew_57, ?_⟩
      intro h426_
      refine ⟨la_waysOfNew_58, ?_⟩
      intro h427_
      exact la_waysOfNew_53
    intro h428_
    have h429_ := (h402_.resolve_right (la_waysOfNew_50 h428_))
    refine ⟨(la_waysOfNew_47 h5_ h73_ h399_), ?_⟩
    refine ⟨⟨(la_waysOfNew_48 h73_), ⟨(la_waysOfNew_26 h399_), ⟨h75_, h76_⟩⟩⟩, ?_⟩
    exact la_waysOfNew_27
  intro r138
  intro h430_
  intro h431_
  refine ⟨la_waysOfNew_59, ?_⟩
  intro h432_
  exact la_waysOfNew_53
set_option maxRecDepth 8000 in
set_option maxHeartbeats 2000000 in
theorem t_waysOfNew : ∀ (p1 : Int) (p2 : Int) (S : sv_S), sm_ok S → sv_R p1 → sv_R p2 → (29 ≤ (S 1071 0) ∧ (S 1071 0) ≤ 127 ∧ 31 ≤ (S 1008 0) ∧ (S 1008 0) ≤ 90 ∧ 1 ≤ (S 1032 0) ∧ (S 1032 0) ≤ 11 ∧ 0 ≤ (S 1055 0) ∧ (S 1055 0) ≤ 19 ∧ (S 1071 0) = 29 + 6 * ((S 1032 0) - 1) + 2 * (S 1055 0) ∧ 0 ≤ (S 1046 0) ∧ (S 1046 0) + 2 * (S 1032 0) ≤ 500 ∧ sm_PD (S 1046 0) (S 1032 0) (S 1071 0) (S 1008 0) ∧ 0 ≤ (S 1071 0) * ((S 1008 0) + 1) ∧ (S 1071 0) * ((S 1008 0) + 1) ≤ 11557 ∧ 31 ≤ (S 1007 0) ∧ (S 1007 0) ≤ 400 ∧ sm_LN (S 4) 400 (S 1007 0) ∧ (S 75 639) = 647340 ∧ sm_ST (S 71) (S 74) (S 75) (S 78) (S 79) (S 80) (S 27) (S 1100007) (S 1100023) (S 1100024) (S 1046 0) ((S 1046 0) + 2 * (S 1032 0)) (S 1127 0) ∧ 465000 ≤ (S 1127 0) ∧ (S 1127 0) + sm_hs (S 71) (S 1100007) ≤ 635000 ∧ sm_NH (S 1100007) ∧ sm_CT (S 26) (S 27) (S 28) (S 29) (S 1100007) (S 1100023) (S 1100024) (S 1100025) (S 21) (S 1046 0) (S 1032 0) (S 1008 0) (S 1055 0) ∧ (∀ k : Int, (S 1046 0) ≤ k → k < ((S 1046 0) + 2 * (S 1032 0)) → (S 1100007 k) = 1) ∧ sm_DR (S 72) (S 71) (S 1046 0) ∧ 0 ≤ (S 74 639) ∧ (S 74 639) ≤ 400 ∧ 0 ≤ (S 78 639) ∧ (S 78 639) ≤ 40 ∧ (S 78 639) = sm_dp (S 1100024) (S 1100031 0) ∧ -1 ≤ (S 1100031 0) ∧ (S 1100031 0) < (S 1046 0) ∧ (0 ≤ (S 1100031 0) → (S 26 (S 1100031 0)) = 27) ∧ sm_TC (S 79) (S 80) (S 27) (S 1100007) (S 1100023) (S 1100024) 25560 (S 1100031 0) ∧ 0 ≤ (S 1148 0) ∧ (S 1148 0) < (S 1046 0) ∧ (S 71 (S 1148 0)) = 1 ∧ (S 74 639) = (S 1100007 (S 1148 0)) ∧ (S 1100031 0) = (S 1100023 (S 1148 0)) ∧ (∀ g : Int, 0 ≤ g → g < (S 1032 0) → 0 ≤ (S 30 g) ∧ (S 30 g) < (S 1046 0) ∧ (S 1100007 (S 30 g)) = 0 ∧ (S 1100023 (S 30 g)) = -1 ∧ 0 ≤ (S 33 g) ∧ (S 33 g) ≤ 100 ∧ 0 ≤ (S 20 g) ∧ (S 20 g) ≤ 8) ∧ sm_VN (S 32) (S 33) (S 1032 0) (S 1008 0) ∧ 0 ≤ (S 1147 0) ∧ (S 1147 0) ≤ 12 ∧ (∀ k : Int, 0 ≤ k → k < (S 1147 0) → 635639 ≤ (S 91 k) ∧ (S 91 k) < 647800) ∧ 0 ≤ p1 ∧ p1 ≤ 8 ∧ p1 + 1 ≤ (S 1100007 (S 1148 0)) ∧ (S 1100007 ((S 1148 0) + 1)) = (S 1100007 (S 1148 0)) - p1 ∧ (S 1148 0) + 1 < (S 1046 0) ∧ (S 1100023 ((S 1148 0) + 1)) = (S 1100023 (S 1148 0)) ∧ 0 ≤ p2 ∧ p2 < (S 1055 0)) → sv_T sm_XS sm_cs sm_L sm_sh 10 (q_waysOfNew p1 p2 S) 282 0 (lv_args 0 [.ref 0, sv_I p1, sv_I p2]) [] S := by
  intro p1 p2 S hok hp1 hp2 hpre
  have h := f_waysOfNew p1 p2 S hok hp1 hp2 hpre
  have hM := sm_h282
  show sv_T sm_XS sm_cs sm_L sm_sh 10 (q_waysOfNew p1 p2 S) 282 0 [(0, .ref 0), (1, sv_I p1), (2, sv_I p2)] [] S
  have k1 : (sm_CT (S 26) (S 27) (S 28) (S 29) (S 1100007) (S 1100023) (S 1100024) (S 1100025) (S 21) (S 1046 0) (S 1032 0) (S 1008 0) (S 1055 0) → 0 ≤ (S 1148 0) → (S 1148 0) < (S 1046 0) → 0 ≤ (S 1100007 (S 1148 0)) ∧ (S 1100007 (S 1148 0)) ≤ 396 ∧ -1 ≤ (S 1100023 (S 1148 0)) ∧ (S 1100023 (S 1148 0)) < (S 1148 0)) := fun h h0 h1 => by have q := sm_ct_0 h _ h0 h1; exact ⟨q.2.2.2.2.1, q.2.2.2.2.2.1, q.2.2.2.2.2.2.2.1, q.2.2.2.2.2.2.2.2.1⟩
  have h := h k1
  refine sv_aload_n hM dX12_waysOfNew_0 rfl rfl ?_
  refine sv_getA hM dX12_waysOfNew_1 sm_fl_235 (sm_a0 _) sm_k125 rfl ?_
  refine sv_sipush (d := (639 : Int)) hM dX12_waysOfNew_4 rfl rfl ?_
  obtain ⟨o2, h⟩ := h
  have k3 : sv_R (S 74 (639 : Int)) := sm_okI hok sm_r74 (639 : Int)
  have h := h k3
  refine sv_iald hM dX12_waysOfNew_7 (sm_a74 _) (by decide) o2.1 o2.2 rfl (x := (S 74 (639 : Int))) rfl ?_
  refine sv_istore_n hM dX12_waysOfNew_8 (by decide) rfl ?_
  show sv_T sm_XS sm_cs sm_L sm_sh 10 (q_waysOfNew p1 p2 S) 282 9 [(0, .ref 0), (1, sv_I p1), (2, sv_I p2), (3, sv_I (S 74 (639 : Int)))] [] S
  refine sv_aload_n hM dX12_waysOfNew_9 rfl rfl ?_
  refine sv_iload_n hM dX12_waysOfNew_10 rfl rfl ?_
  obtain ⟨o4, h⟩ := h
  refine sv_callV hM dX12_waysOfNew_11 sm_iv_1195 (by decide) (sm_a0 _) rfl rfl (Nat.le_of_ble_eq_true rfl) sm_h229 (Nat.le_of_ble_eq_true rfl) (Nat.le_of_ble_eq_true rfl) (F' := 0) (Nat.le_of_ble_eq_true rfl) rfl (t_fromTop p1 S hok hp1 o4) (fun v S1 hq => ?_)
  obtain ⟨r9, rfl, hr9, ok6, md7, hpo8⟩ := hq
  obtain rfl : S = S1 := (funext fun j => md7 j (by intro q; cases q)).symm
  show sv_T sm_XS sm_cs sm_L sm_sh 10 (q_waysOfNew p1 p2 S) 282 14 [(0, .ref 0), (1, sv_I p1), (2, sv_I p2), (3, sv_I (S 74 (639 : Int)))] [sv_I r9] S
  have h := h r9 hr9 hpo8
  refine sv_istore hM dX12_waysOfNew_14 (by decide) rfl ?_
  show sv_T sm_XS sm_cs sm_L sm_sh 10 (q_waysOfNew p1 p2 S) 282 16 [(0, .ref 0), (1, sv_I p1), (2, sv_I p2), (3, sv_I (S 74 (639 : Int))), (4, sv_I r9)] [] S
  refine sv_aload_n hM dX12_waysOfNew_16 rfl rfl ?_
  refine sv_getA hM dX12_waysOfNew_17 sm_fl_220 (sm_a0 _) sm_k117 rfl ?_
  refine sv_iload hM dX12_waysOfNew_20 rfl rfl ?_
  obtain ⟨o10, h⟩ := h
  have k11 : sv_RL (S 69 r9) := sm_okJ ok6 sm_r69 r9
  have h := h k11
  refine sv_lald hM dX12_waysOfNew_22 (sm_a69 _) (by decide) o10.1 o10.2 rfl (x := (S 69 r9)) rfl ?_
  refine sv_lstore hM dX12_waysOfNew_23 (by decide) rfl ?_
  show sv_T sm_XS sm_cs sm_L sm_sh 10 (q_waysOfNew p1 p2 S) 282 25 [(0, .ref 0), (1, sv_I p1), (2, sv_I p2), (3, sv_I (S 74 (639 : Int))), (4, sv_I r9), (5, sv_L (S 69 r9))] [] S
  refine sv_aload_n hM dX12_waysOfNew_25 rfl rfl ?_
  refine sv_getA hM dX12_waysOfNew_26 sm_fl_223 (sm_a0 _) sm_k118 rfl ?_
  refine sv_iload hM dX12_waysOfNew_29 rfl rfl ?_
  have k12 : sv_RL (S 70 r9) := sm_okJ ok6 sm_r70 r9
  have h := h k12
  refine sv_lald hM dX12_waysOfNew_31 (sm_a70 _) (by decide) o10.1 o10.2 rfl (x := (S 70 r9)) rfl ?_
  refine sv_lstore hM dX12_waysOfNew_32 (by decide) rfl ?_
  show sv_T sm_XS sm_cs sm_L sm_sh 10 (q_waysOfNew p1 p2 S) 282 34 [(0, .ref 0), (1, sv_I p1), (2, sv_I p2), (3, sv_I (S 74 (639 : Int))), (4, sv_I r9), (5, sv_L (S 69 r9)), (7, sv_L (S 70 r9))] [] S
  have J133 : ∀ s13 : Int, sv_R s13 → (s13 = 0 ∨ s13 = 1) → sv_T sm_XS sm_cs sm_L sm_sh 10 (q_waysOfNew p1 p2 S) 282 48 [(0, .ref 0), (1, sv_I p1), (2, sv_I p2), (3, sv_I (S 74 (639 : Int))), (4, sv_I r9), (5, sv_L (S 69 r9)), (7, sv_L (S 70 r9))] [sv_I s13] S := by
    intro s13 hs13 hin14
    have h := h.1 s13 hs13 hin14
    refine sv_istore hM dX12_waysOfNew_48 (by decide) rfl ?_
    show sv_T sm_XS sm_cs sm_L sm_sh 10 (q_waysOfNew p1 p2 S) 282 50 [(0, .ref 0), (1, sv_I p1), (2, sv_I p2), (3, sv_I (S 74 (639 : Int))), (4, sv_I r9), (5, sv_L (S 69 r9)), (7, sv_L (S 70 r9)), (9, sv_I s13)] [] S
    refine sv_iconst (d := (0 : Int)) hM dX12_waysOfNew_50 rfl rfl ?_
    refine sv_istore hM dX12_waysOfNew_51 (by decide) rfl ?_
    show sv_T sm_XS sm_cs sm_L sm_sh 10 (q_waysOfNew p1 p2 S) 282 53 [(0, .ref 0), (1, sv_I p1), (2, sv_I p2), (3, sv_I (S 74 (639 : Int))), (4, sv_I r9), (5, sv_L (S 69 r9)), (7, sv_L (S 70 r9)), (9, sv_I s13), (10, sv_I (0 : Int))] [] S
    refine sv_iconst (d := (0 : Int)) hM dX12_waysOfNew_53 rfl rfl ?_
    refine sv_istore hM dX12_waysOfNew_54 (by decide) rfl ?_
    show sv_T sm_XS sm_cs sm_L sm_sh 10 (q_waysOfNew p1 p2 S) 282 56 [(0, .ref 0), (1, sv_I p1), (2, sv_I p2), (3, sv_I (S 74 (639 : Int))), (4, sv_I r9), (5, sv_L (S 69 r9)), (7, sv_L (S 70 r9)), (9, sv_I s13), (10, sv_I (0 : Int)), (11, sv_I (0 : Int))] [] S
    obtain ⟨hin19, h⟩ := h
    have hJ : ∀ a : Int × Int × Int × Unit, (sv_R a.1 ∧ sv_R a.2.1 ∧ sv_R a.2.2.1 ∧ sm_ok S ∧ (0 ≤ a.2.2.1 ∧ a.2.2.1 ≤ (S 1071 0) ∧ (a.1 = 0 ∨ a.1 = 1) ∧ (a.2.1 = 0 ∨ a.2.1 = 1))) → sv_T sm_XS sm_cs sm_L sm_sh 10 (q_waysOfNew p1 p2 S) 282 56 [(0, .ref 0), (1, sv_I p1), (2, sv_I p2), (3, sv_I (S 74 (639 : Int))), (4, sv_I r9), (5, sv_L (S 69 r9)), (7, sv_L (S 70 r9)), (9, sv_I a.1), (10, sv_I a.2.1), (11, sv_I a.2.2.1)] [] S := by
      refine sv_loop (α := Int × Int × Int × Unit) (fun a => sv_R a.1 ∧ sv_R a.2.1 ∧ sv_R a.2.2.1 ∧ sm_ok S ∧ (0 ≤ a.2.2.1 ∧ a.2.2.1 ≤ (S 1071 0) ∧ (a.1 = 0 ∨ a.1 = 1) ∧ (a.2.1 = 0 ∨ a.2.1 = 1))) (fun a => (S 1071 0) - a.2.2.1) (fun a => sv_T sm_XS sm_cs sm_L sm_sh 10 (q_waysOfNew p1 p2 S) 282 56 [(0, .ref 0), (1, sv_I p1), (2, sv_I p2), (3, sv_I (S 74 (639 : Int))), (4, sv_I r9), (5, sv_L (S 69 r9)), (7, sv_L (S 70 r9)), (9, sv_I a.1), (10, sv_I a.2.1), (11, sv_I a.2.2.1)] [] S) (fun a q => (h a.1 q.1 a.2.1 q.2.1 a.2.2.1 q.2.2.1 q.2.2.2.2).1) (fun a q ih18 => ?_)
      obtain ⟨l9_15, l10_16, l11_17, _u⟩ := a
      obtain ⟨hl9_15, hl10_16, hl11_17, ok20, hin19i⟩ := q
      have h := (h l9_15 hl9_15 l10_16 hl10_16 l11_17 hl11_17 hin19i).2
      show sv_T sm_XS sm_cs sm_L sm_sh 10 (q_waysOfNew p1 p2 S) 282 56 [(0, .ref 0), (1, sv_I p1), (2, sv_I p2), (3, sv_I (S 74 (639 : Int))), (4, sv_I r9), (5, sv_L (S 69 r9)), (7, sv_L (S 70 r9)), (9, sv_I l9_15), (10, sv_I l10_16), (11, sv_I l11_17)] [] S
      refine sv_iload hM dX12_waysOfNew_56 rfl rfl ?_
      refine sv_aload_n hM dX12_waysOfNew_58 rfl rfl ?_
      have k21 : sv_R (S 1071 0) := sm_okI ok20 sm_r1071 0
      have h := h k21
      refine sv_getI hM dX12_waysOfNew_59 sm_fl_765 (sm_a0 _) sm_k71 rfl (x := (S 1071 0)) rfl ?_
      refine sv_icmp_ge hM dX12_waysOfNew_62 hl11_17 k21 (t := 161) rfl rfl (fun hc => ?_) (fun hc => ?_)
      · have h := h.1 (hc)
        have J95 : ∀ g22 : sv_S, sm_ok (sv_sts S [68, 69, 70, 81, 82, 83, 84, 85, 86, 71, 74, 75, 1127, 78, 79, 80, 72, 76, 77, 1143, 1144, 5, 1011, 1150, 1149, 1145, 1113, 1111, 1112, 91, 1147, 1100031] g22) → (sm_ST (g22 71) (g22 74) (g22 75) (g22 78) (g22 79) (g22 80) (S 27) (S 1100007) (S 1100023) (S 1100024) (S 1046 0) ((S 1046 0) + 2 * (S 1032 0)) (g22 1127 0) ∧ 465000 ≤ (g22 1127 0) ∧ (g22 1127 0) + sm_hs (g22 71) (S 1100007) ≤ 635000 ∧ (g22 75 639) = 647340 ∧ (∀ k : Int, (S 71 k) = 1 → (g22 71 k) = 1) ∧ sm_DR (g22 72) (g22 71) (S 1046 0) ∧ (641 * (sm_cm (g22 71) + sm_pt (g22 68) (g22 69) (g22 70) + sm_pl (g22 81) (g22 82) (g22 83) (g22 84) (g22 85) (g22 86) + sm_ps (g22 76) (g22 77)) + sm_du (g22 72)) ≤ (641 * (sm_cm (S 71) + sm_pt (S 68) (S 69) (S 70) + sm_pl (S 81) (S 82) (S 83) (S 84) (S 85) (S 86) + sm_ps (S 76) (S 77)) + sm_du (S 72)) ∧ 0 ≤ (g22 1147 0) ∧ (g22 1147 0) ≤ 12 ∧ (∀ k : Int, 0 ≤ k → k < (g22 1147 0) → 635639 ≤ (g22 91 k) ∧ (g22 91 k) < 647800)) → sv_T sm_XS sm_cs sm_L sm_sh 10 (q_waysOfNew p1 p2 S) 282 176 [(0, .ref 0), (1, sv_I p1), (2, sv_I p2), (3, sv_I (S 74 (639 : Int))), (4, sv_I r9), (5, sv_L (S 69 r9)), (7, sv_L (S 70 r9)), (9, sv_I l9_15), (10, sv_I l10_16), (11, sv_I l11_17)] [] (sv_sts S [68, 69, 70, 81, 82, 83, 84, 85, 86, 71, 74, 75, 1127, 78, 79, 80, 72, 76, 77, 1143, 1144, 5, 1011, 1150, 1149, 1145, 1113, 1111, 1112, 91, 1147, 1100031] g22) := by
          intro  g22 ok23 hin24
          have h := h.1 g22 hin24
          have md25 : sv_mod [68, 69, 70, 81, 82, 83, 84, 85, 86, 71, 74, 75, 1127, 78, 79, 80, 72, 76, 77, 1143, 1144, 5, 1011, 1150, 1149, 1145, 1113, 1111, 1112, 91, 1147, 1100031] S (sv_sts S [68, 69, 70, 81, 82, 83, 84, 85, 86, 71, 74, 75, 1127, 78, 79, 80, 72, 76, 77, 1143, 1144, 5, 1011, 1150, 1149, 1145, 1113, 1111, 1112, 91, 1147, 1100031] g22) := sv_mod.sts sv_mod.rf (by decide)
          have md26 : sv_mod [68, 69, 70, 81, 82, 83, 84, 85, 86, 71, 74, 75, 1127, 78, 79, 80, 72, 76, 77, 1143, 1144, 5, 1011, 1150, 1149, 1145, 1113, 1111, 1112, 91, 1147, 1100031] S (sv_sts S [68, 69, 70, 81, 82, 83, 84, 85, 86, 71, 74, 75, 1127, 78, 79, 80, 72, 76, 77, 1143, 1144, 5, 1011, 1150, 1149, 1145, 1113, 1111, 1112, 91, 1147, 1100031] g22) := sv_mod.sts sv_mod.rf (by decide)
          refine sv_bipush (d := (10 : Int)) hM dX12_waysOfNew_176 rfl rfl ?_
          refine sv_istore hM dX12_waysOfNew_178 (by decide) rfl ?_
          show sv_T sm_XS sm_cs sm_L sm_sh 10 (q_waysOfNew p1 p2 S) 282 180 [(0, .ref 0), (1, sv_I p1), (2, sv_I p2), (3, sv_I (S 74 (639 : Int))), (4, sv_I r9), (5, sv_L (S 69 r9)), (7, sv_L (S 70 r9)), (9, sv_I l9_15), (10, sv_I l10_16), (11, sv_I (10 : Int))] [] (sv_sts S [68, 69, 70, 81, 82, 83, 84, 85, 86, 71, 74, 75, 1127, 78, 79, 80, 72, 76, 77, 1143, 1144, 5, 1011, 1150, 1149, 1145, 1113, 1111, 1112, 91, 1147, 1100031] g22)
          obtain ⟨hin30, h⟩ := h
          have hJ : ∀ a : Int × sv_S, (sv_R a.1 ∧ sm_ok (sv_sts (sv_sts S [68, 69, 70, 81, 82, 83, 84, 85, 86, 71, 74, 75, 1127, 78, 79, 80, 72, 76, 77, 1143, 1144, 5, 1011, 1150, 1149, 1145, 1113, 1111, 1112, 91, 1147, 1100031] g22) [68, 69, 70, 81, 82, 83, 84, 85, 86, 71, 74, 75, 1127, 78, 79, 80, 72, 76, 77, 1143, 1144, 5, 1011, 1150, 1149, 1145, 1113, 1111, 1112, 91, 1147, 1100031] a.2) ∧ (10 ≤ a.1 ∧ a.1 ≤ 18 ∧ sm_ST (a.2 71) (a.2 74) (a.2 75) (a.2 78) (a.2 79) (a.2 80) (S 27) (S 1100007) (S 1100023) (S 1100024) (S 1046 0) ((S 1046 0) + 2 * (S 1032 0)) (a.2 1127 0) ∧ 465000 ≤ (a.2 1127 0) ∧ (a.2 1127 0) + sm_hs (a.2 71) (S 1100007) ≤ 635000 ∧ (a.2 75 639) = 647340 ∧ (∀ k : Int, (S 71 k) = 1 → (a.2 71 k) = 1) ∧ sm_DR (a.2 72) (a.2 71) (S 1046 0) ∧ (641 * (sm_cm (a.2 71) + sm_pt (a.2 68) (a.2 69) (a.2 70) + sm_pl (a.2 81) (a.2 82) (a.2 83) (a.2 84) (a.2 85) (a.2 86) + sm_ps (a.2 76) (a.2 77)) + sm_du (a.2 72)) ≤ (641 * (sm_cm (S 71) + sm_pt (S 68) (S 69) (S 70) + sm_pl (S 81) (S 82) (S 83) (S 84) (S 85) (S 86) + sm_ps (S 76) (S 77)) + sm_du (S 72)) ∧ 0 ≤ (a.2 1147 0) ∧ (a.2 1147 0) ≤ 12 ∧ (∀ k : Int, 0 ≤ k → k < (a.2 1147 0) → 635639 ≤ (a.2 91 k) ∧ (a.2 91 k) < 647800))) → sv_T sm_XS sm_cs sm_L sm_sh 10 (q_waysOfNew p1 p2 S) 282 180 [(0, .ref 0), (1, sv_I p1), (2, sv_I p2), (3, sv_I (S 74 (639 : Int))), (4, sv_I r9), (5, sv_L (S 69 r9)), (7, sv_L (S 70 r9)), (9, sv_I l9_15), (10, sv_I l10_16), (11, sv_I a.1)] [] (sv_sts (sv_sts S [68, 69, 70, 81, 82, 83, 84, 85, 86, 71, 74, 75, 1127, 78, 79, 80, 72, 76, 77, 1143, 1144, 5, 1011, 1150, 1149, 1145, 1113, 1111, 1112, 91, 1147, 1100031] g22) [68, 69, 70, 81, 82, 83, 84, 85, 86, 71, 74, 75, 1127, 78, 79, 80, 72, 76, 77, 1143, 1144, 5, 1011, 1150, 1149, 1145, 1113, 1111, 1112, 91, 1147, 1100031] a.2) := by
            refine sv_loop (α := Int × sv_S) (fun a => sv_R a.1 ∧ sm_ok (sv_sts (sv_sts S [68, 69, 70, 81, 82, 83, 84, 85, 86, 71, 74, 75, 1127, 78, 79, 80, 72, 76, 77, 1143, 1144, 5, 1011, 1150, 1149, 1145, 1113, 1111, 1112, 91, 1147, 1100031] g22) [68, 69, 70, 81, 82, 83, 84, 85, 86, 71, 74, 75, 1127, 78, 79, 80, 72, 76, 77, 1143, 1144, 5, 1011, 1150, 1149, 1145, 1113, 1111, 1112, 91, 1147, 1100031] a.2) ∧ (10 ≤ a.1 ∧ a.1 ≤ 18 ∧ sm_ST (a.2 71) (a.2 74) (a.2 75) (a.2 78) (a.2 79) (a.2 80) (S 27) (S 1100007) (S 1100023) (S 1100024) (S 1046 0) ((S 1046 0) + 2 * (S 1032 0)) (a.2 1127 0) ∧ 465000 ≤ (a.2 1127 0) ∧ (a.2 1127 0) + sm_hs (a.2 71) (S 1100007) ≤ 635000 ∧ (a.2 75 639) = 647340 ∧ (∀ k : Int, (S 71 k) = 1 → (a.2 71 k) = 1) ∧ sm_DR (a.2 72) (a.2 71) (S 1046 0) ∧ (641 * (sm_cm (a.2 71) + sm_pt (a.2 68) (a.2 69) (a.2 70) + sm_pl (a.2 81) (a.2 82) (a.2 83) (a.2 84) (a.2 85) (a.2 86) + sm_ps (a.2 76) (a.2 77)) + sm_du (a.2 72)) ≤ (641 * (sm_cm (S 71) + sm_pt (S 68) (S 69) (S 70) + sm_pl (S 81) (S 82) (S 83) (S 84) (S 85) (S 86) + sm_ps (S 76) (S 77)) + sm_du (S 72)) ∧ 0 ≤ (a.2 1147 0) ∧ (a.2 1147 0) ≤ 12 ∧ (∀ k : Int, 0 ≤ k → k < (a.2 1147 0) → 635639 ≤ (a.2 91 k) ∧ (a.2 91 k) < 647800))) (fun a => 18 - a.1) (fun a => sv_T sm_XS sm_cs sm_L sm_sh 10 (q_waysOfNew p1 p2 S) 282 180 [(0, .ref 0), (1, sv_I p1), (2, sv_I p2), (3, sv_I (S 74 (639 : Int))), (4, sv_I r9), (5, sv_L (S 69 r9)), (7, sv_L (S 70 r9)), (9, sv_I l9_15), (10, sv_I l10_16), (11, sv_I a.1)] [] (sv_sts (sv_sts S [68, 69, 70, 81, 82, 83, 84, 85, 86, 71, 74, 75, 1127, 78, 79, 80, 72, 76, 77, 1143, 1144, 5, 1011, 1150, 1149, 1145, 1113, 1111, 1112, 91, 1147, 1100031] g22) [68, 69, 70, 81, 82, 83, 84, 85, 86, 71, 74, 75, 1127, 78, 79, 80, 72, 76, 77, 1143, 1144, 5, 1011, 1150, 1149, 1145, 1113, 1111, 1112, 91, 1147, 1100031] a.2)) (fun a q => (h a.1 q.1 a.2 q.2.2).1) (fun a q ih29 => ?_)
            obtain ⟨l11_28, g27⟩ := a
            obtain ⟨hl11_28, ok31, hin30i⟩ := q
            have h := (h l11_28 hl11_28 g27 hin30i).2
            show sv_T sm_XS sm_cs sm_L sm_sh 10 (q_waysOfNew p1 p2 S) 282 180 [(0, .ref 0), (1, sv_I p1), (2, sv_I p2), (3, sv_I (S 74 (639 : Int))), (4, sv_I r9), (5, sv_L (S 69 r9)), (7, sv_L (S 70 r9)), (9, sv_I l9_15), (10, sv_I l10_16), (11, sv_I l11_28)] [] (sv_sts (sv_sts S [68, 69, 70, 81, 82, 83, 84, 85, 86, 71, 74, 75, 1127, 78, 79, 80, 72, 76, 77, 1143, 1144, 5, 1011, 1150, 1149, 1145, 1113, 1111, 1112, 91, 1147, 1100031] g22) [68, 69, 70, 81, 82, 83, 84, 85, 86, 71, 74, 75, 1127, 78, 79, 80, 72, 76, 77, 1143, 1144, 5, 1011, 1150, 1149, 1145, 1113, 1111, 1112, 91, 1147, 1100031] g27)
            have md32 : sv_mod [68, 69, 70, 81, 82, 83, 84, 85, 86, 71, 74, 75, 1127, 78, 79, 80, 72, 76, 77, 1143, 1144, 5, 1011, 1150, 1149, 1145, 1113, 1111, 1112, 91, 1147, 1100031] S (sv_sts (sv_sts S [68, 69, 70, 81, 82, 83, 84, 85, 86, 71, 74, 75, 1127, 78, 79, 80, 72, 76, 77, 1143, 1144, 5, 1011, 1150, 1149, 1145, 1113, 1111, 1112, 91, 1147, 1100031] g22) [68, 69, 70, 81, 82, 83, 84, 85, 86, 71, 74, 75, 1127, 78, 79, 80, 72, 76, 77, 1143, 1144, 5, 1011, 1150, 1149, 1145, 1113, 1111, 1112, 91, 1147, 1100031] g27) := sv_mod.sts md25 (by decide)
            have md33 : sv_mod [68, 69, 70, 81, 82, 83, 84, 85, 86, 71, 74, 75, 1127, 78, 79, 80, 72, 76, 77, 1143, 1144, 5, 1011, 1150, 1149, 1145, 1113, 1111, 1112, 91, 1147, 1100031] (sv_sts S [68, 69, 70, 81, 82, 83, 84, 85, 86, 71, 74, 75, 1127, 78, 79, 80, 72, 76, 77, 1143, 1144, 5, 1011, 1150, 1149, 1145, 1113, 1111, 1112, 91, 1147, 1100031] g22) (sv_sts (sv_sts S [68, 69, 70, 81, 82, 83, 84, 85, 86, 71, 74, 75, 1127, 78, 79, 80, 72, 76, 77, 1143, 1144, 5, 1011, 1150, 1149, 1145, 1113, 1111, 1112, 91, 1147, 1100031] g22) [68, 69, 70, 81, 82, 83, 84, 85, 86, 71, 74, 75, 1127, 78, 79, 80, 72, 76, 77, 1143, 1144, 5, 1011, 1150, 1149, 1145, 1113, 1111, 1112, 91, 1147, 1100031] g27) := sv_mod.sts sv_mod.rf (by decide)
            refine sv_iload hM dX12_waysOfNew_180 rfl rfl ?_
            refine sv_bipush (d := (18 : Int)) hM dX12_waysOfNew_182 rfl rfl ?_
            refine sv_icmp_ge hM dX12_waysOfNew_184 hl11_28 (⟨by decide, by decide⟩ : sv_R (18 : Int)) (t := 226) rfl rfl (fun hc => ?_) (fun hc => ?_)
            · have h := h.1 (hc)
              have J60 : ∀ g34 : sv_S, sm_ok (sv_sts (sv_sts (sv_sts S [68, 69, 70, 81, 82, 83, 84, 85, 86, 71, 74, 75, 1127, 78, 79, 80, 72, 76, 77, 1143, 1144, 5, 1011, 1150, 1149, 1145, 1113, 1111, 1112, 91, 1147, 1100031] g22) [68, 69, 70, 81, 82, 83, 84, 85, 86, 71, 74, 75, 1127, 78, 79, 80, 72, 76, 77, 1143, 1144, 5, 1011, 1150, 1149, 1145, 1113, 1111, 1112, 91, 1147, 1100031] g27) [68, 69, 70, 81, 82, 83, 84, 85, 86, 71, 74, 75, 1127, 78, 79, 80, 72, 76, 77, 1143, 1144, 5, 1011, 1150, 1149, 1145, 1113, 1111, 1112, 91, 1147, 1100031] g34) → (sm_ST (g34 71) (g34 74) (g34 75) (g34 78) (g34 79) (g34 80) (S 27) (S 1100007) (S 1100023) (S 1100024) (S 1046 0) ((S 1046 0) + 2 * (S 1032 0)) (g34 1127 0) ∧ 465000 ≤ (g34 1127 0) ∧ (g34 1127 0) + sm_hs (g34 71) (S 1100007) ≤ 635000 ∧ (g34 75 639) = 647340 ∧ (∀ k : Int, (g27 71 k) = 1 → (g34 71 k) = 1) ∧ sm_DR (g34 72) (g34 71) (S 1046 0) ∧ (641 * (sm_cm (g34 71) + sm_pt (g34 68) (g34 69) (g34 70) + sm_pl (g34 81) (g34 82) (g34 83) (g34 84) (g34 85) (g34 86) + sm_ps (g34 76) (g34 77)) + sm_du (g34 72)) ≤ (641 * (sm_cm (g27 71) + sm_pt (g27 68) (g27 69) (g27 70) + sm_pl (g27 81) (g27 82) (g27 83) (g27 84) (g27 85) (g27 86) + sm_ps (g27 76) (g27 77)) + sm_du (g27 72)) ∧ 0 ≤ (g34 1147 0) ∧ (g34 1147 0) ≤ 12 ∧ (∀ k : Int, 0 ≤ k → k < (g34 1147 0) → 635639 ≤ (g34 91 k) ∧ (g34 91 k) < 647800)) → sv_T sm_XS sm_cs sm_L sm_sh 10 (q_waysOfNew p1 p2 S) 282 246 [(0, .ref 0), (1, sv_I p1), (2, sv_I p2), (3, sv_I (S 74 (639 : Int))), (4, sv_I r9), (5, sv_L (S 69 r9)), (7, sv_L (S 70 r9)), (9, sv_I l9_15), (10, sv_I l10_16), (11, sv_I l11_28)] [] (sv_sts (sv_sts (sv_sts S [68, 69, 70, 81, 82, 83, 84, 85, 86, 71, 74, 75, 1127, 78, 79, 80, 72, 76, 77, 1143, 1144, 5, 1011, 1150, 1149, 1145, 1113, 1111, 1112, 91, 1147, 1100031] g22) [68, 69, 70, 81, 82, 83, 84, 85, 86, 71, 74, 75, 1127, 78, 79, 80, 72, 76, 77, 1143, 1144, 5, 1011, 1150, 1149, 1145, 1113, 1111, 1112, 91, 1147, 1100031] g27) [68, 69, 70, 81, 82, 83, 84, 85, 86, 71, 74, 75, 1127, 78, 79, 80, 72, 76, 77, 1143, 1144, 5, 1011, 1150, 1149, 1145, 1113, 1111, 1112, 91, 1147, 1100031] g34) := by
                intro  g34 ok35 hin36
                have h := h.1 g34 hin36
                have md37 : sv_mod [68, 69, 70, 81, 82, 83, 84, 85, 86, 71, 74, 75, 1127, 78, 79, 80, 72, 76, 77, 1143, 1144, 5, 1011, 1150, 1149, 1145, 1113, 1111, 1112, 91, 1147, 1100031] S (sv_sts (sv_sts (sv_sts S [68, 69, 70, 81, 82, 83, 84, 85, 86, 71, 74, 75, 1127, 78, 79, 80, 72, 76, 77, 1143, 1144, 5, 1011, 1150, 1149, 1145, 1113, 1111, 1112, 91, 1147, 1100031] g22) [68, 69, 70, 81, 82, 83, 84, 85, 86, 71, 74, 75, 1127, 78, 79, 80, 72, 76, 77, 1143, 1144, 5, 1011, 1150, 1149, 1145, 1113, 1111, 1112, 91, 1147, 1100031] g27) [68, 69, 70, 81, 82, 83, 84, 85, 86, 71, 74, 75, 1127, 78, 79, 80, 72, 76, 77, 1143, 1144, 5, 1011, 1150, 1149, 1145, 1113, 1111, 1112, 91, 1147, 1100031] g34) := sv_mod.sts md32 (by decide)
                have md38 : sv_mod [68, 69, 70, 81, 82, 83, 84, 85, 86, 71, 74, 75, 1127, 78, 79, 80, 72, 76, 77, 1143, 1144, 5, 1011, 1150, 1149, 1145, 1113, 1111, 1112, 91, 1147, 1100031] (sv_sts S [68, 69, 70, 81, 82, 83, 84, 85, 86, 71, 74, 75, 1127, 78, 79, 80, 72, 76, 77, 1143, 1144, 5, 1011, 1150, 1149, 1145, 1113, 1111, 1112, 91, 1147, 1100031] g22) (sv_sts (sv_sts (sv_sts S [68, 69, 70, 81, 82, 83, 84, 85, 86, 71, 74, 75, 1127, 78, 79, 80, 72, 76, 77, 1143, 1144, 5, 1011, 1150, 1149, 1145, 1113, 1111, 1112, 91, 1147, 1100031] g22) [68, 69, 70, 81, 82, 83, 84, 85, 86, 71, 74, 75, 1127, 78, 79, 80, 72, 76, 77, 1143, 1144, 5, 1011, 1150, 1149, 1145, 1113, 1111, 1112, 91, 1147, 1100031] g27) [68, 69, 70, 81, 82, 83, 84, 85, 86, 71, 74, 75, 1127, 78, 79, 80, 72, 76, 77, 1143, 1144, 5, 1011, 1150, 1149, 1145, 1113, 1111, 1112, 91, 1147, 1100031] g34) := sv_mod.sts md33 (by decide)
                have md39 : sv_mod [68, 69, 70, 81, 82, 83, 84, 85, 86, 71, 74, 75, 1127, 78, 79, 80, 72, 76, 77, 1143, 1144, 5, 1011, 1150, 1149, 1145, 1113, 1111, 1112, 91, 1147, 1100031] (sv_sts (sv_sts S [68, 69, 70, 81, 82, 83, 84, 85, 86, 71, 74, 75, 1127, 78, 79, 80, 72, 76, 77, 1143, 1144, 5, 1011, 1150, 1149, 1145, 1113, 1111, 1112, 91, 1147, 1100031] g22) [68, 69, 70, 81, 82, 83, 84, 85, 86, 71, 74, 75, 1127, 78, 79, 80, 72, 76, 77, 1143, 1144, 5, 1011, 1150, 1149, 1145, 1113, 1111, 1112, 91, 1147, 1100031] g27) (sv_sts (sv_sts (sv_sts S [68, 69, 70, 81, 82, 83, 84, 85, 86, 71, 74, 75, 1127, 78, 79, 80, 72, 76, 77, 1143, 1144, 5, 1011, 1150, 1149, 1145, 1113, 1111, 1112, 91, 1147, 1100031] g22) [68, 69, 70, 81, 82, 83, 84, 85, 86, 71, 74, 75, 1127, 78, 79, 80, 72, 76, 77, 1143, 1144, 5, 1011, 1150, 1149, 1145, 1113, 1111, 1112, 91, 1147, 1100031] g27) [68, 69, 70, 81, 82, 83, 84, 85, 86, 71, 74, 75, 1127, 78, 79, 80, 72, 76, 77, 1143, 1144, 5, 1011, 1150, 1149, 1145, 1113, 1111, 1112, 91, 1147, 1100031] g34) := sv_mod.sts sv_mod.rf (by decide)
                refine sv_iconst (d := (1 : Int)) hM dX12_waysOfNew_246 rfl rfl ?_
                refine sv_istore hM dX12_waysOfNew_247 (by decide) rfl ?_
                show sv_T sm_XS sm_cs sm_L sm_sh 10 (q_waysOfNew p1 p2 S) 282 249 [(0, .ref 0), (1, sv_I p1), (2, sv_I p2), (3, sv_I (S 74 (639 : Int))), (4, sv_I r9), (5, sv_L (S 69 r9)), (7, sv_L (S 70 r9)), (9, sv_I l9_15), (10, sv_I l10_16), (11, sv_I (1 : Int))] [] (sv_sts (sv_sts (sv_sts S [68, 69, 70, 81, 82, 83, 84, 85, 86, 71, 74, 75, 1127, 78, 79, 80, 72, 76, 77, 1143, 1144, 5, 1011, 1150, 1149, 1145, 1113, 1111, 1112, 91, 1147, 1100031] g22) [68, 69, 70, 81, 82, 83, 84, 85, 86, 71, 74, 75, 1127, 78, 79, 80, 72, 76, 77, 1143, 1144, 5, 1011, 1150, 1149, 1145, 1113, 1111, 1112, 91, 1147, 1100031] g27) [68, 69, 70, 81, 82, 83, 84, 85, 86, 71, 74, 75, 1127, 78, 79, 80, 72, 76, 77, 1143, 1144, 5, 1011, 1150, 1149, 1145, 1113, 1111, 1112, 91, 1147, 1100031] g34)
                obtain ⟨hin43, h⟩ := h
                have hJ : ∀ a : Int × sv_S, (sv_R a.1 ∧ sm_ok (sv_sts (sv_sts (sv_sts (sv_sts S [68, 69, 70, 81, 82, 83, 84, 85, 86, 71, 74, 75, 1127, 78, 79, 80, 72, 76, 77, 1143, 1144, 5, 1011, 1150, 1149, 1145, 1113, 1111, 1112, 91, 1147, 1100031] g22) [68, 69, 70, 81, 82, 83, 84, 85, 86, 71, 74, 75, 1127, 78, 79, 80, 72, 76, 77, 1143, 1144, 5, 1011, 1150, 1149, 1145, 1113, 1111, 1112, 91, 1147, 1100031] g27) [68, 69, 70, 81, 82, 83, 84, 85, 86, 71, 74, 75, 1127, 78, 79, 80, 72, 76, 77, 1143, 1144, 5, 1011, 1150, 1149, 1145, 1113, 1111, 1112, 91, 1147, 1100031] g34) [68, 69, 70, 81, 82, 83, 84, 85, 86, 71, 74, 75, 1127, 78, 79, 80, 72, 76, 77, 1143, 1144, 5, 1011, 1150, 1149, 1145, 1113, 1111, 1112, 91, 1147, 1100031] a.2) ∧ (1 ≤ a.1 ∧ a.1 ≤ (S 1032 0) ∧ sm_ST (a.2 71) (a.2 74) (a.2 75) (a.2 78) (a.2 79) (a.2 80) (S 27) (S 1100007) (S 1100023) (S 1100024) (S 1046 0) ((S 1046 0) + 2 * (S 1032 0)) (a.2 1127 0) ∧ 465000 ≤ (a.2 1127 0) ∧ (a.2 1127 0) + sm_hs (a.2 71) (S 1100007) ≤ 635000 ∧ (a.2 75 639) = 647340 ∧ (∀ k : Int, (S 71 k) = 1 → (a.2 71 k) = 1) ∧ sm_DR (a.2 72) (a.2 71) (S 1046 0) ∧ (641 * (sm_cm (a.2 71) + sm_pt (a.2 68) (a.2 69) (a.2 70) + sm_pl (a.2 81) (a.2 82) (a.2 83) (a.2 84) (a.2 85) (a.2 86) + sm_ps (a.2 76) (a.2 77)) + sm_du (a.2 72)) ≤ (641 * (sm_cm (S 71) + sm_pt (S 68) (S 69) (S 70) + sm_pl (S 81) (S 82) (S 83) (S 84) (S 85) (S 86) + sm_ps (S 76) (S 77)) + sm_du (S 72)) ∧ 0 ≤ (a.2 1147 0) ∧ (a.2 1147 0) ≤ 12 ∧ (∀ k : Int, 0 ≤ k → k < (a.2 1147 0) → 635639 ≤ (a.2 91 k) ∧ (a.2 91 k) < 647800))) → sv_T sm_XS sm_cs sm_L sm_sh 10 (q_waysOfNew p1 p2 S) 282 249 [(0, .ref 0), (1, sv_I p1), (2, sv_I p2), (3, sv_I (S 74 (639 : Int))), (4, sv_I r9), (5, sv_L (S 69 r9)), (7, sv_L (S 70 r9)), (9, sv_I l9_15), (10, sv_I l10_16), (11, sv_I a.1)] [] (sv_sts (sv_sts (sv_sts (sv_sts S [68, 69, 70, 81, 82, 83, 84, 85, 86, 71, 74, 75, 1127, 78, 79, 80, 72, 76, 77, 1143, 1144, 5, 1011, 1150, 1149, 1145, 1113, 1111, 1112, 91, 1147, 1100031] g22) [68, 69, 70, 81, 82, 83, 84, 85, 86, 71, 74, 75, 1127, 78, 79, 80, 72, 76, 77, 1143, 1144, 5, 1011, 1150, 1149, 1145, 1113, 1111, 1112, 91, 1147, 1100031] g27) [68, 69, 70, 81, 82, 83, 84, 85, 86, 71, 74, 75, 1127, 78, 79, 80, 72, 76, 77, 1143, 1144, 5, 1011, 1150, 1149, 1145, 1113, 1111, 1112, 91, 1147, 1100031] g34) [68, 69, 70, 81, 82, 83, 84, 85, 86, 71, 74, 75, 1127, 78, 79, 80, 72, 76, 77, 1143, 1144, 5, 1011, 1150, 1149, 1145, 1113, 1111, 1112, 91, 1147, 1100031] a.2) := by
                  refine sv_loop (α := Int × sv_S) (fun a => sv_R a.1 ∧ sm_ok (sv_sts (sv_sts (sv_sts (sv_sts S [68, 69, 70, 81, 82, 83, 84, 85, 86, 71, 74, 75, 1127, 78, 79, 80, 72, 76, 77, 1143, 1144, 5, 1011, 1150, 1149, 1145, 1113, 1111, 1112, 91, 1147, 1100031] g22) [68, 69, 70, 81, 82, 83, 84, 85, 86, 71, 74, 75, 1127, 78, 79, 80, 72, 76, 77, 1143, 1144, 5, 1011, 1150, 1149, 1145, 1113, 1111, 1112, 91, 1147, 1100031] g27) [68, 69, 70, 81, 82, 83, 84, 85, 86, 71, 74, 75, 1127, 78, 79, 80, 72, 76, 77, 1143, 1144, 5, 1011, 1150, 1149, 1145, 1113, 1111, 1112, 91, 1147, 1100031] g34) [68, 69, 70, 81, 82, 83, 84, 85, 86, 71, 74, 75, 1127, 78, 79, 80, 72, 76, 77, 1143, 1144, 5, 1011, 1150, 1149, 1145, 1113, 1111, 1112, 91, 1147, 1100031] a.2) ∧ (1 ≤ a.1 ∧ a.1 ≤ (S 1032 0) ∧ sm_ST (a.2 71) (a.2 74) (a.2 75) (a.2 78) (a.2 79) (a.2 80) (S 27) (S 1100007) (S 1100023) (S 1100024) (S 1046 0) ((S 1046 0) + 2 * (S 1032 0)) (a.2 1127 0) ∧ 465000 ≤ (a.2 1127 0) ∧ (a.2 1127 0) + sm_hs (a.2 71) (S 1100007) ≤ 635000 ∧ (a.2 75 639) = 647340 ∧ (∀ k : Int, (S 71 k) = 1 → (a.2 71 k) = 1) ∧ sm_DR (a.2 72) (a.2 71) (S 1046 0) ∧ (641 * (sm_cm (a.2 71) + sm_pt (a.2 68) (a.2 69) (a.2 70) + sm_pl (a.2 81) (a.2 82) (a.2 83) (a.2 84) (a.2 85) (a.2 86) + sm_ps (a.2 76) (a.2 77)) + sm_du (a.2 72)) ≤ (641 * (sm_cm (S 71) + sm_pt (S 68) (S 69) (S 70) + sm_pl (S 81) (S 82) (S 83) (S 84) (S 85) (S 86) + sm_ps (S 76) (S 77)) + sm_du (S 72)) ∧ 0 ≤ (a.2 1147 0) ∧ (a.2 1147 0) ≤ 12 ∧ (∀ k : Int, 0 ≤ k → k < (a.2 1147 0) → 635639 ≤ (a.2 91 k) ∧ (a.2 91 k) < 647800))) (fun a => (S 1032 0) - a.1) (fun a => sv_T sm_XS sm_cs sm_L sm_sh 10 (q_waysOfNew p1 p2 S) 282 249 [(0, .ref 0), (1, sv_I p1), (2, sv_I p2), (3, sv_I (S 74 (639 : Int))), (4, sv_I r9), (5, sv_L (S 69 r9)), (7, sv_L (S 70 r9)), (9, sv_I l9_15), (10, sv_I l10_16), (11, sv_I a.1)] [] (sv_sts (sv_sts (sv_sts (sv_sts S [68, 69, 70, 81, 82, 83, 84, 85, 86, 71, 74, 75, 1127, 78, 79, 80, 72, 76, 77, 1143, 1144, 5, 1011, 1150, 1149, 1145, 1113, 1111, 1112, 91, 1147, 1100031] g22) [68, 69, 70, 81, 82, 83, 84, 85, 86, 71, 74, 75, 1127, 78, 79, 80, 72, 76, 77, 1143, 1144, 5, 1011, 1150, 1149, 1145, 1113, 1111, 1112, 91, 1147, 1100031] g27) [68, 69, 70, 81, 82, 83, 84, 85, 86, 71, 74, 75, 1127, 78, 79, 80, 72, 76, 77, 1143, 1144, 5, 1011, 1150, 1149, 1145, 1113, 1111, 1112, 91, 1147, 1100031] g34) [68, 69, 70, 81, 82, 83, 84, 85, 86, 71, 74, 75, 1127, 78, 79, 80, 72, 76, 77, 1143, 1144, 5, 1011, 1150, 1149, 1145, 1113, 1111, 1112, 91, 1147, 1100031] a.2)) (fun a q => (h a.1 q.1 a.2 q.2.2).1) (fun a q ih42 => ?_)
                  obtain ⟨l11_41, g40⟩ := a
                  obtain ⟨hl11_41, ok44, hin43i⟩ := q
                  have h := (h l11_41 hl11_41 g40 hin43i).2
                  show sv_T sm_XS sm_cs sm_L sm_sh 10 (q_waysOfNew p1 p2 S) 282 249 [(0, .ref 0), (1, sv_I p1), (2, sv_I p2), (3, sv_I (S 74 (639 : Int))), (4, sv_I r9), (5, sv_L (S 69 r9)), (7, sv_L (S 70 r9)), (9, sv_I l9_15), (10, sv_I l10_16), (11, sv_I l11_41)] [] (sv_sts (sv_sts (sv_sts (sv_sts S [68, 69, 70, 81, 82, 83, 84, 85, 86, 71, 74, 75, 1127, 78, 79, 80, 72, 76, 77, 1143, 1144, 5, 1011, 1150, 1149, 1145, 1113, 1111, 1112, 91, 1147, 1100031] g22) [68, 69, 70, 81, 82, 83, 84, 85, 86, 71, 74, 75, 1127, 78, 79, 80, 72, 76, 77, 1143, 1144, 5, 1011, 1150, 1149, 1145, 1113, 1111, 1112, 91, 1147, 1100031] g27) [68, 69, 70, 81, 82, 83, 84, 85, 86, 71, 74, 75, 1127, 78, 79, 80, 72, 76, 77, 1143, 1144, 5, 1011, 1150, 1149, 1145, 1113, 1111, 1112, 91, 1147, 1100031] g34) [68, 69, 70, 81, 82, 83, 84, 85, 86, 71, 74, 75, 1127, 78, 79, 80, 72, 76, 77, 1143, 1144, 5, 1011, 1150, 1149, 1145, 1113, 1111, 1112, 91, 1147, 1100031] g40)
                  have md45 : sv_mod [68, 69, 70, 81, 82, 83, 84, 85, 86, 71, 74, 75, 1127, 78, 79, 80, 72, 76, 77, 1143, 1144, 5, 1011, 1150, 1149, 1145, 1113, 1111, 1112, 91, 1147, 1100031] S (sv_sts (sv_sts (sv_sts (sv_sts S [68, 69, 70, 81, 82, 83, 84, 85, 86, 71, 74, 75, 1127, 78, 79, 80, 72, 76, 77, 1143, 1144, 5, 1011, 1150, 1149, 1145, 1113, 1111, 1112, 91, 1147, 1100031] g22) [68, 69, 70, 81, 82, 83, 84, 85, 86, 71, 74, 75, 1127, 78, 79, 80, 72, 76, 77, 1143, 1144, 5, 1011, 1150, 1149, 1145, 1113, 1111, 1112, 91, 1147, 1100031] g27) [68, 69, 70, 81, 82, 83, 84, 85, 86, 71, 74, 75, 1127, 78, 79, 80, 72, 76, 77, 1143, 1144, 5, 1011, 1150, 1149, 1145, 1113, 1111, 1112, 91, 1147, 1100031] g34) [68, 69, 70, 81, 82, 83, 84, 85, 86, 71, 74, 75, 1127, 78, 79, 80, 72, 76, 77, 1143, 1144, 5, 1011, 1150, 1149, 1145, 1113, 1111, 1112, 91, 1147, 1100031] g40) := sv_mod.sts md37 (by decide)
                  have md46 : sv_mod [68, 69, 70, 81, 82, 83, 84, 85, 86, 71, 74, 75, 1127, 78, 79, 80, 72, 76, 77, 1143, 1144, 5, 1011, 1150, 1149, 1145, 1113, 1111, 1112, 91, 1147, 1100031] (sv_sts S [68, 69, 70, 81, 82, 83, 84, 85, 86, 71, 74, 75, 1127, 78, 79, 80, 72, 76, 77, 1143, 1144, 5, 1011, 1150, 1149, 1145, 1113, 1111, 1112, 91, 1147, 1100031] g22) (sv_sts (sv_sts (sv_sts (sv_sts S [68, 69, 70, 81, 82, 83, 84, 85, 86, 71, 74, 75, 1127, 78, 79, 80, 72, 76, 77, 1143, 1144, 5, 1011, 1150, 1149, 1145, 1113, 1111, 1112, 91, 1147, 1100031] g22) [68, 69, 70, 81, 82, 83, 84, 85, 86, 71, 74, 75, 1127, 78, 79, 80, 72, 76, 77, 1143, 1144, 5, 1011, 1150, 1149, 1145, 1113, 1111, 1112, 91, 1147, 1100031] g27) [68, 69, 70, 81, 82, 83, 84, 85, 86, 71, 74, 75, 1127, 78, 79, 80, 72, 76, 77, 1143, 1144, 5, 1011, 1150, 1149, 1145, 1113, 1111, 1112, 91, 1147, 1100031] g34) [68, 69, 70, 81, 82, 83, 84, 85, 86, 71, 74, 75, 1127, 78, 79, 80, 72, 76, 77, 1143, 1144, 5, 1011, 1150, 1149, 1145, 1113, 1111, 1112, 91, 1147, 1100031] g40) := sv_mod.sts md38 (by decide)
                  have md47 : sv_mod [68, 69, 70, 81, 82, 83, 84, 85, 86, 71, 74, 75, 1127, 78, 79, 80, 72, 76, 77, 1143, 1144, 5, 1011, 1150, 1149, 1145, 1113, 1111, 1112, 91, 1147, 1100031] (sv_sts (sv_sts (sv_sts S [68, 69, 70, 81, 82, 83, 84, 85, 86, 71, 74, 75, 1127, 78, 79, 80, 72, 76, 77, 1143, 1144, 5, 1011, 1150, 1149, 1145, 1113, 1111, 1112, 91, 1147, 1100031] g22) [68, 69, 70, 81, 82, 83, 84, 85, 86, 71, 74, 75, 1127, 78, 79, 80, 72, 76, 77, 1143, 1144, 5, 1011, 1150, 1149, 1145, 1113, 1111, 1112, 91, 1147, 1100031] g27) [68, 69, 70, 81, 82, 83, 84, 85, 86, 71, 74, 75, 1127, 78, 79, 80, 72, 76, 77, 1143, 1144, 5, 1011, 1150, 1149, 1145, 1113, 1111, 1112, 91, 1147, 1100031] g34) (sv_sts (sv_sts (sv_sts (sv_sts S [68, 69, 70, 81, 82, 83, 84, 85, 86, 71, 74, 75, 1127, 78, 79, 80, 72, 76, 77, 1143, 1144, 5, 1011, 1150, 1149, 1145, 1113, 1111, 1112, 91, 1147, 1100031] g22) [68, 69, 70, 81, 82, 83, 84, 85, 86, 71, 74, 75, 1127, 78, 79, 80, 72, 76, 77, 1143, 1144, 5, 1011, 1150, 1149, 1145, 1113, 1111, 1112, 91, 1147, 1100031] g27) [68, 69, 70, 81, 82, 83, 84, 85, 86, 71, 74, 75, 1127, 78, 79, 80, 72, 76, 77, 1143, 1144, 5, 1011, 1150, 1149, 1145, 1113, 1111, 1112, 91, 1147, 1100031] g34) [68, 69, 70, 81, 82, 83, 84, 85, 86, 71, 74, 75, 1127, 78, 79, 80, 72, 76, 77, 1143, 1144, 5, 1011, 1150, 1149, 1145, 1113, 1111, 1112, 91, 1147, 1100031] g40) := sv_mod.sts sv_mod.rf (by decide)
                  refine sv_iload hM dX12_waysOfNew_249 rfl rfl ?_
                  refine sv_aload_n hM dX12_waysOfNew_251 rfl rfl ?_
                  have k48 : sv_R (S 1032 0) := sm_okI ok44 sm_r1032 0
                  have h := h k48
                  refine sv_getI hM dX12_waysOfNew_252 sm_fl_527 (sm_a0 _) sm_k32 rfl (x := (S 1032 0)) rfl ?_
                  refine sv_icmp_ge hM dX12_waysOfNew_255 hl11_41 k48 (t := 283) rfl rfl (fun hc => ?_) (fun hc => ?_)
                  · have h := h.1 (hc)
                    exact sv_vret hM dX12_waysOfNew_283 rfl ⟨rfl, ok44, md45, h⟩
                  · have h := h.2 (hc)
                    refine sv_aload_n hM dX12_waysOfNew_258 rfl rfl ?_
                    refine sv_iload hM dX12_waysOfNew_259 rfl rfl ?_
                    refine sv_lload hM dX12_waysOfNew_261 rfl rfl ?_
                    refine sv_lload hM dX12_waysOfNew_263 rfl rfl ?_
                    refine sv_iconst (d := (-1 : Int)) hM dX12_waysOfNew_265 rfl rfl ?_
                    refine sv_iload_n hM dX12_waysOfNew_266 rfl rfl ?_
                    refine sv_iload_n hM dX12_waysOfNew_267 rfl rfl ?_
                    refine sv_isub hM dX12_waysOfNew_268 rfl ?_
                    refine sv_iload_n hM dX12_waysOfNew_269 rfl rfl ?_
                    refine sv_iload_n hM dX12_waysOfNew_270 rfl rfl ?_
                    refine sv_iconst (d := (1 : Int)) hM dX12_waysOfNew_271 rfl rfl ?_
                    refine sv_iadd hM dX12_waysOfNew_272 rfl ?_
                    refine sv_iload_n hM dX12_waysOfNew_273 rfl rfl ?_
                    obtain ⟨o49, h⟩ := h
                    obtain ⟨o50, h⟩ := h
                    obtain ⟨o51, h⟩ := h
                    refine sv_callV hM dX12_waysOfNew_274 sm_iv_1332 (by decide) (sm_a0 _) rfl rfl (Nat.le_of_ble_eq_true rfl) sm_h284 (Nat.le_of_ble_eq_true rfl) (Nat.le_of_ble_eq_true rfl) (F' := 6) (Nat.le_of_ble_eq_true rfl) rfl (t_codeWays l11_41 (S 69 r9) (S 70 r9) (-1 : Int) ((S 74 (639 : Int)) - p1) p1 (p1 + (1 : Int)) p2 (sv_sts (sv_sts (sv_sts (sv_sts S [68, 69, 70, 81, 82, 83, 84, 85, 86, 71, 74, 75, 1127, 78, 79, 80, 72, 76, 77, 1143, 1144, 5, 1011, 1150, 1149, 1145, 1113, 1111, 1112, 91, 1147, 1100031] g22) [68, 69, 70, 81, 82, 83, 84, 85, 86, 71, 74, 75, 1127, 78, 79, 80, 72, 76, 77, 1143, 1144, 5, 1011, 1150, 1149, 1145, 1113, 1111, 1112, 91, 1147, 1100031] g27) [68, 69, 70, 81, 82, 83, 84, 85, 86, 71, 74, 75, 1127, 78, 79, 80, 72, 76, 77, 1143, 1144, 5, 1011, 1150, 1149, 1145, 1113, 1111, 1112, 91, 1147, 1100031] g34) [68, 69, 70, 81, 82, 83, 84, 85, 86, 71, 74, 75, 1127, 78, 79, 80, 72, 76, 77, 1143, 1144, 5, 1011, 1150, 1149, 1145, 1113, 1111, 1112, 91, 1147, 1100031] g40) ok44 hl11_41 k11 k12 (⟨by decide, by decide⟩ : sv_R (-1 : Int)) o49 hp1 o50 hp2 o51) (fun v S1 hq => ?_)
                    obtain ⟨rfl, ok53, md54, hpo55⟩ := hq
                    obtain ⟨g52, rfl⟩ : ∃ g, S1 = sv_sts (sv_sts (sv_sts (sv_sts (sv_sts S [68, 69, 70, 81, 82, 83, 84, 85, 86, 71, 74, 75, 1127, 78, 79, 80, 72, 76, 77, 1143, 1144, 5, 1011, 1150, 1149, 1145, 1113, 1111, 1112, 91, 1147, 1100031] g22) [68, 69, 70, 81, 82, 83, 84, 85, 86, 71, 74, 75, 1127, 78, 79, 80, 72, 76, 77, 1143, 1144, 5, 1011, 1150, 1149, 1145, 1113, 1111, 1112, 91, 1147, 1100031] g27) [68, 69, 70, 81, 82, 83, 84, 85, 86, 71, 74, 75, 1127, 78, 79, 80, 72, 76, 77, 1143, 1144, 5, 1011, 1150, 1149, 1145, 1113, 1111, 1112, 91, 1147, 1100031] g34) [68, 69, 70, 81, 82, 83, 84, 85, 86, 71, 74, 75, 1127, 78, 79, 80, 72, 76, 77, 1143, 1144, 5, 1011, 1150, 1149, 1145, 1113, 1111, 1112, 91, 1147, 1100031] g40) [68, 69, 70, 81, 82, 83, 84, 85, 86, 71, 74, 75, 1127, 78, 79, 80, 72, 76, 77, 1143, 1144, 5, 1011, 1150, 1149, 1145, 1113, 1111, 1112, 91, 1147, 1100031] g := ⟨_, md54.eq⟩
                    show sv_T sm_XS sm_cs sm_L sm_sh 10 (q_waysOfNew p1 p2 S) 282 277 [(0, .ref 0), (1, sv_I p1), (2, sv_I p2), (3, sv_I (S 74 (639 : Int))), (4, sv_I r9), (5, sv_L (S 69 r9)), (7, sv_L (S 70 r9)), (9, sv_I l9_15), (10, sv_I l10_16), (11, sv_I l11_41)] [] (sv_sts (sv_sts (sv_sts (sv_sts (sv_sts S [68, 69, 70, 81, 82, 83, 84, 85, 86, 71, 74, 75, 1127, 78, 79, 80, 72, 76, 77, 1143, 1144, 5, 1011, 1150, 1149, 1145, 1113, 1111, 1112, 91, 1147, 1100031] g22) [68, 69, 70, 81, 82, 83, 84, 85, 86, 71, 74, 75, 1127, 78, 79, 80, 72, 76, 77, 1143, 1144, 5, 1011, 1150, 1149, 1145, 1113, 1111, 1112, 91, 1147, 1100031] g27) [68, 69, 70, 81, 82, 83, 84, 85, 86, 71, 74, 75, 1127, 78, 79, 80, 72, 76, 77, 1143, 1144, 5, 1011, 1150, 1149, 1145, 1113, 1111, 1112, 91, 1147, 1100031] g34) [68, 69, 70, 81, 82, 83, 84, 85, 86, 71, 74, 75, 1127, 78, 79, 80, 72, 76, 77, 1143, 1144, 5, 1011, 1150, 1149, 1145, 1113, 1111, 1112, 91, 1147, 1100031] g40) [68, 69, 70, 81, 82, 83, 84, 85, 86, 71, 74, 75, 1127, 78, 79, 80, 72, 76, 77, 1143, 1144, 5, 1011, 1150, 1149, 1145, 1113, 1111, 1112, 91, 1147, 1100031] g52)
                    have md56 : sv_mod [68, 69, 70, 81, 82, 83, 84, 85, 86, 71, 74, 75, 1127, 78, 79, 80, 72, 76, 77, 1143, 1144, 5, 1011, 1150, 1149, 1145, 1113, 1111, 1112, 91, 1147, 1100031] S (sv_sts (sv_sts (sv_sts (sv_sts (sv_sts S [68, 69, 70, 81, 82, 83, 84, 85, 86, 71, 74, 75, 1127, 78, 79, 80, 72, 76, 77, 1143, 1144, 5, 1011, 1150, 1149, 1145, 1113, 1111, 1112, 91, 1147, 1100031] g22) [68, 69, 70, 81, 82, 83, 84, 85, 86, 71, 74, 75, 1127, 78, 79, 80, 72, 76, 77, 1143, 1144, 5, 1011, 1150, 1149, 1145, 1113, 1111, 1112, 91, 1147, 1100031] g27) [68, 69, 70, 81, 82, 83, 84, 85, 86, 71, 74, 75, 1127, 78, 79, 80, 72, 76, 77, 1143, 1144, 5, 1011, 1150, 1149, 1145, 1113, 1111, 1112, 91, 1147, 1100031] g34) [68, 69, 70, 81, 82, 83, 84, 85, 86, 71, 74, 75, 1127, 78, 79, 80, 72, 76, 77, 1143, 1144, 5, 1011, 1150, 1149, 1145, 1113, 1111, 1112, 91, 1147, 1100031] g40) [68, 69, 70, 81, 82, 83, 84, 85, 86, 71, 74, 75, 1127, 78, 79, 80, 72, 76, 77, 1143, 1144, 5, 1011, 1150, 1149, 1145, 1113, 1111, 1112, 91, 1147, 1100031] g52) := sv_mod.sts md45 (by decide)
                    have md57 : sv_mod [68, 69, 70, 81, 82, 83, 84, 85, 86, 71, 74, 75, 1127, 78, 79, 80, 72, 76, 77, 1143, 1144, 5, 1011, 1150, 1149, 1145, 1113, 1111, 1112, 91, 1147, 1100031] (sv_sts S [68, 69, 70, 81, 82, 83, 84, 85, 86, 71, 74, 75, 1127, 78, 79, 80, 72, 76, 77, 1143, 1144, 5, 1011, 1150, 1149, 1145, 1113, 1111, 1112, 91, 1147, 1100031] g22) (sv_sts (sv_sts (sv_sts (sv_sts (sv_sts S [68, 69, 70, 81, 82, 83, 84, 85, 86, 71, 74, 75, 1127, 78, 79, 80, 72, 76, 77, 1143, 1144, 5, 1011, 1150, 1149, 1145, 1113, 1111, 1112, 91, 1147, 1100031] g22) [68, 69, 70, 81, 82, 83, 84, 85, 86, 71, 74, 75, 1127, 78, 79, 80, 72, 76, 77, 1143, 1144, 5, 1011, 1150, 1149, 1145, 1113, 1111, 1112, 91, 1147, 1100031] g27) [68, 69, 70, 81, 82, 83, 84, 85, 86, 71, 74, 75, 1127, 78, 79, 80, 72, 76, 77, 1143, 1144, 5, 1011, 1150, 1149, 1145, 1113, 1111, 1112, 91, 1147, 1100031] g34) [68, 69, 70, 81, 82, 83, 84, 85, 86, 71, 74, 75, 1127, 78, 79, 80, 72, 76, 77, 1143, 1144, 5, 1011, 1150, 1149, 1145, 1113, 1111, 1112, 91, 1147, 1100031] g40) [68, 69, 70, 81, 82, 83, 84, 85, 86, 71, 74, 75, 1127, 78, 79, 80, 72, 76, 77, 1143, 1144, 5, 1011, 1150, 1149, 1145, 1113, 1111, 1112, 91, 1147, 1100031] g52) := sv_mod.sts md46 (by decide)
                    have md58 : sv_mod [68, 69, 70, 81, 82, 83, 84, 85, 86, 71, 74, 75, 1127, 78, 79, 80, 72, 76, 77, 1143, 1144, 5, 1011, 1150, 1149, 1145, 1113, 1111, 1112, 91, 1147, 1100031] (sv_sts (sv_sts (sv_sts S [68, 69, 70, 81, 82, 83, 84, 85, 86, 71, 74, 75, 1127, 78, 79, 80, 72, 76, 77, 1143, 1144, 5, 1011, 1150, 1149, 1145, 1113, 1111, 1112, 91, 1147, 1100031] g22) [68, 69, 70, 81, 82, 83, 84, 85, 86, 71, 74, 75, 1127, 78, 79, 80, 72, 76, 77, 1143, 1144, 5, 1011, 1150, 1149, 1145, 1113, 1111, 1112, 91, 1147, 1100031] g27) [68, 69, 70, 81, 82, 83, 84, 85, 86, 71, 74, 75, 1127, 78, 79, 80, 72, 76, 77, 1143, 1144, 5, 1011, 1150, 1149, 1145, 1113, 1111, 1112, 91, 1147, 1100031] g34) (sv_sts (sv_sts (sv_sts (sv_sts (sv_sts S [68, 69, 70, 81, 82, 83, 84, 85, 86, 71, 74, 75, 1127, 78, 79, 80, 72, 76, 77, 1143, 1144, 5, 1011, 1150, 1149, 1145, 1113, 1111, 1112, 91, 1147, 1100031] g22) [68, 69, 70, 81, 82, 83, 84, 85, 86, 71, 74, 75, 1127, 78, 79, 80, 72, 76, 77, 1143, 1144, 5, 1011, 1150, 1149, 1145, 1113, 1111, 1112, 91, 1147, 1100031] g27) [68, 69, 70, 81, 82, 83, 84, 85, 86, 71, 74, 75, 1127, 78, 79, 80, 72, 76, 77, 1143, 1144, 5, 1011, 1150, 1149, 1145, 1113, 1111, 1112, 91, 1147, 1100031] g34) [68, 69, 70, 81, 82, 83, 84, 85, 86, 71, 74, 75, 1127, 78, 79, 80, 72, 76, 77, 1143, 1144, 5, 1011, 1150, 1149, 1145, 1113, 1111, 1112, 91, 1147, 1100031] g40) [68, 69, 70, 81, 82, 83, 84, 85, 86, 71, 74, 75, 1127, 78, 79, 80, 72, 76, 77, 1143, 1144, 5, 1011, 1150, 1149, 1145, 1113, 1111, 1112, 91, 1147, 1100031] g52) := sv_mod.sts md47 (by decide)
                    have h := h g52 hpo55
                    refine sv_iinc (d := (1 : Int)) hM dX12_waysOfNew_277 rfl (by decide) rfl rfl ?_
                    show sv_T sm_XS sm_cs sm_L sm_sh 10 (q_waysOfNew p1 p2 S) 282 280 [(0, .ref 0), (1, sv_I p1), (2, sv_I p2), (3, sv_I (S 74 (639 : Int))), (4, sv_I r9), (5, sv_L (S 69 r9)), (7, sv_L (S 70 r9)), (9, sv_I l9_15), (10, sv_I l10_16), (11, sv_I (l11_41 + (1 : Int)))] [] (sv_sts (sv_sts (sv_sts (sv_sts (sv_sts S [68, 69, 70, 81, 82, 83, 84, 85, 86, 71, 74, 75, 1127, 78, 79, 80, 72, 76, 77, 1143, 1144, 5, 1011, 1150, 1149, 1145, 1113, 1111, 1112, 91, 1147, 1100031] g22) [68, 69, 70, 81, 82, 83, 84, 85, 86, 71, 74, 75, 1127, 78, 79, 80, 72, 76, 77, 1143, 1144, 5, 1011, 1150, 1149, 1145, 1113, 1111, 1112, 91, 1147, 1100031] g27) [68, 69, 70, 81, 82, 83, 84, 85, 86, 71, 74, 75, 1127, 78, 79, 80, 72, 76, 77, 1143, 1144, 5, 1011, 1150, 1149, 1145, 1113, 1111, 1112, 91, 1147, 1100031] g34) [68, 69, 70, 81, 82, 83, 84, 85, 86, 71, 74, 75, 1127, 78, 79, 80, 72, 76, 77, 1143, 1144, 5, 1011, 1150, 1149, 1145, 1113, 1111, 1112, 91, 1147, 1100031] g40) [68, 69, 70, 81, 82, 83, 84, 85, 86, 71, 74, 75, 1127, 78, 79, 80, 72, 76, 77, 1143, 1144, 5, 1011, 1150, 1149, 1145, 1113, 1111, 1112, 91, 1147, 1100031] g52)
                    refine sv_goto hM dX12_waysOfNew_280 (pc' := 249) rfl ?_
                    obtain ⟨o59, h⟩ := h
                    have eS := sv_mod.eq md58
                    have hb := ih42 ((l11_41 + (1 : Int)), (sv_sts (sv_sts (sv_sts (sv_sts (sv_sts S [68, 69, 70, 81, 82, 83, 84, 85, 86, 71, 74, 75, 1127, 78, 79, 80, 72, 76, 77, 1143, 1144, 5, 1011, 1150, 1149, 1145, 1113, 1111, 1112, 91, 1147, 1100031] g22) [68, 69, 70, 81, 82, 83, 84, 85, 86, 71, 74, 75, 1127, 78, 79, 80, 72, 76, 77, 1143, 1144, 5, 1011, 1150, 1149, 1145, 1113, 1111, 1112, 91, 1147, 1100031] g27) [68, 69, 70, 81, 82, 83, 84, 85, 86, 71, 74, 75, 1127, 78, 79, 80, 72, 76, 77, 1143, 1144, 5, 1011, 1150, 1149, 1145, 1113, 1111, 1112, 91, 1147, 1100031] g34) [68, 69, 70, 81, 82, 83, 84, 85, 86, 71, 74, 75, 1127, 78, 79, 80, 72, 76, 77, 1143, 1144, 5, 1011, 1150, 1149, 1145, 1113, 1111, 1112, 91, 1147, 1100031] g40) [68, 69, 70, 81, 82, 83, 84, 85, 86, 71, 74, 75, 1127, 78, 79, 80, 72, 76, 77, 1143, 1144, 5, 1011, 1150, 1149, 1145, 1113, 1111, 1112, 91, 1147, 1100031] g52)) ⟨o59, (by rw [← eS]; exact ok53), h.1⟩ h.2
                    have hb : sv_T sm_XS sm_cs sm_L sm_sh 10 (q_waysOfNew p1 p2 S) 282 249 [(0, .ref 0), (1, sv_I p1), (2, sv_I p2), (3, sv_I (S 74 (639 : Int))), (4, sv_I r9), (5, sv_L (S 69 r9)), (7, sv_L (S 70 r9)), (9, sv_I l9_15), (10, sv_I l10_16), (11, sv_I (l11_41 + (1 : Int)))] [] (sv_sts (sv_sts (sv_sts (sv_sts (sv_sts S [68, 69, 70, 81, 82, 83, 84, 85, 86, 71, 74, 75, 1127, 78, 79, 80, 72, 76, 77, 1143, 1144, 5, 1011, 1150, 1149, 1145, 1113, 1111, 1112, 91, 1147, 1100031] g22) [68, 69, 70, 81, 82, 83, 84, 85, 86, 71, 74, 75, 1127, 78, 79, 80, 72, 76, 77, 1143, 1144, 5, 1011, 1150, 1149, 1145, 1113, 1111, 1112, 91, 1147, 1100031] g27) [68, 69, 70, 81, 82, 83, 84, 85, 86, 71, 74, 75, 1127, 78, 79, 80, 72, 76, 77, 1143, 1144, 5, 1011, 1150, 1149, 1145, 1113, 1111, 1112, 91, 1147, 1100031] g34) [68, 69, 70, 81, 82, 83, 84, 85, 86, 71, 74, 75, 1127, 78, 79, 80, 72, 76, 77, 1143, 1144, 5, 1011, 1150, 1149, 1145, 1113, 1111, 1112, 91, 1147, 1100031] g40) [68, 69, 70, 81, 82, 83, 84, 85, 86, 71, 74, 75, 1127, 78, 79, 80, 72, 76, 77, 1143, 1144, 5, 1011, 1150, 1149, 1145, 1113, 1111, 1112, 91, 1147, 1100031] g52) := Eq.mpr (congrArg (fun Z => sv_T sm_XS sm_cs sm_L sm_sh 10 (q_waysOfNew p1 p2 S) 282 249 [(0, .ref 0), (1, sv_I p1), (2, sv_I p2), (3, sv_I (S 74 (639 : Int))), (4, sv_I r9), (5, sv_L (S 69 r9)), (7, sv_L (S 70 r9)), (9, sv_I l9_15), (10, sv_I l10_16), (11, sv_I (l11_41 + (1 : Int)))] [] Z) eS) hb
                    exact sv_less (lv := [(0, .ref 0), (1, sv_I p1), (2, sv_I p2), (3, sv_I (S 74 (639 : Int))), (4, sv_I r9), (5, sv_L (S 69 r9)), (7, sv_L (S 70 r9)), (9, sv_I l9_15), (10, sv_I l10_16), (11, sv_I (l11_41 + (1 : Int)))]) (sv_Sub_cons rfl (sv_Sub_cons rfl (sv_Sub_cons rfl (sv_Sub_cons rfl (sv_Sub_cons rfl (sv_Sub_cons rfl (sv_Sub_cons rfl (sv_Sub_cons rfl (sv_Sub_cons rfl (sv_Sub_cons rfl sv_Sub_nil)))))))))) hb
                have eS := sv_mod.eq (sv_mod.rf (l := [68, 69, 70, 81, 82, 83, 84, 85, 86, 71, 74, 75, 1127, 78, 79, 80, 72, 76, 77, 1143, 1144, 5, 1011, 1150, 1149, 1145, 1113, 1111, 1112, 91, 1147, 1100031]) (S := (sv_sts (sv_sts (sv_sts S [68, 69, 70, 81, 82, 83, 84, 85, 86, 71, 74, 75, 1127, 78, 79, 80, 72, 76, 77, 1143, 1144, 5, 1011, 1150, 1149, 1145, 1113, 1111, 1112, 91, 1147, 1100031] g22) [68, 69, 70, 81, 82, 83, 84, 85, 86, 71, 74, 75, 1127, 78, 79, 80, 72, 76, 77, 1143, 1144, 5, 1011, 1150, 1149, 1145, 1113, 1111, 1112, 91, 1147, 1100031] g27) [68, 69, 70, 81, 82, 83, 84, 85, 86, 71, 74, 75, 1127, 78, 79, 80, 72, 76, 77, 1143, 1144, 5, 1011, 1150, 1149, 1145, 1113, 1111, 1112, 91, 1147, 1100031] g34)))
                have hb := hJ ((1 : Int), (sv_sts (sv_sts (sv_sts S [68, 69, 70, 81, 82, 83, 84, 85, 86, 71, 74, 75, 1127, 78, 79, 80, 72, 76, 77, 1143, 1144, 5, 1011, 1150, 1149, 1145, 1113, 1111, 1112, 91, 1147, 1100031] g22) [68, 69, 70, 81, 82, 83, 84, 85, 86, 71, 74, 75, 1127, 78, 79, 80, 72, 76, 77, 1143, 1144, 5, 1011, 1150, 1149, 1145, 1113, 1111, 1112, 91, 1147, 1100031] g27) [68, 69, 70, 81, 82, 83, 84, 85, 86, 71, 74, 75, 1127, 78, 79, 80, 72, 76, 77, 1143, 1144, 5, 1011, 1150, 1149, 1145, 1113, 1111, 1112, 91, 1147, 1100031] g34)) ⟨(⟨by decide, by decide⟩ : sv_R (1 : Int)), (by rw [← eS]; exact ok35), hin43⟩
                have hb : sv_T sm_XS sm_cs sm_L sm_sh 10 (q_waysOfNew p1 p2 S) 282 249 [(0, .ref 0), (1, sv_I p1), (2, sv_I p2), (3, sv_I (S 74 (639 : Int))), (4, sv_I r9), (5, sv_L (S 69 r9)), (7, sv_L (S 70 r9)), (9, sv_I l9_15), (10, sv_I l10_16), (11, sv_I (1 : Int))] [] (sv_sts (sv_sts (sv_sts S [68, 69, 70, 81, 82, 83, 84, 85, 86, 71, 74, 75, 1127, 78, 79, 80, 72, 76, 77, 1143, 1144, 5, 1011, 1150, 1149, 1145, 1113, 1111, 1112, 91, 1147, 1100031] g22) [68, 69, 70, 81, 82, 83, 84, 85, 86, 71, 74, 75, 1127, 78, 79, 80, 72, 76, 77, 1143, 1144, 5, 1011, 1150, 1149, 1145, 1113, 1111, 1112, 91, 1147, 1100031] g27) [68, 69, 70, 81, 82, 83, 84, 85, 86, 71, 74, 75, 1127, 78, 79, 80, 72, 76, 77, 1143, 1144, 5, 1011, 1150, 1149, 1145, 1113, 1111, 1112, 91, 1147, 1100031] g34) := Eq.mpr (congrArg (fun Z => sv_T sm_XS sm_cs sm_L sm_sh 10 (q_waysOfNew p1 p2 S) 282 249 [(0, .ref 0), (1, sv_I p1), (2, sv_I p2), (3, sv_I (S 74 (639 : Int))), (4, sv_I r9), (5, sv_L (S 69 r9)), (7, sv_L (S 70 r9)), (9, sv_I l9_15), (10, sv_I l10_16), (11, sv_I (1 : Int))] [] Z) eS) hb
                exact hb
              have h := h.2
              refine sv_iload hM dX12_waysOfNew_226 rfl rfl ?_
              refine sv_cond_eq hM dX12_waysOfNew_228 hl10_16 (t := 246) rfl rfl (fun hc => ?_) (fun hc => ?_)
              · have h := h.1 (hc)
                have eS := sv_mod.eq (sv_mod.rf (l := [68, 69, 70, 81, 82, 83, 84, 85, 86, 71, 74, 75, 1127, 78, 79, 80, 72, 76, 77, 1143, 1144, 5, 1011, 1150, 1149, 1145, 1113, 1111, 1112, 91, 1147, 1100031]) (S := (sv_sts (sv_sts S [68, 69, 70, 81, 82, 83, 84, 85, 86, 71, 74, 75, 1127, 78, 79, 80, 72, 76, 77, 1143, 1144, 5, 1011, 1150, 1149, 1145, 1113, 1111, 1112, 91, 1147, 1100031] g22) [68, 69, 70, 81, 82, 83, 84, 85, 86, 71, 74, 75, 1127, 78, 79, 80, 72, 76, 77, 1143, 1144, 5, 1011, 1150, 1149, 1145, 1113, 1111, 1112, 91, 1147, 1100031] g27)))
                have hb := J60 (sv_sts (sv_sts S [68, 69, 70, 81, 82, 83, 84, 85, 86, 71, 74, 75, 1127, 78, 79, 80, 72, 76, 77, 1143, 1144, 5, 1011, 1150, 1149, 1145, 1113, 1111, 1112, 91, 1147, 1100031] g22) [68, 69, 70, 81, 82, 83, 84, 85, 86, 71, 74, 75, 1127, 78, 79, 80, 72, 76, 77, 1143, 1144, 5, 1011, 1150, 1149, 1145, 1113, 1111, 1112, 91, 1147, 1100031] g27) (by rw [← eS]; exact ok31) h
                have hb : sv_T sm_XS sm_cs sm_L sm_sh 10 (q_waysOfNew p1 p2 S) 282 246 [(0, .ref 0), (1, sv_I p1), (2, sv_I p2), (3, sv_I (S 74 (639 : Int))), (4, sv_I r9), (5, sv_L (S 69 r9)), (7, sv_L (S 70 r9)), (9, sv_I l9_15), (10, sv_I l10_16), (11, sv_I l11_28)] [] (sv_sts (sv_sts S [68, 69, 70, 81, 82, 83, 84, 85, 86, 71, 74, 75, 1127, 78, 79, 80, 72, 76, 77, 1143, 1144, 5, 1011, 1150, 1149, 1145, 1113, 1111, 1112, 91, 1147, 1100031] g22) [68, 69, 70, 81, 82, 83, 84, 85, 86, 71, 74, 75, 1127, 78, 79, 80, 72, 76, 77, 1143, 1144, 5, 1011, 1150, 1149, 1145, 1113, 1111, 1112, 91, 1147, 1100031] g27) := Eq.mpr (congrArg (fun Z => sv_T sm_XS sm_cs sm_L sm_sh 10 (q_waysOfNew p1 p2 S) 282 246 [(0, .ref 0), (1, sv_I p1), (2, sv_I p2), (3, sv_I (S 74 (639 : Int))), (4, sv_I r9), (5, sv_L (S 69 r9)), (7, sv_L (S 70 r9)), (9, sv_I l9_15), (10, sv_I l10_16), (11, sv_I l11_28)] [] Z) eS) hb
                exact sv_less (lv := [(0, .ref 0), (1, sv_I p1), (2, sv_I p2), (3, sv_I (S 74 (639 : Int))), (4, sv_I r9), (5, sv_L (S 69 r9)), (7, sv_L (S 70 r9)), (9, sv_I l9_15), (10, sv_I l10_16), (11, sv_I l11_28)]) (sv_Sub_cons rfl (sv_Sub_cons rfl (sv_Sub_cons rfl (sv_Sub_cons rfl (sv_Sub_cons rfl (sv_Sub_cons rfl (sv_Sub_cons rfl (sv_Sub_cons rfl (sv_Sub_cons rfl (sv_Sub_cons rfl sv_Sub_nil)))))))))) hb
              · have h := h.2 (hc)
                refine sv_aload_n hM dX12_waysOfNew_231 rfl rfl ?_
                refine sv_lload hM dX12_waysOfNew_232 rfl rfl ?_
                refine sv_lload hM dX12_waysOfNew_234 rfl rfl ?_
                refine sv_iload_n hM dX12_waysOfNew_236 rfl rfl ?_
                obtain ⟨o61, h⟩ := h
                refine sv_callV hM dX12_waysOfNew_237 sm_iv_1336 (by decide) (sm_a0 _) rfl rfl (Nat.le_of_ble_eq_true rfl) sm_h283 (Nat.le_of_ble_eq_true rfl) (Nat.le_of_ble_eq_true rfl) (F' := 4) (Nat.le_of_ble_eq_true rfl) rfl (t_prepare (S 69 r9) (S 70 r9) p2 (sv_sts (sv_sts S [68, 69, 70, 81, 82, 83, 84, 85, 86, 71, 74, 75, 1127, 78, 79, 80, 72, 76, 77, 1143, 1144, 5, 1011, 1150, 1149, 1145, 1113, 1111, 1112, 91, 1147, 1100031] g22) [68, 69, 70, 81, 82, 83, 84, 85, 86, 71, 74, 75, 1127, 78, 79, 80, 72, 76, 77, 1143, 1144, 5, 1011, 1150, 1149, 1145, 1113, 1111, 1112, 91, 1147, 1100031] g27) ok31 k11 k12 hp2 o61) (fun v S1 hq => ?_)
                obtain ⟨rfl, ok63, md64, hpo65⟩ := hq
                obtain ⟨g62, rfl⟩ : ∃ g, S1 = sv_sts (sv_sts (sv_sts S [68, 69, 70, 81, 82, 83, 84, 85, 86, 71, 74, 75, 1127, 78, 79, 80, 72, 76, 77, 1143, 1144, 5, 1011, 1150, 1149, 1145, 1113, 1111, 1112, 91, 1147, 1100031] g22) [68, 69, 70, 81, 82, 83, 84, 85, 86, 71, 74, 75, 1127, 78, 79, 80, 72, 76, 77, 1143, 1144, 5, 1011, 1150, 1149, 1145, 1113, 1111, 1112, 91, 1147, 1100031] g27) [68, 69, 70, 81, 82, 83, 84, 85, 86, 71, 74, 75, 1127, 78, 79, 80, 72, 76, 77, 1143, 1144, 5, 1011, 1150, 1149, 1145, 1113, 1111, 1112, 91, 1147, 1100031] g := ⟨_, md64.eq⟩
                show sv_T sm_XS sm_cs sm_L sm_sh 10 (q_waysOfNew p1 p2 S) 282 240 [(0, .ref 0), (1, sv_I p1), (2, sv_I p2), (3, sv_I (S 74 (639 : Int))), (4, sv_I r9), (5, sv_L (S 69 r9)), (7, sv_L (S 70 r9)), (9, sv_I l9_15), (10, sv_I l10_16), (11, sv_I l11_28)] [] (sv_sts (sv_sts (sv_sts S [68, 69, 70, 81, 82, 83, 84, 85, 86, 71, 74, 75, 1127, 78, 79, 80, 72, 76, 77, 1143, 1144, 5, 1011, 1150, 1149, 1145, 1113, 1111, 1112, 91, 1147, 1100031] g22) [68, 69, 70, 81, 82, 83, 84, 85, 86, 71, 74, 75, 1127, 78, 79, 80, 72, 76, 77, 1143, 1144, 5, 1011, 1150, 1149, 1145, 1113, 1111, 1112, 91, 1147, 1100031] g27) [68, 69, 70, 81, 82, 83, 84, 85, 86, 71, 74, 75, 1127, 78, 79, 80, 72, 76, 77, 1143, 1144, 5, 1011, 1150, 1149, 1145, 1113, 1111, 1112, 91, 1147, 1100031] g62)
                have md66 : sv_mod [68, 69, 70, 81, 82, 83, 84, 85, 86, 71, 74, 75, 1127, 78, 79, 80, 72, 76, 77, 1143, 1144, 5, 1011, 1150, 1149, 1145, 1113, 1111, 1112, 91, 1147, 1100031] S (sv_sts (sv_sts (sv_sts S [68, 69, 70, 81, 82, 83, 84, 85, 86, 71, 74, 75, 1127, 78, 79, 80, 72, 76, 77, 1143, 1144, 5, 1011, 1150, 1149, 1145, 1113, 1111, 1112, 91, 1147, 1100031] g22) [68, 69, 70, 81, 82, 83, 84, 85, 86, 71, 74, 75, 1127, 78, 79, 80, 72, 76, 77, 1143, 1144, 5, 1011, 1150, 1149, 1145, 1113, 1111, 1112, 91, 1147, 1100031] g27) [68, 69, 70, 81, 82, 83, 84, 85, 86, 71, 74, 75, 1127, 78, 79, 80, 72, 76, 77, 1143, 1144, 5, 1011, 1150, 1149, 1145, 1113, 1111, 1112, 91, 1147, 1100031] g62) := sv_mod.sts md32 (by decide)
                have md67 : sv_mod [68, 69, 70, 81, 82, 83, 84, 85, 86, 71, 74, 75, 1127, 78, 79, 80, 72, 76, 77, 1143, 1144, 5, 1011, 1150, 1149, 1145, 1113, 1111, 1112, 91, 1147, 1100031] (sv_sts S [68, 69, 70, 81, 82, 83, 84, 85, 86, 71, 74, 75, 1127, 78, 79, 80, 72, 76, 77, 1143, 1144, 5, 1011, 1150, 1149, 1145, 1113, 1111, 1112, 91, 1147, 1100031] g22) (sv_sts (sv_sts (sv_sts S [68, 69, 70, 81, 82, 83, 84, 85, 86, 71, 74, 75, 1127, 78, 79, 80, 72, 76, 77, 1143, 1144, 5, 1011, 1150, 1149, 1145, 1113, 1111, 1112, 91, 1147, 1100031] g22) [68, 69, 70, 81, 82, 83, 84, 85, 86, 71, 74, 75, 1127, 78, 79, 80, 72, 76, 77, 1143, 1144, 5, 1011, 1150, 1149, 1145, 1113, 1111, 1112, 91, 1147, 1100031] g27) [68, 69, 70, 81, 82, 83, 84, 85, 86, 71, 74, 75, 1127, 78, 79, 80, 72, 76, 77, 1143, 1144, 5, 1011, 1150, 1149, 1145, 1113, 1111, 1112, 91, 1147, 1100031] g62) := sv_mod.sts md33 (by decide)
                have md68 : sv_mod [68, 69, 70, 81, 82, 83, 84, 85, 86, 71, 74, 75, 1127, 78, 79, 80, 72, 76, 77, 1143, 1144, 5, 1011, 1150, 1149, 1145, 1113, 1111, 1112, 91, 1147, 1100031] (sv_sts (sv_sts S [68, 69, 70, 81, 82, 83, 84, 85, 86, 71, 74, 75, 1127, 78, 79, 80, 72, 76, 77, 1143, 1144, 5, 1011, 1150, 1149, 1145, 1113, 1111, 1112, 91, 1147, 1100031] g22) [68, 69, 70, 81, 82, 83, 84, 85, 86, 71, 74, 75, 1127, 78, 79, 80, 72, 76, 77, 1143, 1144, 5, 1011, 1150, 1149, 1145, 1113, 1111, 1112, 91, 1147, 1100031] g27) (sv_sts (sv_sts (sv_sts S [68, 69, 70, 81, 82, 83, 84, 85, 86, 71, 74, 75, 1127, 78, 79, 80, 72, 76, 77, 1143, 1144, 5, 1011, 1150, 1149, 1145, 1113, 1111, 1112, 91, 1147, 1100031] g22) [68, 69, 70, 81, 82, 83, 84, 85, 86, 71, 74, 75, 1127, 78, 79, 80, 72, 76, 77, 1143, 1144, 5, 1011, 1150, 1149, 1145, 1113, 1111, 1112, 91, 1147, 1100031] g27) [68, 69, 70, 81, 82, 83, 84, 85, 86, 71, 74, 75, 1127, 78, 79, 80, 72, 76, 77, 1143, 1144, 5, 1011, 1150, 1149, 1145, 1113, 1111, 1112, 91, 1147, 1100031] g62) := sv_mod.sts (sv_mod.rf (l := [68, 69, 70, 81, 82, 83, 84, 85, 86, 71, 74, 75, 1127, 78, 79, 80, 72, 76, 77, 1143, 1144, 5, 1011, 1150, 1149, 1145, 1113, 1111, 1112, 91, 1147, 1100031]) (S := (sv_sts (sv_sts S [68, 69, 70, 81, 82, 83, 84, 85, 86, 71, 74, 75, 1127, 78, 79, 80, 72, 76, 77, 1143, 1144, 5, 1011, 1150, 1149, 1145, 1113, 1111, 1112, 91, 1147, 1100031] g22) [68, 69, 70, 81, 82, 83, 84, 85, 86, 71, 74, 75, 1127, 78, 79, 80, 72, 76, 77, 1143, 1144, 5, 1011, 1150, 1149, 1145, 1113, 1111, 1112, 91, 1147, 1100031] g27))) (by decide)
                have h := h g62 hpo65
                refine sv_aload_n hM dX12_waysOfNew_240 rfl rfl ?_
                refine sv_bipush (d := (8 : Int)) hM dX12_waysOfNew_241 rfl rfl ?_
                obtain ⟨o69, h⟩ := h
                refine sv_callV hM dX12_waysOfNew_243 sm_iv_1214 (by decide) (sm_a0 _) rfl rfl (Nat.le_of_ble_eq_true rfl) sm_h262 (Nat.le_of_ble_eq_true rfl) (Nat.le_of_ble_eq_true rfl) (F' := 7) (Nat.le_of_ble_eq_true rfl) rfl (t_errorNow (8 : Int) (sv_sts (sv_sts (sv_sts S [68, 69, 70, 81, 82, 83, 84, 85, 86, 71, 74, 75, 1127, 78, 79, 80, 72, 76, 77, 1143, 1144, 5, 1011, 1150, 1149, 1145, 1113, 1111, 1112, 91, 1147, 1100031] g22) [68, 69, 70, 81, 82, 83, 84, 85, 86, 71, 74, 75, 1127, 78, 79, 80, 72, 76, 77, 1143, 1144, 5, 1011, 1150, 1149, 1145, 1113, 1111, 1112, 91, 1147, 1100031] g27) [68, 69, 70, 81, 82, 83, 84, 85, 86, 71, 74, 75, 1127, 78, 79, 80, 72, 76, 77, 1143, 1144, 5, 1011, 1150, 1149, 1145, 1113, 1111, 1112, 91, 1147, 1100031] g62) ok63 (⟨by decide, by decide⟩ : sv_R (8 : Int)) o69) (fun v S1 hq => ?_)
                obtain ⟨rfl, ok71, md72, hpo73⟩ := hq
                obtain ⟨g70, rfl⟩ : ∃ g, S1 = sv_sts (sv_sts (sv_sts (sv_sts S [68, 69, 70, 81, 82, 83, 84, 85, 86, 71, 74, 75, 1127, 78, 79, 80, 72, 76, 77, 1143, 1144, 5, 1011, 1150, 1149, 1145, 1113, 1111, 1112, 91, 1147, 1100031] g22) [68, 69, 70, 81, 82, 83, 84, 85, 86, 71, 74, 75, 1127, 78, 79, 80, 72, 76, 77, 1143, 1144, 5, 1011, 1150, 1149, 1145, 1113, 1111, 1112, 91, 1147, 1100031] g27) [68, 69, 70, 81, 82, 83, 84, 85, 86, 71, 74, 75, 1127, 78, 79, 80, 72, 76, 77, 1143, 1144, 5, 1011, 1150, 1149, 1145, 1113, 1111, 1112, 91, 1147, 1100031] g62) [68, 69, 70, 81, 82, 83, 84, 85, 86, 71, 74, 75, 1127, 78, 79, 80, 72, 76, 77, 1143, 1144, 5, 1011, 1150, 1149, 1145, 1113, 1111, 1112, 1100031] g := ⟨_, md72.eq⟩
                show sv_T sm_XS sm_cs sm_L sm_sh 10 (q_waysOfNew p1 p2 S) 282 246 [(0, .ref 0), (1, sv_I p1), (2, sv_I p2), (3, sv_I (S 74 (639 : Int))), (4, sv_I r9), (5, sv_L (S 69 r9)), (7, sv_L (S 70 r9)), (9, sv_I l9_15), (10, sv_I l10_16), (11, sv_I l11_28)] [] (sv_sts (sv_sts (sv_sts (sv_sts S [68, 69, 70, 81, 82, 83, 84, 85, 86, 71, 74, 75, 1127, 78, 79, 80, 72, 76, 77, 1143, 1144, 5, 1011, 1150, 1149, 1145, 1113, 1111, 1112, 91, 1147, 1100031] g22) [68, 69, 70, 81, 82, 83, 84, 85, 86, 71, 74, 75, 1127, 78, 79, 80, 72, 76, 77, 1143, 1144, 5, 1011, 1150, 1149, 1145, 1113, 1111, 1112, 91, 1147, 1100031] g27) [68, 69, 70, 81, 82, 83, 84, 85, 86, 71, 74, 75, 1127, 78, 79, 80, 72, 76, 77, 1143, 1144, 5, 1011, 1150, 1149, 1145, 1113, 1111, 1112, 91, 1147, 1100031] g62) [68, 69, 70, 81, 82, 83, 84, 85, 86, 71, 74, 75, 1127, 78, 79, 80, 72, 76, 77, 1143, 1144, 5, 1011, 1150, 1149, 1145, 1113, 1111, 1112, 1100031] g70)
                have md74 : sv_mod [68, 69, 70, 81, 82, 83, 84, 85, 86, 71, 74, 75, 1127, 78, 79, 80, 72, 76, 77, 1143, 1144, 5, 1011, 1150, 1149, 1145, 1113, 1111, 1112, 91, 1147, 1100031] S (sv_sts (sv_sts (sv_sts (sv_sts S [68, 69, 70, 81, 82, 83, 84, 85, 86, 71, 74, 75, 1127, 78, 79, 80, 72, 76, 77, 1143, 1144, 5, 1011, 1150, 1149, 1145, 1113, 1111, 1112, 91, 1147, 1100031] g22) [68, 69, 70, 81, 82, 83, 84, 85, 86, 71, 74, 75, 1127, 78, 79, 80, 72, 76, 77, 1143, 1144, 5, 1011, 1150, 1149, 1145, 1113, 1111, 1112, 91, 1147, 1100031] g27) [68, 69, 70, 81, 82, 83, 84, 85, 86, 71, 74, 75, 1127, 78, 79, 80, 72, 76, 77, 1143, 1144, 5, 1011, 1150, 1149, 1145, 1113, 1111, 1112, 91, 1147, 1100031] g62) [68, 69, 70, 81, 82, 83, 84, 85, 86, 71, 74, 75, 1127, 78, 79, 80, 72, 76, 77, 1143, 1144, 5, 1011, 1150, 1149, 1145, 1113, 1111, 1112, 1100031] g70) := sv_mod.sts md66 (by decide)
                have md75 : sv_mod [68, 69, 70, 81, 82, 83, 84, 85, 86, 71, 74, 75, 1127, 78, 79, 80, 72, 76, 77, 1143, 1144, 5, 1011, 1150, 1149, 1145, 1113, 1111, 1112, 91, 1147, 1100031] (sv_sts S [68, 69, 70, 81, 82, 83, 84, 85, 86, 71, 74, 75, 1127, 78, 79, 80, 72, 76, 77, 1143, 1144, 5, 1011, 1150, 1149, 1145, 1113, 1111, 1112, 91, 1147, 1100031] g22) (sv_sts (sv_sts (sv_sts (sv_sts S [68, 69, 70, 81, 82, 83, 84, 85, 86, 71, 74, 75, 1127, 78, 79, 80, 72, 76, 77, 1143, 1144, 5, 1011, 1150, 1149, 1145, 1113, 1111, 1112, 91, 1147, 1100031] g22) [68, 69, 70, 81, 82, 83, 84, 85, 86, 71, 74, 75, 1127, 78, 79, 80, 72, 76, 77, 1143, 1144, 5, 1011, 1150, 1149, 1145, 1113, 1111, 1112, 91, 1147, 1100031] g27) [68, 69, 70, 81, 82, 83, 84, 85, 86, 71, 74, 75, 1127, 78, 79, 80, 72, 76, 77, 1143, 1144, 5, 1011, 1150, 1149, 1145, 1113, 1111, 1112, 91, 1147, 1100031] g62) [68, 69, 70, 81, 82, 83, 84, 85, 86, 71, 74, 75, 1127, 78, 79, 80, 72, 76, 77, 1143, 1144, 5, 1011, 1150, 1149, 1145, 1113, 1111, 1112, 1100031] g70) := sv_mod.sts md67 (by decide)
                have md76 : sv_mod [68, 69, 70, 81, 82, 83, 84, 85, 86, 71, 74, 75, 1127, 78, 79, 80, 72, 76, 77, 1143, 1144, 5, 1011, 1150, 1149, 1145, 1113, 1111, 1112, 91, 1147, 1100031] (sv_sts (sv_sts S [68, 69, 70, 81, 82, 83, 84, 85, 86, 71, 74, 75, 1127, 78, 79, 80, 72, 76, 77, 1143, 1144, 5, 1011, 1150, 1149, 1145, 1113, 1111, 1112, 91, 1147, 1100031] g22) [68, 69, 70, 81, 82, 83, 84, 85, 86, 71, 74, 75, 1127, 78, 79, 80, 72, 76, 77, 1143, 1144, 5, 1011, 1150, 1149, 1145, 1113, 1111, 1112, 91, 1147, 1100031] g27) (sv_sts (sv_sts (sv_sts (sv_sts S [68, 69, 70, 81, 82, 83, 84, 85, 86, 71, 74, 75, 1127, 78, 79, 80, 72, 76, 77, 1143, 1144, 5, 1011, 1150, 1149, 1145, 1113, 1111, 1112, 91, 1147, 1100031] g22) [68, 69, 70, 81, 82, 83, 84, 85, 86, 71, 74, 75, 1127, 78, 79, 80, 72, 76, 77, 1143, 1144, 5, 1011, 1150, 1149, 1145, 1113, 1111, 1112, 91, 1147, 1100031] g27) [68, 69, 70, 81, 82, 83, 84, 85, 86, 71, 74, 75, 1127, 78, 79, 80, 72, 76, 77, 1143, 1144, 5, 1011, 1150, 1149, 1145, 1113, 1111, 1112, 91, 1147, 1100031] g62) [68, 69, 70, 81, 82, 83, 84, 85, 86, 71, 74, 75, 1127, 78, 79, 80, 72, 76, 77, 1143, 1144, 5, 1011, 1150, 1149, 1145, 1113, 1111, 1112, 1100031] g70) := sv_mod.sts md68 (by decide)
                have h := h g70 hpo73
                have eS := sv_mod.eq md76
                have hb := J60 (sv_sts (sv_sts (sv_sts (sv_sts S [68, 69, 70, 81, 82, 83, 84, 85, 86, 71, 74, 75, 1127, 78, 79, 80, 72, 76, 77, 1143, 1144, 5, 1011, 1150, 1149, 1145, 1113, 1111, 1112, 91, 1147, 1100031] g22) [68, 69, 70, 81, 82, 83, 84, 85, 86, 71, 74, 75, 1127, 78, 79, 80, 72, 76, 77, 1143, 1144, 5, 1011, 1150, 1149, 1145, 1113, 1111, 1112, 91, 1147, 1100031] g27) [68, 69, 70, 81, 82, 83, 84, 85, 86, 71, 74, 75, 1127, 78, 79, 80, 72, 76, 77, 1143, 1144, 5, 1011, 1150, 1149, 1145, 1113, 1111, 1112, 91, 1147, 1100031] g62) [68, 69, 70, 81, 82, 83, 84, 85, 86, 71, 74, 75, 1127, 78, 79, 80, 72, 76, 77, 1143, 1144, 5, 1011, 1150, 1149, 1145, 1113, 1111, 1112, 1100031] g70) (by rw [← eS]; exact ok71) h
                have hb : sv_T sm_XS sm_cs sm_L sm_sh 10 (q_waysOfNew p1 p2 S) 282 246 [(0, .ref 0), (1, sv_I p1), (2, sv_I p2), (3, sv_I (S 74 (639 : Int))), (4, sv_I r9), (5, sv_L (S 69 r9)), (7, sv_L (S 70 r9)), (9, sv_I l9_15), (10, sv_I l10_16), (11, sv_I l11_28)] [] (sv_sts (sv_sts (sv_sts (sv_sts S [68, 69, 70, 81, 82, 83, 84, 85, 86, 71, 74, 75, 1127, 78, 79, 80, 72, 76, 77, 1143, 1144, 5, 1011, 1150, 1149, 1145, 1113, 1111, 1112, 91, 1147, 1100031] g22) [68, 69, 70, 81, 82, 83, 84, 85, 86, 71, 74, 75, 1127, 78, 79, 80, 72, 76, 77, 1143, 1144, 5, 1011, 1150, 1149, 1145, 1113, 1111, 1112, 91, 1147, 1100031] g27) [68, 69, 70, 81, 82, 83, 84, 85, 86, 71, 74, 75, 1127, 78, 79, 80, 72, 76, 77, 1143, 1144, 5, 1011, 1150, 1149, 1145, 1113, 1111, 1112, 91, 1147, 1100031] g62) [68, 69, 70, 81, 82, 83, 84, 85, 86, 71, 74, 75, 1127, 78, 79, 80, 72, 76, 77, 1143, 1144, 5, 1011, 1150, 1149, 1145, 1113, 1111, 1112, 1100031] g70) := Eq.mpr (congrArg (fun Z => sv_T sm_XS sm_cs sm_L sm_sh 10 (q_waysOfNew p1 p2 S) 282 246 [(0, .ref 0), (1, sv_I p1), (2, sv_I p2), (3, sv_I (S 74 (639 : Int))), (4, sv_I r9), (5, sv_L (S 69 r9)), (7, sv_L (S 70 r9)), (9, sv_I l9_15), (10, sv_I l10_16), (11, sv_I l11_28)] [] Z) eS) hb
                exact sv_less (lv := [(0, .ref 0), (1, sv_I p1), (2, sv_I p2), (3, sv_I (S 74 (639 : Int))), (4, sv_I r9), (5, sv_L (S 69 r9)), (7, sv_L (S 70 r9)), (9, sv_I l9_15), (10, sv_I l10_16), (11, sv_I l11_28)]) (sv_Sub_cons rfl (sv_Sub_cons rfl (sv_Sub_cons rfl (sv_Sub_cons rfl (sv_Sub_cons rfl (sv_Sub_cons rfl (sv_Sub_cons rfl (sv_Sub_cons rfl (sv_Sub_cons rfl (sv_Sub_cons rfl sv_Sub_nil)))))))))) hb
            · have h := h.2 (hc)
              refine sv_iload hM dX12_waysOfNew_187 rfl rfl ?_
              refine sv_bipush (d := (13 : Int)) hM dX12_waysOfNew_189 rfl rfl ?_
              refine sv_icmp_eq hM dX12_waysOfNew_191 hl11_28 (⟨by decide, by decide⟩ : sv_R (13 : Int)) (t := 220) rfl rfl (fun hc => ?_) (fun hc => ?_)
              · have h := h.1 (hc)
                refine sv_iinc (d := (1 : Int)) hM dX12_waysOfNew_220 rfl (by decide) rfl rfl ?_
                show sv_T sm_XS sm_cs sm_L sm_sh 10 (q_waysOfNew p1 p2 S) 282 223 [(0, .ref 0), (1, sv_I p1), (2, sv_I p2), (3, sv_I (S 74 (639 : Int))), (4, sv_I r9), (5, sv_L (S 69 r9)), (7, sv_L (S 70 r9)), (9, sv_I l9_15), (10, sv_I l10_16), (11, sv_I (l11_28 + (1 : Int)))] [] (sv_sts (sv_sts S [68, 69, 70, 81, 82, 83, 84, 85, 86, 71, 74, 75, 1127, 78, 79, 80, 72, 76, 77, 1143, 1144, 5, 1011, 1150, 1149, 1145, 1113, 1111, 1112, 91, 1147, 1100031] g22) [68, 69, 70, 81, 82, 83, 84, 85, 86, 71, 74, 75, 1127, 78, 79, 80, 72, 76, 77, 1143, 1144, 5, 1011, 1150, 1149, 1145, 1113, 1111, 1112, 91, 1147, 1100031] g27)
                refine sv_goto hM dX12_waysOfNew_223 (pc' := 180) rfl ?_
                obtain ⟨o77, h⟩ := h
                have eS := sv_mod.eq md33
                have hb := ih29 ((l11_28 + (1 : Int)), (sv_sts (sv_sts S [68, 69, 70, 81, 82, 83, 84, 85, 86, 71, 74, 75, 1127, 78, 79, 80, 72, 76, 77, 1143, 1144, 5, 1011, 1150, 1149, 1145, 1113, 1111, 1112, 91, 1147, 1100031] g22) [68, 69, 70, 81, 82, 83, 84, 85, 86, 71, 74, 75, 1127, 78, 79, 80, 72, 76, 77, 1143, 1144, 5, 1011, 1150, 1149, 1145, 1113, 1111, 1112, 91, 1147, 1100031] g27)) ⟨o77, (by rw [← eS]; exact ok31), h.1⟩ h.2
                have hb : sv_T sm_XS sm_cs sm_L sm_sh 10 (q_waysOfNew p1 p2 S) 282 180 [(0, .ref 0), (1, sv_I p1), (2, sv_I p2), (3, sv_I (S 74 (639 : Int))), (4, sv_I r9), (5, sv_L (S 69 r9)), (7, sv_L (S 70 r9)), (9, sv_I l9_15), (10, sv_I l10_16), (11, sv_I (l11_28 + (1 : Int)))] [] (sv_sts (sv_sts S [68, 69, 70, 81, 82, 83, 84, 85, 86, 71, 74, 75, 1127, 78, 79, 80, 72, 76, 77, 1143, 1144, 5, 1011, 1150, 1149, 1145, 1113, 1111, 1112, 91, 1147, 1100031] g22) [68, 69, 70, 81, 82, 83, 84, 85, 86, 71, 74, 75, 1127, 78, 79, 80, 72, 76, 77, 1143, 1144, 5, 1011, 1150, 1149, 1145, 1113, 1111, 1112, 91, 1147, 1100031] g27) := Eq.mpr (congrArg (fun Z => sv_T sm_XS sm_cs sm_L sm_sh 10 (q_waysOfNew p1 p2 S) 282 180 [(0, .ref 0), (1, sv_I p1), (2, sv_I p2), (3, sv_I (S 74 (639 : Int))), (4, sv_I r9), (5, sv_L (S 69 r9)), (7, sv_L (S 70 r9)), (9, sv_I l9_15), (10, sv_I l10_16), (11, sv_I (l11_28 + (1 : Int)))] [] Z) eS) hb
                exact sv_less (lv := [(0, .ref 0), (1, sv_I p1), (2, sv_I p2), (3, sv_I (S 74 (639 : Int))), (4, sv_I r9), (5, sv_L (S 69 r9)), (7, sv_L (S 70 r9)), (9, sv_I l9_15), (10, sv_I l10_16), (11, sv_I (l11_28 + (1 : Int)))]) (sv_Sub_cons rfl (sv_Sub_cons rfl (sv_Sub_cons rfl (sv_Sub_cons rfl (sv_Sub_cons rfl (sv_Sub_cons rfl (sv_Sub_cons rfl (sv_Sub_cons rfl (sv_Sub_cons rfl (sv_Sub_cons rfl sv_Sub_nil)))))))))) hb
              · have h := h.2 (hc)
                refine sv_lload hM dX12_waysOfNew_194 rfl rfl ?_
                refine sv_lload hM dX12_waysOfNew_196 rfl rfl ?_
                refine sv_iload hM dX12_waysOfNew_198 rfl rfl ?_
                obtain ⟨o78, h⟩ := h
                refine sv_callS hM dX12_waysOfNew_200 sm_iv_1125 (Nat.le_of_ble_eq_true rfl) rfl rfl (Nat.le_of_ble_eq_true rfl) sm_h217 (Nat.le_of_ble_eq_true rfl) (Nat.le_of_ble_eq_true rfl) (F' := 0) (Nat.le_of_ble_eq_true rfl) rfl (t_isIn (S 69 r9) (S 70 r9) l11_28 (sv_sts (sv_sts S [68, 69, 70, 81, 82, 83, 84, 85, 86, 71, 74, 75, 1127, 78, 79, 80, 72, 76, 77, 1143, 1144, 5, 1011, 1150, 1149, 1145, 1113, 1111, 1112, 91, 1147, 1100031] g22) [68, 69, 70, 81, 82, 83, 84, 85, 86, 71, 74, 75, 1127, 78, 79, 80, 72, 76, 77, 1143, 1144, 5, 1011, 1150, 1149, 1145, 1113, 1111, 1112, 91, 1147, 1100031] g27) ok31 k11 k12 hl11_28 o78) (fun v S1 hq => ?_)
                obtain ⟨r83, rfl, hr83, ok80, md81, hpo82⟩ := hq
                obtain rfl : (sv_sts (sv_sts S [68, 69, 70, 81, 82, 83, 84, 85, 86, 71, 74, 75, 1127, 78, 79, 80, 72, 76, 77, 1143, 1144, 5, 1011, 1150, 1149, 1145, 1113, 1111, 1112, 91, 1147, 1100031] g22) [68, 69, 70, 81, 82, 83, 84, 85, 86, 71, 74, 75, 1127, 78, 79, 80, 72, 76, 77, 1143, 1144, 5, 1011, 1150, 1149, 1145, 1113, 1111, 1112, 91, 1147, 1100031] g27) = S1 := (funext fun j => md81 j (by intro q; cases q)).symm
                show sv_T sm_XS sm_cs sm_L sm_sh 10 (q_waysOfNew p1 p2 S) 282 203 [(0, .ref 0), (1, sv_I p1), (2, sv_I p2), (3, sv_I (S 74 (639 : Int))), (4, sv_I r9), (5, sv_L (S 69 r9)), (7, sv_L (S 70 r9)), (9, sv_I l9_15), (10, sv_I l10_16), (11, sv_I l11_28)] [sv_I r83] (sv_sts (sv_sts S [68, 69, 70, 81, 82, 83, 84, 85, 86, 71, 74, 75, 1127, 78, 79, 80, 72, 76, 77, 1143, 1144, 5, 1011, 1150, 1149, 1145, 1113, 1111, 1112, 91, 1147, 1100031] g22) [68, 69, 70, 81, 82, 83, 84, 85, 86, 71, 74, 75, 1127, 78, 79, 80, 72, 76, 77, 1143, 1144, 5, 1011, 1150, 1149, 1145, 1113, 1111, 1112, 91, 1147, 1100031] g27)
                have h := h r83 hr83 hpo82
                refine sv_cond_eq hM dX12_waysOfNew_203 hr83 (t := 220) rfl rfl (fun hc => ?_) (fun hc => ?_)
                · have h := h.1 (hc)
                  refine sv_iinc (d := (1 : Int)) hM dX12_waysOfNew_220 rfl (by decide) rfl rfl ?_
                  show sv_T sm_XS sm_cs sm_L sm_sh 10 (q_waysOfNew p1 p2 S) 282 223 [(0, .ref 0), (1, sv_I p1), (2, sv_I p2), (3, sv_I (S 74 (639 : Int))), (4, sv_I r9), (5, sv_L (S 69 r9)), (7, sv_L (S 70 r9)), (9, sv_I l9_15), (10, sv_I l10_16), (11, sv_I (l11_28 + (1 : Int)))] [] (sv_sts (sv_sts S [68, 69, 70, 81, 82, 83, 84, 85, 86, 71, 74, 75, 1127, 78, 79, 80, 72, 76, 77, 1143, 1144, 5, 1011, 1150, 1149, 1145, 1113, 1111, 1112, 91, 1147, 1100031] g22) [68, 69, 70, 81, 82, 83, 84, 85, 86, 71, 74, 75, 1127, 78, 79, 80, 72, 76, 77, 1143, 1144, 5, 1011, 1150, 1149, 1145, 1113, 1111, 1112, 91, 1147, 1100031] g27)
                  refine sv_goto hM dX12_waysOfNew_223 (pc' := 180) rfl ?_
                  obtain ⟨o84, h⟩ := h
                  have eS := sv_mod.eq md33
                  have hb := ih29 ((l11_28 + (1 : Int)), (sv_sts (sv_sts S [68, 69, 70, 81, 82, 83, 84, 85, 86, 71, 74, 75, 1127, 78, 79, 80, 72, 76, 77, 1143, 1144, 5, 1011, 1150, 1149, 1145, 1113, 1111, 1112, 91, 1147, 1100031] g22) [68, 69, 70, 81, 82, 83, 84, 85, 86, 71, 74, 75, 1127, 78, 79, 80, 72, 76, 77, 1143, 1144, 5, 1011, 1150, 1149, 1145, 1113, 1111, 1112, 91, 1147, 1100031] g27)) ⟨o84, (by rw [← eS]; exact ok80), h.1⟩ h.2
                  have hb : sv_T sm_XS sm_cs sm_L sm_sh 10 (q_waysOfNew p1 p2 S) 282 180 [(0, .ref 0), (1, sv_I p1), (2, sv_I p2), (3, sv_I (S 74 (639 : Int))), (4, sv_I r9), (5, sv_L (S 69 r9)), (7, sv_L (S 70 r9)), (9, sv_I l9_15), (10, sv_I l10_16), (11, sv_I (l11_28 + (1 : Int)))] [] (sv_sts (sv_sts S [68, 69, 70, 81, 82, 83, 84, 85, 86, 71, 74, 75, 1127, 78, 79, 80, 72, 76, 77, 1143, 1144, 5, 1011, 1150, 1149, 1145, 1113, 1111, 1112, 91, 1147, 1100031] g22) [68, 69, 70, 81, 82, 83, 84, 85, 86, 71, 74, 75, 1127, 78, 79, 80, 72, 76, 77, 1143, 1144, 5, 1011, 1150, 1149, 1145, 1113, 1111, 1112, 91, 1147, 1100031] g27) := Eq.mpr (congrArg (fun Z => sv_T sm_XS sm_cs sm_L sm_sh 10 (q_waysOfNew p1 p2 S) 282 180 [(0, .ref 0), (1, sv_I p1), (2, sv_I p2), (3, sv_I (S 74 (639 : Int))), (4, sv_I r9), (5, sv_L (S 69 r9)), (7, sv_L (S 70 r9)), (9, sv_I l9_15), (10, sv_I l10_16), (11, sv_I (l11_28 + (1 : Int)))] [] Z) eS) hb
                  exact sv_less (lv := [(0, .ref 0), (1, sv_I p1), (2, sv_I p2), (3, sv_I (S 74 (639 : Int))), (4, sv_I r9), (5, sv_L (S 69 r9)), (7, sv_L (S 70 r9)), (9, sv_I l9_15), (10, sv_I l10_16), (11, sv_I (l11_28 + (1 : Int)))]) (sv_Sub_cons rfl (sv_Sub_cons rfl (sv_Sub_cons rfl (sv_Sub_cons rfl (sv_Sub_cons rfl (sv_Sub_cons rfl (sv_Sub_cons rfl (sv_Sub_cons rfl (sv_Sub_cons rfl (sv_Sub_cons rfl sv_Sub_nil)))))))))) hb
                · have h := h.2 (hc)
                  refine sv_aload_n hM dX12_waysOfNew_206 rfl rfl ?_
                  refine sv_iload hM dX12_waysOfNew_207 rfl rfl ?_
                  refine sv_iconst (d := (-1 : Int)) hM dX12_waysOfNew_209 rfl rfl ?_
                  refine sv_iload_n hM dX12_waysOfNew_210 rfl rfl ?_
                  refine sv_iload_n hM dX12_waysOfNew_211 rfl rfl ?_
                  refine sv_isub hM dX12_waysOfNew_212 rfl ?_
                  refine sv_iload_n hM dX12_waysOfNew_213 rfl rfl ?_
                  refine sv_iload_n hM dX12_waysOfNew_214 rfl rfl ?_
                  refine sv_iconst (d := (1 : Int)) hM dX12_waysOfNew_215 rfl rfl ?_
                  refine sv_iadd hM dX12_waysOfNew_216 rfl ?_
                  obtain ⟨o85, h⟩ := h
                  obtain ⟨o86, h⟩ := h
                  obtain ⟨o87, h⟩ := h
                  refine sv_callV hM dX12_waysOfNew_217 sm_iv_1329 (by decide) (sm_a0 _) rfl rfl (Nat.le_of_ble_eq_true rfl) sm_h287 (Nat.le_of_ble_eq_true rfl) (Nat.le_of_ble_eq_true rfl) (F' := 9) (Nat.le_of_ble_eq_true rfl) rfl (t_nativeWays l11_28 (-1 : Int) ((S 74 (639 : Int)) - p1) p1 (p1 + (1 : Int)) (sv_sts (sv_sts S [68, 69, 70, 81, 82, 83, 84, 85, 86, 71, 74, 75, 1127, 78, 79, 80, 72, 76, 77, 1143, 1144, 5, 1011, 1150, 1149, 1145, 1113, 1111, 1112, 91, 1147, 1100031] g22) [68, 69, 70, 81, 82, 83, 84, 85, 86, 71, 74, 75, 1127, 78, 79, 80, 72, 76, 77, 1143, 1144, 5, 1011, 1150, 1149, 1145, 1113, 1111, 1112, 91, 1147, 1100031] g27) ok80 hl11_28 (⟨by decide, by decide⟩ : sv_R (-1 : Int)) o85 hp1 o86 o87) (fun v S1 hq => ?_)
                  obtain ⟨rfl, ok89, md90, hpo91⟩ := hq
                  obtain ⟨g88, rfl⟩ : ∃ g, S1 = sv_sts (sv_sts (sv_sts S [68, 69, 70, 81, 82, 83, 84, 85, 86, 71, 74, 75, 1127, 78, 79, 80, 72, 76, 77, 1143, 1144, 5, 1011, 1150, 1149, 1145, 1113, 1111, 1112, 91, 1147, 1100031] g22) [68, 69, 70, 81, 82, 83, 84, 85, 86, 71, 74, 75, 1127, 78, 79, 80, 72, 76, 77, 1143, 1144, 5, 1011, 1150, 1149, 1145, 1113, 1111, 1112, 91, 1147, 1100031] g27) [68, 69, 70, 81, 82, 83, 84, 85, 86, 71, 74, 75, 1127, 78, 79, 80, 72, 76, 77, 1143, 1144, 5, 1011, 1150, 1149, 1145, 1113, 1111, 1112, 1100031] g := ⟨_, md90.eq⟩
                  show sv_T sm_XS sm_cs sm_L sm_sh 10 (q_waysOfNew p1 p2 S) 282 220 [(0, .ref 0), (1, sv_I p1), (2, sv_I p2), (3, sv_I (S 74 (639 : Int))), (4, sv_I r9), (5, sv_L (S 69 r9)), (7, sv_L (S 70 r9)), (9, sv_I l9_15), (10, sv_I l10_16), (11, sv_I l11_28)] [] (sv_sts (sv_sts (sv_sts S [68, 69, 70, 81, 82, 83, 84, 85, 86, 71, 74, 75, 1127, 78, 79, 80, 72, 76, 77, 1143, 1144, 5, 1011, 1150, 1149, 1145, 1113, 1111, 1112, 91, 1147, 1100031] g22) [68, 69, 70, 81, 82, 83, 84, 85, 86, 71, 74, 75, 1127, 78, 79, 80, 72, 76, 77, 1143, 1144, 5, 1011, 1150, 1149, 1145, 1113, 1111, 1112, 91, 1147, 1100031] g27) [68, 69, 70, 81, 82, 83, 84, 85, 86, 71, 74, 75, 1127, 78, 79, 80, 72, 76, 77, 1143, 1144, 5, 1011, 1150, 1149, 1145, 1113, 1111, 1112, 1100031] g88)
                  have md92 : sv_mod [68, 69, 70, 81, 82, 83, 84, 85, 86, 71, 74, 75, 1127, 78, 79, 80, 72, 76, 77, 1143, 1144, 5, 1011, 1150, 1149, 1145, 1113, 1111, 1112, 91, 1147, 1100031] S (sv_sts (sv_sts (sv_sts S [68, 69, 70, 81, 82, 83, 84, 85, 86, 71, 74, 75, 1127, 78, 79, 80, 72, 76, 77, 1143, 1144, 5, 1011, 1150, 1149, 1145, 1113, 1111, 1112, 91, 1147, 1100031] g22) [68, 69, 70, 81, 82, 83, 84, 85, 86, 71, 74, 75, 1127, 78, 79, 80, 72, 76, 77, 1143, 1144, 5, 1011, 1150, 1149, 1145, 1113, 1111, 1112, 91, 1147, 1100031] g27) [68, 69, 70, 81, 82, 83, 84, 85, 86, 71, 74, 75, 1127, 78, 79, 80, 72, 76, 77, 1143, 1144, 5, 1011, 1150, 1149, 1145, 1113, 1111, 1112, 1100031] g88) := sv_mod.sts md32 (by decide)
                  have md93 : sv_mod [68, 69, 70, 81, 82, 83, 84, 85, 86, 71, 74, 75, 1127, 78, 79, 80, 72, 76, 77, 1143, 1144, 5, 1011, 1150, 1149, 1145, 1113, 1111, 1112, 91, 1147, 1100031] (sv_sts S [68, 69, 70, 81, 82, 83, 84, 85, 86, 71, 74, 75, 1127, 78, 79, 80, 72, 76, 77, 1143, 1144, 5, 1011, 1150, 1149, 1145, 1113, 1111, 1112, 91, 1147, 1100031] g22) (sv_sts (sv_sts (sv_sts S [68, 69, 70, 81, 82, 83, 84, 85, 86, 71, 74, 75, 1127, 78, 79, 80, 72, 76, 77, 1143, 1144, 5, 1011, 1150, 1149, 1145, 1113, 1111, 1112, 91, 1147, 1100031] g22) [68, 69, 70, 81, 82, 83, 84, 85, 86, 71, 74, 75, 1127, 78, 79, 80, 72, 76, 77, 1143, 1144, 5, 1011, 1150, 1149, 1145, 1113, 1111, 1112, 91, 1147, 1100031] g27) [68, 69, 70, 81, 82, 83, 84, 85, 86, 71, 74, 75, 1127, 78, 79, 80, 72, 76, 77, 1143, 1144, 5, 1011, 1150, 1149, 1145, 1113, 1111, 1112, 1100031] g88) := sv_mod.sts md33 (by decide)
                  have h := h g88 hpo91
                  refine sv_iinc (d := (1 : Int)) hM dX12_waysOfNew_220 rfl (by decide) rfl rfl ?_
                  show sv_T sm_XS sm_cs sm_L sm_sh 10 (q_waysOfNew p1 p2 S) 282 223 [(0, .ref 0), (1, sv_I p1), (2, sv_I p2), (3, sv_I (S 74 (639 : Int))), (4, sv_I r9), (5, sv_L (S 69 r9)), (7, sv_L (S 70 r9)), (9, sv_I l9_15), (10, sv_I l10_16), (11, sv_I (l11_28 + (1 : Int)))] [] (sv_sts (sv_sts (sv_sts S [68, 69, 70, 81, 82, 83, 84, 85, 86, 71, 74, 75, 1127, 78, 79, 80, 72, 76, 77, 1143, 1144, 5, 1011, 1150, 1149, 1145, 1113, 1111, 1112, 91, 1147, 1100031] g22) [68, 69, 70, 81, 82, 83, 84, 85, 86, 71, 74, 75, 1127, 78, 79, 80, 72, 76, 77, 1143, 1144, 5, 1011, 1150, 1149, 1145, 1113, 1111, 1112, 91, 1147, 1100031] g27) [68, 69, 70, 81, 82, 83, 84, 85, 86, 71, 74, 75, 1127, 78, 79, 80, 72, 76, 77, 1143, 1144, 5, 1011, 1150, 1149, 1145, 1113, 1111, 1112, 1100031] g88)
                  refine sv_goto hM dX12_waysOfNew_223 (pc' := 180) rfl ?_
                  obtain ⟨o94, h⟩ := h
                  have eS := sv_mod.eq md93
                  have hb := ih29 ((l11_28 + (1 : Int)), (sv_sts (sv_sts (sv_sts S [68, 69, 70, 81, 82, 83, 84, 85, 86, 71, 74, 75, 1127, 78, 79, 80, 72, 76, 77, 1143, 1144, 5, 1011, 1150, 1149, 1145, 1113, 1111, 1112, 91, 1147, 1100031] g22) [68, 69, 70, 81, 82, 83, 84, 85, 86, 71, 74, 75, 1127, 78, 79, 80, 72, 76, 77, 1143, 1144, 5, 1011, 1150, 1149, 1145, 1113, 1111, 1112, 91, 1147, 1100031] g27) [68, 69, 70, 81, 82, 83, 84, 85, 86, 71, 74, 75, 1127, 78, 79, 80, 72, 76, 77, 1143, 1144, 5, 1011, 1150, 1149, 1145, 1113, 1111, 1112, 1100031] g88)) ⟨o94, (by rw [← eS]; exact ok89), h.1⟩ h.2
                  have hb : sv_T sm_XS sm_cs sm_L sm_sh 10 (q_waysOfNew p1 p2 S) 282 180 [(0, .ref 0), (1, sv_I p1), (2, sv_I p2), (3, sv_I (S 74 (639 : Int))), (4, sv_I r9), (5, sv_L (S 69 r9)), (7, sv_L (S 70 r9)), (9, sv_I l9_15), (10, sv_I l10_16), (11, sv_I (l11_28 + (1 : Int)))] [] (sv_sts (sv_sts (sv_sts S [68, 69, 70, 81, 82, 83, 84, 85, 86, 71, 74, 75, 1127, 78, 79, 80, 72, 76, 77, 1143, 1144, 5, 1011, 1150, 1149, 1145, 1113, 1111, 1112, 91, 1147, 1100031] g22) [68, 69, 70, 81, 82, 83, 84, 85, 86, 71, 74, 75, 1127, 78, 79, 80, 72, 76, 77, 1143, 1144, 5, 1011, 1150, 1149, 1145, 1113, 1111, 1112, 91, 1147, 1100031] g27) [68, 69, 70, 81, 82, 83, 84, 85, 86, 71, 74, 75, 1127, 78, 79, 80, 72, 76, 77, 1143, 1144, 5, 1011, 1150, 1149, 1145, 1113, 1111, 1112, 1100031] g88) := Eq.mpr (congrArg (fun Z => sv_T sm_XS sm_cs sm_L sm_sh 10 (q_waysOfNew p1 p2 S) 282 180 [(0, .ref 0), (1, sv_I p1), (2, sv_I p2), (3, sv_I (S 74 (639 : Int))), (4, sv_I r9), (5, sv_L (S 69 r9)), (7, sv_L (S 70 r9)), (9, sv_I l9_15), (10, sv_I l10_16), (11, sv_I (l11_28 + (1 : Int)))] [] Z) eS) hb
                  exact sv_less (lv := [(0, .ref 0), (1, sv_I p1), (2, sv_I p2), (3, sv_I (S 74 (639 : Int))), (4, sv_I r9), (5, sv_L (S 69 r9)), (7, sv_L (S 70 r9)), (9, sv_I l9_15), (10, sv_I l10_16), (11, sv_I (l11_28 + (1 : Int)))]) (sv_Sub_cons rfl (sv_Sub_cons rfl (sv_Sub_cons rfl (sv_Sub_cons rfl (sv_Sub_cons rfl (sv_Sub_cons rfl (sv_Sub_cons rfl (sv_Sub_cons rfl (sv_Sub_cons rfl (sv_Sub_cons rfl sv_Sub_nil)))))))))) hb
          have eS := sv_mod.eq (sv_mod.rf (l := [68, 69, 70, 81, 82, 83, 84, 85, 86, 71, 74, 75, 1127, 78, 79, 80, 72, 76, 77, 1143, 1144, 5, 1011, 1150, 1149, 1145, 1113, 1111, 1112, 91, 1147, 1100031]) (S := (sv_sts S [68, 69, 70, 81, 82, 83, 84, 85, 86, 71, 74, 75, 1127, 78, 79, 80, 72, 76, 77, 1143, 1144, 5, 1011, 1150, 1149, 1145, 1113, 1111, 1112, 91, 1147, 1100031] g22)))
          have hb := hJ ((10 : Int), (sv_sts S [68, 69, 70, 81, 82, 83, 84, 85, 86, 71, 74, 75, 1127, 78, 79, 80, 72, 76, 77, 1143, 1144, 5, 1011, 1150, 1149, 1145, 1113, 1111, 1112, 91, 1147, 1100031] g22)) ⟨(⟨by decide, by decide⟩ : sv_R (10 : Int)), (by rw [← eS]; exact ok23), hin30⟩
          have hb : sv_T sm_XS sm_cs sm_L sm_sh 10 (q_waysOfNew p1 p2 S) 282 180 [(0, .ref 0), (1, sv_I p1), (2, sv_I p2), (3, sv_I (S 74 (639 : Int))), (4, sv_I r9), (5, sv_L (S 69 r9)), (7, sv_L (S 70 r9)), (9, sv_I l9_15), (10, sv_I l10_16), (11, sv_I (10 : Int))] [] (sv_sts S [68, 69, 70, 81, 82, 83, 84, 85, 86, 71, 74, 75, 1127, 78, 79, 80, 72, 76, 77, 1143, 1144, 5, 1011, 1150, 1149, 1145, 1113, 1111, 1112, 91, 1147, 1100031] g22) := Eq.mpr (congrArg (fun Z => sv_T sm_XS sm_cs sm_L sm_sh 10 (q_waysOfNew p1 p2 S) 282 180 [(0, .ref 0), (1, sv_I p1), (2, sv_I p2), (3, sv_I (S 74 (639 : Int))), (4, sv_I r9), (5, sv_L (S 69 r9)), (7, sv_L (S 70 r9)), (9, sv_I l9_15), (10, sv_I l10_16), (11, sv_I (10 : Int))] [] Z) eS) hb
          exact hb
        have h := h.2
        refine sv_iload hM dX12_waysOfNew_161 rfl rfl ?_
        refine sv_cond_eq hM dX12_waysOfNew_163 hl9_15 (t := 176) rfl rfl (fun hc => ?_) (fun hc => ?_)
        · have h := h.1 (hc)
          have eS := sv_mod.eq (sv_mod.rf (l := [68, 69, 70, 81, 82, 83, 84, 85, 86, 71, 74, 75, 1127, 78, 79, 80, 72, 76, 77, 1143, 1144, 5, 1011, 1150, 1149, 1145, 1113, 1111, 1112, 91, 1147, 1100031]) (S := S))
          have hb := J95 S (by rw [← eS]; exact ok20) h
          have hb : sv_T sm_XS sm_cs sm_L sm_sh 10 (q_waysOfNew p1 p2 S) 282 176 [(0, .ref 0), (1, sv_I p1), (2, sv_I p2), (3, sv_I (S 74 (639 : Int))), (4, sv_I r9), (5, sv_L (S 69 r9)), (7, sv_L (S 70 r9)), (9, sv_I l9_15), (10, sv_I l10_16), (11, sv_I l11_17)] [] S := Eq.mpr (congrArg (fun Z => sv_T sm_XS sm_cs sm_L sm_sh 10 (q_waysOfNew p1 p2 S) 282 176 [(0, .ref 0), (1, sv_I p1), (2, sv_I p2), (3, sv_I (S 74 (639 : Int))), (4, sv_I r9), (5, sv_L (S 69 r9)), (7, sv_L (S 70 r9)), (9, sv_I l9_15), (10, sv_I l10_16), (11, sv_I l11_17)] [] Z) eS) hb
          exact sv_less (lv := [(0, .ref 0), (1, sv_I p1), (2, sv_I p2), (3, sv_I (S 74 (639 : Int))), (4, sv_I r9), (5, sv_L (S 69 r9)), (7, sv_L (S 70 r9)), (9, sv_I l9_15), (10, sv_I l10_16), (11, sv_I l11_17)]) (sv_Sub_cons rfl (sv_Sub_cons rfl (sv_Sub_cons rfl (sv_Sub_cons rfl (sv_Sub_cons rfl (sv_Sub_cons rfl (sv_Sub_cons rfl (sv_Sub_cons rfl (sv_Sub_cons rfl (sv_Sub_cons rfl sv_Sub_nil)))))))))) hb
        · have h := h.2 (hc)
          refine sv_aload_n hM dX12_waysOfNew_166 rfl rfl ?_
          refine sv_aload_n hM dX12_waysOfNew_167 rfl rfl ?_
          have k96 : sv_R (S 1148 0) := sm_okI ok20 sm_r1148 0
          have h := h k96
          refine sv_getI hM dX12_waysOfNew_168 sm_fl_1188 (sm_a0 _) sm_k148 rfl (x := (S 1148 0)) rfl ?_
          refine sv_bipush (d := (6 : Int)) hM dX12_waysOfNew_171 rfl rfl ?_
          obtain ⟨o97, h⟩ := h
          refine sv_callV hM dX12_waysOfNew_173 sm_iv_1292 (by decide) (sm_a0 _) rfl rfl (Nat.le_of_ble_eq_true rfl) sm_h263 (Nat.le_of_ble_eq_true rfl) (Nat.le_of_ble_eq_true rfl) (F' := 8) (Nat.le_of_ble_eq_true rfl) rfl (t_error_ (S 1148 0) (6 : Int) S ok20 k96 (⟨by decide, by decide⟩ : sv_R (6 : Int)) o97) (fun v S1 hq => ?_)
          obtain ⟨rfl, ok99, md100, hpo101⟩ := hq
          obtain ⟨g98, rfl⟩ : ∃ g, S1 = sv_sts S [68, 69, 70, 81, 82, 83, 84, 85, 86, 71, 74, 75, 1127, 78, 79, 80, 72, 76, 77, 1143, 1144, 5, 1011, 1150, 1149, 1145, 1113, 1111, 1112, 1100031] g := ⟨_, md100.eq⟩
          show sv_T sm_XS sm_cs sm_L sm_sh 10 (q_waysOfNew p1 p2 S) 282 176 [(0, .ref 0), (1, sv_I p1), (2, sv_I p2), (3, sv_I (S 74 (639 : Int))), (4, sv_I r9), (5, sv_L (S 69 r9)), (7, sv_L (S 70 r9)), (9, sv_I l9_15), (10, sv_I l10_16), (11, sv_I l11_17)] [] (sv_sts S [68, 69, 70, 81, 82, 83, 84, 85, 86, 71, 74, 75, 1127, 78, 79, 80, 72, 76, 77, 1143, 1144, 5, 1011, 1150, 1149, 1145, 1113, 1111, 1112, 1100031] g98)
          have md102 : sv_mod [68, 69, 70, 81, 82, 83, 84, 85, 86, 71, 74, 75, 1127, 78, 79, 80, 72, 76, 77, 1143, 1144, 5, 1011, 1150, 1149, 1145, 1113, 1111, 1112, 91, 1147, 1100031] S (sv_sts S [68, 69, 70, 81, 82, 83, 84, 85, 86, 71, 74, 75, 1127, 78, 79, 80, 72, 76, 77, 1143, 1144, 5, 1011, 1150, 1149, 1145, 1113, 1111, 1112, 1100031] g98) := sv_mod.sts sv_mod.rf (by decide)
          have md103 : sv_mod [68, 69, 70, 81, 82, 83, 84, 85, 86, 71, 74, 75, 1127, 78, 79, 80, 72, 76, 77, 1143, 1144, 5, 1011, 1150, 1149, 1145, 1113, 1111, 1112, 91, 1147, 1100031] S (sv_sts S [68, 69, 70, 81, 82, 83, 84, 85, 86, 71, 74, 75, 1127, 78, 79, 80, 72, 76, 77, 1143, 1144, 5, 1011, 1150, 1149, 1145, 1113, 1111, 1112, 1100031] g98) := sv_mod.sts (sv_mod.rf (l := [68, 69, 70, 81, 82, 83, 84, 85, 86, 71, 74, 75, 1127, 78, 79, 80, 72, 76, 77, 1143, 1144, 5, 1011, 1150, 1149, 1145, 1113, 1111, 1112, 91, 1147, 1100031]) (S := S)) (by decide)
          have h := h g98 hpo101
          have eS := sv_mod.eq md103
          have hb := J95 (sv_sts S [68, 69, 70, 81, 82, 83, 84, 85, 86, 71, 74, 75, 1127, 78, 79, 80, 72, 76, 77, 1143, 1144, 5, 1011, 1150, 1149, 1145, 1113, 1111, 1112, 1100031] g98) (by rw [← eS]; exact ok99) h
          have hb : sv_T sm_XS sm_cs sm_L sm_sh 10 (q_waysOfNew p1 p2 S) 282 176 [(0, .ref 0), (1, sv_I p1), (2, sv_I p2), (3, sv_I (S 74 (639 : Int))), (4, sv_I r9), (5, sv_L (S 69 r9)), (7, sv_L (S 70 r9)), (9, sv_I l9_15), (10, sv_I l10_16), (11, sv_I l11_17)] [] (sv_sts S [68, 69, 70, 81, 82, 83, 84, 85, 86, 71, 74, 75, 1127, 78, 79, 80, 72, 76, 77, 1143, 1144, 5, 1011, 1150, 1149, 1145, 1113, 1111, 1112, 1100031] g98) := Eq.mpr (congrArg (fun Z => sv_T sm_XS sm_cs sm_L sm_sh 10 (q_waysOfNew p1 p2 S) 282 176 [(0, .ref 0), (1, sv_I p1), (2, sv_I p2), (3, sv_I (S 74 (639 : Int))), (4, sv_I r9), (5, sv_L (S 69 r9)), (7, sv_L (S 70 r9)), (9, sv_I l9_15), (10, sv_I l10_16), (11, sv_I l11_17)] [] Z) eS) hb
          exact sv_less (lv := [(0, .ref 0), (1, sv_I p1), (2, sv_I p2), (3, sv_I (S 74 (639 : Int))), (4, sv_I r9), (5, sv_L (S 69 r9)), (7, sv_L (S 70 r9)), (9, sv_I l9_15), (10, sv_I l10_16), (11, sv_I l11_17)]) (sv_Sub_cons rfl (sv_Sub_cons rfl (sv_Sub_cons rfl (sv_Sub_cons rfl (sv_Sub_cons rfl (sv_Sub_cons rfl (sv_Sub_cons rfl (sv_Sub_cons rfl (sv_Sub_cons rfl (sv_Sub_cons rfl sv_Sub_nil)))))))))) hb
      · have h := h.2 (hc)
        refine sv_lload hM dX12_waysOfNew_65 rfl rfl ?_
        refine sv_lload hM dX12_waysOfNew_67 rfl rfl ?_
        refine sv_iload hM dX12_waysOfNew_69 rfl rfl ?_
        obtain ⟨o104, h⟩ := h
        refine sv_callS hM dX12_waysOfNew_71 sm_iv_1125 (Nat.le_of_ble_eq_true rfl) rfl rfl (Nat.le_of_ble_eq_true rfl) sm_h217 (Nat.le_of_ble_eq_true rfl) (Nat.le_of_ble_eq_true rfl) (F' := 0) (Nat.le_of_ble_eq_true rfl) rfl (t_isIn (S 69 r9) (S 70 r9) l11_17 S ok20 k11 k12 hl11_17 o104) (fun v S1 hq => ?_)
        obtain ⟨r109, rfl, hr109, ok106, md107, hpo108⟩ := hq
        obtain rfl : S = S1 := (funext fun j => md107 j (by intro q; cases q)).symm
        show sv_T sm_XS sm_cs sm_L sm_sh 10 (q_waysOfNew p1 p2 S) 282 74 [(0, .ref 0), (1, sv_I p1), (2, sv_I p2), (3, sv_I (S 74 (639 : Int))), (4, sv_I r9), (5, sv_L (S 69 r9)), (7, sv_L (S 70 r9)), (9, sv_I l9_15), (10, sv_I l10_16), (11, sv_I l11_17)] [sv_I r109] S
        have h := h r109 hr109 hpo108
        refine sv_cond_ne hM dX12_waysOfNew_74 hr109 (t := 80) rfl rfl (fun hc => ?_) (fun hc => ?_)
        · have h := h.1 (hc)
          have J125 : ∀ s110 : Int, sv_R s110 → (s110 = 0 ∨ s110 = 1) → sv_T sm_XS sm_cs sm_L sm_sh 10 (q_waysOfNew p1 p2 S) 282 115 [(0, .ref 0), (1, sv_I p1), (2, sv_I p2), (3, sv_I (S 74 (639 : Int))), (4, sv_I r9), (5, sv_L (S 69 r9)), (7, sv_L (S 70 r9)), (9, sv_I l9_15), (10, sv_I l10_16), (11, sv_I l11_17)] [sv_I s110] S := by
            intro s110 hs110 hin111
            have h := h.1 s110 hs110 hin111
            refine sv_istore hM dX12_waysOfNew_115 (by decide) rfl ?_
            show sv_T sm_XS sm_cs sm_L sm_sh 10 (q_waysOfNew p1 p2 S) 282 117 [(0, .ref 0), (1, sv_I p1), (2, sv_I p2), (3, sv_I (S 74 (639 : Int))), (4, sv_I r9), (5, sv_L (S 69 r9)), (7, sv_L (S 70 r9)), (9, sv_I l9_15), (10, sv_I l10_16), (11, sv_I l11_17), (12, sv_I s110)] [] S
            have J124 : ∀ s112 : Int, sv_R s112 → (s112 = 0 ∨ s112 = 1) → sv_T sm_XS sm_cs sm_L sm_sh 10 (q_waysOfNew p1 p2 S) 282 132 [(0, .ref 0), (1, sv_I p1), (2, sv_I p2), (3, sv_I (S 74 (639 : Int))), (4, sv_I r9), (5, sv_L (S 69 r9)), (7, sv_L (S 70 r9)), (9, sv_I l9_15), (10, sv_I l10_16), (11, sv_I l11_17), (12, sv_I s110)] [sv_I s112] S := by
              intro s112 hs112 hin113
              have h := h.1 s112 hs112 hin113
              refine sv_istore hM dX12_waysOfNew_132 (by decide) rfl ?_
              show sv_T sm_XS sm_cs sm_L sm_sh 10 (q_waysOfNew p1 p2 S) 282 134 [(0, .ref 0), (1, sv_I p1), (2, sv_I p2), (3, sv_I (S 74 (639 : Int))), (4, sv_I r9), (5, sv_L (S 69 r9)), (7, sv_L (S 70 r9)), (9, sv_I s112), (10, sv_I l10_16), (11, sv_I l11_17), (12, sv_I s110)] [] S
              have J117 : ∀ s114 : Int, sv_R s114 → (s114 = 0 ∨ s114 = 1) → sv_T sm_XS sm_cs sm_L sm_sh 10 (q_waysOfNew p1 p2 S) 282 153 [(0, .ref 0), (1, sv_I p1), (2, sv_I p2), (3, sv_I (S 74 (639 : Int))), (4, sv_I r9), (5, sv_L (S 69 r9)), (7, sv_L (S 70 r9)), (9, sv_I s112), (10, sv_I l10_16), (11, sv_I l11_17), (12, sv_I s110)] [sv_I s114] S := by
                intro s114 hs114 hin115
                have h := h.1 s114 hs114 hin115
                refine sv_istore hM dX12_waysOfNew_153 (by decide) rfl ?_
                show sv_T sm_XS sm_cs sm_L sm_sh 10 (q_waysOfNew p1 p2 S) 282 155 [(0, .ref 0), (1, sv_I p1), (2, sv_I p2), (3, sv_I (S 74 (639 : Int))), (4, sv_I r9), (5, sv_L (S 69 r9)), (7, sv_L (S 70 r9)), (9, sv_I s112), (10, sv_I s114), (11, sv_I l11_17), (12, sv_I s110)] [] S
                refine sv_iinc (d := (1 : Int)) hM dX12_waysOfNew_155 rfl (by decide) rfl rfl ?_
                show sv_T sm_XS sm_cs sm_L sm_sh 10 (q_waysOfNew p1 p2 S) 282 158 [(0, .ref 0), (1, sv_I p1), (2, sv_I p2), (3, sv_I (S 74 (639 : Int))), (4, sv_I r9), (5, sv_L (S 69 r9)), (7, sv_L (S 70 r9)), (9, sv_I s112), (10, sv_I s114), (11, sv_I (l11_17 + (1 : Int))), (12, sv_I s110)] [] S
                refine sv_goto hM dX12_waysOfNew_158 (pc' := 56) rfl ?_
                obtain ⟨o116, h⟩ := h
                have hb := ih18 (s112, s114, (l11_17 + (1 : Int)), ()) ⟨hs112, hs114, o116, ok106, h.1⟩ h.2
                exact sv_less (lv := [(0, .ref 0), (1, sv_I p1), (2, sv_I p2), (3, sv_I (S 74 (639 : Int))), (4, sv_I r9), (5, sv_L (S 69 r9)), (7, sv_L (S 70 r9)), (9, sv_I s112), (10, sv_I s114), (11, sv_I (l11_17 + (1 : Int)))]) (sv_Sub_cons rfl (sv_Sub_cons rfl (sv_Sub_cons rfl (sv_Sub_cons rfl (sv_Sub_cons rfl (sv_Sub_cons rfl (sv_Sub_cons rfl (sv_Sub_cons rfl (sv_Sub_cons rfl (sv_Sub_cons rfl sv_Sub_nil)))))))))) hb
              have h := h.2
              refine sv_iload hM dX12_waysOfNew_134 rfl rfl ?_
              refine sv_cond_ne hM dX12_waysOfNew_136 hl10_16 (t := 148) rfl rfl (fun hc => ?_) (fun hc => ?_)
              · have h := h.1 (hc)
                refine sv_iconst (d := (1 : Int)) hM dX12_waysOfNew_148 rfl rfl ?_
                refine sv_goto hM dX12_waysOfNew_149 (pc' := 153) rfl ?_
                have hb := J117 (1 : Int) (⟨by decide, by decide⟩ : sv_R (1 : Int)) h
                exact sv_less (lv := [(0, .ref 0), (1, sv_I p1), (2, sv_I p2), (3, sv_I (S 74 (639 : Int))), (4, sv_I r9), (5, sv_L (S 69 r9)), (7, sv_L (S 70 r9)), (9, sv_I s112), (10, sv_I l10_16), (11, sv_I l11_17), (12, sv_I s110)]) (sv_Sub_cons rfl (sv_Sub_cons rfl (sv_Sub_cons rfl (sv_Sub_cons rfl (sv_Sub_cons rfl (sv_Sub_cons rfl (sv_Sub_cons rfl (sv_Sub_cons rfl (sv_Sub_cons rfl (sv_Sub_cons rfl (sv_Sub_cons rfl sv_Sub_nil))))))))))) hb
              · have h := h.2 (hc)
                refine sv_aload_n hM dX12_waysOfNew_139 rfl rfl ?_
                refine sv_iload hM dX12_waysOfNew_140 rfl rfl ?_
                obtain ⟨o118, h⟩ := h
                refine sv_callV hM dX12_waysOfNew_142 sm_iv_1326 (by decide) (sm_a0 _) rfl rfl (Nat.le_of_ble_eq_true rfl) sm_h238 (Nat.le_of_ble_eq_true rfl) (Nat.le_of_ble_eq_true rfl) (F' := 1) (Nat.le_of_ble_eq_true rfl) rfl (t_codeOfLabel l11_17 S ok106 hl11_17 o118) (fun v S1 hq => ?_)
                obtain ⟨r123, rfl, hr123, ok120, md121, hpo122⟩ := hq
                obtain rfl : S = S1 := (funext fun j => md121 j (by intro q; cases q)).symm
                show sv_T sm_XS sm_cs sm_L sm_sh 10 (q_waysOfNew p1 p2 S) 282 145 [(0, .ref 0), (1, sv_I p1), (2, sv_I p2), (3, sv_I (S 74 (639 : Int))), (4, sv_I r9), (5, sv_L (S 69 r9)), (7, sv_L (S 70 r9)), (9, sv_I s112), (10, sv_I l10_16), (11, sv_I l11_17), (12, sv_I s110)] [sv_I r123] S
                have h := h r123 hr123 hpo122
                refine sv_cond_le hM dX12_waysOfNew_145 hr123 (t := 152) rfl rfl (fun hc => ?_) (fun hc => ?_)
                · have h := h.1 (hc)
                  refine sv_iconst (d := (0 : Int)) hM dX12_waysOfNew_152 rfl rfl ?_
                  have hb := J117 (0 : Int) (⟨by decide, by decide⟩ : sv_R (0 : Int)) h
                  exact sv_less (lv := [(0, .ref 0), (1, sv_I p1), (2, sv_I p2), (3, sv_I (S 74 (639 : Int))), (4, sv_I r9), (5, sv_L (S 69 r9)), (7, sv_L (S 70 r9)), (9, sv_I s112), (10, sv_I l10_16), (11, sv_I l11_17), (12, sv_I s110)]) (sv_Sub_cons rfl (sv_Sub_cons rfl (sv_Sub_cons rfl (sv_Sub_cons rfl (sv_Sub_cons rfl (sv_Sub_cons rfl (sv_Sub_cons rfl (sv_Sub_cons rfl (sv_Sub_cons rfl (sv_Sub_cons rfl (sv_Sub_cons rfl sv_Sub_nil))))))))))) hb
                · have h := h.2 (hc)
                  refine sv_iconst (d := (1 : Int)) hM dX12_waysOfNew_148 rfl rfl ?_
                  refine sv_goto hM dX12_waysOfNew_149 (pc' := 153) rfl ?_
                  have hb := J117 (1 : Int) (⟨by decide, by decide⟩ : sv_R (1 : Int)) h
                  exact sv_less (lv := [(0, .ref 0), (1, sv_I p1), (2, sv_I p2), (3, sv_I (S 74 (639 : Int))), (4, sv_I r9), (5, sv_L (S 69 r9)), (7, sv_L (S 70 r9)), (9, sv_I s112), (10, sv_I l10_16), (11, sv_I l11_17), (12, sv_I s110)]) (sv_Sub_cons rfl (sv_Sub_cons rfl (sv_Sub_cons rfl (sv_Sub_cons rfl (sv_Sub_cons rfl (sv_Sub_cons rfl (sv_Sub_cons rfl (sv_Sub_cons rfl (sv_Sub_cons rfl (sv_Sub_cons rfl (sv_Sub_cons rfl sv_Sub_nil))))))))))) hb
            have h := h.2
            refine sv_iload hM dX12_waysOfNew_117 rfl rfl ?_
            refine sv_cond_ne hM dX12_waysOfNew_119 hl9_15 (t := 127) rfl rfl (fun hc => ?_) (fun hc => ?_)
            · have h := h.1 (hc)
              refine sv_iconst (d := (1 : Int)) hM dX12_waysOfNew_127 rfl rfl ?_
              refine sv_goto hM dX12_waysOfNew_128 (pc' := 132) rfl ?_
              have hb := J124 (1 : Int) (⟨by decide, by decide⟩ : sv_R (1 : Int)) h
              exact sv_less (lv := [(0, .ref 0), (1, sv_I p1), (2, sv_I p2), (3, sv_I (S 74 (639 : Int))), (4, sv_I r9), (5, sv_L (S 69 r9)), (7, sv_L (S 70 r9)), (9, sv_I l9_15), (10, sv_I l10_16), (11, sv_I l11_17), (12, sv_I s110)]) (sv_Sub_cons rfl (sv_Sub_cons rfl (sv_Sub_cons rfl (sv_Sub_cons rfl (sv_Sub_cons rfl (sv_Sub_cons rfl (sv_Sub_cons rfl (sv_Sub_cons rfl (sv_Sub_cons rfl (sv_Sub_cons rfl (sv_Sub_cons rfl sv_Sub_nil))))))))))) hb
            · have h := h.2 (hc)
              refine sv_iload hM dX12_waysOfNew_122 rfl rfl ?_
              refine sv_cond_ne hM dX12_waysOfNew_124 hs110 (t := 131) rfl rfl (fun hc => ?_) (fun hc => ?_)
              · have h := h.1 (hc)
                refine sv_iconst (d := (0 : Int)) hM dX12_waysOfNew_131 rfl rfl ?_
                have hb := J124 (0 : Int) (⟨by decide, by decide⟩ : sv_R (0 : Int)) h
                exact sv_less (lv := [(0, .ref 0), (1, sv_I p1), (2, sv_I p2), (3, sv_I (S 74 (639 : Int))), (4, sv_I r9), (5, sv_L (S 69 r9)), (7, sv_L (S 70 r9)), (9, sv_I l9_15), (10, sv_I l10_16), (11, sv_I l11_17), (12, sv_I s110)]) (sv_Sub_cons rfl (sv_Sub_cons rfl (sv_Sub_cons rfl (sv_Sub_cons rfl (sv_Sub_cons rfl (sv_Sub_cons rfl (sv_Sub_cons rfl (sv_Sub_cons rfl (sv_Sub_cons rfl (sv_Sub_cons rfl (sv_Sub_cons rfl sv_Sub_nil))))))))))) hb
              · have h := h.2 (hc)
                refine sv_iconst (d := (1 : Int)) hM dX12_waysOfNew_127 rfl rfl ?_
                refine sv_goto hM dX12_waysOfNew_128 (pc' := 132) rfl ?_
                have hb := J124 (1 : Int) (⟨by decide, by decide⟩ : sv_R (1 : Int)) h
                exact sv_less (lv := [(0, .ref 0), (1, sv_I p1), (2, sv_I p2), (3, sv_I (S 74 (639 : Int))), (4, sv_I r9), (5, sv_L (S 69 r9)), (7, sv_L (S 70 r9)), (9, sv_I l9_15), (10, sv_I l10_16), (11, sv_I l11_17), (12, sv_I s110)]) (sv_Sub_cons rfl (sv_Sub_cons rfl (sv_Sub_cons rfl (sv_Sub_cons rfl (sv_Sub_cons rfl (sv_Sub_cons rfl (sv_Sub_cons rfl (sv_Sub_cons rfl (sv_Sub_cons rfl (sv_Sub_cons rfl (sv_Sub_cons rfl sv_Sub_nil))))))))))) hb
          have h := h.2
          refine sv_aload_n hM dX12_waysOfNew_80 rfl rfl ?_
          refine sv_iload hM dX12_waysOfNew_81 rfl rfl ?_
          obtain ⟨o126, h⟩ := h
          refine sv_callV hM dX12_waysOfNew_83 sm_iv_1326 (by decide) (sm_a0 _) rfl rfl (Nat.le_of_ble_eq_true rfl) sm_h238 (Nat.le_of_ble_eq_true rfl) (Nat.le_of_ble_eq_true rfl) (F' := 1) (Nat.le_of_ble_eq_true rfl) rfl (t_codeOfLabel l11_17 S ok106 hl11_17 o126) (fun v S1 hq => ?_)
          obtain ⟨r131, rfl, hr131, ok128, md129, hpo130⟩ := hq
          obtain rfl : S = S1 := (funext fun j => md129 j (by intro q; cases q)).symm
          show sv_T sm_XS sm_cs sm_L sm_sh 10 (q_waysOfNew p1 p2 S) 282 86 [(0, .ref 0), (1, sv_I p1), (2, sv_I p2), (3, sv_I (S 74 (639 : Int))), (4, sv_I r9), (5, sv_L (S 69 r9)), (7, sv_L (S 70 r9)), (9, sv_I l9_15), (10, sv_I l10_16), (11, sv_I l11_17)] [sv_I r131] S
          have h := h r131 hr131 hpo130
          refine sv_cond_gt hM dX12_waysOfNew_86 hr131 (t := 110) rfl rfl (fun hc => ?_) (fun hc => ?_)
          · have h := h.1 (hc)
            refine sv_iconst (d := (1 : Int)) hM dX12_waysOfNew_110 rfl rfl ?_
            refine sv_goto hM dX12_waysOfNew_111 (pc' := 115) rfl ?_
            have hb := J125 (1 : Int) (⟨by decide, by decide⟩ : sv_R (1 : Int)) h
            exact sv_less (lv := [(0, .ref 0), (1, sv_I p1), (2, sv_I p2), (3, sv_I (S 74 (639 : Int))), (4, sv_I r9), (5, sv_L (S 69 r9)), (7, sv_L (S 70 r9)), (9, sv_I l9_15), (10, sv_I l10_16), (11, sv_I l11_17)]) (sv_Sub_cons rfl (sv_Sub_cons rfl (sv_Sub_cons rfl (sv_Sub_cons rfl (sv_Sub_cons rfl (sv_Sub_cons rfl (sv_Sub_cons rfl (sv_Sub_cons rfl (sv_Sub_cons rfl (sv_Sub_cons rfl sv_Sub_nil)))))))))) hb
          · have h := h.2 (hc)
            refine sv_iload hM dX12_waysOfNew_89 rfl rfl ?_
            refine sv_bipush (d := (10 : Int)) hM dX12_waysOfNew_91 rfl rfl ?_
            refine sv_icmp_lt hM dX12_waysOfNew_93 hl11_17 (⟨by decide, by decide⟩ : sv_R (10 : Int)) (t := 114) rfl rfl (fun hc => ?_) (fun hc => ?_)
            · have h := h.1 (hc)
              refine sv_iconst (d := (0 : Int)) hM dX12_waysOfNew_114 rfl rfl ?_
              have hb := J125 (0 : Int) (⟨by decide, by decide⟩ : sv_R (0 : Int)) h
              exact sv_less (lv := [(0, .ref 0), (1, sv_I p1), (2, sv_I p2), (3, sv_I (S 74 (639 : Int))), (4, sv_I r9), (5, sv_L (S 69 r9)), (7, sv_L (S 70 r9)), (9, sv_I l9_15), (10, sv_I l10_16), (11, sv_I l11_17)]) (sv_Sub_cons rfl (sv_Sub_cons rfl (sv_Sub_cons rfl (sv_Sub_cons rfl (sv_Sub_cons rfl (sv_Sub_cons rfl (sv_Sub_cons rfl (sv_Sub_cons rfl (sv_Sub_cons rfl (sv_Sub_cons rfl sv_Sub_nil)))))))))) hb
            · have h := h.2 (hc)
              refine sv_iload hM dX12_waysOfNew_96 rfl rfl ?_
              refine sv_bipush (d := (17 : Int)) hM dX12_waysOfNew_98 rfl rfl ?_
              refine sv_icmp_gt hM dX12_waysOfNew_100 hl11_17 (⟨by decide, by decide⟩ : sv_R (17 : Int)) (t := 114) rfl rfl (fun hc => ?_) (fun hc => ?_)
              · have h := h.1 (hc)
                refine sv_iconst (d := (0 : Int)) hM dX12_waysOfNew_114 rfl rfl ?_
                have hb := J125 (0 : Int) (⟨by decide, by decide⟩ : sv_R (0 : Int)) h
                exact sv_less (lv := [(0, .ref 0), (1, sv_I p1), (2, sv_I p2), (3, sv_I (S 74 (639 : Int))), (4, sv_I r9), (5, sv_L (S 69 r9)), (7, sv_L (S 70 r9)), (9, sv_I l9_15), (10, sv_I l10_16), (11, sv_I l11_17)]) (sv_Sub_cons rfl (sv_Sub_cons rfl (sv_Sub_cons rfl (sv_Sub_cons rfl (sv_Sub_cons rfl (sv_Sub_cons rfl (sv_Sub_cons rfl (sv_Sub_cons rfl (sv_Sub_cons rfl (sv_Sub_cons rfl sv_Sub_nil)))))))))) hb
              · have h := h.2 (hc)
                refine sv_iload hM dX12_waysOfNew_103 rfl rfl ?_
                refine sv_bipush (d := (13 : Int)) hM dX12_waysOfNew_105 rfl rfl ?_
                refine sv_icmp_eq hM dX12_waysOfNew_107 hl11_17 (⟨by decide, by decide⟩ : sv_R (13 : Int)) (t := 114) rfl rfl (fun hc => ?_) (fun hc => ?_)
                · have h := h.1 (hc)
                  refine sv_iconst (d := (0 : Int)) hM dX12_waysOfNew_114 rfl rfl ?_
                  have hb := J125 (0 : Int) (⟨by decide, by decide⟩ : sv_R (0 : Int)) h
                  exact sv_less (lv := [(0, .ref 0), (1, sv_I p1), (2, sv_I p2), (3, sv_I (S 74 (639 : Int))), (4, sv_I r9), (5, sv_L (S 69 r9)), (7, sv_L (S 70 r9)), (9, sv_I l9_15), (10, sv_I l10_16), (11, sv_I l11_17)]) (sv_Sub_cons rfl (sv_Sub_cons rfl (sv_Sub_cons rfl (sv_Sub_cons rfl (sv_Sub_cons rfl (sv_Sub_cons rfl (sv_Sub_cons rfl (sv_Sub_cons rfl (sv_Sub_cons rfl (sv_Sub_cons rfl sv_Sub_nil)))))))))) hb
                · have h := h.2 (hc)
                  refine sv_iconst (d := (1 : Int)) hM dX12_waysOfNew_110 rfl rfl ?_
                  refine sv_goto hM dX12_waysOfNew_111 (pc' := 115) rfl ?_
                  have hb := J125 (1 : Int) (⟨by decide, by decide⟩ : sv_R (1 : Int)) h
                  exact sv_less (lv := [(0, .ref 0), (1, sv_I p1), (2, sv_I p2), (3, sv_I (S 74 (639 : Int))), (4, sv_I r9), (5, sv_L (S 69 r9)), (7, sv_L (S 70 r9)), (9, sv_I l9_15), (10, sv_I l10_16), (11, sv_I l11_17)]) (sv_Sub_cons rfl (sv_Sub_cons rfl (sv_Sub_cons rfl (sv_Sub_cons rfl (sv_Sub_cons rfl (sv_Sub_cons rfl (sv_Sub_cons rfl (sv_Sub_cons rfl (sv_Sub_cons rfl (sv_Sub_cons rfl sv_Sub_nil)))))))))) hb
        · have h := h.2 (hc)
          refine sv_goto hM dX12_waysOfNew_77 (pc' := 155) rfl ?_
          refine sv_iinc (d := (1 : Int)) hM dX12_waysOfNew_155 rfl (by decide) rfl rfl ?_
          show sv_T sm_XS sm_cs sm_L sm_sh 10 (q_waysOfNew p1 p2 S) 282 158 [(0, .ref 0), (1, sv_I p1), (2, sv_I p2), (3, sv_I (S 74 (639 : Int))), (4, sv_I r9), (5, sv_L (S 69 r9)), (7, sv_L (S 70 r9)), (9, sv_I l9_15), (10, sv_I l10_16), (11, sv_I (l11_17 + (1 : Int)))] [] S
          refine sv_goto hM dX12_waysOfNew_158 (pc' := 56) rfl ?_
          obtain ⟨o132, h⟩ := h
          have hb := ih18 (l9_15, l10_16, (l11_17 + (1 : Int)), ()) ⟨hl9_15, hl10_16, o132, ok106, h.1⟩ h.2
          exact sv_less (lv := [(0, .ref 0), (1, sv_I p1), (2, sv_I p2), (3, sv_I (S 74 (639 : Int))), (4, sv_I r9), (5, sv_L (S 69 r9)), (7, sv_L (S 70 r9)), (9, sv_I l9_15), (10, sv_I l10_16), (11, sv_I (l11_17 + (1 : Int)))]) (sv_Sub_cons rfl (sv_Sub_cons rfl (sv_Sub_cons rfl (sv_Sub_cons rfl (sv_Sub_cons rfl (sv_Sub_cons rfl (sv_Sub_cons rfl (sv_Sub_cons rfl (sv_Sub_cons rfl (sv_Sub_cons rfl sv_Sub_nil)))))))))) hb
    exact hJ (s13, (0 : Int), (0 : Int), ()) ⟨hs13, (⟨by decide, by decide⟩ : sv_R (0 : Int)), (⟨by decide, by decide⟩ : sv_R (0 : Int)), ok6, hin19⟩
  have h := h.2
  refine sv_aload_n hM dX12_waysOfNew_34 rfl rfl ?_
  refine sv_iload hM dX12_waysOfNew_35 rfl rfl ?_
  refine sv_callV hM dX12_waysOfNew_37 sm_iv_1059 (by decide) (sm_a0 _) rfl rfl (Nat.le_of_ble_eq_true rfl) sm_h210 (Nat.le_of_ble_eq_true rfl) (Nat.le_of_ble_eq_true rfl) (F' := 1) (Nat.le_of_ble_eq_true rfl) rfl (t_plainly r9 S ok6 hr9 o10) (fun v S1 hq => ?_)
  obtain ⟨r138, rfl, hr138, ok135, md136, hpo137⟩ := hq
  obtain rfl : S = S1 := (funext fun j => md136 j (by intro q; cases q)).symm
  show sv_T sm_XS sm_cs sm_L sm_sh 10 (q_waysOfNew p1 p2 S) 282 40 [(0, .ref 0), (1, sv_I p1), (2, sv_I p2), (3, sv_I (S 74 (639 : Int))), (4, sv_I r9), (5, sv_L (S 69 r9)), (7, sv_L (S 70 r9))] [sv_I r138] S
  have h := h r138 hr138 hpo137
  refine sv_cond_eq hM dX12_waysOfNew_40 hr138 (t := 47) rfl rfl (fun hc => ?_) (fun hc => ?_)
  · have h := h.1 (hc)
    refine sv_iconst (d := (0 : Int)) hM dX12_waysOfNew_47 rfl rfl ?_
    have hb := J133 (0 : Int) (⟨by decide, by decide⟩ : sv_R (0 : Int)) h
    exact sv_less (lv := [(0, .ref 0), (1, sv_I p1), (2, sv_I p2), (3, sv_I (S 74 (639 : Int))), (4, sv_I r9), (5, sv_L (S 69 r9)), (7, sv_L (S 70 r9))]) (sv_Sub_cons rfl (sv_Sub_cons rfl (sv_Sub_cons rfl (sv_Sub_cons rfl (sv_Sub_cons rfl (sv_Sub_cons rfl (sv_Sub_cons rfl sv_Sub_nil))))))) hb
  · have h := h.2 (hc)
    refine sv_iconst (d := (1 : Int)) hM dX12_waysOfNew_43 rfl rfl ?_
    refine sv_goto hM dX12_waysOfNew_44 (pc' := 48) rfl ?_
    have hb := J133 (1 : Int) (⟨by decide, by decide⟩ : sv_R (1 : Int)) h
    exact sv_less (lv := [(0, .ref 0), (1, sv_I p1), (2, sv_I p2), (3, sv_I (S 74 (639 : Int))), (4, sv_I r9), (5, sv_L (S 69 r9)), (7, sv_L (S 70 r9))]) (sv_Sub_cons rfl (sv_Sub_cons rfl (sv_Sub_cons rfl (sv_Sub_cons rfl (sv_Sub_cons rfl (sv_Sub_cons rfl (sv_Sub_cons rfl sv_Sub_nil))))))) hb
def q_waysOfOther (p1 : Int) (p2 : Int) (S : sv_S) : Option Value → sv_S → Prop := fun v S' => v = none ∧ sm_ok S' ∧ sv_mod [68, 69, 70, 81, 82, 83, 84, 85, 86, 71, 74, 75, 1127, 78, 79, 80, 72, 76, 77, 1143, 1144, 5, 1011, 1150, 1149, 1145, 1113, 1111, 1112, 1100031] S S' ∧ (sm_ST (S' 71) (S' 74) (S' 75) (S' 78) (S' 79) (S' 80) (S' 27) (S' 1100007) (S' 1100023) (S' 1100024) (S' 1046 0) ((S' 1046 0) + 2 * (S' 1032 0)) (S' 1127 0) ∧ 465000 ≤ (S' 1127 0) ∧ (S' 1127 0) + sm_hs (S' 71) (S' 1100007) ≤ 635000 ∧ (S' 75 639) = 647340 ∧ (∀ k : Int, (S 71 k) = 1 → (S' 71 k) = 1) ∧ sm_DR (S' 72) (S' 71) (S' 1046 0) ∧ (641 * (sm_cm (S' 71) + sm_pt (S' 68) (S' 69) (S' 70) + sm_pl (S' 81) (S' 82) (S' 83) (S' 84) (S' 85) (S' 86) + sm_ps (S' 76) (S' 77)) + sm_du (S' 72)) ≤ (641 * (sm_cm (S 71) + sm_pt (S 68) (S 69) (S 70) + sm_pl (S 81) (S 82) (S 83) (S 84) (S 85) (S 86) + sm_ps (S 76) (S 77)) + sm_du (S 72)))
theorem la_waysOfOther_0 {x0 : Int} (h0 : 17 ≤ x0) : ¬ x0 < 17 := by omega
theorem la_waysOfOther_1 {x0 : Int} (h0 : 29 < x0) : ¬ x0 = 17 := by omega
theorem la_waysOfOther_2 {x0 : Int} (h0 : 29 < x0) : ¬ x0 = 18 := by omega
theorem la_waysOfOther_3 {x0 : Int} (h0 : 29 < x0) : ¬ x0 = 19 := by omega
theorem la_waysOfOther_4 {x0 : Int} (h0 : 29 < x0) : ¬ x0 = 20 := by omega
theorem la_waysOfOther_5 {x0 : Int} (h0 : 29 < x0) : ¬ x0 = 21 := by omega
theorem la_waysOfOther_6 {x0 : Int} (h0 : 29 < x0) : ¬ x0 = 22 := by omega
theorem la_waysOfOther_7 {x0 : Int} (h0 : 29 < x0) : ¬ (x0 = 23 ∨ x0 = 24) := by omega
theorem la_waysOfOther_8 {x0 : Int} (h0 : 29 < x0) : ¬ (x0 = 25 ∨ x0 = 26) := by omega
theorem la_waysOfOther_9 {x0 : Int} (h0 : 29 < x0) : ¬ x0 = 27 := by omega
theorem la_waysOfOther_10 {x0 : Int} (h0 : 29 < x0) : ¬ x0 = 28 := by omega
theorem la_waysOfOther_11 {x0 : Int} (h0 : 29 < x0) : ¬ x0 = 29 := by omega
theorem la_waysOfOther_12 {x0 : Int} (h0 : x0 ≤ 30) (h1 : 29 < x0) : x0 = 30 := by omega
theorem la_waysOfOther_13 {x0 x1 x2 : Int} (h0 : x0 = 647340) (h1 : x1 = x2) (h2 : x2 ≤ 396) (h3 : 1 ≤ x2) : x0 = 647340 ∧ 0 ≤ x1 ∧ x1 ≤ 400 ∧ x1 < 400 := by omega
theorem la_waysOfOther_14 {x0 x1 : Int} (h0 : 0 ≤ x0) (h1 : x0 ≤ 400) (h2 : x1 = 647340 + x0) : 635639 ≤ x1 ∧ x1 < 647790 := by omega
theorem la_waysOfOther_15 {x0 x1 : Int} (h0 : x0 + 2 * x1 ≤ 500) : x0 + 2 * x1 ≤ 639 := by omega
theorem la_waysOfOther_16 {x0 x1 x2 : Int} (h0 : x0 = x1) (h1 : 1 ≤ x1) (h2 : x2 = x0 + 1) : 0 ≤ x2 := by omega
theorem la_waysOfOther_17 {x0 x1 x2 : Int} (h0 : x0 = x1) (h1 : x1 ≤ 396) (h2 : x2 = x0 + 1) : x2 ≤ 400 := by omega
theorem la_waysOfOther_18 {x0 x1 x2 x3 x4 x5 x6 x7 x8 : Int} (h0 : 0 ≤ x0) (h1 : x1 = x2) (h2 : x3 = x4) (h3 : x0 + 1 < x5) (h4 : x6 = x2 + 1) (h5 : x7 = x4) (h6 : x8 = x1 + 1) : 0 ≤ x0 ∧ x0 + 1 < x5 ∧ x8 = x6 ∧ x7 = x3 := by omega
theorem la_waysOfOther_19 : (0 : Int) ≤ 639 ∧ (639 : Int) < 640 := by omega
theorem la_waysOfOther_20 {x0 x1 x2 : Int} (h0 : 0 ≤ x0) (h1 : x0 ≤ 400) (h2 : x1 = x0 + 1) (h3 : x2 = x1) : sv_R (x2 - 2) := by omega
theorem la_waysOfOther_21 : (639 : Int) = 639 := by omega
theorem la_waysOfOther_22 {x0 x1 : Int} (h0 : x0 + 1 < x1) : ¬ x1 ≤ x0 := by omega
theorem la_waysOfOther_23 {x0 x1 : Int} (h0 : x0 + 1 < x1) : ¬ x1 ≤ x0 + 1 := by omega
theorem la_waysOfOther_24 {x0 x1 : Int} (h0 : x0 < x1) : ¬ x1 ≤ x0 := by omega
theorem la_waysOfOther_25 {x0 x1 x2 x3 x4 : Int} (h0 : x0 = x1) (h1 : 1 ≤ x1) (h2 : x2 = x0 + 1) (h3 : x3 = x2) (h4 : x4 = x3 - 2) : 0 ≤ x4 := by omega
theorem la_waysOfOther_26 {x0 x1 x2 x3 x4 : Int} (h0 : x0 = x1) (h1 : x1 ≤ 396) (h2 : x2 = x0 + 1) (h3 : x3 = x2) (h4 : x4 = x3 - 2) : x4 ≤ 400 := by omega
theorem la_waysOfOther_27 {x0 x1 : Int} (h0 : 0 ≤ x0) (h1 : x1 = x0) : 0 ≤ x1 := by omega
theorem la_waysOfOther_28 {x0 x1 : Int} (h0 : x0 ≤ 40) (h1 : x1 = x0) : x1 ≤ 40 := by omega
theorem la_waysOfOther_29 {x0 x1 x2 : Int} (h0 : x0 = x1) (h1 : x2 = x0) : x2 = x1 := by omega
theorem la_waysOfOther_30 {x0 x1 x2 x3 x4 x5 : Int} (h0 : x0 = x1) (h1 : x2 = x1 + (-1)) (h2 : x3 = x0 + 1) (h3 : x4 = x3) (h4 : x5 = x4 - 2) : x5 = x2 := by omega
theorem la_waysOfOther_31 {x0 x1 x2 : Int} (h0 : x0 = x1) (h1 : x2 = x1) : x2 = x0 := by omega
theorem la_waysOfOther_32 {x0 x1 x2 x3 x4 x5 x6 x7 x8 x9 x10 x11 x12 x13 x14 x15 x16 x17 : Int} (h0 : x0 = x1) (h1 : x2 = x0) (h2 : x3 = x2) (h3 : 641 * (x4 + x5 + x6 + x7) + x8 ≤ 641 * (x9 + x3 + x10 + x11) + x12) (h4 : 641 * (x13 + x14 + x15 + x16) + x17 ≤ 641 * (x4 + x5 + x6 + x7) + x8) : 641 * (x13 + x14 + x15 + x16) + x17 ≤ 641 * (x9 + x1 + x10 + x11) + x12 := by omega
theorem la_waysOfOther_33 {x0 : Int} (h0 : x0 = 17) : ¬ x0 = 18 := by omega
theorem la_waysOfOther_34 {x0 : Int} (h0 : x0 = 17) : ¬ x0 = 19 := by omega
theorem la_waysOfOther_35 {x0 : Int} (h0 : x0 = 17) : ¬ x0 = 20 := by omega
theorem la_waysOfOther_36 {x0 : Int} (h0 : x0 = 17) : ¬ x0 = 21 := by omega
theorem la_waysOfOther_37 {x0 : Int} (h0 : x0 = 17) : ¬ x0 = 22 := by omega
theorem la_waysOfOther_38 {x0 : Int} (h0 : x0 = 17) : ¬ (x0 = 23 ∨ x0 = 24) := by omega
theorem la_waysOfOther_39 {x0 : Int} (h0 : x0 = 17) : ¬ (x0 = 25 ∨ x0 = 26) := by omega
theorem la_waysOfOther_40 {x0 : Int} (h0 : x0 = 17) : ¬ x0 = 27 := by omega
theorem la_waysOfOther_41 {x0 : Int} (h0 : x0 = 17) : ¬ x0 = 28 := by omega
theorem la_waysOfOther_42 {x0 : Int} (h0 : x0 = 17) : ¬ x0 = 29 := by omega
theorem la_waysOfOther_43 {x0 : Int} (h0 : x0 = 17) : ¬ x0 = 30 := by omega
theorem la_waysOfOther_44 {x0 : Int} (h0 : 0 ≤ x0) (h1 : x0 ≤ 400) : sv_R (x0 - 1) := by omega
theorem la_waysOfOther_45 {x0 x1 x2 : Int} (h0 : x0 = x1) (h1 : 1 ≤ x1) (h2 : x2 = x0 - 1) : 0 ≤ x2 := by omega
theorem la_waysOfOther_46 {x0 x1 x2 : Int} (h0 : x0 = x1) (h1 : x1 ≤ 396) (h2 : x2 = x0 - 1) : x2 ≤ 400 := by omega
theorem la_waysOfOther_47 {x0 x1 x2 x3 : Int} (h0 : x0 = x1) (h1 : x2 = x1 + (-1)) (h2 : x3 = x0 - 1) : x3 = x2 := by omega
theorem la_waysOfOther_48 {x0 x1 x2 x3 x4 x5 x6 x7 x8 x9 x10 : Int} (h0 : x0 = x1) (h1 : 641 * (x2 + x3 + x4 + x5) + x6 ≤ 641 * (x7 + x0 + x8 + x9) + x10) : 641 * (x2 + x3 + x4 + x5) + x6 ≤ 641 * (x7 + x1 + x8 + x9) + x10 := by omega
theorem la_waysOfOther_49 {x0 : Int} (h0 : x0 = 18) : ¬ x0 = 17 := by omega
theorem la_waysOfOther_50 {x0 : Int} (h0 : x0 = 18) : ¬ x0 = 19 := by omega
theorem la_waysOfOther_51 {x0 : Int} (h0 : x0 = 18) : ¬ x0 = 20 := by omega
theorem la_waysOfOther_52 {x0 : Int} (h0 : x0 = 18) : ¬ x0 = 21 := by omega
theorem la_waysOfOther_53 {x0 : Int} (h0 : x0 = 18) : ¬ x0 = 22 := by omega
theorem la_waysOfOther_54 {x0 : Int} (h0 : x0 = 18) : ¬ (x0 = 23 ∨ x0 = 24) := by omega
theorem la_waysOfOther_55 {x0 : Int} (h0 : x0 = 18) : ¬ (x0 = 25 ∨ x0 = 26) := by omega
theorem la_waysOfOther_56 {x0 : Int} (h0 : x0 = 18) : ¬ x0 = 27 := by omega
theorem la_waysOfOther_57 {x0 : Int} (h0 : x0 = 18) : ¬ x0 = 28 := by omega
theorem la_waysOfOther_58 {x0 : Int} (h0 : x0 = 18) : ¬ x0 = 29 := by omega
theorem la_waysOfOther_59 {x0 : Int} (h0 : x0 = 18) : ¬ x0 = 30 := by omega
theorem la_waysOfOther_60 {x0 x1 : Int} (h0 : 0 ≤ x0) (h1 : x0 ≤ 400) (h2 : x1 = 647340 + x0) : (0 : Int) ≤ 647740 ∧ (647740 : Int) < 647800 ∧ 635639 ≤ x1 ∧ x1 < 647800 := by omega
theorem la_waysOfOther_61 {x0 x1 x2 x3 x4 x5 x6 x7 x8 x9 x10 x11 x12 : Int} (h0 : x0 = x1) (h1 : x2 = x0) (h2 : x3 = x2) (h3 : 641 * (x4 + x5 + x6 + x7) + x8 ≤ 641 * (x9 + x3 + x10 + x11) + x12) : 641 * (x4 + x5 + x6 + x7) + x8 ≤ 641 * (x9 + x1 + x10 + x11) + x12 := by omega
theorem la_waysOfOther_62 {x0 : Int} (h0 : x0 = 19) : ¬ x0 = 17 := by omega
theorem la_waysOfOther_63 {x0 : Int} (h0 : x0 = 19) : ¬ x0 = 18 := by omega
theorem la_waysOfOther_64 {x0 : Int} (h0 : x0 = 19) : ¬ x0 = 20 := by omega
theorem la_waysOfOther_65 {x0 : Int} (h0 : x0 = 19) : ¬ x0 = 21 := by omega
theorem la_waysOfOther_66 {x0 : Int} (h0 : x0 = 19) : ¬ x0 = 22 := by omega
theorem la_waysOfOther_67 {x0 : Int} (h0 : x0 = 19) : ¬ (x0 = 23 ∨ x0 = 24) := by omega
theorem la_waysOfOther_68 {x0 : Int} (h0 : x0 = 19) : ¬ (x0 = 25 ∨ x0 = 26) := by omega
theorem la_waysOfOther_69 {x0 : Int} (h0 : x0 = 19) : ¬ x0 = 27 := by omega
theorem la_waysOfOther_70 {x0 : Int} (h0 : x0 = 19) : ¬ x0 = 28 := by omega
theorem la_waysOfOther_71 {x0 : Int} (h0 : x0 = 19) : ¬ x0 = 29 := by omega
theorem la_waysOfOther_72 {x0 : Int} (h0 : x0 = 19) : ¬ x0 = 30 := by omega
theorem la_waysOfOther_73 {x0 x1 x2 : Int} (h0 : x0 = 647340) (h1 : x1 = x2) (h2 : x2 ≤ 396) (h3 : 2 ≤ x2) : x0 = 647340 ∧ 0 ≤ x1 ∧ x1 ≤ 400 ∧ ((-1) : Int) ≤ 1 ∧ (1 : Int) ≤ 1000 := by omega
theorem la_waysOfOther_74 {x0 x1 x2 : Int} (h0 : x0 = 647340) (h1 : x1 = x2) (h2 : x2 ≤ 396) (h3 : 2 ≤ x2) : x0 = 647340 ∧ 0 ≤ x1 ∧ x1 ≤ 400 ∧ x1 < 400 := by omega
theorem la_waysOfOther_75 {x0 x1 x2 : Int} (h0 : 0 ≤ x0) (h1 : x0 ≤ 400) (h2 : x1 = 647339 + x0 - 1) (h3 : x2 = 647340 + x0) : 0 ≤ x1 ∧ x1 < 647800 ∧ 635639 ≤ x2 ∧ x2 < 647800 := by omega
theorem la_waysOfOther_76 {x0 x1 x2 x3 : Int} (h0 : x0 = 647340) (h1 : x1 = x2) (h2 : x2 ≤ 396) (h3 : 2 ≤ x2) (h4 : x3 = x1 + 1) : x0 = 647340 ∧ 0 ≤ x3 ∧ x3 ≤ 400 ∧ x3 < 400 := by omega
theorem la_waysOfOther_77 {x0 x1 x2 : Int} (h0 : 0 ≤ x0) (h1 : x0 ≤ 400) (h2 : x1 = x0 + 1) (h3 : x2 = 647340 + x1) : (0 : Int) ≤ 647740 ∧ (647740 : Int) < 647800 ∧ 635639 ≤ x2 ∧ x2 < 647800 := by omega
theorem la_waysOfOther_78 {x0 x1 x2 : Int} (h0 : 0 ≤ x0) (h1 : x1 = x0 + 1) (h2 : x2 = x1 + 1) : 0 ≤ x2 := by omega
theorem la_waysOfOther_79 {x0 x1 x2 x3 : Int} (h0 : x0 = x1) (h1 : x1 ≤ 396) (h2 : x2 = x0 + 1) (h3 : x3 = x2 + 1) : x3 ≤ 400 := by omega
theorem la_waysOfOther_80 {x0 x1 x2 x3 x4 x5 x6 x7 x8 x9 : Int} (h0 : 0 ≤ x0) (h1 : x1 = x2) (h2 : x3 = x4) (h3 : x0 + 1 < x5) (h4 : x6 = x2 + 2) (h5 : x7 = x4) (h6 : x8 = x1 + 1) (h7 : x9 = x8 + 1) : 0 ≤ x0 ∧ x0 + 1 < x5 ∧ x9 = x6 ∧ x7 = x3 := by omega
theorem la_waysOfOther_81 {x0 x1 x2 x3 x4 x5 x6 x7 x8 x9 x10 x11 x12 x13 x14 : Int} (h0 : x0 = x1) (h1 : x2 = x0) (h2 : x3 = x2) (h3 : x4 = x3) (h4 : x5 = x4) (h5 : 641 * (x6 + x7 + x8 + x9) + x10 ≤ 641 * (x11 + x5 + x12 + x13) + x14) : 641 * (x6 + x7 + x8 + x9) + x10 ≤ 641 * (x11 + x1 + x12 + x13) + x14 := by omega
theorem la_waysOfOther_82 {x0 : Int} (h0 : x0 = 20) : ¬ x0 = 17 := by omega
theorem la_waysOfOther_83 {x0 : Int} (h0 : x0 = 20) : ¬ x0 = 18 := by omega
theorem la_waysOfOther_84 {x0 : Int} (h0 : x0 = 20) : ¬ x0 = 19 := by omega
theorem la_waysOfOther_85 {x0 : Int} (h0 : x0 = 20) : ¬ x0 = 21 := by omega
theorem la_waysOfOther_86 {x0 : Int} (h0 : x0 = 20) : ¬ x0 = 22 := by omega
theorem la_waysOfOther_87 {x0 : Int} (h0 : x0 = 20) : ¬ (x0 = 23 ∨ x0 = 24) := by omega
theorem la_waysOfOther_88 {x0 : Int} (h0 : x0 = 20) : ¬ (x0 = 25 ∨ x0 = 26) := by omega
theorem la_waysOfOther_89 {x0 : Int} (h0 : x0 = 20) : ¬ x0 = 27 := by omega
theorem la_waysOfOther_90 {x0 : Int} (h0 : x0 = 20) : ¬ x0 = 28 := by omega
theorem la_waysOfOther_91 {x0 : Int} (h0 : x0 = 20) : ¬ x0 = 29 := by omega
theorem la_waysOfOther_92 {x0 : Int} (h0 : x0 = 20) : ¬ x0 = 30 := by omega
theorem la_waysOfOther_93 {x0 x1 x2 : Int} (h0 : x0 = 647340) (h1 : x1 = x2) (h2 : x2 ≤ 396) (h3 : 3 ≤ x2) : x0 = 647340 ∧ 0 ≤ x1 ∧ x1 ≤ 400 ∧ x1 < 400 := by omega
theorem la_waysOfOther_94 {x0 x1 : Int} (h0 : 0 ≤ x0) (h1 : x0 ≤ 400) (h2 : x1 = 647340 + x0) : sv_R (x1 - 1) := by omega
theorem la_waysOfOther_95 {x0 x1 : Int} (h0 : 0 ≤ x0) (h1 : x0 ≤ 400) (h2 : x1 = 647340 + x0) : 0 ≤ x1 - 1 ∧ x1 - 1 < 647800 ∧ 635639 ≤ x1 ∧ x1 < 647800 := by omega
theorem la_waysOfOther_96 {x0 x1 : Int} (h0 : 0 ≤ x0) (h1 : x0 ≤ 400) (h2 : x1 = 647340 + x0) : sv_R (x1 - 2) := by omega
theorem la_waysOfOther_97 {x0 x1 : Int} (h0 : 0 ≤ x0) (h1 : x0 ≤ 400) (h2 : x1 = 647340 + x0) : 0 ≤ x1 - 2 ∧ x1 - 2 < 647800 ∧ 635639 ≤ x1 - 1 ∧ x1 - 1 < 647800 := by omega
theorem la_waysOfOther_98 {x0 x1 : Int} (h0 : 0 ≤ x0) (h1 : x0 ≤ 400) (h2 : x1 = 647340 + x0) : sv_R (x1 - 3) := by omega
theorem la_waysOfOther_99 {x0 x1 : Int} (h0 : 0 ≤ x0) (h1 : x0 ≤ 400) (h2 : x1 = 647340 + x0) : 0 ≤ x1 - 3 ∧ x1 - 3 < 647800 ∧ 635639 ≤ x1 - 2 ∧ x1 - 2 < 647800 := by omega
theorem la_waysOfOther_100 {x0 x1 : Int} (h0 : 0 ≤ x0) (h1 : x0 ≤ 400) (h2 : x1 = 647340 + x0) : (0 : Int) ≤ 647740 ∧ (647740 : Int) < 647800 ∧ 635639 ≤ x1 - 3 ∧ x1 - 3 < 647800 := by omega
theorem la_waysOfOther_101 {x0 x1 x2 : Int} (h0 : x0 = x1) (h1 : 3 ≤ x1) (h2 : x2 = x0 + 1) : 0 ≤ x2 := by omega
theorem la_waysOfOther_102 {x0 x1 x2 x3 x4 x5 x6 x7 x8 x9 x10 x11 x12 x13 x14 x15 : Int} (h0 : x0 = x1) (h1 : x2 = x0) (h2 : x3 = x2) (h3 : x4 = x3) (h4 : x5 = x4) (h5 : x6 = x5) (h6 : 641 * (x7 + x8 + x9 + x10) + x11 ≤ 641 * (x12 + x6 + x13 + x14) + x15) : 641 * (x7 + x8 + x9 + x10) + x11 ≤ 641 * (x12 + x1 + x13 + x14) + x15 := by omega
theorem la_waysOfOther_103 {x0 : Int} (h0 : x0 = 21) : ¬ x0 = 17 := by omega
theorem la_waysOfOther_104 {x0 : Int} (h0 : x0 = 21) : ¬ x0 = 18 := by omega
theorem la_waysOfOther_105 {x0 : Int} (h0 : x0 = 21) : ¬ x0 = 19 := by omega
theorem la_waysOfOther_106 {x0 : Int} (h0 : x0 = 21) : ¬ x0 = 20 := by omega
theorem la_waysOfOther_107 {x0 : Int} (h0 : x0 = 21) : ¬ x0 = 22 := by omega
theorem la_waysOfOther_108 {x0 : Int} (h0 : x0 = 21) : ¬ (x0 = 23 ∨ x0 = 24) := by omega
theorem la_waysOfOther_109 {x0 : Int} (h0 : x0 = 21) : ¬ (x0 = 25 ∨ x0 = 26) := by omega
theorem la_waysOfOther_110 {x0 : Int} (h0 : x0 = 21) : ¬ x0 = 27 := by omega
theorem la_waysOfOther_111 {x0 : Int} (h0 : x0 = 21) : ¬ x0 = 28 := by omega
theorem la_waysOfOther_112 {x0 : Int} (h0 : x0 = 21) : ¬ x0 = 29 := by omega
theorem la_waysOfOther_113 {x0 : Int} (h0 : x0 = 21) : ¬ x0 = 30 := by omega
theorem la_waysOfOther_114 {x0 x1 x2 x3 x4 x5 x6 x7 : Int} (h0 : x0 = x1) (h1 : x2 = x3) (h2 : 0 ≤ x4) (h3 : x4 < x5) (h4 : x6 = x1 + 0) (h5 : x7 = x3) : 0 ≤ x4 ∧ x4 < x5 ∧ x0 = x6 ∧ x7 = x2 := by omega
theorem la_waysOfOther_115 : (0 : Int) ≤ 647740 := by omega
theorem la_waysOfOther_116 : (647740 : Int) < 647800 := by omega
theorem la_waysOfOther_117 {x0 x1 x2 x3 x4 x5 x6 x7 x8 x9 : Int} (h0 : x0 = 22 → 1 ≤ x1 ∧ x2 + 1 < x3 ∧ x4 = x1 + (-1) ∧ x5 = x6 ∧ 0 ≤ x7 ∧ x7 < x3 ∧ x8 = x1 + (-1) ∧ x9 = x6) (h1 : x0 = 23 ∨ x0 = 24 → 1 ≤ x1 ∧ x2 + 1 < x3 ∧ x4 = x1 + (-1) ∧ x5 = x6 ∧ 0 ≤ x7 ∧ x7 < x3 ∧ x8 = x1 + 0 ∧ x9 = x6) (h2 : x0 = 25 ∨ x0 = 26 → 1 ≤ x1) (h3 : x0 = 22 ∨ x0 = 23 ∨ x0 = 24) : 1 ≤ x1 := by omega
theorem la_waysOfOther_118 {x0 x1 x2 x3 x4 x5 x6 x7 x8 x9 : Int} (h0 : x0 = 22 → 1 ≤ x1 ∧ x2 + 1 < x3 ∧ x4 = x1 + (-1) ∧ x5 = x6 ∧ 0 ≤ x7 ∧ x7 < x3 ∧ x8 = x1 + (-1) ∧ x9 = x6) (h1 : x0 = 23 ∨ x0 = 24 → 1 ≤ x1 ∧ x2 + 1 < x3 ∧ x4 = x1 + (-1) ∧ x5 = x6 ∧ 0 ≤ x7 ∧ x7 < x3 ∧ x8 = x1 + 0 ∧ x9 = x6) (h2 : x0 = 22 ∨ x0 = 23 ∨ x0 = 24) : x2 + 1 < x3 := by omega
theorem la_waysOfOther_119 {x0 x1 x2 x3 x4 x5 x6 x7 x8 x9 : Int} (h0 : x0 = 22 → 1 ≤ x1 ∧ x2 + 1 < x3 ∧ x4 = x1 + (-1) ∧ x5 = x6 ∧ 0 ≤ x7 ∧ x7 < x3 ∧ x8 = x1 + (-1) ∧ x9 = x6) (h1 : x0 = 23 ∨ x0 = 24 → 1 ≤ x1 ∧ x2 + 1 < x3 ∧ x4 = x1 + (-1) ∧ x5 = x6 ∧ 0 ≤ x7 ∧ x7 < x3 ∧ x8 = x1 + 0 ∧ x9 = x6) (h2 : x0 = 22 ∨ x0 = 23 ∨ x0 = 24) : x4 = x1 + (-1) := by omega
theorem la_waysOfOther_120 {x0 x1 x2 x3 x4 x5 x6 x7 x8 x9 : Int} (h0 : x0 = 22 → 1 ≤ x1 ∧ x2 + 1 < x3 ∧ x4 = x1 + (-1) ∧ x5 = x6 ∧ 0 ≤ x7 ∧ x7 < x3 ∧ x8 = x1 + (-1) ∧ x9 = x6) (h1 : x0 = 23 ∨ x0 = 24 → 1 ≤ x1 ∧ x2 + 1 < x3 ∧ x4 = x1 + (-1) ∧ x5 = x6 ∧ 0 ≤ x7 ∧ x7 < x3 ∧ x8 = x1 + 0 ∧ x9 = x6) (h2 : x0 = 22 ∨ x0 = 23 ∨ x0 = 24) : x5 = x6 := by omega
theorem la_waysOfOther_121 {x0 x1 x2 x3 x4 x5 x6 x7 x8 x9 : Int} (h0 : x0 = 21 → 0 ≤ x1 ∧ x1 < x2 ∧ x3 = x4 + 0 ∧ x5 = x6) (h1 : x0 = 22 → 1 ≤ x4 ∧ x7 + 1 < x2 ∧ x8 = x4 + (-1) ∧ x9 = x6 ∧ 0 ≤ x1 ∧ x1 < x2 ∧ x3 = x4 + (-1) ∧ x5 = x6) (h2 : x0 = 23 ∨ x0 = 24 → 1 ≤ x4 ∧ x7 + 1 < x2 ∧ x8 = x4 + (-1) ∧ x9 = x6 ∧ 0 ≤ x1 ∧ x1 < x2 ∧ x3 = x4 + 0 ∧ x5 = x6) (h3 : x0 = 22 ∨ x0 = 23 ∨ x0 = 24) : 0 ≤ x1 := by omega
theorem la_waysOfOther_122 {x0 x1 x2 x3 x4 x5 x6 x7 x8 x9 : Int} (h0 : x0 = 21 → 0 ≤ x1 ∧ x1 < x2 ∧ x3 = x4 + 0 ∧ x5 = x6) (h1 : x0 = 22 → 1 ≤ x4 ∧ x7 + 1 < x2 ∧ x8 = x4 + (-1) ∧ x9 = x6 ∧ 0 ≤ x1 ∧ x1 < x2 ∧ x3 = x4 + (-1) ∧ x5 = x6) (h2 : x0 = 23 ∨ x0 = 24 → 1 ≤ x4 ∧ x7 + 1 < x2 ∧ x8 = x4 + (-1) ∧ x9 = x6 ∧ 0 ≤ x1 ∧ x1 < x2 ∧ x3 = x4 + 0 ∧ x5 = x6) (h3 : x0 = 22 ∨ x0 = 23 ∨ x0 = 24) : x1 < x2 := by omega
theorem la_waysOfOther_123 {x0 x1 x2 x3 x4 x5 x6 x7 x8 x9 : Int} (h0 : x0 = 21 → 0 ≤ x1 ∧ x1 < x2 ∧ x3 = x4 + 0 ∧ x5 = x6) (h1 : x0 = 22 → 1 ≤ x4 ∧ x7 + 1 < x2 ∧ x8 = x4 + (-1) ∧ x9 = x6 ∧ 0 ≤ x1 ∧ x1 < x2 ∧ x3 = x4 + (-1) ∧ x5 = x6) (h2 : x0 = 23 ∨ x0 = 24 → 1 ≤ x4 ∧ x7 + 1 < x2 ∧ x8 = x4 + (-1) ∧ x9 = x6 ∧ 0 ≤ x1 ∧ x1 < x2 ∧ x3 = x4 + 0 ∧ x5 = x6) (h3 : x0 = 22 ∨ x0 = 23 ∨ x0 = 24) : x5 = x6 := by omega
theorem la_waysOfOther_124 {x0 x1 x2 x3 x4 x5 x6 x7 x8 x9 : Int} (h0 : x0 = 21 → 0 ≤ x1 ∧ x1 < x2 ∧ x3 = x4 + 0 ∧ x5 = x6) (h1 : x0 = 22 → 1 ≤ x4 ∧ x7 + 1 < x2 ∧ x8 = x4 + (-1) ∧ x9 = x6 ∧ 0 ≤ x1 ∧ x1 < x2 ∧ x3 = x4 + (-1) ∧ x5 = x6) : x0 = 22 → x3 = x4 - 1 := by omega
theorem la_waysOfOther_125 {x0 x1 : Int} (h0 : x0 = x1 + 0) : x0 = x1 := by omega
theorem la_waysOfOther_126 {x0 : Int} (h0 : x0 = 25) : ¬ x0 = 17 := by omega
theorem la_waysOfOther_127 {x0 : Int} (h0 : x0 = 25) : ¬ x0 = 18 := by omega
theorem la_waysOfOther_128 {x0 : Int} (h0 : x0 = 25) : ¬ x0 = 19 := by omega
theorem la_waysOfOther_129 {x0 : Int} (h0 : x0 = 25) : ¬ x0 = 20 := by omega
theorem la_waysOfOther_130 {x0 : Int} (h0 : x0 = 25) : ¬ x0 = 21 := by omega
theorem la_waysOfOther_131 {x0 : Int} (h0 : x0 = 25) : ¬ x0 = 22 := by omega
theorem la_waysOfOther_132 {x0 : Int} (h0 : x0 = 25) : ¬ (x0 = 23 ∨ x0 = 24) := by omega
theorem la_waysOfOther_133 {x0 : Int} (h0 : x0 = 25) : x0 = 25 ∨ x0 = 26 := by omega
theorem la_waysOfOther_134 {x0 : Int} (h0 : x0 = 25) : ¬ x0 = 27 := by omega
theorem la_waysOfOther_135 {x0 : Int} (h0 : x0 = 25) : ¬ x0 = 28 := by omega
theorem la_waysOfOther_136 {x0 : Int} (h0 : x0 = 25) : ¬ x0 = 29 := by omega
theorem la_waysOfOther_137 {x0 : Int} (h0 : x0 = 25) : ¬ x0 = 30 := by omega
theorem la_waysOfOther_138 {x0 : Int} (h0 : x0 = 0) : 0 ≤ x0 := by omega
theorem la_waysOfOther_139 {x0 : Int} (h0 : x0 = 0) : x0 ≤ 400 := by omega
theorem la_waysOfOther_140 {x0 : Int} (h0 : x0 = 0) : x0 < 400 := by omega
theorem la_waysOfOther_141 {x0 x1 : Int} (h0 : x0 = 647340 + x1) (h1 : x1 = 0) : (0 : Int) ≤ 647740 ∧ (647740 : Int) < 647800 ∧ 635639 ≤ x0 ∧ x0 < 647800 := by omega
theorem la_waysOfOther_142 {x0 x1 x2 : Int} (h0 : 1 ≤ x0) (h1 : x1 + 2 * x0 ≤ 500) (h2 : 0 ≤ x2) (h3 : x2 < x1) : 0 ≤ x2 ∧ x2 < 600 := by omega
theorem la_waysOfOther_143 {x0 x1 x2 : Int} (h0 : 0 ≤ x0) (h1 : x0 + 2 * x1 ≤ 500) (h2 : 0 ≤ x2) (h3 : x2 < x1) : sv_R (x0 + 2 * x2) := by omega
theorem la_waysOfOther_144 {x0 x1 : Int} (h0 : x0 = x1 + 1) (h1 : x1 = 0) : 0 ≤ x0 := by omega
theorem la_waysOfOther_145 {x0 x1 : Int} (h0 : x0 = x1 + 1) (h1 : x1 = 0) : x0 ≤ 400 := by omega
theorem la_waysOfOther_146 {x0 x1 x2 : Int} (h0 : 0 ≤ x0) (h1 : x0 < x1) (h2 : 0 ≤ x2) : 0 ≤ x1 + 2 * x2 := by omega
theorem la_waysOfOther_147 {x0 x1 x2 : Int} (h0 : x0 < x1) : x2 + 2 * x0 < x2 + 2 * x1 := by omega
theorem la_waysOfOther_148 {x0 x1 : Int} (h0 : 0 ≤ x0) : x1 ≤ x1 + 2 * x0 := by omega
theorem la_waysOfOther_149 {x0 x1 x2 : Int} (h0 : x0 = x1 + 1) (h1 : x1 = 0) (h2 : x2 = 1) : x0 = x2 := by omega
theorem la_waysOfOther_150 {x0 x1 x2 : Int} (h0 : 0 ≤ x0) (h1 : x1 + 2 * x0 < x1) : 0 ≤ x2 := by omega
theorem la_waysOfOther_151 {x0 x1 x2 x3 : Int} (h0 : 0 ≤ x0) (h1 : x1 + 2 * x0 < x1) : x2 = x3 := by omega
theorem la_waysOfOther_152 {x0 : Int} (h0 : x0 = 26) : ¬ x0 = 17 := by omega
theorem la_waysOfOther_153 {x0 : Int} (h0 : x0 = 26) : ¬ x0 = 18 := by omega
theorem la_waysOfOther_154 {x0 : Int} (h0 : x0 = 26) : ¬ x0 = 19 := by omega
theorem la_waysOfOther_155 {x0 : Int} (h0 : x0 = 26) : ¬ x0 = 20 := by omega
theorem la_waysOfOther_156 {x0 : Int} (h0 : x0 = 26) : ¬ x0 = 21 := by omega
theorem la_waysOfOther_157 {x0 : Int} (h0 : x0 = 26) : ¬ x0 = 22 := by omega
theorem la_waysOfOther_158 {x0 : Int} (h0 : x0 = 26) : ¬ (x0 = 23 ∨ x0 = 24) := by omega
theorem la_waysOfOther_159 {x0 : Int} (h0 : x0 = 26) : x0 = 25 ∨ x0 = 26 := by omega
theorem la_waysOfOther_160 {x0 : Int} (h0 : x0 = 26) : ¬ x0 = 27 := by omega
theorem la_waysOfOther_161 {x0 : Int} (h0 : x0 = 26) : ¬ x0 = 28 := by omega
theorem la_waysOfOther_162 {x0 : Int} (h0 : x0 = 26) : ¬ x0 = 29 := by omega
theorem la_waysOfOther_163 {x0 : Int} (h0 : x0 = 26) : ¬ x0 = 30 := by omega
theorem la_waysOfOther_164 {x0 x1 : Int} (h0 : 0 ≤ x0) (h1 : x0 < x1) : 0 ≤ x0 ∧ x0 < x1 := by omega
theorem la_waysOfOther_165 {x0 : Int} (h0 : x0 = 27) : ¬ x0 = 17 := by omega
theorem la_waysOfOther_166 {x0 : Int} (h0 : x0 = 27) : ¬ x0 = 18 := by omega
theorem la_waysOfOther_167 {x0 : Int} (h0 : x0 = 27) : ¬ x0 = 19 := by omega
theorem la_waysOfOther_168 {x0 : Int} (h0 : x0 = 27) : ¬ x0 = 20 := by omega
theorem la_waysOfOther_169 {x0 : Int} (h0 : x0 = 27) : ¬ x0 = 21 := by omega
theorem la_waysOfOther_170 {x0 : Int} (h0 : x0 = 27) : ¬ x0 = 22 := by omega
theorem la_waysOfOther_171 {x0 : Int} (h0 : x0 = 27) : ¬ (x0 = 23 ∨ x0 = 24) := by omega
theorem la_waysOfOther_172 {x0 : Int} (h0 : x0 = 27) : ¬ (x0 = 25 ∨ x0 = 26) := by omega
theorem la_waysOfOther_173 {x0 : Int} (h0 : x0 = 27) : ¬ x0 = 28 := by omega
theorem la_waysOfOther_174 {x0 : Int} (h0 : x0 = 27) : ¬ x0 = 29 := by omega
theorem la_waysOfOther_175 {x0 : Int} (h0 : x0 = 27) : ¬ x0 = 30 := by omega
theorem la_waysOfOther_176 {x0 x1 : Int} (h0 : 0 ≤ x0) (h1 : 25560 + x0 = x1) : 0 ≤ x1 := by omega
theorem la_waysOfOther_177 {x0 x1 x2 x3 x4 : Int} (h0 : x0 = x1) (h1 : x2 = x3) (h2 : x2 < 40) (h3 : 25560 + x0 = x4) (h4 : x1 = x3) : x4 < 25600 := by omega
theorem la_waysOfOther_178 {x0 : Int} (h0 : 0 ≤ x0) (h1 : x0 ≤ 40) : sv_R (x0 + 1) := by omega
theorem la_waysOfOther_179 {x0 x1 : Int} (h0 : (-1) ≤ x0) (h1 : x0 < x1) : (-1) ≤ x0 ∧ x0 < x1 := by omega
theorem la_waysOfOther_180 {x0 x1 : Int} (h0 : 0 ≤ x0) (h1 : 25560 + x0 = x1) : 25560 ≤ x1 := by omega
theorem la_waysOfOther_181 {x0 x1 x2 x3 x4 : Int} (h0 : x0 = x1) (h1 : x2 = x3) (h2 : 25560 + x0 = x4) (h3 : x1 = x3) : x4 = 25560 + x2 := by omega
theorem la_waysOfOther_182 {x0 x1 : Int} (h0 : 0 ≤ x0) (h1 : x1 = x0 + 1) : 0 ≤ x1 := by omega
theorem la_waysOfOther_183 {x0 x1 x2 x3 x4 : Int} (h0 : x0 = x1) (h1 : x2 = x3) (h2 : x2 < 40) (h3 : x4 = x0 + 1) (h4 : x1 = x3) : x4 ≤ 40 := by omega
theorem la_waysOfOther_184 {x0 x1 x2 x3 x4 x5 : Int} (h0 : x0 = x1) (h1 : x2 = x3) (h2 : x4 = x2 + 1) (h3 : x5 = x0 + 1) (h4 : x1 = x3) : x5 = x4 := by omega
theorem la_waysOfOther_185 {x0 : Int} (h0 : 0 ≤ x0) : (-1) ≤ x0 := by omega
theorem la_waysOfOther_186 {x0 x1 : Int} (h0 : x0 = 27) : 0 ≤ x1 → x0 = 27 := by omega
theorem la_waysOfOther_187 {x0 x1 x2 : Int} (h0 : x0 = x1) (h1 : x2 = x1) : x0 = x2 := by omega
theorem la_waysOfOther_188 {x0 : Int} (h0 : x0 = 28) : ¬ x0 = 17 := by omega
theorem la_waysOfOther_189 {x0 : Int} (h0 : x0 = 28) : ¬ x0 = 18 := by omega
theorem la_waysOfOther_190 {x0 : Int} (h0 : x0 = 28) : ¬ x0 = 19 := by omega
theorem la_waysOfOther_191 {x0 : Int} (h0 : x0 = 28) : ¬ x0 = 20 := by omega
theorem la_waysOfOther_192 {x0 : Int} (h0 : x0 = 28) : ¬ x0 = 21 := by omega
theorem la_waysOfOther_193 {x0 : Int} (h0 : x0 = 28) : ¬ x0 = 22 := by omega
theorem la_waysOfOther_194 {x0 : Int} (h0 : x0 = 28) : ¬ (x0 = 23 ∨ x0 = 24) := by omega
theorem la_waysOfOther_195 {x0 : Int} (h0 : x0 = 28) : ¬ (x0 = 25 ∨ x0 = 26) := by omega
theorem la_waysOfOther_196 {x0 : Int} (h0 : x0 = 28) : ¬ x0 = 27 := by omega
theorem la_waysOfOther_197 {x0 : Int} (h0 : x0 = 28) : ¬ x0 = 29 := by omega
theorem la_waysOfOther_198 {x0 : Int} (h0 : x0 = 28) : ¬ x0 = 30 := by omega
theorem la_waysOfOther_199 {x0 x1 : Int} (h0 : x0 = x1) (h1 : 0 ≤ x1) : 0 ≤ x0 := by omega
theorem la_waysOfOther_200 {x0 : Int} (h0 : 0 ≤ x0) (h1 : x0 ≤ 40) : sv_R (x0 - 1) := by omega
theorem la_waysOfOther_201 {x0 x1 x2 x3 : Int} (h0 : 1 ≤ x0) (h1 : x1 + 2 * x0 ≤ 500) (h2 : x2 < x1) (h3 : (-1) ≤ x3) (h4 : x3 < x2) : sv_R x3 := by omega
theorem la_waysOfOther_202 {x0 x1 x2 x3 : Int} (h0 : x0 = x1) (h1 : x1 < x2) (h2 : x2 + 1 < x3) : ¬ x3 ≤ x0 := by omega
theorem la_waysOfOther_203 {x0 x1 x2 x3 : Int} (h0 : x0 = x1) (h1 : 0 ≤ x2) (h2 : x1 = x2 + 1) (h3 : x3 = x0 - 1) : 0 ≤ x3 := by omega
theorem la_waysOfOther_204 {x0 x1 : Int} (h0 : x0 ≤ 40) (h1 : x1 = x0 - 1) : x1 ≤ 40 := by omega
theorem la_waysOfOther_205 {x0 x1 x2 x3 x4 : Int} (h0 : x0 = x1) (h1 : x1 = x2 + 1) (h2 : x2 = x3) (h3 : x4 = x0 - 1) : x4 = x3 := by omega
theorem la_waysOfOther_206 {x0 x1 x2 x3 x4 : Int} (h0 : x0 = x1) (h1 : x1 < x2) (h2 : x2 + 1 < x3) (h3 : x4 < x0) : x4 < x3 := by omega
theorem la_waysOfOther_207 {x0 : Int} (h0 : x0 = 29) : ¬ x0 = 17 := by omega
theorem la_waysOfOther_208 {x0 : Int} (h0 : x0 = 29) : ¬ x0 = 18 := by omega
theorem la_waysOfOther_209 {x0 : Int} (h0 : x0 = 29) : ¬ x0 = 19 := by omega
theorem la_waysOfOther_210 {x0 : Int} (h0 : x0 = 29) : ¬ x0 = 20 := by omega
theorem la_waysOfOther_211 {x0 : Int} (h0 : x0 = 29) : ¬ x0 = 21 := by omega
theorem la_waysOfOther_212 {x0 : Int} (h0 : x0 = 29) : ¬ x0 = 22 := by omega
theorem la_waysOfOther_213 {x0 : Int} (h0 : x0 = 29) : ¬ (x0 = 23 ∨ x0 = 24) := by omega
theorem la_waysOfOther_214 {x0 : Int} (h0 : x0 = 29) : ¬ (x0 = 25 ∨ x0 = 26) := by omega
theorem la_waysOfOther_215 {x0 : Int} (h0 : x0 = 29) : ¬ x0 = 27 := by omega
theorem la_waysOfOther_216 {x0 : Int} (h0 : x0 = 29) : ¬ x0 = 28 := by omega
theorem la_waysOfOther_217 {x0 : Int} (h0 : x0 = 29) : ¬ x0 = 30 := by omega
theorem la_waysOfOther_218 {x0 x1 x2 : Int} (h0 : x0 = 647340) (h1 : x1 = x2) (h2 : x2 ≤ 396) (h3 : 1 ≤ x2) : x0 = 647340 ∧ 0 ≤ x1 ∧ x1 ≤ 400 ∧ ((-1) : Int) ≤ 0 ∧ (0 : Int) ≤ 1000 := by omega
theorem la_waysOfOther_219 {x0 x1 : Int} (h0 : 0 ≤ x0) (h1 : x0 ≤ 400) (h2 : x1 = 647339 + x0 - 0) : 0 ≤ x1 ∧ x1 < 647800 := by omega
theorem la_waysOfOther_220 {x0 x1 : Int} (h0 : 0 ≤ x0) (h1 : x1 = 647339 + x0 - 0) : 635639 ≤ x1 := by omega
theorem la_waysOfOther_221 {x0 x1 x2 x3 x4 x5 x6 x7 : Int} (h0 : 0 ≤ x0) (h1 : x1 = x2) (h2 : x3 = x4) (h3 : x0 + 1 < x5) (h4 : x6 = x2 + 0) (h5 : x7 = x4) : 0 ≤ x0 ∧ x0 + 1 < x5 ∧ x1 = x6 ∧ x7 = x3 := by omega
theorem la_waysOfOther_222 {x0 x1 x2 x3 x4 x5 x6 x7 x8 x9 x10 x11 : Int} (h0 : x0 = x1) (h1 : x2 = x0) (h2 : 641 * (x3 + x4 + x5 + x6) + x7 ≤ 641 * (x8 + x2 + x9 + x10) + x11) : 641 * (x3 + x4 + x5 + x6) + x7 ≤ 641 * (x8 + x1 + x9 + x10) + x11 := by omega
theorem la_waysOfOther_223 {x0 x1 : Int} : x0 ≤ 0 → x1 = x1 := by omega
theorem la_waysOfOther_224 {x0 x1 x2 : Int} (h0 : x0 = 647340) (h1 : x1 = x2) (h2 : x2 ≤ 396) (h3 : ¬ x1 ≤ 0) : x0 = 647340 ∧ 0 ≤ x1 ∧ x1 ≤ 400 ∧ ((-1) : Int) ≤ 0 ∧ (0 : Int) ≤ 1000 := by omega
theorem la_waysOfOther_225 {x0 x1 : Int} (h0 : x0 ≤ 400) (h1 : ¬ x0 ≤ 0) (h2 : x1 = 647339 + x0 - 0) : 0 ≤ x1 ∧ x1 < 647800 ∧ (635639 : Int) ≤ 647740 ∧ (647740 : Int) < 647800 := by omega
set_option maxHeartbeats 2000000 in
theorem f_waysOfOther : ∀ (p1 : Int) (p2 : Int) (S : sv_S), sm_ok S → sv_R p1 → sv_R p2 → (29 ≤ (S 1071 0) ∧ (S 1071 0) ≤ 127 ∧ 31 ≤ (S 1008 0) ∧ (S 1008 0) ≤ 90 ∧ 1 ≤ (S 1032 0) ∧ (S 1032 0) ≤ 11 ∧ 0 ≤ (S 1055 0) ∧ (S 1055 0) ≤ 19 ∧ (S 1071 0) = 29 + 6 * ((S 1032 0) - 1) + 2 * (S 1055 0) ∧ 0 ≤ (S 1046 0) ∧ (S 1046 0) + 2 * (S 1032 0) ≤ 500 ∧ sm_PD (S 1046 0) (S 1032 0) (S 1071 0) (S 1008 0) ∧ 0 ≤ (S 1071 0) * ((S 1008 0) + 1) ∧ (S 1071 0) * ((S 1008 0) + 1) ≤ 11557 ∧ 31 ≤ (S 1007 0) ∧ (S 1007 0) ≤ 400 ∧ sm_LN (S 4) 400 (S 1007 0) ∧ (S 75 639) = 647340 ∧ sm_ST (S 71) (S 74) (S 75) (S 78) (S 79) (S 80) (S 27) (S 1100007) (S 1100023) (S 1100024) (S 1046 0) ((S 1046 0) + 2 * (S 1032 0)) (S 1127 0) ∧ 465000 ≤ (S 1127 0) ∧ (S 1127 0) + sm_hs (S 71) (S 1100007) ≤ 635000 ∧ sm_NH (S 1100007) ∧ sm_CT (S 26) (S 27) (S 28) (S 29) (S 1100007) (S 1100023) (S 1100024) (S 1100025) (S 21) (S 1046 0) (S 1032 0) (S 1008 0) (S 1055 0) ∧ (∀ k : Int, (S 1046 0) ≤ k → k < ((S 1046 0) + 2 * (S 1032 0)) → (S 1100007 k) = 1) ∧ sm_DR (S 72) (S 71) (S 1046 0) ∧ 0 ≤ (S 74 639) ∧ (S 74 639) ≤ 400 ∧ 0 ≤ (S 78 639) ∧ (S 78 639) ≤ 40 ∧ (S 78 639) = sm_dp (S 1100024) (S 1100031 0) ∧ -1 ≤ (S 1100031 0) ∧ (S 1100031 0) < (S 1046 0) ∧ (0 ≤ (S 1100031 0) → (S 26 (S 1100031 0)) = 27) ∧ sm_TC (S 79) (S 80) (S 27) (S 1100007) (S 1100023) (S 1100024) 25560 (S 1100031 0) ∧ 0 ≤ (S 1148 0) ∧ (S 1148 0) < (S 1046 0) ∧ (S 71 (S 1148 0)) = 1 ∧ (S 74 639) = (S 1100007 (S 1148 0)) ∧ (S 1100031 0) = (S 1100023 (S 1148 0)) ∧ 17 ≤ p1 ∧ p1 ≤ 30 ∧ (p1 = 17 → 1 ≤ (S 1100007 (S 1148 0)) ∧ (S 1148 0) + 1 < (S 1046 0) ∧ (S 1100007 ((S 1148 0) + 1)) = (S 1100007 (S 1148 0)) + (-1) ∧ (S 1100023 ((S 1148 0) + 1)) = (S 1100023 (S 1148 0))) ∧ (p1 = 18 → 1 ≤ (S 1100007 (S 1148 0)) ∧ (S 1148 0) + 1 < (S 1046 0) ∧ (S 1100007 ((S 1148 0) + 1)) = (S 1100007 (S 1148 0)) + 1 ∧ (S 1100023 ((S 1148 0) + 1)) = (S 1100023 (S 1148 0))) ∧ (p1 = 19 → 2 ≤ (S 1100007 (S 1148 0)) ∧ (S 1148 0) + 1 < (S 1046 0) ∧ (S 1100007 ((S 1148 0) + 1)) = (S 1100007 (S 1148 0)) + 2 ∧ (S 1100023 ((S 1148 0) + 1)) = (S 1100023 (S 1148 0))) ∧ (p1 = 20 → 3 ≤ (S 1100007 (S 1148 0)) ∧ (S 1148 0) + 1 < (S 1046 0) ∧ (S 1100007 ((S 1148 0) + 1)) = (S 1100007 (S 1148 0)) + 1 ∧ (S 1100023 ((S 1148 0) + 1)) = (S 1100023 (S 1148 0))) ∧ (p1 = 21 → 0 ≤ p2 ∧ p2 < (S 1046 0) ∧ (S 1100007 p2) = (S 1100007 (S 1148 0)) + 0 ∧ (S 1100023 p2) = (S 1100023 (S 1148 0))) ∧ (p1 = 22 → 1 ≤ (S 1100007 (S 1148 0)) ∧ (S 1148 0) + 1 < (S 1046 0) ∧ (S 1100007 ((S 1148 0) + 1)) = (S 1100007 (S 1148 0)) + (-1) ∧ (S 1100023 ((S 1148 0) + 1)) = (S 1100023 (S 1148 0)) ∧ 0 ≤ p2 ∧ p2 < (S 1046 0) ∧ (S 1100007 p2) = (S 1100007 (S 1148 0)) + (-1) ∧ (S 1100023 p2) = (S 1100023 (S 1148 0))) ∧ (p1 = 23 ∨ p1 = 24 → 1 ≤ (S 1100007 (S 1148 0)) ∧ (S 1148 0) + 1 < (S 1046 0) ∧ (S 1100007 ((S 1148 0) + 1)) = (S 1100007 (S 1148 0)) + (-1) ∧ (S 1100023 ((S 1148 0) + 1)) = (S 1100023 (S 1148 0)) ∧ 0 ≤ p2 ∧ p2 < (S 1046 0) ∧ (S 1100007 p2) = (S 1100007 (S 1148 0)) + 0 ∧ (S 1100023 p2) = (S 1100023 (S 1148 0))) ∧ (p1 = 25 ∨ p1 = 26 → 1 ≤ (S 1100007 (S 1148 0))) ∧ (p1 = 27 → (S 1100024 (S 1148 0)) < 40 ∧ p2 = (S 27 (S 1148 0)) ∧ (S 26 (S 1148 0)) = 27 ∧ (S 1148 0) + 1 < (S 1046 0) ∧ (S 1100007 ((S 1148 0) + 1)) = (S 1100007 (S 1148 0)) ∧ (S 1100023 ((S 1148 0) + 1)) = (S 1148 0)) ∧ (p1 = 28 → 0 ≤ (S 1100023 (S 1148 0)) ∧ (S 1148 0) + 1 < (S 1046 0) ∧ (S 1100007 ((S 1148 0) + 1)) = (S 1100007 (S 1148 0)) ∧ (S 1100023 ((S 1148 0) + 1)) = (S 1100023 (S 1100023 (S 1148 0)))) ∧ (p1 = 29 → 1 ≤ (S 1100007 (S 1148 0)) ∧ (S 1148 0) + 1 < (S 1046 0) ∧ (S 1100007 ((S 1148 0) + 1)) = (S 1100007 (S 1148 0)) + 0 ∧ (S 1100023 ((S 1148 0) + 1)) = (S 1100023 (S 1148 0))) ∧ (p1 = 30 → 1 ≤ (S 1100007 (S 1148 0)) ∧ (S 1148 0) + 1 < (S 1046 0) ∧ (S 1100007 ((S 1148 0) + 1)) = (S 1100007 (S 1148 0)) + 1 ∧ (S 1100023 ((S 1148 0) + 1)) = (S 1100023 (S 1148 0)) ∧ 0 ≤ p2 ∧ p2 < (S 1046 0) ∧ (S 1100007 p2) = (S 1100007 (S 1148 0)) + (-1) ∧ (S 1100023 p2) = (S 1100023 (S 1148 0)))) → ((sm_CT (S 26) (S 27) (S 28) (S 29) (S 1100007) (S 1100023) (S 1100024) (S 1100025) (S 21) (S 1046 0) (S 1032 0) (S 1008 0) (S 1055 0) → 0 ≤ (S 1148 0) → (S 1148 0) < (S 1046 0) → 0 ≤ (S 1100007 (S 1148 0)) ∧ (S 1100007 (S 1148 0)) ≤ 396 ∧ -1 ≤ (S 1100023 (S 1148 0)) ∧ (S 1100023 (S 1148 0)) < (S 1148 0)) → ((sm_CT (S 26) (S 27) (S 28) (S 29) (S 1100007) (S 1100023) (S 1100024) (S 1100025) (S 21) (S 1046 0) (S 1032 0) (S 1008 0) (S 1055 0) → 0 ≤ (S 1148 0) → (S 1148 0) < (S 1046 0) → 0 ≤ (S 29 (S 1148 0)) ∧ (S 29 (S 1148 0)) < (S 1032 0) ∧ 0 ≤ (S 1100007 (S 1148 0)) ∧ (S 1100007 (S 1148 0)) ≤ 396 ∧ -1 ≤ (S 1100023 (S 1148 0)) ∧ (S 1100023 (S 1148 0)) < (S 1148 0) ∧ 0 ≤ (S 26 (S 1148 0)) ∧ (S 26 (S 1148 0)) ≤ 30) → ((sm_CT (S 26) (S 27) (S 28) (S 29) (S 1100007) (S 1100023) (S 1100024) (S 1100025) (S 21) (S 1046 0) (S 1032 0) (S 1008 0) (S 1055 0) → sm_TC (S 79) (S 80) (S 27) (S 1100007) (S 1100023) (S 1100024) 25560 (S 1100031 0) → 0 ≤ (S 1100031 0) → (S 1100031 0) < (S 1046 0) → (S 26 (S 1100031 0)) = 27 → (0 ≤ (S 1100024 (S 1100031 0)) ∧ (S 1100024 (S 1100031 0)) < 40 ∧ sm_dp (S 1100024) (S 1100031 0) = (S 1100024 (S 1100031 0)) + 1 ∧ (S 1100024 (S 1100031 0)) = sm_dp (S 1100024) (S 1100023 (S 1100031 0)) ∧ -1 ≤ (S 1100023 (S 1100031 0)) ∧ (S 1100023 (S 1100031 0)) < (S 1100031 0)) ∧ ((S 79 (25560 + (S 1100024 (S 1100031 0)))) = (S 27 (S 1100031 0)) ∧ (S 80 (25560 + (S 1100024 (S 1100031 0)))) = (S 1100007 (S 1100031 0)) ∧ 0 ≤ (S 1100007 (S 1100031 0)) ∧ (S 1100007 (S 1100031 0)) ≤ 396) ∧ (0 ≤ (S 27 (S 1100031 0)) ∧ (S 27 (S 1100031 0)) < (S 1046 0) ∧ (S 1100007 (S 27 (S 1100031 0))) = (S 1100007 (S 1100031 0)) + 1 ∧ (S 1100023 (S 27 (S 1100031 0))) = (S 1100023 (S 1100031 0))) ∧ (0 ≤ (S 1100023 (S 1100031 0)) → (S 26 (S 1100023 (S 1100031 0))) = 27) ∧ sm_TC (S 79) (S 80) (S 27) (S 1100007) (S 1100023) (S 1100024) 25560 (S 1100023 (S 1100031 0))) → ((sm_CT (S 26) (S 27) (S 28) (S 29) (S 1100007) (S 1100023) (S 1100024) (S 1100025) (S 21) (S 1046 0) (S 1032 0) (S 1008 0) (S 1055 0) → 0 ≤ (S 1148 0) → (S 1148 0) < (S 1046 0) → (S 1100024 (S 1148 0)) = sm_dp (S 1100024) (S 1100023 (S 1148 0))) → ((0 ≤ (S 1148 0) → sm_dp (S 1100024) (S 1148 0) = (S 1100024 (S 1148 0)) + 1) → ((∀ g6 : sv_S, (sm_pt (g6 68) (g6 69) (g6 70) = sm_pt (S 68) (S 69) (S 70)) → (((p1 < (17 : Int) ∨ (29 : Int) < p1) → ((S 75 639) = 647340 ∧ 0 ≤ (S 74 639) ∧ (S 74 639) ≤ 400 ∧ (S 74 639) < 400) ∧ (∀ r16 : Int, sv_R r16 → ∀ g12 : sv_S, (r16 = 647340 + (S 74 639) ∧ (g12 74 639) = (S 74 639) + 1 ∧ sm_F1 (S 74) (g12 74) 639 ∧ sm_pt (g12 68) (g12 69) (g12 70) = sm_pt (g6 68) (g6 69) (g6 70)) → (635639 ≤ r16 ∧ r16 < 647790) ∧ (∀ g19 : sv_S, (sm_pt (g19 68) (g19 69) (g19 70) = sm_pt (g12 68) (g12 69) (g12 70)) → (29 ≤ (S 1071 0) ∧ (S 1071 0) ≤ 127 ∧ 31 ≤ (S 1008 0) ∧ (S 1008 0) ≤ 90 ∧ 1 ≤ (S 1032 0) ∧ (S 1032 0) ≤ 11 ∧ 0 ≤ (S 1055 0) ∧ (S 1055 0) ≤ 19 ∧ (S 1071 0) = 29 + 6 * ((S 1032 0) - 1) + 2 * (S 1055 0) ∧ 0 ≤ (S 1046 0) ∧ (S 1046 0) + 2 * (S 1032 0) ≤ 500 ∧ sm_PD (S 1046 0) (S 1032 0) (S 1071 0) (S 1008 0) ∧ 0 ≤ (S 1071 0) * ((S 1008 0) + 1) ∧ (S 1071 0) * ((S 1008 0) + 1) ≤ 11557 ∧ 31 ≤ (S 1007 0) ∧ (S 1007 0) ≤ 400 ∧ sm_LN (S 4) 400 (S 1007 0) ∧ (S 75 639) = 647340 ∧ sm_ST (S 71) (g12 74) (S 75) (S 78) (S 79) (S 80) (S 27) (S 1100007) (S 1100023) (S 1100024) (S 1046 0) ((S 1046 0) + 2 * (S 1032 0)) (S 1127 0) ∧ 465000 ≤ (S 1127 0) ∧ (S 1127 0) + sm_hs (S 71) (S 1100007) ≤ 635000 ∧ sm_NH (S 1100007) ∧ sm_CT (S 26) (S 27) (S 28) (S 29) (S 1100007) (S 1100023) (S 1100024) (S 1100025) (S 21) (S 1046 0) (S 1032 0) (S 1008 0) (S 1055 0) ∧ (∀ k : Int, (S 1046 0) ≤ k → k < ((S 1046 0) + 2 * (S 1032 0)) → (S 1100007 k) = 1) ∧ sm_DR (S 72) (S 71) (S 1046 0) ∧ 0 ≤ (g12 74 639) ∧ (g12 74 639) ≤ 400 ∧ 0 ≤ (S 78 639) ∧ (S 78 639) ≤ 40 ∧ (S 78 639) = sm_dp (S 1100024) (S 1100031 0) ∧ -1 ≤ (S 1100031 0) ∧ (S 1100031 0) < (S 1046 0) ∧ (0 ≤ (S 1100031 0) → (S 26 (S 1100031 0)) = 27) ∧ sm_TC (S 79) (S 80) (S 27) (S 1100007) (S 1100023) (S 1100024) 25560 (S 1100031 0) ∧ 0 ≤ (S 1148 0) ∧ (S 1148 0) + 1 < (S 1046 0) ∧ (g12 74 639) = (S 1100007 ((S 1148 0) + 1)) ∧ (S 1100023 ((S 1148 0) + 1)) = (S 1100031 0)) ∧ (∀ g25 : sv_S, (sm_ST (g25 71) (g25 74) (g25 75) (g25 78) (g25 79) (g25 80) (S 27) (S 1100007) (S 1100023) (S 1100024) (S 1046 0) ((S 1046 0) + 2 * (S 1032 0)) (g25 1127 0) ∧ 465000 ≤ (g25 1127 0) ∧ (g25 1127 0) + sm_hs (g25 71) (S 1100007) ≤ 635000 ∧ (g25 75 639) = 647340 ∧ (g25 74 639) = (g12 74 639) ∧ (g25 78 639) = (S 78 639) ∧ sm_TC (g25 79) (g25 80) (S 27) (S 1100007) (S 1100023) (S 1100024) 25560 (S 1100031 0) ∧ (∀ k : Int, (S 71 k) = 1 → (g25 71 k) = 1) ∧ sm_DR (g25 72) (g25 71) (S 1046 0) ∧ (641 * (sm_cm (g25 71) + sm_pt (g25 68) (g25 69) (g25 70) + sm_pl (g25 81) (g25 82) (g25 83) (g25 84) (g25 85) (g25 86) + sm_ps (g25 76) (g25 77)) + sm_du (g25 72)) ≤ (641 * (sm_cm (S 71) + sm_pt (g19 68) (g19 69) (g19 70) + sm_pl (S 81) (S 82) (S 83) (S 84) (S 85) (S 86) + sm_ps (S 76) (S 77)) + sm_du (S 72))) → (0 ≤ (639 : Int) ∧ (639 : Int) < 640) ∧ (sv_R (g25 74 (639 : Int)) → (sv_R ((g25 74 (639 : Int)) - (2 : Int))) ∧ (29 ≤ (S 1071 0) ∧ (S 1071 0) ≤ 127 ∧ 31 ≤ (S 1008 0) ∧ (S 1008 0) ≤ 90 ∧ 1 ≤ (S 1032 0) ∧ (S 1032 0) ≤ 11 ∧ 0 ≤ (S 1055 0) ∧ (S 1055 0) ≤ 19 ∧ (S 1071 0) = 29 + 6 * ((S 1032 0) - 1) + 2 * (S 1055 0) ∧ 0 ≤ (S 1046 0) ∧ (S 1046 0) + 2 * (S 1032 0) ≤ 500 ∧ sm_PD (S 1046 0) (S 1032 0) (S 1071 0) (S 1008 0) ∧ 0 ≤ (S 1071 0) * ((S 1008 0) + 1) ∧ (S 1071 0) * ((S 1008 0) + 1) ≤ 11557 ∧ 31 ≤ (S 1007 0) ∧ (S 1007 0) ≤ 400 ∧ sm_LN (S 4) 400 (S 1007 0) ∧ (g25 75 639) = 647340 ∧ sm_ST (g25 71) (fun i' : Int => if i' = (639 : Int) then ((g25 74 (639 : Int)) - (2 : Int)) else (g25 74) i') (g25 75) (g25 78) (g25 79) (g25 80) (S 27) (S 1100007) (S 1100023) (S 1100024) (S 1046 0) ((S 1046 0) + 2 * (S 1032 0)) (g25 1127 0) ∧ 465000 ≤ (g25 1127 0) ∧ (g25 1127 0) + sm_hs (g25 71) (S 1100007) ≤ 635000 ∧ sm_NH (S 1100007) ∧ sm_CT (S 26) (S 27) (S 28) (S 29) (S 1100007) (S 1100023) (S 1100024) (S 1100025) (S 21) (S 1046 0) (S 1032 0) (S 1008 0) (S 1055 0) ∧ (∀ k : Int, (S 1046 0) ≤ k → k < ((S 1046 0) + 2 * (S 1032 0)) → (S 1100007 k) = 1) ∧ sm_DR (g25 72) (g25 71) (S 1046 0) ∧ 0 ≤ (if 639 = (639 : Int) then ((g25 74 (639 : Int)) - (2 : Int)) else (g25 74 639)) ∧ (if 639 = (639 : Int) then ((g25 74 (639 : Int)) - (2 : Int)) else (g25 74 639)) ≤ 400 ∧ 0 ≤ (g25 78 639) ∧ (g25 78 639) ≤ 40 ∧ (g25 78 639) = sm_dp (S 1100024) (S 1100031 0) ∧ -1 ≤ (S 1100031 0) ∧ (S 1100031 0) < (S 1046 0) ∧ (0 ≤ (S 1100031 0) → (S 26 (S 1100031 0)) = 27) ∧ sm_TC (g25 79) (g25 80) (S 27) (S 1100007) (S 1100023) (S 1100024) 25560 (S 1100031 0) ∧ 0 ≤ p2 ∧ p2 < (S 1046 0) ∧ (if 639 = (639 : Int) then ((g25 74 (639 : Int)) - (2 : Int)) else (g25 74 639)) = (S 1100007 p2) ∧ (S 1100023 p2) = (S 1100031 0)) ∧ (∀ g36 : sv_S, (sm_ST (g36 71) (g36 74) (g36 75) (g36 78) (g36 79) (g36 80) (S 27) (S 1100007) (S 1100023) (S 1100024) (S 1046 0) ((S 1046 0) + 2 * (S 1032 0)) (g36 1127 0) ∧ 465000 ≤ (g36 1127 0) ∧ (g36 1127 0) + sm_hs (g36 71) (S 1100007) ≤ 635000 ∧ (g36 75 639) = 647340 ∧ (g36 74 639) = (if 639 = (639 : Int) then ((g25 74 (639 : Int)) - (2 : Int)) else (g25 74 639)) ∧ (g36 78 639) = (g25 78 639) ∧ sm_TC (g36 79) (g36 80) (S 27) (S 1100007) (S 1100023) (S 1100024) 25560 (S 1100031 0) ∧ (∀ k : Int, (g25 71 k) = 1 → (g36 71 k) = 1) ∧ sm_DR (g36 72) (g36 71) (S 1046 0) ∧ (641 * (sm_cm (g36 71) + sm_pt (g36 68) (g36 69) (g36 70) + sm_pl (g36 81) (g36 82) (g36 83) (g36 84) (g36 85) (g36 86) + sm_ps (g36 76) (g36 77)) + sm_du (g36 72)) ≤ (641 * (sm_cm (g25 71) + sm_pt (g25 68) (g25 69) (g25 70) + sm_pl (g25 81) (g25 82) (g25 83) (g25 84) (g25 85) (g25 86) + sm_ps (g25 76) (g25 77)) + sm_du (g25 72))) → (sm_ST (g36 71) (g36 74) (g36 75) (g36 78) (g36 79) (g36 80) (S 27) (S 1100007) (S 1100023) (S 1100024) (S 1046 0) ((S 1046 0) + 2 * (S 1032 0)) (g36 1127 0) ∧ 465000 ≤ (g36 1127 0) ∧ (g36 1127 0) + sm_hs (g36 71) (S 1100007) ≤ 635000 ∧ (g36 75 639) = 647340 ∧ (∀ k : Int, (S 71 k) = 1 → (g36 71 k) = 1) ∧ sm_DR (g36 72) (g36 71) (S 1046 0) ∧ (641 * (sm_cm (g36 71) + sm_pt (g36 68) (g36 69) (g36 70) + sm_pl (g36 81) (g36 82) (g36 83) (g36 84) (g36 85) (g36 86) + sm_ps (g36 76) (g36 77)) + sm_du (g36 72)) ≤ (641 * (sm_cm (S 71) + sm_pt (S 68) (S 69) (S 70) + sm_pl (S 81) (S 82) (S 83) (S 84) (S 85) (S 86) + sm_ps (S 76) (S 77)) + sm_du (S 72))))))))) ∧ ((p1 = (17 : Int)) → (0 ≤ (639 : Int) ∧ (639 : Int) < 640) ∧ (sv_R (S 74 (639 : Int)) → (sv_R ((S 74 (639 : Int)) - (1 : Int))) ∧ (29 ≤ (S 1071 0) ∧ (S 1071 0) ≤ 127 ∧ 31 ≤ (S 1008 0) ∧ (S 1008 0) ≤ 90 ∧ 1 ≤ (S 1032 0) ∧ (S 1032 0) ≤ 11 ∧ 0 ≤ (S 1055 0) ∧ (S 1055 0) ≤ 19 ∧ (S 1071 0) = 29 + 6 * ((S 1032 0) - 1) + 2 * (S 1055 0) ∧ 0 ≤ (S 1046 0) ∧ (S 1046 0) + 2 * (S 1032 0) ≤ 500 ∧ sm_PD (S 1046 0) (S 1032 0) (S 1071 0) (S 1008 0) ∧ 0 ≤ (S 1071 0) * ((S 1008 0) + 1) ∧ (S 1071 0) * ((S 1008 0) + 1) ≤ 11557 ∧ 31 ≤ (S 1007 0) ∧ (S 1007 0) ≤ 400 ∧ sm_LN (S 4) 400 (S 1007 0) ∧ (S 75 639) = 647340 ∧ sm_ST (S 71) (fun i' : Int => if i' = (639 : Int) then ((S 74 (639 : Int)) - (1 : Int)) else (S 74) i') (S 75) (S 78) (S 79) (S 80) (S 27) (S 1100007) (S 1100023) (S 1100024) (S 1046 0) ((S 1046 0) + 2 * (S 1032 0)) (S 1127 0) ∧ 465000 ≤ (S 1127 0) ∧ (S 1127 0) + sm_hs (S 71) (S 1100007) ≤ 635000 ∧ sm_NH (S 1100007) ∧ sm_CT (S 26) (S 27) (S 28) (S 29) (S 1100007) (S 1100023) (S 1100024) (S 1100025) (S 21) (S 1046 0) (S 1032 0) (S 1008 0) (S 1055 0) ∧ (∀ k : Int, (S 1046 0) ≤ k → k < ((S 1046 0) + 2 * (S 1032 0)) → (S 1100007 k) = 1) ∧ sm_DR (S 72) (S 71) (S 1046 0) ∧ 0 ≤ (if 639 = (639 : Int) then ((S 74 (639 : Int)) - (1 : Int)) else (S 74 639)) ∧ (if 639 = (639 : Int) then ((S 74 (639 : Int)) - (1 : Int)) else (S 74 639)) ≤ 400 ∧ 0 ≤ (S 78 639) ∧ (S 78 639) ≤ 40 ∧ (S 78 639) = sm_dp (S 1100024) (S 1100031 0) ∧ -1 ≤ (S 1100031 0) ∧ (S 1100031 0) < (S 1046 0) ∧ (0 ≤ (S 1100031 0) → (S 26 (S 1100031 0)) = 27) ∧ sm_TC (S 79) (S 80) (S 27) (S 1100007) (S 1100023) (S 1100024) 25560 (S 1100031 0) ∧ 0 ≤ (S 1148 0) ∧ (S 1148 0) + 1 < (S 1046 0) ∧ (if 639 = (639 : Int) then ((S 74 (639 : Int)) - (1 : Int)) else (S 74 639)) = (S 1100007 ((S 1148 0) + 1)) ∧ (S 1100023 ((S 1148 0) + 1)) = (S 1100031 0)) ∧ (∀ g47 : sv_S, (sm_ST (g47 71) (g47 74) (g47 75) (g47 78) (g47 79) (g47 80) (S 27) (S 1100007) (S 1100023) (S 1100024) (S 1046 0) ((S 1046 0) + 2 * (S 1032 0)) (g47 1127 0) ∧ 465000 ≤ (g47 1127 0) ∧ (g47 1127 0) + sm_hs (g47 71) (S 1100007) ≤ 635000 ∧ (g47 75 639) = 647340 ∧ (g47 74 639) = (if 639 = (639 : Int) then ((S 74 (639 : Int)) - (1 : Int)) else (S 74 639)) ∧ (g47 78 639) = (S 78 639) ∧ sm_TC (g47 79) (g47 80) (S 27) (S 1100007) (S 1100023) (S 1100024) 25560 (S 1100031 0) ∧ (∀ k : Int, (S 71 k) = 1 → (g47 71 k) = 1) ∧ sm_DR (g47 72) (g47 71) (S 1046 0) ∧ (641 * (sm_cm (g47 71) + sm_pt (g47 68) (g47 69) (g47 70) + sm_pl (g47 81) (g47 82) (g47 83) (g47 84) (g47 85) (g47 86) + sm_ps (g47 76) (g47 77)) + sm_du (g47 72)) ≤ (641 * (sm_cm (S 71) + sm_pt (g6 68) (g6 69) (g6 70) + sm_pl (S 81) (S 82) (S 83) (S 84) (S 85) (S 86) + sm_ps (S 76) (S 77)) + sm_du (S 72))) → (sm_ST (g47 71) (g47 74) (g47 75) (g47 78) (g47 79) (g47 80) (S 27) (S 1100007) (S 1100023) (S 1100024) (S 1046 0) ((S 1046 0) + 2 * (S 1032 0)) (g47 1127 0) ∧ 465000 ≤ (g47 1127 0) ∧ (g47 1127 0) + sm_hs (g47 71) (S 1100007) ≤ 635000 ∧ (g47 75 639) = 647340 ∧ (∀ k : Int, (S 71 k) = 1 → (g47 71 k) = 1) ∧ sm_DR (g47 72) (g47 71) (S 1046 0) ∧ (641 * (sm_cm (g47 71) + sm_pt (g47 68) (g47 69) (g47 70) + sm_pl (g47 81) (g47 82) (g47 83) (g47 84) (g47 85) (g47 86) + sm_ps (g47 76) (g47 77)) + sm_du (g47 72)) ≤ (641 * (sm_cm (S 71) + sm_pt (S 68) (S 69) (S 70) + sm_pl (S 81) (S 82) (S 83) (S 84) (S 85) (S 86) + sm_ps (S 76) (S 77)) + sm_du (S 72)))))) ∧ ((p1 = (18 : Int)) → ((S 75 639) = 647340 ∧ 0 ≤ (S 74 639) ∧ (S 74 639) ≤ 400 ∧ (S 74 639) < 400) ∧ (∀ r57 : Int, sv_R r57 → ∀ g53 : sv_S, (r57 = 647340 + (S 74 639) ∧ (g53 74 639) = (S 74 639) + 1 ∧ sm_F1 (S 74) (g53 74) 639 ∧ sm_pt (g53 68) (g53 69) (g53 70) = sm_pt (g6 68) (g6 69) (g6 70)) → (0 ≤ (647740 : Int) ∧ (647740 : Int) < 647800 ∧ 635639 ≤ r57 ∧ r57 < 647800) ∧ (∀ g60 : sv_S, (sm_pt (g60 68) (g60 69) (g60 70) = sm_pt (g53 68) (g53 69) (g53 70)) → (29 ≤ (S 1071 0) ∧ (S 1071 0) ≤ 127 ∧ 31 ≤ (S 1008 0) ∧ (S 1008 0) ≤ 90 ∧ 1 ≤ (S 1032 0) ∧ (S 1032 0) ≤ 11 ∧ 0 ≤ (S 1055 0) ∧ (S 1055 0) ≤ 19 ∧ (S 1071 0) = 29 + 6 * ((S 1032 0) - 1) + 2 * (S 1055 0) ∧ 0 ≤ (S 1046 0) ∧ (S 1046 0) + 2 * (S 1032 0) ≤ 500 ∧ sm_PD (S 1046 0) (S 1032 0) (S 1071 0) (S 1008 0) ∧ 0 ≤ (S 1071 0) * ((S 1008 0) + 1) ∧ (S 1071 0) * ((S 1008 0) + 1) ≤ 11557 ∧ 31 ≤ (S 1007 0) ∧ (S 1007 0) ≤ 400 ∧ sm_LN (S 4) 400 (S 1007 0) ∧ (S 75 639) = 647340 ∧ sm_ST (S 71) (g53 74) (S 75) (S 78) (S 79) (S 80) (S 27) (S 1100007) (S 1100023) (S 1100024) (S 1046 0) ((S 1046 0) + 2 * (S 1032 0)) (S 1127 0) ∧ 465000 ≤ (S 1127 0) ∧ (S 1127 0) + sm_hs (S 71) (S 1100007) ≤ 635000 ∧ sm_NH (S 1100007) ∧ sm_CT (S 26) (S 27) (S 28) (S 29) (S 1100007) (S 1100023) (S 1100024) (S 1100025) (S 21) (S 1046 0) (S 1032 0) (S 1008 0) (S 1055 0) ∧ (∀ k : Int, (S 1046 0) ≤ k → k < ((S 1046 0) + 2 * (S 1032 0)) → (S 1100007 k) = 1) ∧ sm_DR (S 72) (S 71) (S 1046 0) ∧ 0 ≤ (g53 74 639) ∧ (g53 74 639) ≤ 400 ∧ 0 ≤ (S 78 639) ∧ (S 78 639) ≤ 40 ∧ (S 78 639) = sm_dp (S 1100024) (S 1100031 0) ∧ -1 ≤ (S 1100031 0) ∧ (S 1100031 0) < (S 1046 0) ∧ (0 ≤ (S 1100031 0) → (S 26 (S 1100031 0)) = 27) ∧ sm_TC (S 79) (S 80) (S 27) (S 1100007) (S 1100023) (S 1100024) 25560 (S 1100031 0) ∧ 0 ≤ (S 1148 0) ∧ (S 1148 0) + 1 < (S 1046 0) ∧ (g53 74 639) = (S 1100007 ((S 1148 0) + 1)) ∧ (S 1100023 ((S 1148 0) + 1)) = (S 1100031 0)) ∧ (∀ g66 : sv_S, (sm_ST (g66 71) (g66 74) (g66 75) (g66 78) (g66 79) (g66 80) (S 27) (S 1100007) (S 1100023) (S 1100024) (S 1046 0) ((S 1046 0) + 2 * (S 1032 0)) (g66 1127 0) ∧ 465000 ≤ (g66 1127 0) ∧ (g66 1127 0) + sm_hs (g66 71) (S 1100007) ≤ 635000 ∧ (g66 75 639) = 647340 ∧ (g66 74 639) = (g53 74 639) ∧ (g66 78 639) = (S 78 639) ∧ sm_TC (g66 79) (g66 80) (S 27) (S 1100007) (S 1100023) (S 1100024) 25560 (S 1100031 0) ∧ (∀ k : Int, (S 71 k) = 1 → (g66 71 k) = 1) ∧ sm_DR (g66 72) (g66 71) (S 1046 0) ∧ (641 * (sm_cm (g66 71) + sm_pt (g66 68) (g66 69) (g66 70) + sm_pl (g66 81) (g66 82) (g66 83) (g66 84) (g66 85) (g66 86) + sm_ps (g66 76) (g66 77)) + sm_du (g66 72)) ≤ (641 * (sm_cm (S 71) + sm_pt (g60 68) (g60 69) (g60 70) + sm_pl (S 81) (S 82) (S 83) (S 84) (S 85) (S 86) + sm_ps (S 76) (S 77)) + sm_du (S 72))) → (sm_ST (g66 71) (g66 74) (g66 75) (g66 78) (g66 79) (g66 80) (S 27) (S 1100007) (S 1100023) (S 1100024) (S 1046 0) ((S 1046 0) + 2 * (S 1032 0)) (g66 1127 0) ∧ 465000 ≤ (g66 1127 0) ∧ (g66 1127 0) + sm_hs (g66 71) (S 1100007) ≤ 635000 ∧ (g66 75 639) = 647340 ∧ (∀ k : Int, (S 71 k) = 1 → (g66 71 k) = 1) ∧ sm_DR (g66 72) (g66 71) (S 1046 0) ∧ (641 * (sm_cm (g66 71) + sm_pt (g66 68) (g66 69) (g66 70) + sm_pl (g66 81) (g66 82) (g66 83) (g66 84) (g66 85) (g66 86) + sm_ps (g66 76) (g66 77)) + sm_du (g66 72)) ≤ (641 * (sm_cm (S 71) + sm_pt (S 68) (S 69) (S 70) + sm_pl (S 81) (S 82) (S 83) (S 84) (S 85) (S 86) + sm_ps (S 76) (S 77)) + sm_du (S 72))))))) ∧ ((p1 = (19 : Int)) → ((S 75 639) = 647340 ∧ 0 ≤ (S 74 639) ∧ (S 74 639) ≤ 400 ∧ -1 ≤ (1 : Int) ∧ (1 : Int) ≤ 1000) ∧ (∀ r76 : Int, sv_R r76 → (r76 = 647339 + (S 74 639) - (1 : Int)) → ((S 75 639) = 647340 ∧ 0 ≤ (S 74 639) ∧ (S 74 639) ≤ 400 ∧ (S 74 639) < 400) ∧ (∀ r82 : Int, sv_R r82 → ∀ g78 : sv_S, (r82 = 647340 + (S 74 639) ∧ (g78 74 639) = (S 74 639) + 1 ∧ sm_F1 (S 74) (g78 74) 639 ∧ sm_pt (g78 68) (g78 69) (g78 70) = sm_pt (g6 68) (g6 69) (g6 70)) → (0 ≤ r76 ∧ r76 < 647800 ∧ 635639 ≤ r82 ∧ r82 < 647800) ∧ (∀ g85 : sv_S, (sm_pt (g85 68) (g85 69) (g85 70) = sm_pt (g78 68) (g78 69) (g78 70)) → ((S 75 639) = 647340 ∧ 0 ≤ (g78 74 639) ∧ (g78 74 639) ≤ 400 ∧ (g78 74 639) < 400) ∧ (∀ r95 : Int, sv_R r95 → ∀ g91 : sv_S, (r95 = 647340 + (g78 74 639) ∧ (g91 74 639) = (g78 74 639) + 1 ∧ sm_F1 (g78 74) (g91 74) 639 ∧ sm_pt (g91 68) (g91 69) (g91 70) = sm_pt (g85 68) (g85 69) (g85 70)) → (0 ≤ (647740 : Int) ∧ (647740 : Int) < 647800 ∧ 635639 ≤ r95 ∧ r95 < 647800) ∧ (∀ g98 : sv_S, (sm_pt (g98 68) (g98 69) (g98 70) = sm_pt (g91 68) (g91 69) (g91 70)) → (29 ≤ (S 1071 0) ∧ (S 1071 0) ≤ 127 ∧ 31 ≤ (S 1008 0) ∧ (S 1008 0) ≤ 90 ∧ 1 ≤ (S 1032 0) ∧ (S 1032 0) ≤ 11 ∧ 0 ≤ (S 1055 0) ∧ (S 1055 0) ≤ 19 ∧ (S 1071 0) = 29 + 6 * ((S 1032 0) - 1) + 2 * (S 1055 0) ∧ 0 ≤ (S 1046 0) ∧ (S 1046 0) + 2 * (S 1032 0) ≤ 500 ∧ sm_PD (S 1046 0) (S 1032 0) (S 1071 0) (S 1008 0) ∧ 0 ≤ (S 1071 0) * ((S 1008 0) + 1) ∧ (S 1071 0) * ((S 1008 0) + 1) ≤ 11557 ∧ 31 ≤ (S 1007 0) ∧ (S 1007 0) ≤ 400 ∧ sm_LN (S 4) 400 (S 1007 0) ∧ (S 75 639) = 647340 ∧ sm_ST (S 71) (g91 74) (S 75) (S 78) (S 79) (S 80) (S 27) (S 1100007) (S 1100023) (S 1100024) (S 1046 0) ((S 1046 0) + 2 * (S 1032 0)) (S 1127 0) ∧ 465000 ≤ (S 1127 0) ∧ (S 1127 0) + sm_hs (S 71) (S 1100007) ≤ 635000 ∧ sm_NH (S 1100007) ∧ sm_CT (S 26) (S 27) (S 28) (S 29) (S 1100007) (S 1100023) (S 1100024) (S 1100025) (S 21) (S 1046 0) (S 1032 0) (S 1008 0) (S 1055 0) ∧ (∀ k : Int, (S 1046 0) ≤ k → k < ((S 1046 0) + 2 * (S 1032 0)) → (S 1100007 k) = 1) ∧ sm_DR (S 72) (S 71) (S 1046 0) ∧ 0 ≤ (g91 74 639) ∧ (g91 74 639) ≤ 400 ∧ 0 ≤ (S 78 639) ∧ (S 78 639) ≤ 40 ∧ (S 78 639) = sm_dp (S 1100024) (S 1100031 0) ∧ -1 ≤ (S 1100031 0) ∧ (S 1100031 0) < (S 1046 0) ∧ (0 ≤ (S 1100031 0) → (S 26 (S 1100031 0)) = 27) ∧ sm_TC (S 79) (S 80) (S 27) (S 1100007) (S 1100023) (S 1100024) 25560 (S 1100031 0) ∧ 0 ≤ (S 1148 0) ∧ (S 1148 0) + 1 < (S 1046 0) ∧ (g91 74 639) = (S 1100007 ((S 1148 0) + 1)) ∧ (S 1100023 ((S 1148 0) + 1)) = (S 1100031 0)) ∧ (∀ g104 : sv_S, (sm_ST (g104 71) (g104 74) (g104 75) (g104 78) (g104 79) (g104 80) (S 27) (S 1100007) (S 1100023) (S 1100024) (S 1046 0) ((S 1046 0) + 2 * (S 1032 0)) (g104 1127 0) ∧ 465000 ≤ (g104 1127 0) ∧ (g104 1127 0) + sm_hs (g104 71) (S 1100007) ≤ 635000 ∧ (g104 75 639) = 647340 ∧ (g104 74 639) = (g91 74 639) ∧ (g104 78 639) = (S 78 639) ∧ sm_TC (g104 79) (g104 80) (S 27) (S 1100007) (S 1100023) (S 1100024) 25560 (S 1100031 0) ∧ (∀ k : Int, (S 71 k) = 1 → (g104 71 k) = 1) ∧ sm_DR (g104 72) (g104 71) (S 1046 0) ∧ (641 * (sm_cm (g104 71) + sm_pt (g104 68) (g104 69) (g104 70) + sm_pl (g104 81) (g104 82) (g104 83) (g104 84) (g104 85) (g104 86) + sm_ps (g104 76) (g104 77)) + sm_du (g104 72)) ≤ (641 * (sm_cm (S 71) + sm_pt (g98 68) (g98 69) (g98 70) + sm_pl (S 81) (S 82) (S 83) (S 84) (S 85) (S 86) + sm_ps (S 76) (S 77)) + sm_du (S 72))) → (sm_ST (g104 71) (g104 74) (g104 75) (g104 78) (g104 79) (g104 80) (S 27) (S 1100007) (S 1100023) (S 1100024) (S 1046 0) ((S 1046 0) + 2 * (S 1032 0)) (g104 1127 0) ∧ 465000 ≤ (g104 1127 0) ∧ (g104 1127 0) + sm_hs (g104 71) (S 1100007) ≤ 635000 ∧ (g104 75 639) = 647340 ∧ (∀ k : Int, (S 71 k) = 1 → (g104 71 k) = 1) ∧ sm_DR (g104 72) (g104 71) (S 1046 0) ∧ (641 * (sm_cm (g104 71) + sm_pt (g104 68) (g104 69) (g104 70) + sm_pl (g104 81) (g104 82) (g104 83) (g104 84) (g104 85) (g104 86) + sm_ps (g104 76) (g104 77)) + sm_du (g104 72)) ≤ (641 * (sm_cm (S 71) + sm_pt (S 68) (S 69) (S 70) + sm_pl (S 81) (S 82) (S 83) (S 84) (S 85) (S 86) + sm_ps (S 76) (S 77)) + sm_du (S 72)))))))))) ∧ ((p1 = (20 : Int)) → ((S 75 639) = 647340 ∧ 0 ≤ (S 74 639) ∧ (S 74 639) ≤ 400 ∧ (S 74 639) < 400) ∧ (∀ r114 : Int, sv_R r114 → ∀ g110 : sv_S, (r114 = 647340 + (S 74 639) ∧ (g110 74 639) = (S 74 639) + 1 ∧ sm_F1 (S 74) (g110 74) 639 ∧ sm_pt (g110 68) (g110 69) (g110 70) = sm_pt (g6 68) (g6 69) (g6 70)) → (sv_R (r114 - (1 : Int))) ∧ (0 ≤ (r114 - (1 : Int)) ∧ (r114 - (1 : Int)) < 647800 ∧ 635639 ≤ r114 ∧ r114 < 647800) ∧ (∀ g118 : sv_S, (sm_pt (g118 68) (g118 69) (g118 70) = sm_pt (g110 68) (g110 69) (g110 70)) → (sv_R (r114 - (2 : Int))) ∧ (0 ≤ (r114 - (2 : Int)) ∧ (r114 - (2 : Int)) < 647800 ∧ 635639 ≤ (r114 - (1 : Int)) ∧ (r114 - (1 : Int)) < 647800) ∧ (∀ g125 : sv_S, (sm_pt (g125 68) (g125 69) (g125 70) = sm_pt (g118 68) (g118 69) (g118 70)) → (sv_R (r114 - (3 : Int))) ∧ (0 ≤ (r114 - (3 : Int)) ∧ (r114 - (3 : Int)) < 647800 ∧ 635639 ≤ (r114 - (2 : Int)) ∧ (r114 - (2 : Int)) < 647800) ∧ (∀ g132 : sv_S, (sm_pt (g132 68) (g132 69) (g132 70) = sm_pt (g125 68) (g125 69) (g125 70)) → (0 ≤ (647740 : Int) ∧ (647740 : Int) < 647800 ∧ 635639 ≤ (r114 - (3 : Int)) ∧ (r114 - (3 : Int)) < 647800) ∧ (∀ g138 : sv_S, (sm_pt (g138 68) (g138 69) (g138 70) = sm_pt (g132 68) (g132 69) (g132 70)) → (29 ≤ (S 1071 0) ∧ (S 1071 0) ≤ 127 ∧ 31 ≤ (S 1008 0) ∧ (S 1008 0) ≤ 90 ∧ 1 ≤ (S 1032 0) ∧ (S 1032 0) ≤ 11 ∧ 0 ≤ (S 1055 0) ∧ (S 1055 0) ≤ 19 ∧ (S 1071 0) = 29 + 6 * ((S 1032 0) - 1) + 2 * (S 1055 0) ∧ 0 ≤ (S 1046 0) ∧ (S 1046 0) + 2 * (S 1032 0) ≤ 500 ∧ sm_PD (S 1046 0) (S 1032 0) (S 1071 0) (S 1008 0) ∧ 0 ≤ (S 1071 0) * ((S 1008 0) + 1) ∧ (S 1071 0) * ((S 1008 0) + 1) ≤ 11557 ∧ 31 ≤ (S 1007 0) ∧ (S 1007 0) ≤ 400 ∧ sm_LN (S 4) 400 (S 1007 0) ∧ (S 75 639) = 647340 ∧ sm_ST (S 71) (g110 74) (S 75) (S 78) (S 79) (S 80) (S 27) (S 1100007) (S 1100023) (S 1100024) (S 1046 0) ((S 1046 0) + 2 * (S 1032 0)) (S 1127 0) ∧ 465000 ≤ (S 1127 0) ∧ (S 1127 0) + sm_hs (S 71) (S 1100007) ≤ 635000 ∧ sm_NH (S 1100007) ∧ sm_CT (S 26) (S 27) (S 28) (S 29) (S 1100007) (S 1100023) (S 1100024) (S 1100025) (S 21) (S 1046 0) (S 1032 0) (S 1008 0) (S 1055 0) ∧ (∀ k : Int, (S 1046 0) ≤ k → k < ((S 1046 0) + 2 * (S 1032 0)) → (S 1100007 k) = 1) ∧ sm_DR (S 72) (S 71) (S 1046 0) ∧ 0 ≤ (g110 74 639) ∧ (g110 74 639) ≤ 400 ∧ 0 ≤ (S 78 639) ∧ (S 78 639) ≤ 40 ∧ (S 78 639) = sm_dp (S 1100024) (S 1100031 0) ∧ -1 ≤ (S 1100031 0) ∧ (S 1100031 0) < (S 1046 0) ∧ (0 ≤ (S 1100031 0) → (S 26 (S 1100031 0)) = 27) ∧ sm_TC (S 79) (S 80) (S 27) (S 1100007) (S 1100023) (S 1100024) 25560 (S 1100031 0) ∧ 0 ≤ (S 1148 0) ∧ (S 1148 0) + 1 < (S 1046 0) ∧ (g110 74 639) = (S 1100007 ((S 1148 0) + 1)) ∧ (S 1100023 ((S 1148 0) + 1)) = (S 1100031 0)) ∧ (∀ g144 : sv_S, (sm_ST (g144 71) (g144 74) (g144 75) (g144 78) (g144 79) (g144 80) (S 27) (S 1100007) (S 1100023) (S 1100024) (S 1046 0) ((S 1046 0) + 2 * (S 1032 0)) (g144 1127 0) ∧ 465000 ≤ (g144 1127 0) ∧ (g144 1127 0) + sm_hs (g144 71) (S 1100007) ≤ 635000 ∧ (g144 75 639) = 647340 ∧ (g144 74 639) = (g110 74 639) ∧ (g144 78 639) = (S 78 639) ∧ sm_TC (g144 79) (g144 80) (S 27) (S 1100007) (S 1100023) (S 1100024) 25560 (S 1100031 0) ∧ (∀ k : Int, (S 71 k) = 1 → (g144 71 k) = 1) ∧ sm_DR (g144 72) (g144 71) (S 1046 0) ∧ (641 * (sm_cm (g144 71) + sm_pt (g144 68) (g144 69) (g144 70) + sm_pl (g144 81) (g144 82) (g144 83) (g144 84) (g144 85) (g144 86) + sm_ps (g144 76) (g144 77)) + sm_du (g144 72)) ≤ (641 * (sm_cm (S 71) + sm_pt (g138 68) (g138 69) (g138 70) + sm_pl (S 81) (S 82) (S 83) (S 84) (S 85) (S 86) + sm_ps (S 76) (S 77)) + sm_du (S 72))) → (sm_ST (g144 71) (g144 74) (g144 75) (g144 78) (g144 79) (g144 80) (S 27) (S 1100007) (S 1100023) (S 1100024) (S 1046 0) ((S 1046 0) + 2 * (S 1032 0)) (g144 1127 0) ∧ 465000 ≤ (g144 1127 0) ∧ (g144 1127 0) + sm_hs (g144 71) (S 1100007) ≤ 635000 ∧ (g144 75 639) = 647340 ∧ (∀ k : Int, (S 71 k) = 1 → (g144 71 k) = 1) ∧ sm_DR (g144 72) (g144 71) (S 1046 0) ∧ (641 * (sm_cm (g144 71) + sm_pt (g144 68) (g144 69) (g144 70) + sm_pl (g144 81) (g144 82) (g144 83) (g144 84) (g144 85) (g144 86) + sm_ps (g144 76) (g144 77)) + sm_du (g144 72)) ≤ (641 * (sm_cm (S 71) + sm_pt (S 68) (S 69) (S 70) + sm_pl (S 81) (S 82) (S 83) (S 84) (S 85) (S 86) + sm_ps (S 76) (S 77)) + sm_du (S 72)))))))))) ∧ ((p1 = (21 : Int)) → (29 ≤ (S 1071 0) ∧ (S 1071 0) ≤ 127 ∧ 31 ≤ (S 1008 0) ∧ (S 1008 0) ≤ 90 ∧ 1 ≤ (S 1032 0) ∧ (S 1032 0) ≤ 11 ∧ 0 ≤ (S 1055 0) ∧ (S 1055 0) ≤ 19 ∧ (S 1071 0) = 29 + 6 * ((S 1032 0) - 1) + 2 * (S 1055 0) ∧ 0 ≤ (S 1046 0) ∧ (S 1046 0) + 2 * (S 1032 0) ≤ 500 ∧ sm_PD (S 1046 0) (S 1032 0) (S 1071 0) (S 1008 0) ∧ 0 ≤ (S 1071 0) * ((S 1008 0) + 1) ∧ (S 1071 0) * ((S 1008 0) + 1) ≤ 11557 ∧ 31 ≤ (S 1007 0) ∧ (S 1007 0) ≤ 400 ∧ sm_LN (S 4) 400 (S 1007 0) ∧ (S 75 639) = 647340 ∧ sm_ST (S 71) (S 74) (S 75) (S 78) (S 79) (S 80) (S 27) (S 1100007) (S 1100023) (S 1100024) (S 1046 0) ((S 1046 0) + 2 * (S 1032 0)) (S 1127 0) ∧ 465000 ≤ (S 1127 0) ∧ (S 1127 0) + sm_hs (S 71) (S 1100007) ≤ 635000 ∧ sm_NH (S 1100007) ∧ sm_CT (S 26) (S 27) (S 28) (S 29) (S 1100007) (S 1100023) (S 1100024) (S 1100025) (S 21) (S 1046 0) (S 1032 0) (S 1008 0) (S 1055 0) ∧ (∀ k : Int, (S 1046 0) ≤ k → k < ((S 1046 0) + 2 * (S 1032 0)) → (S 1100007 k) = 1) ∧ sm_DR (S 72) (S 71) (S 1046 0) ∧ 0 ≤ (S 74 639) ∧ (S 74 639) ≤ 400 ∧ 0 ≤ (S 78 639) ∧ (S 78 639) ≤ 40 ∧ (S 78 639) = sm_dp (S 1100024) (S 1100031 0) ∧ -1 ≤ (S 1100031 0) ∧ (S 1100031 0) < (S 1046 0) ∧ (0 ≤ (S 1100031 0) → (S 26 (S 1100031 0)) = 27) ∧ sm_TC (S 79) (S 80) (S 27) (S 1100007) (S 1100023) (S 1100024) 25560 (S 1100031 0) ∧ 0 ≤ p2 ∧ p2 < (S 1046 0) ∧ (S 74 639) = (S 1100007 p2) ∧ (S 1100023 p2) = (S 1100031 0)) ∧ (∀ g150 : sv_S, (sm_ST (g150 71) (g150 74) (g150 75) (g150 78) (g150 79) (g150 80) (S 27) (S 1100007) (S 1100023) (S 1100024) (S 1046 0) ((S 1046 0) + 2 * (S 1032 0)) (g150 1127 0) ∧ 465000 ≤ (g150 1127 0) ∧ (g150 1127 0) + sm_hs (g150 71) (S 1100007) ≤ 635000 ∧ (g150 75 639) = 647340 ∧ (g150 74 639) = (S 74 639) ∧ (g150 78 639) = (S 78 639) ∧ sm_TC (g150 79) (g150 80) (S 27) (S 1100007) (S 1100023) (S 1100024) 25560 (S 1100031 0) ∧ (∀ k : Int, (S 71 k) = 1 → (g150 71 k) = 1) ∧ sm_DR (g150 72) (g150 71) (S 1046 0) ∧ (641 * (sm_cm (g150 71) + sm_pt (g150 68) (g150 69) (g150 70) + sm_pl (g150 81) (g150 82) (g150 83) (g150 84) (g150 85) (g150 86) + sm_ps (g150 76) (g150 77)) + sm_du (g150 72)) ≤ (641 * (sm_cm (S 71) + sm_pt (g6 68) (g6 69) (g6 70) + sm_pl (S 81) (S 82) (S 83) (S 84) (S 85) (S 86) + sm_ps (S 76) (S 77)) + sm_du (S 72))) → (sm_ST (g150 71) (g150 74) (g150 75) (g150 78) (g150 79) (g150 80) (S 27) (S 1100007) (S 1100023) (S 1100024) (S 1046 0) ((S 1046 0) + 2 * (S 1032 0)) (g150 1127 0) ∧ 465000 ≤ (g150 1127 0) ∧ (g150 1127 0) + sm_hs (g150 71) (S 1100007) ≤ 635000 ∧ (g150 75 639) = 647340 ∧ (∀ k : Int, (S 71 k) = 1 → (g150 71 k) = 1) ∧ sm_DR (g150 72) (g150 71) (S 1046 0) ∧ (641 * (sm_cm (g150 71) + sm_pt (g150 68) (g150 69) (g150 70) + sm_pl (g150 81) (g150 82) (g150 83) (g150 84) (g150 85) (g150 86) + sm_ps (g150 76) (g150 77)) + sm_du (g150 72)) ≤ (641 * (sm_cm (S 71) + sm_pt (S 68) (S 69) (S 70) + sm_pl (S 81) (S 82) (S 83) (S 84) (S 85) (S 86) + sm_ps (S 76) (S 77)) + sm_du (S 72))))) ∧ ((p1 = (22 : Int) ∨ p1 = (23 : Int) ∨ p1 = (24 : Int)) → (29 ≤ (S 1071 0) ∧ (S 1071 0) ≤ 127 ∧ 31 ≤ (S 1008 0) ∧ (S 1008 0) ≤ 90 ∧ 1 ≤ (S 1032 0) ∧ (S 1032 0) ≤ 11 ∧ 0 ≤ (S 1055 0) ∧ (S 1055 0) ≤ 19 ∧ (S 1071 0) = 29 + 6 * ((S 1032 0) - 1) + 2 * (S 1055 0) ∧ 0 ≤ (S 1046 0) ∧ (S 1046 0) + 2 * (S 1032 0) ≤ 500 ∧ sm_PD (S 1046 0) (S 1032 0) (S 1071 0) (S 1008 0) ∧ 0 ≤ (S 1071 0) * ((S 1008 0) + 1) ∧ (S 1071 0) * ((S 1008 0) + 1) ≤ 11557 ∧ 31 ≤ (S 1007 0) ∧ (S 1007 0) ≤ 400 ∧ sm_LN (S 4) 400 (S 1007 0) ∧ (S 75 639) = 647340 ∧ sm_ST (S 71) (S 74) (S 75) (S 78) (S 79) (S 80) (S 27) (S 1100007) (S 1100023) (S 1100024) (S 1046 0) ((S 1046 0) + 2 * (S 1032 0)) (S 1127 0) ∧ 465000 ≤ (S 1127 0) ∧ (S 1127 0) + sm_hs (S 71) (S 1100007) ≤ 635000 ∧ sm_NH (S 1100007) ∧ sm_CT (S 26) (S 27) (S 28) (S 29) (S 1100007) (S 1100023) (S 1100024) (S 1100025) (S 21) (S 1046 0) (S 1032 0) (S 1008 0) (S 1055 0) ∧ (∀ k : Int, (S 1046 0) ≤ k → k < ((S 1046 0) + 2 * (S 1032 0)) → (S 1100007 k) = 1) ∧ sm_DR (S 72) (S 71) (S 1046 0) ∧ 0 ≤ (S 74 639) ∧ (S 74 639) ≤ 400 ∧ 0 ≤ (S 78 639) ∧ (S 78 639) ≤ 40 ∧ (S 78 639) = sm_dp (S 1100024) (S 1100031 0) ∧ -1 ≤ (S 1100031 0) ∧ (S 1100031 0) < (S 1046 0) ∧ (0 ≤ (S 1100031 0) → (S 26 (S 1100031 0)) = 27) ∧ sm_TC (S 79) (S 80) (S 27) (S 1100007) (S 1100023) (S 1100024) 25560 (S 1100031 0) ∧ 0 ≤ (S 1148 0) ∧ (S 1148 0) < (S 1046 0) ∧ (S 71 (S 1148 0)) = 1 ∧ (S 74 639) = (S 1100007 (S 1148 0)) ∧ (S 1100031 0) = (S 1100023 (S 1148 0)) ∧ 0 ≤ (647740 : Int) ∧ (647740 : Int) < 647800 ∧ 1 ≤ (S 1100007 (S 1148 0)) ∧ (S 1148 0) + 1 < (S 1046 0) ∧ (S 1100007 ((S 1148 0) + 1)) = (S 1100007 (S 1148 0)) + (-1) ∧ (S 1100023 ((S 1148 0) + 1)) = (S 1100023 (S 1148 0)) ∧ 0 ≤ p2 ∧ p2 < (S 1046 0) ∧ (S 1100023 p2) = (S 1100023 (S 1148 0)) ∧ (p1 = 22 → (S 1100007 p2) = (S 1100007 (S 1148 0)) - 1) ∧ (¬ p1 = 22 → (S 1100007 p2) = (S 1100007 (S 1148 0)))) ∧ (∀ g156 : sv_S, (sm_ST (g156 71) (g156 74) (g156 75) (g156 78) (g156 79) (g156 80) (S 27) (S 1100007) (S 1100023) (S 1100024) (S 1046 0) ((S 1046 0) + 2 * (S 1032 0)) (g156 1127 0) ∧ 465000 ≤ (g156 1127 0) ∧ (g156 1127 0) + sm_hs (g156 71) (S 1100007) ≤ 635000 ∧ (g156 75 639) = 647340 ∧ (∀ k : Int, (S 71 k) = 1 → (g156 71 k) = 1) ∧ sm_DR (g156 72) (g156 71) (S 1046 0) ∧ (641 * (sm_cm (g156 71) + sm_pt (g156 68) (g156 69) (g156 70) + sm_pl (g156 81) (g156 82) (g156 83) (g156 84) (g156 85) (g156 86) + sm_ps (g156 76) (g156 77)) + sm_du (g156 72)) ≤ (641 * (sm_cm (S 71) + sm_pt (g6 68) (g6 69) (g6 70) + sm_pl (S 81) (S 82) (S 83) (S 84) (S 85) (S 86) + sm_ps (S 76) (S 77)) + sm_du (S 72))) → (sm_ST (g156 71) (g156 74) (g156 75) (g156 78) (g156 79) (g156 80) (S 27) (S 1100007) (S 1100023) (S 1100024) (S 1046 0) ((S 1046 0) + 2 * (S 1032 0)) (g156 1127 0) ∧ 465000 ≤ (g156 1127 0) ∧ (g156 1127 0) + sm_hs (g156 71) (S 1100007) ≤ 635000 ∧ (g156 75 639) = 647340 ∧ (∀ k : Int, (S 71 k) = 1 → (g156 71 k) = 1) ∧ sm_DR (g156 72) (g156 71) (S 1046 0) ∧ (641 * (sm_cm (g156 71) + sm_pt (g156 68) (g156 69) (g156 70) + sm_pl (g156 81) (g156 82) (g156 83) (g156 84) (g156 85) (g156 86) + sm_ps (g156 76) (g156 77)) + sm_du (g156 72)) ≤ (641 * (sm_cm (S 71) + sm_pt (S 68) (S 69) (S 70) + sm_pl (S 81) (S 82) (S 83) (S 84) (S 85) (S 86) + sm_ps (S 76) (S 77)) + sm_du (S 72))))) ∧ ((p1 = (25 : Int)) → (0 ≤ (639 : Int) ∧ (639 : Int) < 640) ∧ ((S 75 639) = 647340 ∧ 0 ≤ (if 639 = (639 : Int) then (0 : Int) else (S 74 639)) ∧ (if 639 = (639 : Int) then (0 : Int) else (S 74 639)) ≤ 400 ∧ (if 639 = (639 : Int) then (0 : Int) else (S 74 639)) < 400) ∧ (∀ r169 : Int, sv_R r169 → ∀ g165 : sv_S, (r169 = 647340 + (if 639 = (639 : Int) then (0 : Int) else (S 74 639)) ∧ (g165 74 639) = (if 639 = (639 : Int) then (0 : Int) else (S 74 639)) + 1 ∧ sm_F1 (fun i' : Int => if i' = (639 : Int) then (0 : Int) else (S 74) i') (g165 74) 639 ∧ sm_pt (g165 68) (g165 69) (g165 70) = sm_pt (g6 68) (g6 69) (g6 70)) → (0 ≤ (647740 : Int) ∧ (647740 : Int) < 647800 ∧ 635639 ≤ r169 ∧ r169 < 647800) ∧ (∀ g172 : sv_S, (sm_pt (g172 68) (g172 69) (g172 70) = sm_pt (g165 68) (g165 69) (g165 70)) → (sv_R (S 1046 0) → (sv_R (S 1148 0) → (0 ≤ (S 1148 0) ∧ (S 1148 0) < 600) ∧ (sv_R (S 29 (S 1148 0)) → (sv_R ((S 1046 0) + ((2 : Int) * (S 29 (S 1148 0))))) ∧ (29 ≤ (S 1071 0) ∧ (S 1071 0) ≤ 127 ∧ 31 ≤ (S 1008 0) ∧ (S 1008 0) ≤ 90 ∧ 1 ≤ (S 1032 0) ∧ (S 1032 0) ≤ 11 ∧ 0 ≤ (S 1055 0) ∧ (S 1055 0) ≤ 19 ∧ (S 1071 0) = 29 + 6 * ((S 1032 0) - 1) + 2 * (S 1055 0) ∧ 0 ≤ (S 1046 0) ∧ (S 1046 0) + 2 * (S 1032 0) ≤ 500 ∧ sm_PD (S 1046 0) (S 1032 0) (S 1071 0) (S 1008 0) ∧ 0 ≤ (S 1071 0) * ((S 1008 0) + 1) ∧ (S 1071 0) * ((S 1008 0) + 1) ≤ 11557 ∧ 31 ≤ (S 1007 0) ∧ (S 1007 0) ≤ 400 ∧ sm_LN (S 4) 400 (S 1007 0) ∧ (S 75 639) = 647340 ∧ sm_ST (S 71) (g165 74) (S 75) (S 78) (S 79) (S 80) (S 27) (S 1100007) (S 1100023) (S 1100024) (S 1046 0) ((S 1046 0) + 2 * (S 1032 0)) (S 1127 0) ∧ 465000 ≤ (S 1127 0) ∧ (S 1127 0) + sm_hs (S 71) (S 1100007) ≤ 635000 ∧ sm_NH (S 1100007) ∧ sm_CT (S 26) (S 27) (S 28) (S 29) (S 1100007) (S 1100023) (S 1100024) (S 1100025) (S 21) (S 1046 0) (S 1032 0) (S 1008 0) (S 1055 0) ∧ (∀ k : Int, (S 1046 0) ≤ k → k < ((S 1046 0) + 2 * (S 1032 0)) → (S 1100007 k) = 1) ∧ sm_DR (S 72) (S 71) (S 1046 0) ∧ 0 ≤ (g165 74 639) ∧ (g165 74 639) ≤ 400 ∧ 0 ≤ (S 78 639) ∧ (S 78 639) ≤ 40 ∧ (S 78 639) = sm_dp (S 1100024) (S 1100031 0) ∧ -1 ≤ (S 1100031 0) ∧ (S 1100031 0) < (S 1046 0) ∧ (0 ≤ (S 1100031 0) → (S 26 (S 1100031 0)) = 27) ∧ sm_TC (S 79) (S 80) (S 27) (S 1100007) (S 1100023) (S 1100024) 25560 (S 1100031 0) ∧ 0 ≤ ((S 1046 0) + ((2 : Int) * (S 29 (S 1148 0)))) ∧ ((S 1046 0) + ((2 : Int) * (S 29 (S 1148 0)))) < ((S 1046 0) + 2 * (S 1032 0)) ∧ (g165 74 639) = (S 1100007 ((S 1046 0) + ((2 : Int) * (S 29 (S 1148 0))))) ∧ (((S 1046 0) + ((2 : Int) * (S 29 (S 1148 0)))) < (S 1046 0) → (S 1100023 ((S 1046 0) + ((2 : Int) * (S 29 (S 1148 0))))) = (S 1100031 0))) ∧ (∀ g183 : sv_S, (sm_ST (g183 71) (g183 74) (g183 75) (g183 78) (g183 79) (g183 80) (S 27) (S 1100007) (S 1100023) (S 1100024) (S 1046 0) ((S 1046 0) + 2 * (S 1032 0)) (g183 1127 0) ∧ 465000 ≤ (g183 1127 0) ∧ (g183 1127 0) + sm_hs (g183 71) (S 1100007) ≤ 635000 ∧ (g183 75 639) = 647340 ∧ (g183 74 639) = (g165 74 639) ∧ (g183 78 639) = (S 78 639) ∧ sm_TC (g183 79) (g183 80) (S 27) (S 1100007) (S 1100023) (S 1100024) 25560 (S 1100031 0) ∧ (∀ k : Int, (S 71 k) = 1 → (g183 71 k) = 1) ∧ sm_DR (g183 72) (g183 71) (S 1046 0) ∧ (641 * (sm_cm (g183 71) + sm_pt (g183 68) (g183 69) (g183 70) + sm_pl (g183 81) (g183 82) (g183 83) (g183 84) (g183 85) (g183 86) + sm_ps (g183 76) (g183 77)) + sm_du (g183 72)) ≤ (641 * (sm_cm (S 71) + sm_pt (g172 68) (g172 69) (g172 70) + sm_pl (S 81) (S 82) (S 83) (S 84) (S 85) (S 86) + sm_ps (S 76) (S 77)) + sm_du (S 72)) ∧ (g183 71 ((S 1046 0) + ((2 : Int) * (S 29 (S 1148 0))))) = 1) → (sm_ST (g183 71) (g183 74) (g183 75) (g183 78) (g183 79) (g183 80) (S 27) (S 1100007) (S 1100023) (S 1100024) (S 1046 0) ((S 1046 0) + 2 * (S 1032 0)) (g183 1127 0) ∧ 465000 ≤ (g183 1127 0) ∧ (g183 1127 0) + sm_hs (g183 71) (S 1100007) ≤ 635000 ∧ (g183 75 639) = 647340 ∧ (∀ k : Int, (S 71 k) = 1 → (g183 71 k) = 1) ∧ sm_DR (g183 72) (g183 71) (S 1046 0) ∧ (641 * (sm_cm (g183 71) + sm_pt (g183 68) (g183 69) (g183 70) + sm_pl (g183 81) (g183 82) (g183 83) (g183 84) (g183 85) (g183 86) + sm_ps (g183 76) (g183 77)) + sm_du (g183 72)) ≤ (641 * (sm_cm (S 71) + sm_pt (S 68) (S 69) (S 70) + sm_pl (S 81) (S 82) (S 83) (S 84) (S 85) (S 86) + sm_ps (S 76) (S 77)) + sm_du (S 72)))))))))) ∧ ((p1 = (26 : Int)) → (29 ≤ (S 1071 0) ∧ (S 1071 0) ≤ 127 ∧ 31 ≤ (S 1008 0) ∧ (S 1008 0) ≤ 90 ∧ 1 ≤ (S 1032 0) ∧ (S 1032 0) ≤ 11 ∧ 0 ≤ (S 1055 0) ∧ (S 1055 0) ≤ 19 ∧ (S 1071 0) = 29 + 6 * ((S 1032 0) - 1) + 2 * (S 1055 0) ∧ 0 ≤ (S 1046 0) ∧ (S 1046 0) + 2 * (S 1032 0) ≤ 500 ∧ sm_PD (S 1046 0) (S 1032 0) (S 1071 0) (S 1008 0) ∧ 0 ≤ (S 1071 0) * ((S 1008 0) + 1) ∧ (S 1071 0) * ((S 1008 0) + 1) ≤ 11557 ∧ 31 ≤ (S 1007 0) ∧ (S 1007 0) ≤ 400 ∧ sm_LN (S 4) 400 (S 1007 0) ∧ (S 75 639) = 647340 ∧ sm_ST (S 71) (S 74) (S 75) (S 78) (S 79) (S 80) (S 27) (S 1100007) (S 1100023) (S 1100024) (S 1046 0) ((S 1046 0) + 2 * (S 1032 0)) (S 1127 0) ∧ 465000 ≤ (S 1127 0) ∧ (S 1127 0) + sm_hs (S 71) (S 1100007) ≤ 635000 ∧ sm_NH (S 1100007) ∧ sm_CT (S 26) (S 27) (S 28) (S 29) (S 1100007) (S 1100023) (S 1100024) (S 1100025) (S 21) (S 1046 0) (S 1032 0) (S 1008 0) (S 1055 0) ∧ (∀ k : Int, (S 1046 0) ≤ k → k < ((S 1046 0) + 2 * (S 1032 0)) → (S 1100007 k) = 1) ∧ sm_DR (S 72) (S 71) (S 1046 0) ∧ 0 ≤ (S 74 639) ∧ (S 74 639) ≤ 400 ∧ 0 ≤ (S 78 639) ∧ (S 78 639) ≤ 40 ∧ (S 78 639) = sm_dp (S 1100024) (S 1100031 0) ∧ -1 ≤ (S 1100031 0) ∧ (S 1100031 0) < (S 1046 0) ∧ (0 ≤ (S 1100031 0) → (S 26 (S 1100031 0)) = 27) ∧ sm_TC (S 79) (S 80) (S 27) (S 1100007) (S 1100023) (S 1100024) 25560 (S 1100031 0) ∧ 0 ≤ (S 1148 0) ∧ (S 1148 0) < (S 1046 0)) ∧ (∀ g189 : sv_S, (sm_ST (g189 71) (g189 74) (g189 75) (g189 78) (g189 79) (g189 80) (S 27) (S 1100007) (S 1100023) (S 1100024) (S 1046 0) ((S 1046 0) + 2 * (S 1032 0)) (g189 1127 0) ∧ 465000 ≤ (g189 1127 0) ∧ (g189 1127 0) + sm_hs (g189 71) (S 1100007) ≤ 635000 ∧ (g189 75 639) = 647340 ∧ (∀ k : Int, (S 71 k) = 1 → (g189 71 k) = 1) ∧ sm_DR (g189 72) (g189 71) (S 1046 0) ∧ (641 * (sm_cm (g189 71) + sm_pt (g189 68) (g189 69) (g189 70) + sm_pl (g189 81) (g189 82) (g189 83) (g189 84) (g189 85) (g189 86) + sm_ps (g189 76) (g189 77)) + sm_du (g189 72)) ≤ (641 * (sm_cm (S 71) + sm_pt (g6 68) (g6 69) (g6 70) + sm_pl (S 81) (S 82) (S 83) (S 84) (S 85) (S 86) + sm_ps (S 76) (S 77)) + sm_du (S 72))) → (sm_ST (g189 71) (g189 74) (g189 75) (g189 78) (g189 79) (g189 80) (S 27) (S 1100007) (S 1100023) (S 1100024) (S 1046 0) ((S 1046 0) + 2 * (S 1032 0)) (g189 1127 0) ∧ 465000 ≤ (g189 1127 0) ∧ (g189 1127 0) + sm_hs (g189 71) (S 1100007) ≤ 635000 ∧ (g189 75 639) = 647340 ∧ (∀ k : Int, (S 71 k) = 1 → (g189 71 k) = 1) ∧ sm_DR (g189 72) (g189 71) (S 1046 0) ∧ (641 * (sm_cm (g189 71) + sm_pt (g189 68) (g189 69) (g189 70) + sm_pl (g189 81) (g189 82) (g189 83) (g189 84) (g189 85) (g189 86) + sm_ps (g189 76) (g189 77)) + sm_du (g189 72)) ≤ (641 * (sm_cm (S 71) + sm_pt (S 68) (S 69) (S 70) + sm_pl (S 81) (S 82) (S 83) (S 84) (S 85) (S 86) + sm_ps (S 76) (S 77)) + sm_du (S 72))))) ∧ ((p1 = (27 : Int)) → (0 ≤ (639 : Int) ∧ (639 : Int) < 640) ∧ (sv_R (S 78 (639 : Int)) → (∀ x196 : Int, ((25560 : Int) + (S 78 (639 : Int))) = x196 → (0 ≤ x196 ∧ x196 < 25600) ∧ (sv_R (S 74 (639 : Int)) → (sv_R ((S 78 (639 : Int)) + (1 : Int))) ∧ (sv_R (S 1148 0) → ((sm_TC (S 79) (S 80) (S 27) (S 1100007) (S 1100023) (S 1100024) 25560 (S 1100023 (S 1148 0)) → 0 ≤ (S 1148 0) → -1 ≤ (S 1100023 (S 1148 0)) ∧ (S 1100023 (S 1148 0)) < (S 1148 0) → (S 1100024 (S 1148 0)) = sm_dp (S 1100024) (S 1100023 (S 1148 0)) → p2 = (S 27 (S 1148 0)) → (S 74 639) = (S 1100007 (S 1148 0)) → x196 = 25560 + (S 1100024 (S 1148 0)) → sm_TC (fun i' : Int => if i' = x196 then p2 else (S 79) i') (fun i' : Int => if i' = x196 then (S 74 (639 : Int)) else (S 80) i') (S 27) (S 1100007) (S 1100023) (S 1100024) 25560 (S 1148 0)) → (29 ≤ (S 1071 0) ∧ (S 1071 0) ≤ 127 ∧ 31 ≤ (S 1008 0) ∧ (S 1008 0) ≤ 90 ∧ 1 ≤ (S 1032 0) ∧ (S 1032 0) ≤ 11 ∧ 0 ≤ (S 1055 0) ∧ (S 1055 0) ≤ 19 ∧ (S 1071 0) = 29 + 6 * ((S 1032 0) - 1) + 2 * (S 1055 0) ∧ 0 ≤ (S 1046 0) ∧ (S 1046 0) + 2 * (S 1032 0) ≤ 500 ∧ sm_PD (S 1046 0) (S 1032 0) (S 1071 0) (S 1008 0) ∧ 0 ≤ (S 1071 0) * ((S 1008 0) + 1) ∧ (S 1071 0) * ((S 1008 0) + 1) ≤ 11557 ∧ 31 ≤ (S 1007 0) ∧ (S 1007 0) ≤ 400 ∧ sm_LN (S 4) 400 (S 1007 0) ∧ (S 75 639) = 647340 ∧ sm_ST (S 71) (S 74) (S 75) (fun i' : Int => if i' = (639 : Int) then ((S 78 (639 : Int)) + (1 : Int)) else (S 78) i') (fun i' : Int => if i' = x196 then p2 else (S 79) i') (fun i' : Int => if i' = x196 then (S 74 (639 : Int)) else (S 80) i') (S 27) (S 1100007) (S 1100023) (S 1100024) (S 1046 0) ((S 1046 0) + 2 * (S 1032 0)) (S 1127 0) ∧ 465000 ≤ (S 1127 0) ∧ (S 1127 0) + sm_hs (S 71) (S 1100007) ≤ 635000 ∧ sm_NH (S 1100007) ∧ sm_CT (S 26) (S 27) (S 28) (S 29) (S 1100007) (S 1100023) (S 1100024) (S 1100025) (S 21) (S 1046 0) (S 1032 0) (S 1008 0) (S 1055 0) ∧ (∀ k : Int, (S 1046 0) ≤ k → k < ((S 1046 0) + 2 * (S 1032 0)) → (S 1100007 k) = 1) ∧ sm_DR (S 72) (S 71) (S 1046 0) ∧ 0 ≤ (S 74 639) ∧ (S 74 639) ≤ 400 ∧ 0 ≤ (if 639 = (639 : Int) then ((S 78 (639 : Int)) + (1 : Int)) else (S 78 639)) ∧ (if 639 = (639 : Int) then ((S 78 (639 : Int)) + (1 : Int)) else (S 78 639)) ≤ 40 ∧ (if 639 = (639 : Int) then ((S 78 (639 : Int)) + (1 : Int)) else (S 78 639)) = sm_dp (S 1100024) (S 1148 0) ∧ -1 ≤ (S 1148 0) ∧ (S 1148 0) < (S 1046 0) ∧ (0 ≤ (S 1148 0) → (S 26 (S 1148 0)) = 27) ∧ sm_TC (fun i' : Int => if i' = x196 then p2 else (S 79) i') (fun i' : Int => if i' = x196 then (S 74 (639 : Int)) else (S 80) i') (S 27) (S 1100007) (S 1100023) (S 1100024) 25560 (S 1148 0) ∧ 0 ≤ (S 1148 0) ∧ (S 1148 0) + 1 < (S 1046 0) ∧ (S 74 639) = (S 1100007 ((S 1148 0) + 1)) ∧ (S 1100023 ((S 1148 0) + 1)) = (S 1148 0)) ∧ (∀ g212 : sv_S, (sm_ST (g212 71) (g212 74) (g212 75) (g212 78) (g212 79) (g212 80) (S 27) (S 1100007) (S 1100023) (S 1100024) (S 1046 0) ((S 1046 0) + 2 * (S 1032 0)) (g212 1127 0) ∧ 465000 ≤ (g212 1127 0) ∧ (g212 1127 0) + sm_hs (g212 71) (S 1100007) ≤ 635000 ∧ (g212 75 639) = 647340 ∧ (g212 74 639) = (S 74 639) ∧ (g212 78 639) = (if 639 = (639 : Int) then ((S 78 (639 : Int)) + (1 : Int)) else (S 78 639)) ∧ sm_TC (g212 79) (g212 80) (S 27) (S 1100007) (S 1100023) (S 1100024) 25560 (S 1148 0) ∧ (∀ k : Int, (S 71 k) = 1 → (g212 71 k) = 1) ∧ sm_DR (g212 72) (g212 71) (S 1046 0) ∧ (641 * (sm_cm (g212 71) + sm_pt (g212 68) (g212 69) (g212 70) + sm_pl (g212 81) (g212 82) (g212 83) (g212 84) (g212 85) (g212 86) + sm_ps (g212 76) (g212 77)) + sm_du (g212 72)) ≤ (641 * (sm_cm (S 71) + sm_pt (g6 68) (g6 69) (g6 70) + sm_pl (S 81) (S 82) (S 83) (S 84) (S 85) (S 86) + sm_ps (S 76) (S 77)) + sm_du (S 72))) → (sm_ST (g212 71) (g212 74) (g212 75) (g212 78) (g212 79) (g212 80) (S 27) (S 1100007) (S 1100023) (S 1100024) (S 1046 0) ((S 1046 0) + 2 * (S 1032 0)) (g212 1127 0) ∧ 465000 ≤ (g212 1127 0) ∧ (g212 1127 0) + sm_hs (g212 71) (S 1100007) ≤ 635000 ∧ (g212 75 639) = 647340 ∧ (∀ k : Int, (S 71 k) = 1 → (g212 71 k) = 1) ∧ sm_DR (g212 72) (g212 71) (S 1046 0) ∧ (641 * (sm_cm (g212 71) + sm_pt (g212 68) (g212 69) (g212 70) + sm_pl (g212 81) (g212 82) (g212 83) (g212 84) (g212 85) (g212 86) + sm_ps (g212 76) (g212 77)) + sm_du (g212 72)) ≤ (641 * (sm_cm (S 71) + sm_pt (S 68) (S 69) (S 70) + sm_pl (S 81) (S 82) (S 83) (S 84) (S 85) (S 86) + sm_ps (S 76) (S 77)) + sm_du (S 72)))))))))) ∧ ((p1 = (28 : Int)) → (0 ≤ (639 : Int) ∧ (639 : Int) < 640) ∧ (sv_R (S 78 (639 : Int)) → (sv_R ((S 78 (639 : Int)) - (1 : Int))) ∧ (sv_R ((S 1100023 (S 1100031 0)))) ∧ (29 ≤ (S 1071 0) ∧ (S 1071 0) ≤ 127 ∧ 31 ≤ (S 1008 0) ∧ (S 1008 0) ≤ 90 ∧ 1 ≤ (S 1032 0) ∧ (S 1032 0) ≤ 11 ∧ 0 ≤ (S 1055 0) ∧ (S 1055 0) ≤ 19 ∧ (S 1071 0) = 29 + 6 * ((S 1032 0) - 1) + 2 * (S 1055 0) ∧ 0 ≤ (S 1046 0) ∧ (S 1046 0) + 2 * (S 1032 0) ≤ 500 ∧ sm_PD (S 1046 0) (S 1032 0) (S 1071 0) (S 1008 0) ∧ 0 ≤ (S 1071 0) * ((S 1008 0) + 1) ∧ (S 1071 0) * ((S 1008 0) + 1) ≤ 11557 ∧ 31 ≤ (S 1007 0) ∧ (S 1007 0) ≤ 400 ∧ sm_LN (S 4) 400 (S 1007 0) ∧ (S 75 639) = 647340 ∧ sm_ST (S 71) (S 74) (S 75) (fun i' : Int => if i' = (639 : Int) then ((S 78 (639 : Int)) - (1 : Int)) else (S 78) i') (S 79) (S 80) (S 27) (S 1100007) (S 1100023) (S 1100024) (S 1046 0) ((S 1046 0) + 2 * (S 1032 0)) (S 1127 0) ∧ 465000 ≤ (S 1127 0) ∧ (S 1127 0) + sm_hs (S 71) (S 1100007) ≤ 635000 ∧ sm_NH (S 1100007) ∧ sm_CT (S 26) (S 27) (S 28) (S 29) (S 1100007) (S 1100023) (S 1100024) (S 1100025) (S 21) (S 1046 0) (S 1032 0) (S 1008 0) (S 1055 0) ∧ (∀ k : Int, (S 1046 0) ≤ k → k < ((S 1046 0) + 2 * (S 1032 0)) → (S 1100007 k) = 1) ∧ sm_DR (S 72) (S 71) (S 1046 0) ∧ 0 ≤ (S 74 639) ∧ (S 74 639) ≤ 400 ∧ 0 ≤ (if 639 = (639 : Int) then ((S 78 (639 : Int)) - (1 : Int)) else (S 78 639)) ∧ (if 639 = (639 : Int) then ((S 78 (639 : Int)) - (1 : Int)) else (S 78 639)) ≤ 40 ∧ (if 639 = (639 : Int) then ((S 78 (639 : Int)) - (1 : Int)) else (S 78 639)) = sm_dp (S 1100024) ((S 1100023 (S 1100031 0))) ∧ -1 ≤ ((S 1100023 (S 1100031 0))) ∧ ((S 1100023 (S 1100031 0))) < (S 1046 0) ∧ (0 ≤ ((S 1100023 (S 1100031 0))) → (S 26 ((S 1100023 (S 1100031 0)))) = 27) ∧ sm_TC (S 79) (S 80) (S 27) (S 1100007) (S 1100023) (S 1100024) 25560 ((S 1100023 (S 1100031 0))) ∧ 0 ≤ (S 1148 0) ∧ (S 1148 0) + 1 < (S 1046 0) ∧ (S 74 639) = (S 1100007 ((S 1148 0) + 1)) ∧ (S 1100023 ((S 1148 0) + 1)) = ((S 1100023 (S 1100031 0)))) ∧ (∀ g226 : sv_S, (sm_ST (g226 71) (g226 74) (g226 75) (g226 78) (g226 79) (g226 80) (S 27) (S 1100007) (S 1100023) (S 1100024) (S 1046 0) ((S 1046 0) + 2 * (S 1032 0)) (g226 1127 0) ∧ 465000 ≤ (g226 1127 0) ∧ (g226 1127 0) + sm_hs (g226 71) (S 1100007) ≤ 635000 ∧ (g226 75 639) = 647340 ∧ (g226 74 639) = (S 74 639) ∧ (g226 78 639) = (if 639 = (639 : Int) then ((S 78 (639 : Int)) - (1 : Int)) else (S 78 639)) ∧ sm_TC (g226 79) (g226 80) (S 27) (S 1100007) (S 1100023) (S 1100024) 25560 ((S 1100023 (S 1100031 0))) ∧ (∀ k : Int, (S 71 k) = 1 → (g226 71 k) = 1) ∧ sm_DR (g226 72) (g226 71) (S 1046 0) ∧ (641 * (sm_cm (g226 71) + sm_pt (g226 68) (g226 69) (g226 70) + sm_pl (g226 81) (g226 82) (g226 83) (g226 84) (g226 85) (g226 86) + sm_ps (g226 76) (g226 77)) + sm_du (g226 72)) ≤ (641 * (sm_cm (S 71) + sm_pt (g6 68) (g6 69) (g6 70) + sm_pl (S 81) (S 82) (S 83) (S 84) (S 85) (S 86) + sm_ps (S 76) (S 77)) + sm_du (S 72))) → (sm_ST (g226 71) (g226 74) (g226 75) (g226 78) (g226 79) (g226 80) (S 27) (S 1100007) (S 1100023) (S 1100024) (S 1046 0) ((S 1046 0) + 2 * (S 1032 0)) (g226 1127 0) ∧ 465000 ≤ (g226 1127 0) ∧ (g226 1127 0) + sm_hs (g226 71) (S 1100007) ≤ 635000 ∧ (g226 75 639) = 647340 ∧ (∀ k : Int, (S 71 k) = 1 → (g226 71 k) = 1) ∧ sm_DR (g226 72) (g226 71) (S 1046 0) ∧ (641 * (sm_cm (g226 71) + sm_pt (g226 68) (g226 69) (g226 70) + sm_pl (g226 81) (g226 82) (g226 83) (g226 84) (g226 85) (g226 86) + sm_ps (g226 76) (g226 77)) + sm_du (g226 72)) ≤ (641 * (sm_cm (S 71) + sm_pt (S 68) (S 69) (S 70) + sm_pl (S 81) (S 82) (S 83) (S 84) (S 85) (S 86) + sm_ps (S 76) (S 77)) + sm_du (S 72)))))) ∧ ((p1 = (29 : Int)) → ((S 75 639) = 647340 ∧ 0 ≤ (S 74 639) ∧ (S 74 639) ≤ 400 ∧ -1 ≤ (0 : Int) ∧ (0 : Int) ≤ 1000) ∧ (∀ r236 : Int, sv_R r236 → (r236 = 647339 + (S 74 639) - (0 : Int)) → (0 ≤ r236 ∧ r236 < 647800) ∧ (∀ g238 : sv_S, (635639 ≤ r236 → sm_pt (g238 68) (g238 69) (g238 70) = sm_pt (g6 68) (g6 69) (g6 70)) → (29 ≤ (S 1071 0) ∧ (S 1071 0) ≤ 127 ∧ 31 ≤ (S 1008 0) ∧ (S 1008 0) ≤ 90 ∧ 1 ≤ (S 1032 0) ∧ (S 1032 0) ≤ 11 ∧ 0 ≤ (S 1055 0) ∧ (S 1055 0) ≤ 19 ∧ (S 1071 0) = 29 + 6 * ((S 1032 0) - 1) + 2 * (S 1055 0) ∧ 0 ≤ (S 1046 0) ∧ (S 1046 0) + 2 * (S 1032 0) ≤ 500 ∧ sm_PD (S 1046 0) (S 1032 0) (S 1071 0) (S 1008 0) ∧ 0 ≤ (S 1071 0) * ((S 1008 0) + 1) ∧ (S 1071 0) * ((S 1008 0) + 1) ≤ 11557 ∧ 31 ≤ (S 1007 0) ∧ (S 1007 0) ≤ 400 ∧ sm_LN (S 4) 400 (S 1007 0) ∧ (S 75 639) = 647340 ∧ sm_ST (S 71) (S 74) (S 75) (S 78) (S 79) (S 80) (S 27) (S 1100007) (S 1100023) (S 1100024) (S 1046 0) ((S 1046 0) + 2 * (S 1032 0)) (S 1127 0) ∧ 465000 ≤ (S 1127 0) ∧ (S 1127 0) + sm_hs (S 71) (S 1100007) ≤ 635000 ∧ sm_NH (S 1100007) ∧ sm_CT (S 26) (S 27) (S 28) (S 29) (S 1100007) (S 1100023) (S 1100024) (S 1100025) (S 21) (S 1046 0) (S 1032 0) (S 1008 0) (S 1055 0) ∧ (∀ k : Int, (S 1046 0) ≤ k → k < ((S 1046 0) + 2 * (S 1032 0)) → (S 1100007 k) = 1) ∧ sm_DR (S 72) (S 71) (S 1046 0) ∧ 0 ≤ (S 74 639) ∧ (S 74 639) ≤ 400 ∧ 0 ≤ (S 78 639) ∧ (S 78 639) ≤ 40 ∧ (S 78 639) = sm_dp (S 1100024) (S 1100031 0) ∧ -1 ≤ (S 1100031 0) ∧ (S 1100031 0) < (S 1046 0) ∧ (0 ≤ (S 1100031 0) → (S 26 (S 1100031 0)) = 27) ∧ sm_TC (S 79) (S 80) (S 27) (S 1100007) (S 1100023) (S 1100024) 25560 (S 1100031 0) ∧ 0 ≤ (S 1148 0) ∧ (S 1148 0) + 1 < (S 1046 0) ∧ (S 74 639) = (S 1100007 ((S 1148 0) + 1)) ∧ (S 1100023 ((S 1148 0) + 1)) = (S 1100031 0)) ∧ (∀ g244 : sv_S, (sm_ST (g244 71) (g244 74) (g244 75) (g244 78) (g244 79) (g244 80) (S 27) (S 1100007) (S 1100023) (S 1100024) (S 1046 0) ((S 1046 0) + 2 * (S 1032 0)) (g244 1127 0) ∧ 465000 ≤ (g244 1127 0) ∧ (g244 1127 0) + sm_hs (g244 71) (S 1100007) ≤ 635000 ∧ (g244 75 639) = 647340 ∧ (g244 74 639) = (S 74 639) ∧ (g244 78 639) = (S 78 639) ∧ sm_TC (g244 79) (g244 80) (S 27) (S 1100007) (S 1100023) (S 1100024) 25560 (S 1100031 0) ∧ (∀ k : Int, (S 71 k) = 1 → (g244 71 k) = 1) ∧ sm_DR (g244 72) (g244 71) (S 1046 0) ∧ (641 * (sm_cm (g244 71) + sm_pt (g244 68) (g244 69) (g244 70) + sm_pl (g244 81) (g244 82) (g244 83) (g244 84) (g244 85) (g244 86) + sm_ps (g244 76) (g244 77)) + sm_du (g244 72)) ≤ (641 * (sm_cm (S 71) + sm_pt (g238 68) (g238 69) (g238 70) + sm_pl (S 81) (S 82) (S 83) (S 84) (S 85) (S 86) + sm_ps (S 76) (S 77)) + sm_du (S 72))) → (sm_ST (g244 71) (g244 74) (g244 75) (g244 78) (g244 79) (g244 80) (S 27) (S 1100007) (S 1100023) (S 1100024) (S 1046 0) ((S 1046 0) + 2 * (S 1032 0)) (g244 1127 0) ∧ 465000 ≤ (g244 1127 0) ∧ (g244 1127 0) + sm_hs (g244 71) (S 1100007) ≤ 635000 ∧ (g244 75 639) = 647340 ∧ (∀ k : Int, (S 71 k) = 1 → (g244 71 k) = 1) ∧ sm_DR (g244 72) (g244 71) (S 1046 0) ∧ (641 * (sm_cm (g244 71) + sm_pt (g244 68) (g244 69) (g244 70) + sm_pl (g244 81) (g244 82) (g244 83) (g244 84) (g244 85) (g244 86) + sm_ps (g244 76) (g244 77)) + sm_du (g244 72)) ≤ (641 * (sm_cm (S 71) + sm_pt (S 68) (S 69) (S 70) + sm_pl (S 81) (S 82) (S 83) (S 84) (S 85) (S 86) + sm_ps (S 76) (S 77)) + sm_du (S 72))))))))) ∧ (0 ≤ (639 : Int) ∧ (639 : Int) < 640) ∧ (sv_R (S 74 (639 : Int)) → ((((S 74 (639 : Int)) ≤ (0 : Int)) → (sm_pt (S 68) (S 69) (S 70) = sm_pt (S 68) (S 69) (S 70))) ∧ ((¬ ((S 74 (639 : Int)) ≤ (0 : Int))) → ((S 75 639) = 647340 ∧ 0 ≤ (S 74 639) ∧ (S 74 639) ≤ 400 ∧ -1 ≤ (0 : Int) ∧ (0 : Int) ≤ 1000) ∧ (∀ r257 : Int, sv_R r257 → (r257 = 647339 + (S 74 639) - (0 : Int)) → (0 ≤ r257 ∧ r257 < 647800 ∧ 635639 ≤ (647740 : Int) ∧ (647740 : Int) < 647800) ∧ (∀ g259 : sv_S, (sm_pt (g259 68) (g259 69) (g259 70) = sm_pt (S 68) (S 69) (S 70)) → (sm_pt (g259 68) (g259 69) (g259 70) = sm_pt (S 68) (S 69) (S 70))))))))))))) := by
  intro p1
  intro p2
  intro S
  intro h1_
  intro h2_
  intro h3_
  rintro ⟨h4_, ⟨h5_, ⟨h6_, ⟨h7_, ⟨h8_, ⟨h9_, ⟨h10_, ⟨h11_, ⟨h12_, ⟨h13_, ⟨h14_, ⟨h15_, ⟨h16_, ⟨h17_, ⟨h18_, ⟨h19_, ⟨h20_, ⟨h21_, ⟨h22_, ⟨h23_, ⟨h24_, ⟨h25_, ⟨h26_, ⟨h27_, ⟨h28_, ⟨h29_, ⟨h30_, ⟨h31_, ⟨h32_, ⟨h33_, ⟨h34_, ⟨h35_, ⟨h36_, ⟨h37_, ⟨h38_, ⟨h39_, ⟨h40_, ⟨h41_, ⟨h42_, ⟨h43_, ⟨h44_, ⟨h45_, ⟨h46_, ⟨h47_, ⟨h48_, ⟨h49_, ⟨h50_, ⟨h51_, ⟨h52_, ⟨h53_, ⟨h54_, ⟨h55_, h56_⟩⟩⟩⟩⟩⟩⟩⟩⟩⟩⟩⟩⟩⟩⟩⟩⟩⟩⟩⟩⟩⟩⟩⟩⟩⟩⟩⟩⟩⟩⟩⟩⟩⟩⟩⟩⟩⟩⟩⟩⟩⟩⟩⟩⟩⟩⟩⟩⟩⟩⟩⟩
  intro h57_
  have h58_ := (h57_ h26_)
  have h59_ := (h58_ h38_)
  obtain ⟨h60_, ⟨h61_, ⟨h62_, h63_⟩⟩⟩ := (h59_ h39_)
  intro h64_
  have h65_ := (h64_ h26_)
  have h66_ := (h65_ h38_)
  obtain ⟨h67_, ⟨h68_, ⟨h69_, ⟨h70_, ⟨h71_, ⟨h72_, ⟨h73_, h74_⟩⟩⟩⟩⟩⟩⟩ := (h66_ h39_)
  intro h75_
  have h76_ := (h75_ h26_)
  have h77_ := (h76_ h37_)
  intro h78_
  have h79_ := (h78_ h26_)
  have h80_ := (h79_ h38_)
  have h81_ := (h80_ h39_)
  intro h82_
  have h83_ := (h82_ h38_)
  refine ⟨?_, ?_⟩
  · skip
    intro g6
    intro h84_
    refine ⟨?_, ?_⟩
    · skip
      intro h85_
      have h86_ := (h85_.resolve_left (la_waysOfOther_0 h43_))
      obtain ⟨h87_, ⟨h88_, ⟨h89_, ⟨h90_, ⟨h91_, ⟨h92_, ⟨h93_, h94_⟩⟩⟩⟩⟩⟩⟩ := (h56_ (la_waysOfOther_12 h44_ h86_))
      refine ⟨(la_waysOfOther_13 h21_ h41_ h61_ h87_), ?_⟩
      intro r16
      intro h95_
      intro g12
      rintro ⟨h96_, ⟨h97_, ⟨h98_, h99_⟩⟩⟩
      refine ⟨(la_waysOfOther_14 h29_ h30_ h96_), ?_⟩
      intro g19
      intro h100_
      refine ⟨⟨h4_, ⟨h5_, ⟨h6_, ⟨h7_, ⟨h8_, ⟨h9_, ⟨h10_, ⟨h11_, ⟨h12_, ⟨h13_, ⟨h14_, ⟨h15_, ⟨h16_, ⟨h17_, ⟨h18_, ⟨h19_, ⟨h20_, ⟨h21_, ⟨(sm_ST_F h22_ (la_waysOfOther_15 h14_) (sm_F1_le h98_ (Int.le_refl _)) sm_F1_rf sm_F1_rf sm_F1_rf sm_F1_rf), ⟨h23_, ⟨h24_, ⟨h25_, ⟨h26_, ⟨h27_, ⟨h28_, ⟨(la_waysOfOther_16 h41_ h87_ h97_), ⟨(la_waysOfOther_17 h41_ h61_ h97_), ⟨h31_, ⟨h32_, ⟨h33_, ⟨h34_, ⟨h35_, ⟨h36_, ⟨h37_, (la_waysOfOther_18 h38_ h41_ h42_ h88_ h89_ h90_ h97_)⟩⟩⟩⟩⟩⟩⟩⟩⟩⟩⟩⟩⟩⟩⟩⟩⟩⟩⟩⟩⟩⟩⟩⟩⟩⟩⟩⟩⟩⟩⟩⟩⟩⟩, ?_⟩
      intro g25
      rintro ⟨h101_, ⟨h102_, ⟨h103_, ⟨h104_, ⟨h105_, ⟨h106_, ⟨h107_, ⟨h108_, ⟨h109_, h110_⟩⟩⟩⟩⟩⟩⟩⟩⟩
      refine ⟨la_waysOfOther_19, ?_⟩
      intro h111_
      refine ⟨(la_waysOfOther_20 h29_ h30_ h97_ h105_), ?_⟩
      refine ⟨?_, ?_⟩
      · skip
        refine ⟨h4_, ?_⟩
        refine ⟨h5_, ?_⟩
        refine ⟨h6_, ?_⟩
        refine ⟨h7_, ?_⟩
        refine ⟨h8_, ?_⟩
        refine ⟨h9_, ?_⟩
        refine ⟨h10_, ?_⟩
        refine ⟨h11_, ?_⟩
        refine ⟨h12_, ?_⟩
        refine ⟨h13_, ?_⟩
        refine ⟨h14_, ?_⟩
        refine ⟨h15_, ?_⟩
        refine ⟨h16_, ?_⟩
        refine ⟨h17_, ?_⟩
        refine ⟨h18_, ?_⟩
        refine ⟨h19_, ?_⟩
        refine ⟨h20_, ?_⟩
        refine ⟨h104_, ?_⟩
        refine ⟨(sm_ST_F h101_ (la_waysOfOther_15 h14_) (sm_F1_up sm_F1_rf (Int.le_refl _)) sm_F1_rf sm_F1_rf sm_F1_rf sm_F1_rf), ?_⟩
        refine ⟨h102_, ?_⟩
        refine ⟨h103_, ?_⟩
        refine ⟨h25_, ?_⟩
        refine ⟨h26_, ?_⟩
        refine ⟨h27_, ?_⟩
        refine ⟨h109_, ?_⟩
        refine ⟨?_, ?_⟩
        · skip
          have h112_ := (h27_ (S 1148 0))
          have h113_ := (h27_ (S 1148 0 + 1))
          have h114_ := (h27_ p2)
          have h115_ := ((h108_ (S 1148 0)) h40_)
          have e116_ : (if (639 : Int) = 639 then g25 74 639 - 2 else g25 74 639 : Int) = g25 74 639 - 2 := if_pos la_waysOfOther_21
          have e117_ : sm_dp (S 1100024) (S 1100031 0) = sm_dp (S 1100024) (S 1100023 (S 1148 0)) := congrArg ((sm_dp (S 1100024))) h42_
          exact (la_waysOfOther_25 h41_ h87_ h97_ h105_ e116_)
        refine ⟨?_, ?_⟩
        · skip
          have h118_ := (h27_ (S 1148 0))
          have h119_ := (h27_ (S 1148 0 + 1))
          have h120_ := (h27_ p2)
          have h121_ := ((h108_ (S 1148 0)) h40_)
          have e122_ : (if (639 : Int) = 639 then g25 74 639 - 2 else g25 74 639 : Int) = g25 74 639 - 2 := if_pos la_waysOfOther_21
          have e123_ : sm_dp (S 1100024) (S 1100031 0) = sm_dp (S 1100024) (S 1100023 (S 1148 0)) := congrArg ((sm_dp (S 1100024))) h42_
          exact (la_waysOfOther_26 h41_ h61_ h97_ h105_ e122_)
        refine ⟨(la_waysOfOther_27 h31_ h106_), ?_⟩
        refine ⟨(la_waysOfOther_28 h32_ h106_), ?_⟩
        refine ⟨(la_waysOfOther_29 h33_ h106_), ?_⟩
        refine ⟨h34_, ?_⟩
        refine ⟨h35_, ?_⟩
        refine ⟨h36_, ?_⟩
        refine ⟨h107_, ?_⟩
        refine ⟨h91_, ?_⟩
        refine ⟨h92_, ?_⟩
        refine ⟨?_, ?_⟩
        · skip
          have h124_ := (h27_ (S 1148 0))
          have h125_ := (h27_ (S 1148 0 + 1))
          have h126_ := (h27_ p2)
          have h127_ := ((h108_ (S 1148 0)) h40_)
          have e128_ : (if (639 : Int) = 639 then g25 74 639 - 2 else g25 74 639 : Int) = g25 74 639 - 2 := if_pos la_waysOfOther_21
          have e129_ : sm_dp (S 1100024) (S 1100031 0) = sm_dp (S 1100024) (S 1100023 (S 1148 0)) := congrArg ((sm_dp (S 1100024))) h42_
          exact (la_waysOfOther_30 h41_ h93_ h97_ h105_ e128_)
        exact (la_waysOfOther_31 h42_ h94_)
      intro g36
      rintro ⟨h130_, ⟨h131_, ⟨h132_, ⟨h133_, ⟨h134_, ⟨h135_, ⟨h136_, ⟨h137_, ⟨h138_, h139_⟩⟩⟩⟩⟩⟩⟩⟩⟩
      have e140_ : (if (639 : Int) = 639 then g25 74 639 - 2 else g25 74 639 : Int) = g25 74 639 - 2 := if_pos la_waysOfOther_21
      refine ⟨h130_, ?_⟩
      refine ⟨h131_, ?_⟩
      refine ⟨h132_, ?_⟩
      refine ⟨h133_, ?_⟩
      refine ⟨?_, ?_⟩
      · skip
        intro k
        intro h141_
        have h142_ := (h27_ (S 1148 0))
        have h143_ := (h27_ (S 1148 0 + 1))
        have h144_ := (h27_ p2)
        have h145_ := ((h108_ (S 1148 0)) h40_)
        have h146_ := ((h108_ k) h141_)
        have h147_ := ((h137_ k) h146_)
        have h148_ := ((h137_ (S 1148 0)) h145_)
        have e149_ : sm_dp (S 1100024) (S 1100031 0) = sm_dp (S 1100024) (S 1100023 (S 1148 0)) := congrArg ((sm_dp (S 1100024))) h42_
        exact h147_
      refine ⟨h138_, ?_⟩
      exact (la_waysOfOther_32 h84_ h99_ h100_ h110_ h139_)
    refine ⟨?_, ?_⟩
    · skip
      intro h150_
      obtain ⟨h151_, ⟨h152_, ⟨h153_, h154_⟩⟩⟩ := (h45_ h150_)
      refine ⟨la_waysOfOther_19, ?_⟩
      intro h155_
      refine ⟨(la_waysOfOther_44 h29_ h30_), ?_⟩
      refine ⟨?_, ?_⟩
      · skip
        refine ⟨h4_, ?_⟩
        refine ⟨h5_, ?_⟩
        refine ⟨h6_, ?_⟩
        refine ⟨h7_, ?_⟩
        refine ⟨h8_, ?_⟩
        refine ⟨h9_, ?_⟩
        refine ⟨h10_, ?_⟩
        refine ⟨h11_, ?_⟩
        refine ⟨h12_, ?_⟩
        refine ⟨h13_, ?_⟩
        refine ⟨h14_, ?_⟩
        refine ⟨h15_, ?_⟩
        refine ⟨h16_, ?_⟩
        refine ⟨h17_, ?_⟩
        refine ⟨h18_, ?_⟩
        refine ⟨h19_, ?_⟩
        refine ⟨h20_, ?_⟩
        refine ⟨h21_, ?_⟩
        refine ⟨(sm_ST_F h22_ (la_waysOfOther_15 h14_) (sm_F1_up sm_F1_rf (Int.le_refl _)) sm_F1_rf sm_F1_rf sm_F1_rf sm_F1_rf), ?_⟩
        refine ⟨h23_, ?_⟩
        refine ⟨h24_, ?_⟩
        refine ⟨h25_, ?_⟩
        refine ⟨h26_, ?_⟩
        refine ⟨h27_, ?_⟩
        refine ⟨h28_, ?_⟩
        refine ⟨?_, ?_⟩
        · skip
          have h156_ := (h27_ (S 1148 0))
          have h157_ := (h27_ (S 1148 0 + 1))
          have e158_ : (if (639 : Int) = 639 then S 74 639 - 1 else S 74 639 : Int) = S 74 639 - 1 := if_pos la_waysOfOther_21
          have e159_ : sm_dp (S 1100024) (S 1100031 0) = sm_dp (S 1100024) (S 1100023 (S 1148 0)) := congrArg ((sm_dp (S 1100024))) h42_
          exact (la_waysOfOther_45 h41_ h151_ e158_)
        refine ⟨?_, ?_⟩
        · skip
          have h160_ := (h27_ (S 1148 0))
          have h161_ := (h27_ (S 1148 0 + 1))
          have e162_ : (if (639 : Int) = 639 then S 74 639 - 1 else S 74 639 : Int) = S 74 639 - 1 := if_pos la_waysOfOther_21
          have e163_ : sm_dp (S 1100024) (S 1100031 0) = sm_dp (S 1100024) (S 1100023 (S 1148 0)) := congrArg ((sm_dp (S 1100024))) h42_
          exact (la_waysOfOther_46 h41_ h61_ e162_)
        refine ⟨h31_, ?_⟩
        refine ⟨h32_, ?_⟩
        refine ⟨h33_, ?_⟩
        refine ⟨h34_, ?_⟩
        refine ⟨h35_, ?_⟩
        refine ⟨h36_, ?_⟩
        refine ⟨h37_, ?_⟩
        refine ⟨h38_, ?_⟩
        refine ⟨h152_, ?_⟩
        refine ⟨?_, ?_⟩
        · skip
          have h164_ := (h27_ (S 1148 0))
          have h165_ := (h27_ (S 1148 0 + 1))
          have e166_ : (if (639 : Int) = 639 then S 74 639 - 1 else S 74 639 : Int) = S 74 639 - 1 := if_pos la_waysOfOther_21
          have e167_ : sm_dp (S 1100024) (S 1100031 0) = sm_dp (S 1100024) (S 1100023 (S 1148 0)) := congrArg ((sm_dp (S 1100024))) h42_
          exact (la_waysOfOther_47 h41_ h153_ e166_)
        exact (la_waysOfOther_31 h42_ h154_)
      intro g47
      rintro ⟨h168_, ⟨h169_, ⟨h170_, ⟨h171_, ⟨h172_, ⟨h173_, ⟨h174_, ⟨h175_, ⟨h176_, h177_⟩⟩⟩⟩⟩⟩⟩⟩⟩
      have e178_ : (if (639 : Int) = 639 then S 74 639 - 1 else S 74 639 : Int) = S 74 639 - 1 := if_pos la_waysOfOther_21
      refine ⟨h168_, ?_⟩
      refine ⟨h169_, ?_⟩
      refine ⟨h170_, ?_⟩
      refine ⟨h171_, ?_⟩
      refine ⟨h175_, ?_⟩
      refine ⟨h176_, ?_⟩
      exact (la_waysOfOther_48 h84_ h177_)
    refine ⟨?_, ?_⟩
    · skip
      intro h179_
      obtain ⟨h180_, ⟨h181_, ⟨h182_, h183_⟩⟩⟩ := (h46_ h179_)
      refine ⟨(la_waysOfOther_13 h21_ h41_ h61_ h180_), ?_⟩
      intro r57
      intro h184_
      intro g53
      rintro ⟨h185_, ⟨h186_, ⟨h187_, h188_⟩⟩⟩
      refine ⟨(la_waysOfOther_60 h29_ h30_ h185_), ?_⟩
      intro g60
      intro h189_
      refine ⟨⟨h4_, ⟨h5_, ⟨h6_, ⟨h7_, ⟨h8_, ⟨h9_, ⟨h10_, ⟨h11_, ⟨h12_, ⟨h13_, ⟨h14_, ⟨h15_, ⟨h16_, ⟨h17_, ⟨h18_, ⟨h19_, ⟨h20_, ⟨h21_, ⟨(sm_ST_F h22_ (la_waysOfOther_15 h14_) (sm_F1_le h187_ (Int.le_refl _)) sm_F1_rf sm_F1_rf sm_F1_rf sm_F1_rf), ⟨h23_, ⟨h24_, ⟨h25_, ⟨h26_, ⟨h27_, ⟨h28_, ⟨(la_waysOfOther_16 h41_ h180_ h186_), ⟨(la_waysOfOther_17 h41_ h61_ h186_), ⟨h31_, ⟨h32_, ⟨h33_, ⟨h34_, ⟨h35_, ⟨h36_, ⟨h37_, (la_waysOfOther_18 h38_ h41_ h42_ h181_ h182_ h183_ h186_)⟩⟩⟩⟩⟩⟩⟩⟩⟩⟩⟩⟩⟩⟩⟩⟩⟩⟩⟩⟩⟩⟩⟩⟩⟩⟩⟩⟩⟩⟩⟩⟩⟩⟩, ?_⟩
      intro g66
      rintro ⟨h190_, ⟨h191_, ⟨h192_, ⟨h193_, ⟨h194_, ⟨h195_, ⟨h196_, ⟨h197_, ⟨h198_, h199_⟩⟩⟩⟩⟩⟩⟩⟩⟩
      refine ⟨h190_, ?_⟩
      refine ⟨h191_, ?_⟩
      refine ⟨h192_, ?_⟩
      refine ⟨h193_, ?_⟩
      refine ⟨h197_, ?_⟩
      refine ⟨h198_, ?_⟩
      exact (la_waysOfOther_61 h84_ h188_ h189_ h199_)
    refine ⟨?_, ?_⟩
    · skip
      intro h200_
      obtain ⟨h201_, ⟨h202_, ⟨h203_, h204_⟩⟩⟩ := (h47_ h200_)
      refine ⟨(la_waysOfOther_73 h21_ h41_ h61_ h201_), ?_⟩
      intro r76
      intro h205_
      intro h206_
      refine ⟨(la_waysOfOther_74 h21_ h41_ h61_ h201_), ?_⟩
      intro r82
      intro h207_
      intro g78
      rintro ⟨h208_, ⟨h209_, ⟨h210_, h211_⟩⟩⟩
      refine ⟨(la_waysOfOther_75 h29_ h30_ h206_ h208_), ?_⟩
      intro g85
      intro h212_
      refine ⟨(la_waysOfOther_76 h21_ h41_ h61_ h201_ h209_), ?_⟩
      intro r95
      intro h213_
      intro g91
      rintro ⟨h214_, ⟨h215_, ⟨h216_, h217_⟩⟩⟩
      refine ⟨(la_waysOfOther_77 h29_ h30_ h209_ h214_), ?_⟩
      intro g98
      intro h218_
      refine ⟨⟨h4_, ⟨h5_, ⟨h6_, ⟨h7_, ⟨h8_, ⟨h9_, ⟨h10_, ⟨h11_, ⟨h12_, ⟨h13_, ⟨h14_, ⟨h15_, ⟨h16_, ⟨h17_, ⟨h18_, ⟨h19_, ⟨h20_, ⟨h21_, ⟨(sm_ST_F h22_ (la_waysOfOther_15 h14_) (sm_F1_tr (sm_F1_le h210_ (Int.le_refl _)) h216_ (Int.le_refl _)) sm_F1_rf sm_F1_rf sm_F1_rf sm_F1_rf), ⟨h23_, ⟨h24_, ⟨h25_, ⟨h26_, ⟨h27_, ⟨h28_, ⟨(la_waysOfOther_78 h29_ h209_ h215_), ⟨(la_waysOfOther_79 h41_ h61_ h209_ h215_), ⟨h31_, ⟨h32_, ⟨h33_, ⟨h34_, ⟨h35_, ⟨h36_, ⟨h37_, (la_waysOfOther_80 h38_ h41_ h42_ h202_ h203_ h204_ h209_ h215_)⟩⟩⟩⟩⟩⟩⟩⟩⟩⟩⟩⟩⟩⟩⟩⟩⟩⟩⟩⟩⟩⟩⟩⟩⟩⟩⟩⟩⟩⟩⟩⟩⟩⟩, ?_⟩
      intro g104
      rintro ⟨h219_, ⟨h220_, ⟨h221_, ⟨h222_, ⟨h223_, ⟨h224_, ⟨h225_, ⟨h226_, ⟨h227_, h228_⟩⟩⟩⟩⟩⟩⟩⟩⟩
      refine ⟨h219_, ?_⟩
      refine ⟨h220_, ?_⟩
      refine ⟨h221_, ?_⟩
      refine ⟨h222_, ?_⟩
      refine ⟨h226_, ?_⟩
      refine ⟨h227_, ?_⟩
      exact (la_waysOfOther_81 h84_ h211_ h212_ h217_ h218_ h228_)
    refine ⟨?_, ?_⟩
    · skip
      intro h229_
      obtain ⟨h230_, ⟨h231_, ⟨h232_, h233_⟩⟩⟩ := (h48_ h229_)
      refine ⟨(la_waysOfOther_93 h21_ h41_ h61_ h230_), ?_⟩
      intro r114
      intro h234_
      intro g110
      rintro ⟨h235_, ⟨h236_, ⟨h237_, h238_⟩⟩⟩
      refine ⟨(la_waysOfOther_94 h29_ h30_ h235_), ?_⟩
      refine ⟨(la_waysOfOther_95 h29_ h30_ h235_), ?_⟩
      intro g118
      intro h239_
      refine ⟨(la_waysOfOther_96 h29_ h30_ h235_), ?_⟩
      refine ⟨(la_waysOfOther_97 h29_ h30_ h235_), ?_⟩
      intro g125
      intro h240_
      refine ⟨(la_waysOfOther_98 h29_ h30_ h235_), ?_⟩
      refine ⟨(la_waysOfOther_99 h29_ h30_ h235_), ?_⟩
      intro g132
      intro h241_
      refine ⟨(la_waysOfOther_100 h29_ h30_ h235_), ?_⟩
      intro g138
      intro h242_
      refine ⟨⟨h4_, ⟨h5_, ⟨h6_, ⟨h7_, ⟨h8_, ⟨h9_, ⟨h10_, ⟨h11_, ⟨h12_, ⟨h13_, ⟨h14_, ⟨h15_, ⟨h16_, ⟨h17_, ⟨h18_, ⟨h19_, ⟨h20_, ⟨h21_, ⟨(sm_ST_F h22_ (la_waysOfOther_15 h14_) (sm_F1_le h237_ (Int.le_refl _)) sm_F1_rf sm_F1_rf sm_F1_rf sm_F1_rf), ⟨h23_, ⟨h24_, ⟨h25_, ⟨h26_, ⟨h27_, ⟨h28_, ⟨(la_waysOfOther_101 h41_ h230_ h236_), ⟨(la_waysOfOther_17 h41_ h61_ h236_), ⟨h31_, ⟨h32_, ⟨h33_, ⟨h34_, ⟨h35_, ⟨h36_, ⟨h37_, (la_waysOfOther_18 h38_ h41_ h42_ h231_ h232_ h233_ h236_)⟩⟩⟩⟩⟩⟩⟩⟩⟩⟩⟩⟩⟩⟩⟩⟩⟩⟩⟩⟩⟩⟩⟩⟩⟩⟩⟩⟩⟩⟩⟩⟩⟩⟩, ?_⟩
      intro g144
      rintro ⟨h243_, ⟨h244_, ⟨h245_, ⟨h246_, ⟨h247_, ⟨h248_, ⟨h249_, ⟨h250_, ⟨h251_, h252_⟩⟩⟩⟩⟩⟩⟩⟩⟩
      refine ⟨h243_, ?_⟩
      refine ⟨h244_, ?_⟩
      refine ⟨h245_, ?_⟩
      refine ⟨h246_, ?_⟩
      refine ⟨h250_, ?_⟩
      refine ⟨h251_, ?_⟩
      exact (la_waysOfOther_102 h84_ h238_ h239_ h240_ h241_ h242_ h252_)
    refine ⟨?_, ?_⟩
    · skip
      intro h253_
      obtain ⟨h254_, ⟨h255_, ⟨h256_, h257_⟩⟩⟩ := (h49_ h253_)
      refine ⟨⟨h4_, ⟨h5_, ⟨h6_, ⟨h7_, ⟨h8_, ⟨h9_, ⟨h10_, ⟨h11_, ⟨h12_, ⟨h13_, ⟨h14_, ⟨h15_, ⟨h16_, ⟨h17_, ⟨h18_, ⟨h19_, ⟨h20_, ⟨h21_, ⟨h22_, ⟨h23_, ⟨h24_, ⟨h25_, ⟨h26_, ⟨h27_, ⟨h28_, ⟨h29_, ⟨h30_, ⟨h31_, ⟨h32_, ⟨h33_, ⟨h34_, ⟨h35_, ⟨h36_, ⟨h37_, (la_waysOfOther_114 h41_ h42_ h254_ h255_ h256_ h257_)⟩⟩⟩⟩⟩⟩⟩⟩⟩⟩⟩⟩⟩⟩⟩⟩⟩⟩⟩⟩⟩⟩⟩⟩⟩⟩⟩⟩⟩⟩⟩⟩⟩⟩, ?_⟩
      intro g150
      rintro ⟨h258_, ⟨h259_, ⟨h260_, ⟨h261_, ⟨h262_, ⟨h263_, ⟨h264_, ⟨h265_, ⟨h266_, h267_⟩⟩⟩⟩⟩⟩⟩⟩⟩
      refine ⟨h258_, ?_⟩
      refine ⟨h259_, ?_⟩
      refine ⟨h260_, ?_⟩
      refine ⟨h261_, ?_⟩
      refine ⟨h265_, ?_⟩
      refine ⟨h266_, ?_⟩
      exact (la_waysOfOther_48 h84_ h267_)
    refine ⟨?_, ?_⟩
    · skip
      intro h268_
      refine ⟨?_, ?_⟩
      · skip
        refine ⟨h4_, ?_⟩
        refine ⟨h5_, ?_⟩
        refine ⟨h6_, ?_⟩
        refine ⟨h7_, ?_⟩
        refine ⟨h8_, ?_⟩
        refine ⟨h9_, ?_⟩
        refine ⟨h10_, ?_⟩
        refine ⟨h11_, ?_⟩
        refine ⟨h12_, ?_⟩
        refine ⟨h13_, ?_⟩
        refine ⟨h14_, ?_⟩
        refine ⟨h15_, ?_⟩
        refine ⟨h16_, ?_⟩
        refine ⟨h17_, ?_⟩
        refine ⟨h18_, ?_⟩
        refine ⟨h19_, ?_⟩
        refine ⟨h20_, ?_⟩
        refine ⟨h21_, ?_⟩
        refine ⟨h22_, ?_⟩
        refine ⟨h23_, ?_⟩
        refine ⟨h24_, ?_⟩
        refine ⟨h25_, ?_⟩
        refine ⟨h26_, ?_⟩
        refine ⟨h27_, ?_⟩
        refine ⟨h28_, ?_⟩
        refine ⟨h29_, ?_⟩
        refine ⟨h30_, ?_⟩
        refine ⟨h31_, ?_⟩
        refine ⟨h32_, ?_⟩
        refine ⟨h33_, ?_⟩
        refine ⟨h34_, ?_⟩
        refine ⟨h35_, ?_⟩
        refine ⟨h36_, ?_⟩
        refine ⟨h37_, ?_⟩
        refine ⟨h38_, ?_⟩
        refine ⟨h39_, ?_⟩
        refine ⟨h40_, ?_⟩
        refine ⟨h41_, ?_⟩
        refine ⟨h42_, ?_⟩
        refine ⟨la_waysOfOther_115, ?_⟩
        refine ⟨la_waysOfOther_116, ?_⟩
        refine ⟨?_, ?_⟩
        · skip
          have h269_ := (h27_ (S 1148 0))
          have h270_ := (h27_ (S 1148 0 + 1))
          have h271_ := (h27_ p2)
          have e272_ : sm_dp (S 1100024) (S 1100031 0) = sm_dp (S 1100024) (S 1100023 (S 1148 0)) := congrArg ((sm_dp (S 1100024))) h42_
          exact (la_waysOfOther_117 h50_ h51_ h52_ h268_)
        refine ⟨?_, ?_⟩
        · skip
          have h273_ := (h27_ (S 1148 0))
          have h274_ := (h27_ (S 1148 0 + 1))
          have h275_ := (h27_ p2)
          have e276_ : sm_dp (S 1100024) (S 1100031 0) = sm_dp (S 1100024) (S 1100023 (S 1148 0)) := congrArg ((sm_dp (S 1100024))) h42_
          exact (la_waysOfOther_118 h50_ h51_ h268_)
        refine ⟨?_, ?_⟩
        · skip
          have h277_ := (h27_ (S 1148 0))
          have h278_ := (h27_ (S 1148 0 + 1))
          have h279_ := (h27_ p2)
          have e280_ : sm_dp (S 1100024) (S 1100031 0) = sm_dp (S 1100024) (S 1100023 (S 1148 0)) := congrArg ((sm_dp (S 1100024))) h42_
          exact (la_waysOfOther_119 h50_ h51_ h268_)
        refine ⟨?_, ?_⟩
        · skip
          have h281_ := (h27_ (S 1148 0))
          have h282_ := (h27_ (S 1148 0 + 1))
          have h283_ := (h27_ p2)
          have e284_ : sm_dp (S 1100024) (S 1100031 0) = sm_dp (S 1100024) (S 1100023 (S 1148 0)) := congrArg ((sm_dp (S 1100024))) h42_
          exact (la_waysOfOther_120 h50_ h51_ h268_)
        refine ⟨?_, ?_⟩
        · skip
          have h285_ := (h27_ (S 1148 0))
          have h286_ := (h27_ (S 1148 0 + 1))
          have h287_ := (h27_ p2)
          have e288_ : sm_dp (S 1100024) (S 1100031 0) = sm_dp (S 1100024) (S 1100023 (S 1148 0)) := congrArg ((sm_dp (S 1100024))) h42_
          exact (la_waysOfOther_121 h49_ h50_ h51_ h268_)
        refine ⟨?_, ?_⟩
        · skip
          have h289_ := (h27_ (S 1148 0))
          have h290_ := (h27_ (S 1148 0 + 1))
          have h291_ := (h27_ p2)
          have e292_ : sm_dp (S 1100024) (S 1100031 0) = sm_dp (S 1100024) (S 1100023 (S 1148 0)) := congrArg ((sm_dp (S 1100024))) h42_
          exact (la_waysOfOther_122 h49_ h50_ h51_ h268_)
        refine ⟨?_, ?_⟩
        · skip
          have h293_ := (h27_ (S 1148 0))
          have h294_ := (h27_ (S 1148 0 + 1))
          have h295_ := (h27_ p2)
          have e296_ : sm_dp (S 1100024) (S 1100031 0) = sm_dp (S 1100024) (S 1100023 (S 1148 0)) := congrArg ((sm_dp (S 1100024))) h42_
          exact (la_waysOfOther_123 h49_ h50_ h51_ h268_)
        refine ⟨(la_waysOfOther_124 h49_ h50_), ?_⟩
        intro h297_
        have h298_ := (h268_.resolve_left h297_)
        obtain ⟨h299_, ⟨h300_, ⟨h301_, ⟨h302_, ⟨h303_, ⟨h304_, ⟨h305_, h306_⟩⟩⟩⟩⟩⟩⟩ := (h51_ h298_)
        exact (la_waysOfOther_125 h305_)
      intro g156
      rintro ⟨h307_, ⟨h308_, ⟨h309_, ⟨h310_, ⟨h311_, ⟨h312_, h313_⟩⟩⟩⟩⟩⟩
      refine ⟨h307_, ?_⟩
      refine ⟨h308_, ?_⟩
      refine ⟨h309_, ?_⟩
      refine ⟨h310_, ?_⟩
      refine ⟨h311_, ?_⟩
      refine ⟨h312_, ?_⟩
      exact (la_waysOfOther_48 h84_ h313_)
    refine ⟨?_, ?_⟩
    · skip
      intro h314_
      have h315_ := (h52_ (la_waysOfOther_133 h314_))
      refine ⟨la_waysOfOther_19, ?_⟩
      refine ⟨?_, ?_⟩
      · skip
        refine ⟨h21_, ?_⟩
        refine ⟨?_, ?_⟩
        · skip
          have h316_ := (h27_ (S 1148 0))
          have e317_ : (if (639 : Int) = 639 then 0 else S 74 639 : Int) = 0 := if_pos la_waysOfOther_21
          have e318_ : sm_dp (S 1100024) (S 1100031 0) = sm_dp (S 1100024) (S 1100023 (S 1148 0)) := congrArg ((sm_dp (S 1100024))) h42_
          exact (la_waysOfOther_138 e317_)
        refine ⟨?_, ?_⟩
        · skip
          have h319_ := (h27_ (S 1148 0))
          have e320_ : (if (639 : Int) = 639 then 0 else S 74 639 : Int) = 0 := if_pos la_waysOfOther_21
          have e321_ : sm_dp (S 1100024) (S 1100031 0) = sm_dp (S 1100024) (S 1100023 (S 1148 0)) := congrArg ((sm_dp (S 1100024))) h42_
          exact (la_waysOfOther_139 e320_)
        have h322_ := (h27_ (S 1148 0))
        have e323_ : (if (639 : Int) = 639 then 0 else S 74 639 : Int) = 0 := if_pos la_waysOfOther_21
        have e324_ : sm_dp (S 1100024) (S 1100031 0) = sm_dp (S 1100024) (S 1100023 (S 1148 0)) := congrArg ((sm_dp (S 1100024))) h42_
        exact (la_waysOfOther_140 e323_)
      intro r169
      intro h325_
      intro g165
      rintro ⟨h326_, ⟨h327_, ⟨h328_, h329_⟩⟩⟩
      have e330_ : (if (639 : Int) = 639 then 0 else S 74 639 : Int) = 0 := if_pos la_waysOfOther_21
      refine ⟨(la_waysOfOther_141 h326_ e330_), ?_⟩
      intro g172
      intro h331_
      intro h332_
      intro h333_
      refine ⟨(la_waysOfOther_142 h8_ h14_ h38_ h39_), ?_⟩
      intro h334_
      refine ⟨(la_waysOfOther_143 h13_ h14_ h67_ h68_), ?_⟩
      refine ⟨?_, ?_⟩
      · skip
        refine ⟨h4_, ?_⟩
        refine ⟨h5_, ?_⟩
        refine ⟨h6_, ?_⟩
        refine ⟨h7_, ?_⟩
        refine ⟨h8_, ?_⟩
        refine ⟨h9_, ?_⟩
        refine ⟨h10_, ?_⟩
        refine ⟨h11_, ?_⟩
        refine ⟨h12_, ?_⟩
        refine ⟨h13_, ?_⟩
        refine ⟨h14_, ?_⟩
        refine ⟨h15_, ?_⟩
        refine ⟨h16_, ?_⟩
        refine ⟨h17_, ?_⟩
        refine ⟨h18_, ?_⟩
        refine ⟨h19_, ?_⟩
        refine ⟨h20_, ?_⟩
        refine ⟨h21_, ?_⟩
        refine ⟨(sm_ST_F h22_ (la_waysOfOther_15 h14_) (sm_F1_tr (sm_F1_up sm_F1_rf (Int.le_refl _)) h328_ (Int.le_refl _)) sm_F1_rf sm_F1_rf sm_F1_rf sm_F1_rf), ?_⟩
        refine ⟨h23_, ?_⟩
        refine ⟨h24_, ?_⟩
        refine ⟨h25_, ?_⟩
        refine ⟨h26_, ?_⟩
        refine ⟨h27_, ?_⟩
        refine ⟨h28_, ?_⟩
        refine ⟨(la_waysOfOther_144 h327_ e330_), ?_⟩
        refine ⟨(la_waysOfOther_145 h327_ e330_), ?_⟩
        refine ⟨h31_, ?_⟩
        refine ⟨h32_, ?_⟩
        refine ⟨h33_, ?_⟩
        refine ⟨h34_, ?_⟩
        refine ⟨h35_, ?_⟩
        refine ⟨h36_, ?_⟩
        refine ⟨h37_, ?_⟩
        refine ⟨(la_waysOfOther_146 h38_ h39_ h67_), ?_⟩
        refine ⟨(la_waysOfOther_147 h68_), ?_⟩
        refine ⟨?_, ?_⟩
        · skip
          have h335_ := (((h27_ (S 1046 0 + 2 * S 29 (S 1148 0))) (la_waysOfOther_148 h67_)) (la_waysOfOther_147 h68_))
          have h336_ := (h27_ (S 1148 0))
          have e337_ : sm_dp (S 1100024) (S 1100031 0) = sm_dp (S 1100024) (S 1100023 (S 1148 0)) := congrArg ((sm_dp (S 1100024))) h42_
          exact (la_waysOfOther_149 h327_ e330_ h335_)
        intro h338_
        have h339_ := (h36_ (la_waysOfOther_150 h67_ h338_))
        have h340_ := (h77_ (la_waysOfOther_150 h67_ h338_))
        have h341_ := (h340_ h35_)
        obtain ⟨⟨h342_, ⟨h343_, ⟨h344_, ⟨h345_, ⟨h346_, h347_⟩⟩⟩⟩⟩, ⟨⟨h348_, ⟨h349_, ⟨h350_, h351_⟩⟩⟩, ⟨⟨h352_, ⟨h353_, ⟨h354_, h355_⟩⟩⟩, ⟨h356_, h357_⟩⟩⟩⟩ := (h341_ h339_)
        have h358_ := (h356_ (la_waysOfOther_150 h67_ h338_))
        exact (la_waysOfOther_151 h67_ h338_)
      intro g183
      rintro ⟨h359_, ⟨h360_, ⟨h361_, ⟨h362_, ⟨h363_, ⟨h364_, ⟨h365_, ⟨h366_, ⟨h367_, ⟨h368_, h369_⟩⟩⟩⟩⟩⟩⟩⟩⟩⟩
      refine ⟨h359_, ?_⟩
      refine ⟨h360_, ?_⟩
      refine ⟨h361_, ?_⟩
      refine ⟨h362_, ?_⟩
      refine ⟨h366_, ?_⟩
      refine ⟨h367_, ?_⟩
      exact (la_waysOfOther_61 h84_ h329_ h331_ h368_)
    refine ⟨?_, ?_⟩
    · skip
      intro h370_
      have h371_ := (h52_ (la_waysOfOther_159 h370_))
      refine ⟨⟨h4_, ⟨h5_, ⟨h6_, ⟨h7_, ⟨h8_, ⟨h9_, ⟨h10_, ⟨h11_, ⟨h12_, ⟨h13_, ⟨h14_, ⟨h15_, ⟨h16_, ⟨h17_, ⟨h18_, ⟨h19_, ⟨h20_, ⟨h21_, ⟨h22_, ⟨h23_, ⟨h24_, ⟨h25_, ⟨h26_, ⟨h27_, ⟨h28_, ⟨h29_, ⟨h30_, ⟨h31_, ⟨h32_, ⟨h33_, ⟨h34_, ⟨h35_, ⟨h36_, ⟨h37_, (la_waysOfOther_164 h38_ h39_)⟩⟩⟩⟩⟩⟩⟩⟩⟩⟩⟩⟩⟩⟩⟩⟩⟩⟩⟩⟩⟩⟩⟩⟩⟩⟩⟩⟩⟩⟩⟩⟩⟩⟩, ?_⟩
      intro g189
      rintro ⟨h372_, ⟨h373_, ⟨h374_, ⟨h375_, ⟨h376_, ⟨h377_, h378_⟩⟩⟩⟩⟩⟩
      refine ⟨h372_, ?_⟩
      refine ⟨h373_, ?_⟩
      refine ⟨h374_, ?_⟩
      refine ⟨h375_, ?_⟩
      refine ⟨h376_, ?_⟩
      refine ⟨h377_, ?_⟩
      exact (la_waysOfOther_48 h84_ h378_)
    refine ⟨?_, ?_⟩
    · skip
      intro h379_
      obtain ⟨h380_, ⟨h381_, ⟨h382_, ⟨h383_, ⟨h384_, h385_⟩⟩⟩⟩⟩ := (h53_ h379_)
      refine ⟨la_waysOfOther_19, ?_⟩
      intro h386_
      intro x196
      intro h387_
      refine ⟨?_, ?_⟩
      · skip
        refine ⟨(la_waysOfOther_176 h31_ h387_), ?_⟩
        have h388_ := (h27_ (S 1148 0))
        have h389_ := (h27_ (S 1148 0 + 1))
        have e390_ : sm_dp (S 1100024) (S 1100031 0) = sm_dp (S 1100024) (S 1100023 (S 1148 0)) := congrArg ((sm_dp (S 1100024))) h42_
        exact (la_waysOfOther_177 h33_ h81_ h380_ h387_ e390_)
      intro h391_
      refine ⟨(la_waysOfOther_178 h31_ h32_), ?_⟩
      intro h392_
      intro h393_
      have h394_ := (h393_ (sm_TC_t h37_ h42_))
      have h395_ := (h394_ h38_)
      have h396_ := (h395_ (la_waysOfOther_179 h62_ h63_))
      have h397_ := (h396_ h81_)
      have h398_ := (h397_ h381_)
      have h399_ := (h398_ h41_)
      refine ⟨?_, ?_⟩
      · skip
        refine ⟨h4_, ?_⟩
        refine ⟨h5_, ?_⟩
        refine ⟨h6_, ?_⟩
        refine ⟨h7_, ?_⟩
        refine ⟨h8_, ?_⟩
        refine ⟨h9_, ?_⟩
        refine ⟨h10_, ?_⟩
        refine ⟨h11_, ?_⟩
        refine ⟨h12_, ?_⟩
        refine ⟨h13_, ?_⟩
        refine ⟨h14_, ?_⟩
        refine ⟨h15_, ?_⟩
        refine ⟨h16_, ?_⟩
        refine ⟨h17_, ?_⟩
        refine ⟨h18_, ?_⟩
        refine ⟨h19_, ?_⟩
        refine ⟨h20_, ?_⟩
        refine ⟨h21_, ?_⟩
        refine ⟨(sm_ST_F h22_ (la_waysOfOther_15 h14_) sm_F1_rf sm_F1_rf (sm_F1_up sm_F1_rf (Int.le_refl _)) (sm_F1_up sm_F1_rf (la_waysOfOther_180 h31_ h387_)) (sm_F1_up sm_F1_rf (la_waysOfOther_180 h31_ h387_))), ?_⟩
        refine ⟨h23_, ?_⟩
        refine ⟨h24_, ?_⟩
        refine ⟨h25_, ?_⟩
        refine ⟨h26_, ?_⟩
        refine ⟨h27_, ?_⟩
        refine ⟨h28_, ?_⟩
        refine ⟨h29_, ?_⟩
        refine ⟨h30_, ?_⟩
        refine ⟨?_, ?_⟩
        · skip
          have h400_ := (h27_ (S 1148 0))
          have h401_ := (h27_ (S 1148 0 + 1))
          have e402_ : (if (639 : Int) = 639 then S 78 639 + 1 else S 78 639 : Int) = S 78 639 + 1 := if_pos la_waysOfOther_21
          have e403_ : sm_dp (S 1100024) (S 1100031 0) = sm_dp (S 1100024) (S 1100023 (S 1148 0)) := congrArg ((sm_dp (S 1100024))) h42_
          have h404_ := (h399_ (la_waysOfOther_181 h33_ h81_ h387_ e403_))
          exact (la_waysOfOther_182 h31_ e402_)
        refine ⟨?_, ?_⟩
        · skip
          have h405_ := (h27_ (S 1148 0))
          have h406_ := (h27_ (S 1148 0 + 1))
          have e407_ : (if (639 : Int) = 639 then S 78 639 + 1 else S 78 639 : Int) = S 78 639 + 1 := if_pos la_waysOfOther_21
          have e408_ : sm_dp (S 1100024) (S 1100031 0) = sm_dp (S 1100024) (S 1100023 (S 1148 0)) := congrArg ((sm_dp (S 1100024))) h42_
          have h409_ := (h399_ (la_waysOfOther_181 h33_ h81_ h387_ e408_))
          exact (la_waysOfOther_183 h33_ h81_ h380_ e407_ e408_)
        refine ⟨?_, ?_⟩
        · skip
          have h410_ := (h27_ (S 1148 0))
          have h411_ := (h27_ (S 1148 0 + 1))
          have e412_ : (if (639 : Int) = 639 then S 78 639 + 1 else S 78 639 : Int) = S 78 639 + 1 := if_pos la_waysOfOther_21
          have e413_ : sm_dp (S 1100024) (S 1100031 0) = sm_dp (S 1100024) (S 1100023 (S 1148 0)) := congrArg ((sm_dp (S 1100024))) h42_
          have h414_ := (h399_ (la_waysOfOther_181 h33_ h81_ h387_ e413_))
          exact (la_waysOfOther_184 h33_ h81_ h83_ e412_ e413_)
        refine ⟨(la_waysOfOther_185 h38_), ?_⟩
        refine ⟨h39_, ?_⟩
        refine ⟨(la_waysOfOther_186 h382_), ?_⟩
        refine ⟨?_, ?_⟩
        · skip
          have h415_ := (h27_ (S 1148 0))
          have h416_ := (h27_ (S 1148 0 + 1))
          have e417_ : sm_dp (S 1100024) (S 1100031 0) = sm_dp (S 1100024) (S 1100023 (S 1148 0)) := congrArg ((sm_dp (S 1100024))) h42_
          have h418_ := (h399_ (la_waysOfOther_181 h33_ h81_ h387_ e417_))
          exact h418_
        refine ⟨h38_, ?_⟩
        refine ⟨h383_, ?_⟩
        refine ⟨(la_waysOfOther_187 h41_ h384_), ?_⟩
        exact h385_
      intro g212
      rintro ⟨h419_, ⟨h420_, ⟨h421_, ⟨h422_, ⟨h423_, ⟨h424_, ⟨h425_, ⟨h426_, ⟨h427_, h428_⟩⟩⟩⟩⟩⟩⟩⟩⟩
      have e429_ : (if (639 : Int) = 639 then S 78 639 + 1 else S 78 639 : Int) = S 78 639 + 1 := if_pos la_waysOfOther_21
      refine ⟨h419_, ?_⟩
      refine ⟨h420_, ?_⟩
      refine ⟨h421_, ?_⟩
      refine ⟨h422_, ?_⟩
      refine ⟨h426_, ?_⟩
      refine ⟨h427_, ?_⟩
      exact (la_waysOfOther_48 h84_ h428_)
    refine ⟨?_, ?_⟩
    · skip
      intro h430_
      obtain ⟨h431_, ⟨h432_, ⟨h433_, h434_⟩⟩⟩ := (h54_ h430_)
      have h435_ := (h77_ (la_waysOfOther_199 h42_ h431_))
      have h436_ := (h36_ (la_waysOfOther_199 h42_ h431_))
      have h437_ := (h435_ h35_)
      obtain ⟨⟨h438_, ⟨h439_, ⟨h440_, ⟨h441_, ⟨h442_, h443_⟩⟩⟩⟩⟩, ⟨⟨h444_, ⟨h445_, ⟨h446_, h447_⟩⟩⟩, ⟨⟨h448_, ⟨h449_, ⟨h450_, h451_⟩⟩⟩, ⟨h452_, h453_⟩⟩⟩⟩ := (h437_ h436_)
      refine ⟨la_waysOfOther_19, ?_⟩
      intro h454_
      refine ⟨(la_waysOfOther_200 h31_ h32_), ?_⟩
      refine ⟨(la_waysOfOther_201 h8_ h14_ h35_ h442_ h443_), ?_⟩
      refine ⟨?_, ?_⟩
      · skip
        refine ⟨h4_, ?_⟩
        refine ⟨h5_, ?_⟩
        refine ⟨h6_, ?_⟩
        refine ⟨h7_, ?_⟩
        refine ⟨h8_, ?_⟩
        refine ⟨h9_, ?_⟩
        refine ⟨h10_, ?_⟩
        refine ⟨h11_, ?_⟩
        refine ⟨h12_, ?_⟩
        refine ⟨h13_, ?_⟩
        refine ⟨h14_, ?_⟩
        refine ⟨h15_, ?_⟩
        refine ⟨h16_, ?_⟩
        refine ⟨h17_, ?_⟩
        refine ⟨h18_, ?_⟩
        refine ⟨h19_, ?_⟩
        refine ⟨h20_, ?_⟩
        refine ⟨h21_, ?_⟩
        refine ⟨(sm_ST_F h22_ (la_waysOfOther_15 h14_) sm_F1_rf sm_F1_rf (sm_F1_up sm_F1_rf (Int.le_refl _)) sm_F1_rf sm_F1_rf), ?_⟩
        refine ⟨h23_, ?_⟩
        refine ⟨h24_, ?_⟩
        refine ⟨h25_, ?_⟩
        refine ⟨h26_, ?_⟩
        refine ⟨h27_, ?_⟩
        refine ⟨h28_, ?_⟩
        refine ⟨h29_, ?_⟩
        refine ⟨h30_, ?_⟩
        refine ⟨?_, ?_⟩
        · skip
          have h455_ := (h27_ (S 27 (S 1100031 0)))
          have h456_ := (h27_ (S 1100031 0))
          have h457_ := (h27_ (S 1148 0))
          have h458_ := (h27_ (S 1148 0 + 1))
          have e459_ : (if (639 : Int) = 639 then S 78 639 - 1 else S 78 639 : Int) = S 78 639 - 1 := if_pos la_waysOfOther_21
          have e460_ : S 1100023 (S 1100031 0) = S 1100023 (S 1100023 (S 1148 0)) := congrArg ((S 1100023)) h42_
          have e461_ : sm_dp (S 1100024) (S 1100031 0) = sm_dp (S 1100024) (S 1100023 (S 1148 0)) := congrArg ((sm_dp (S 1100024))) h42_
          exact (la_waysOfOther_203 h33_ h438_ h440_ e459_)
        refine ⟨?_, ?_⟩
        · skip
          have h462_ := (h27_ (S 27 (S 1100031 0)))
          have h463_ := (h27_ (S 1100031 0))
          have h464_ := (h27_ (S 1148 0))
          have h465_ := (h27_ (S 1148 0 + 1))
          have e466_ : (if (639 : Int) = 639 then S 78 639 - 1 else S 78 639 : Int) = S 78 639 - 1 := if_pos la_waysOfOther_21
          have e467_ : S 1100023 (S 1100031 0) = S 1100023 (S 1100023 (S 1148 0)) := congrArg ((S 1100023)) h42_
          have e468_ : sm_dp (S 1100024) (S 1100031 0) = sm_dp (S 1100024) (S 1100023 (S 1148 0)) := congrArg ((sm_dp (S 1100024))) h42_
          exact (la_waysOfOther_204 h32_ e466_)
        refine ⟨?_, ?_⟩
        · skip
          have h469_ := (h27_ (S 27 (S 1100031 0)))
          have h470_ := (h27_ (S 1100031 0))
          have h471_ := (h27_ (S 1148 0))
          have h472_ := (h27_ (S 1148 0 + 1))
          have e473_ : (if (639 : Int) = 639 then S 78 639 - 1 else S 78 639 : Int) = S 78 639 - 1 := if_pos la_waysOfOther_21
          have e474_ : S 1100023 (S 1100031 0) = S 1100023 (S 1100023 (S 1148 0)) := congrArg ((S 1100023)) h42_
          have e475_ : sm_dp (S 1100024) (S 1100031 0) = sm_dp (S 1100024) (S 1100023 (S 1148 0)) := congrArg ((sm_dp (S 1100024))) h42_
          exact (la_waysOfOther_205 h33_ h440_ h441_ e473_)
        refine ⟨h442_, ?_⟩
        refine ⟨(la_waysOfOther_206 h42_ h63_ h432_ h443_), ?_⟩
        refine ⟨h452_, ?_⟩
        refine ⟨h453_, ?_⟩
        refine ⟨h38_, ?_⟩
        refine ⟨h432_, ?_⟩
        refine ⟨(la_waysOfOther_187 h41_ h433_), ?_⟩
        have h476_ := (h27_ (S 27 (S 1100031 0)))
        have h477_ := (h27_ (S 1100031 0))
        have h478_ := (h27_ (S 1148 0))
        have h479_ := (h27_ (S 1148 0 + 1))
        have e480_ : S 1100023 (S 1100031 0) = S 1100023 (S 1100023 (S 1148 0)) := congrArg ((S 1100023)) h42_
        have e481_ : sm_dp (S 1100024) (S 1100031 0) = sm_dp (S 1100024) (S 1100023 (S 1148 0)) := congrArg ((sm_dp (S 1100024))) h42_
        exact (la_waysOfOther_187 h434_ e480_)
      intro g226
      rintro ⟨h482_, ⟨h483_, ⟨h484_, ⟨h485_, ⟨h486_, ⟨h487_, ⟨h488_, ⟨h489_, ⟨h490_, h491_⟩⟩⟩⟩⟩⟩⟩⟩⟩
      have e492_ : (if (639 : Int) = 639 then S 78 639 - 1 else S 78 639 : Int) = S 78 639 - 1 := if_pos la_waysOfOther_21
      refine ⟨h482_, ?_⟩
      refine ⟨h483_, ?_⟩
      refine ⟨h484_, ?_⟩
      refine ⟨h485_, ?_⟩
      refine ⟨h489_, ?_⟩
      refine ⟨h490_, ?_⟩
      exact (la_waysOfOther_48 h84_ h491_)
    intro h493_
    obtain ⟨h494_, ⟨h495_, ⟨h496_, h497_⟩⟩⟩ := (h55_ h493_)
    refine ⟨(la_waysOfOther_218 h21_ h41_ h61_ h494_), ?_⟩
    intro r236
    intro h498_
    intro h499_
    refine ⟨(la_waysOfOther_219 h29_ h30_ h499_), ?_⟩
    intro g238
    intro h500_
    have h501_ := (h500_ (la_waysOfOther_220 h29_ h499_))
    refine ⟨⟨h4_, ⟨h5_, ⟨h6_, ⟨h7_, ⟨h8_, ⟨h9_, ⟨h10_, ⟨h11_, ⟨h12_, ⟨h13_, ⟨h14_, ⟨h15_, ⟨h16_, ⟨h17_, ⟨h18_, ⟨h19_, ⟨h20_, ⟨h21_, ⟨h22_, ⟨h23_, ⟨h24_, ⟨h25_, ⟨h26_, ⟨h27_, ⟨h28_, ⟨h29_, ⟨h30_, ⟨h31_, ⟨h32_, ⟨h33_, ⟨h34_, ⟨h35_, ⟨h36_, ⟨h37_, (la_waysOfOther_221 h38_ h41_ h42_ h495_ h496_ h497_)⟩⟩⟩⟩⟩⟩⟩⟩⟩⟩⟩⟩⟩⟩⟩⟩⟩⟩⟩⟩⟩⟩⟩⟩⟩⟩⟩⟩⟩⟩⟩⟩⟩⟩, ?_⟩
    intro g244
    rintro ⟨h502_, ⟨h503_, ⟨h504_, ⟨h505_, ⟨h506_, ⟨h507_, ⟨h508_, ⟨h509_, ⟨h510_, h511_⟩⟩⟩⟩⟩⟩⟩⟩⟩
    refine ⟨h502_, ?_⟩
    refine ⟨h503_, ?_⟩
    refine ⟨h504_, ?_⟩
    refine ⟨h505_, ?_⟩
    refine ⟨h509_, ?_⟩
    refine ⟨h510_, ?_⟩
    exact (la_waysOfOther_222 h84_ h501_ h511_)
  refine ⟨la_waysOfOther_19, ?_⟩
  intro h512_
  refine ⟨la_waysOfOther_223, ?_⟩
  intro h513_
  refine ⟨(la_waysOfOther_224 h21_ h41_ h61_ h513_), ?_⟩
  intro r257
  intro h514_
  intro h515_
  refine ⟨(la_waysOfOther_225 h30_ h513_ h515_), ?_⟩
  intro g259
  intro h516_
  exact h516_
set_option maxRecDepth 8000 in
set_option maxHeartbeats 2000000 in
theorem t_waysOfOther : ∀ (p1 : Int) (p2 : Int) (S : sv_S), sm_ok S → sv_R p1 → sv_R p2 → (29 ≤ (S 1071 0) ∧ (S 1071 0) ≤ 127 ∧ 31 ≤ (S 1008 0) ∧ (S 1008 0) ≤ 90 ∧ 1 ≤ (S 1032 0) ∧ (S 1032 0) ≤ 11 ∧ 0 ≤ (S 1055 0) ∧ (S 1055 0) ≤ 19 ∧ (S 1071 0) = 29 + 6 * ((S 1032 0) - 1) + 2 * (S 1055 0) ∧ 0 ≤ (S 1046 0) ∧ (S 1046 0) + 2 * (S 1032 0) ≤ 500 ∧ sm_PD (S 1046 0) (S 1032 0) (S 1071 0) (S 1008 0) ∧ 0 ≤ (S 1071 0) * ((S 1008 0) + 1) ∧ (S 1071 0) * ((S 1008 0) + 1) ≤ 11557 ∧ 31 ≤ (S 1007 0) ∧ (S 1007 0) ≤ 400 ∧ sm_LN (S 4) 400 (S 1007 0) ∧ (S 75 639) = 647340 ∧ sm_ST (S 71) (S 74) (S 75) (S 78) (S 79) (S 80) (S 27) (S 1100007) (S 1100023) (S 1100024) (S 1046 0) ((S 1046 0) + 2 * (S 1032 0)) (S 1127 0) ∧ 465000 ≤ (S 1127 0) ∧ (S 1127 0) + sm_hs (S 71) (S 1100007) ≤ 635000 ∧ sm_NH (S 1100007) ∧ sm_CT (S 26) (S 27) (S 28) (S 29) (S 1100007) (S 1100023) (S 1100024) (S 1100025) (S 21) (S 1046 0) (S 1032 0) (S 1008 0) (S 1055 0) ∧ (∀ k : Int, (S 1046 0) ≤ k → k < ((S 1046 0) + 2 * (S 1032 0)) → (S 1100007 k) = 1) ∧ sm_DR (S 72) (S 71) (S 1046 0) ∧ 0 ≤ (S 74 639) ∧ (S 74 639) ≤ 400 ∧ 0 ≤ (S 78 639) ∧ (S 78 639) ≤ 40 ∧ (S 78 639) = sm_dp (S 1100024) (S 1100031 0) ∧ -1 ≤ (S 1100031 0) ∧ (S 1100031 0) < (S 1046 0) ∧ (0 ≤ (S 1100031 0) → (S 26 (S 1100031 0)) = 27) ∧ sm_TC (S 79) (S 80) (S 27) (S 1100007) (S 1100023) (S 1100024) 25560 (S 1100031 0) ∧ 0 ≤ (S 1148 0) ∧ (S 1148 0) < (S 1046 0) ∧ (S 71 (S 1148 0)) = 1 ∧ (S 74 639) = (S 1100007 (S 1148 0)) ∧ (S 1100031 0) = (S 1100023 (S 1148 0)) ∧ 17 ≤ p1 ∧ p1 ≤ 30 ∧ (p1 = 17 → 1 ≤ (S 1100007 (S 1148 0)) ∧ (S 1148 0) + 1 < (S 1046 0) ∧ (S 1100007 ((S 1148 0) + 1)) = (S 1100007 (S 1148 0)) + (-1) ∧ (S 1100023 ((S 1148 0) + 1)) = (S 1100023 (S 1148 0))) ∧ (p1 = 18 → 1 ≤ (S 1100007 (S 1148 0)) ∧ (S 1148 0) + 1 < (S 1046 0) ∧ (S 1100007 ((S 1148 0) + 1)) = (S 1100007 (S 1148 0)) + 1 ∧ (S 1100023 ((S 1148 0) + 1)) = (S 1100023 (S 1148 0))) ∧ (p1 = 19 → 2 ≤ (S 1100007 (S 1148 0)) ∧ (S 1148 0) + 1 < (S 1046 0) ∧ (S 1100007 ((S 1148 0) + 1)) = (S 1100007 (S 1148 0)) + 2 ∧ (S 1100023 ((S 1148 0) + 1)) = (S 1100023 (S 1148 0))) ∧ (p1 = 20 → 3 ≤ (S 1100007 (S 1148 0)) ∧ (S 1148 0) + 1 < (S 1046 0) ∧ (S 1100007 ((S 1148 0) + 1)) = (S 1100007 (S 1148 0)) + 1 ∧ (S 1100023 ((S 1148 0) + 1)) = (S 1100023 (S 1148 0))) ∧ (p1 = 21 → 0 ≤ p2 ∧ p2 < (S 1046 0) ∧ (S 1100007 p2) = (S 1100007 (S 1148 0)) + 0 ∧ (S 1100023 p2) = (S 1100023 (S 1148 0))) ∧ (p1 = 22 → 1 ≤ (S 1100007 (S 1148 0)) ∧ (S 1148 0) + 1 < (S 1046 0) ∧ (S 1100007 ((S 1148 0) + 1)) = (S 1100007 (S 1148 0)) + (-1) ∧ (S 1100023 ((S 1148 0) + 1)) = (S 1100023 (S 1148 0)) ∧ 0 ≤ p2 ∧ p2 < (S 1046 0) ∧ (S 1100007 p2) = (S 1100007 (S 1148 0)) + (-1) ∧ (S 1100023 p2) = (S 1100023 (S 1148 0))) ∧ (p1 = 23 ∨ p1 = 24 → 1 ≤ (S 1100007 (S 1148 0)) ∧ (S 1148 0) + 1 < (S 1046 0) ∧ (S 1100007 ((S 1148 0) + 1)) = (S 1100007 (S 1148 0)) + (-1) ∧ (S 1100023 ((S 1148 0) + 1)) = (S 1100023 (S 1148 0)) ∧ 0 ≤ p2 ∧ p2 < (S 1046 0) ∧ (S 1100007 p2) = (S 1100007 (S 1148 0)) + 0 ∧ (S 1100023 p2) = (S 1100023 (S 1148 0))) ∧ (p1 = 25 ∨ p1 = 26 → 1 ≤ (S 1100007 (S 1148 0))) ∧ (p1 = 27 → (S 1100024 (S 1148 0)) < 40 ∧ p2 = (S 27 (S 1148 0)) ∧ (S 26 (S 1148 0)) = 27 ∧ (S 1148 0) + 1 < (S 1046 0) ∧ (S 1100007 ((S 1148 0) + 1)) = (S 1100007 (S 1148 0)) ∧ (S 1100023 ((S 1148 0) + 1)) = (S 1148 0)) ∧ (p1 = 28 → 0 ≤ (S 1100023 (S 1148 0)) ∧ (S 1148 0) + 1 < (S 1046 0) ∧ (S 1100007 ((S 1148 0) + 1)) = (S 1100007 (S 1148 0)) ∧ (S 1100023 ((S 1148 0) + 1)) = (S 1100023 (S 1100023 (S 1148 0)))) ∧ (p1 = 29 → 1 ≤ (S 1100007 (S 1148 0)) ∧ (S 1148 0) + 1 < (S 1046 0) ∧ (S 1100007 ((S 1148 0) + 1)) = (S 1100007 (S 1148 0)) + 0 ∧ (S 1100023 ((S 1148 0) + 1)) = (S 1100023 (S 1148 0))) ∧ (p1 = 30 → 1 ≤ (S 1100007 (S 1148 0)) ∧ (S 1148 0) + 1 < (S 1046 0) ∧ (S 1100007 ((S 1148 0) + 1)) = (S 1100007 (S 1148 0)) + 1 ∧ (S 1100023 ((S 1148 0) + 1)) = (S 1100023 (S 1148 0)) ∧ 0 ≤ p2 ∧ p2 < (S 1046 0) ∧ (S 1100007 p2) = (S 1100007 (S 1148 0)) + (-1) ∧ (S 1100023 p2) = (S 1100023 (S 1148 0)))) → sv_T sm_XS sm_cs sm_L sm_sh 6 (q_waysOfOther p1 p2 S) 268 0 (lv_args 0 [.ref 0, sv_I p1, sv_I p2]) [] S := by
  intro p1 p2 S hok hp1 hp2 hpre
  have h := f_waysOfOther p1 p2 S hok hp1 hp2 hpre
  have hM := sm_h268
  show sv_T sm_XS sm_cs sm_L sm_sh 6 (q_waysOfOther p1 p2 S) 268 0 [(0, .ref 0), (1, sv_I p1), (2, sv_I p2)] [] S
  have k1 : (sm_CT (S 26) (S 27) (S 28) (S 29) (S 1100007) (S 1100023) (S 1100024) (S 1100025) (S 21) (S 1046 0) (S 1032 0) (S 1008 0) (S 1055 0) → 0 ≤ (S 1148 0) → (S 1148 0) < (S 1046 0) → 0 ≤ (S 1100007 (S 1148 0)) ∧ (S 1100007 (S 1148 0)) ≤ 396 ∧ -1 ≤ (S 1100023 (S 1148 0)) ∧ (S 1100023 (S 1148 0)) < (S 1148 0)) := fun h h0 h1 => by have q := sm_ct_0 h _ h0 h1; exact ⟨q.2.2.2.2.1, q.2.2.2.2.2.1, q.2.2.2.2.2.2.2.1, q.2.2.2.2.2.2.2.2.1⟩
  have h := h k1
  have k2 : (sm_CT (S 26) (S 27) (S 28) (S 29) (S 1100007) (S 1100023) (S 1100024) (S 1100025) (S 21) (S 1046 0) (S 1032 0) (S 1008 0) (S 1055 0) → 0 ≤ (S 1148 0) → (S 1148 0) < (S 1046 0) → 0 ≤ (S 29 (S 1148 0)) ∧ (S 29 (S 1148 0)) < (S 1032 0) ∧ 0 ≤ (S 1100007 (S 1148 0)) ∧ (S 1100007 (S 1148 0)) ≤ 396 ∧ -1 ≤ (S 1100023 (S 1148 0)) ∧ (S 1100023 (S 1148 0)) < (S 1148 0) ∧ 0 ≤ (S 26 (S 1148 0)) ∧ (S 26 (S 1148 0)) ≤ 30) := fun h h0 h1 => by have q := sm_ct_0 h _ h0 h1; exact ⟨q.2.2.1, q.2.2.2.1, q.2.2.2.2.1, q.2.2.2.2.2.1, q.2.2.2.2.2.2.2.1, q.2.2.2.2.2.2.2.2.1, q.1, q.2.1⟩
  have h := h k2
  have k3 : (sm_CT (S 26) (S 27) (S 28) (S 29) (S 1100007) (S 1100023) (S 1100024) (S 1100025) (S 21) (S 1046 0) (S 1032 0) (S 1008 0) (S 1055 0) → sm_TC (S 79) (S 80) (S 27) (S 1100007) (S 1100023) (S 1100024) 25560 (S 1100031 0) → 0 ≤ (S 1100031 0) → (S 1100031 0) < (S 1046 0) → (S 26 (S 1100031 0)) = 27 → (0 ≤ (S 1100024 (S 1100031 0)) ∧ (S 1100024 (S 1100031 0)) < 40 ∧ sm_dp (S 1100024) (S 1100031 0) = (S 1100024 (S 1100031 0)) + 1 ∧ (S 1100024 (S 1100031 0)) = sm_dp (S 1100024) (S 1100023 (S 1100031 0)) ∧ -1 ≤ (S 1100023 (S 1100031 0)) ∧ (S 1100023 (S 1100031 0)) < (S 1100031 0)) ∧ ((S 79 (25560 + (S 1100024 (S 1100031 0)))) = (S 27 (S 1100031 0)) ∧ (S 80 (25560 + (S 1100024 (S 1100031 0)))) = (S 1100007 (S 1100031 0)) ∧ 0 ≤ (S 1100007 (S 1100031 0)) ∧ (S 1100007 (S 1100031 0)) ≤ 396) ∧ (0 ≤ (S 27 (S 1100031 0)) ∧ (S 27 (S 1100031 0)) < (S 1046 0) ∧ (S 1100007 (S 27 (S 1100031 0))) = (S 1100007 (S 1100031 0)) + 1 ∧ (S 1100023 (S 27 (S 1100031 0))) = (S 1100023 (S 1100031 0))) ∧ (0 ≤ (S 1100023 (S 1100031 0)) → (S 26 (S 1100023 (S 1100031 0))) = 27) ∧ sm_TC (S 79) (S 80) (S 27) (S 1100007) (S 1100023) (S 1100024) 25560 (S 1100023 (S 1100031 0))) := sm_TC_toss
  have h := h k3
  have k4 : (sm_CT (S 26) (S 27) (S 28) (S 29) (S 1100007) (S 1100023) (S 1100024) (S 1100025) (S 21) (S 1046 0) (S 1032 0) (S 1008 0) (S 1055 0) → 0 ≤ (S 1148 0) → (S 1148 0) < (S 1046 0) → (S 1100024 (S 1148 0)) = sm_dp (S 1100024) (S 1100023 (S 1148 0))) := fun h h0 h1 => sm_dp_k h _ h0 h1
  have h := h k4
  have k5 : (0 ≤ (S 1148 0) → sm_dp (S 1100024) (S 1148 0) = (S 1100024 (S 1148 0)) + 1) := sm_dp_s
  have h := h k5
  refine sv_ldc_w (d := (647740 : Int)) hM dX12_waysOfOther_0 sm_ck_1218 rfl rfl ?_
  refine sv_istore_n hM dX12_waysOfOther_3 (by decide) rfl ?_
  show sv_T sm_XS sm_cs sm_L sm_sh 6 (q_waysOfOther p1 p2 S) 268 4 [(0, .ref 0), (1, sv_I p1), (2, sv_I p2), (3, sv_I (647740 : Int))] [] S
  have J249 : ∀ g6 : sv_S, sm_ok (sv_sts S [68, 69, 70] g6) → (sm_pt (g6 68) (g6 69) (g6 70) = sm_pt (S 68) (S 69) (S 70)) → sv_T sm_XS sm_cs sm_L sm_sh 6 (q_waysOfOther p1 p2 S) 268 25 [(0, .ref 0), (1, sv_I p1), (2, sv_I p2), (3, sv_I (647740 : Int))] [] (sv_sts S [68, 69, 70] g6) := by
    intro  g6 ok7 hin8
    have h := h.1 g6 hin8
    have md9 : sv_mod [68, 69, 70, 81, 82, 83, 84, 85, 86, 71, 74, 75, 1127, 78, 79, 80, 72, 76, 77, 1143, 1144, 5, 1011, 1150, 1149, 1145, 1113, 1111, 1112, 1100031] S (sv_sts S [68, 69, 70] g6) := sv_mod.sts sv_mod.rf (by decide)
    have md10 : sv_mod [68, 69, 70] S (sv_sts S [68, 69, 70] g6) := sv_mod.sts sv_mod.rf (by decide)
    refine sv_iload_n hM dX12_waysOfOther_25 rfl rfl ?_
    have hS := h
    have J0 : (p1 < (17 : Int) ∨ (29 : Int) < p1) → sv_T sm_XS sm_cs sm_L sm_sh 6 (q_waysOfOther p1 p2 S) 268 369 [(0, .ref 0), (1, sv_I p1), (2, sv_I p2), (3, sv_I (647740 : Int))] [] (sv_sts S [68, 69, 70] g6) := by
      intro hc
      have h := hS.1 hc
      refine sv_aload_n hM dX12_waysOfOther_369 rfl rfl ?_
      refine sv_aload_n hM dX12_waysOfOther_370 rfl rfl ?_
      obtain ⟨o11, h⟩ := h
      refine sv_callV hM dX12_waysOfOther_371 sm_iv_1201 (by decide) (sm_a0 _) rfl rfl (Nat.le_of_ble_eq_true rfl) sm_h230 (Nat.le_of_ble_eq_true rfl) (Nat.le_of_ble_eq_true rfl) (F' := 1) (Nat.le_of_ble_eq_true rfl) rfl (t_pushSet  (sv_sts S [68, 69, 70] g6) ok7 o11) (fun v S1 hq => ?_)
      obtain ⟨r16, rfl, hr16, ok13, md14, hpo15⟩ := hq
      obtain ⟨g12, rfl⟩ : ∃ g, S1 = sv_sts (sv_sts S [68, 69, 70] g6) [68, 69, 70, 74] g := ⟨_, md14.eq⟩
      show sv_T sm_XS sm_cs sm_L sm_sh 6 (q_waysOfOther p1 p2 S) 268 374 [(0, .ref 0), (1, sv_I p1), (2, sv_I p2), (3, sv_I (647740 : Int))] [sv_I r16, .ref 0] (sv_sts (sv_sts S [68, 69, 70] g6) [68, 69, 70, 74] g12)
      have md17 : sv_mod [68, 69, 70, 81, 82, 83, 84, 85, 86, 71, 74, 75, 1127, 78, 79, 80, 72, 76, 77, 1143, 1144, 5, 1011, 1150, 1149, 1145, 1113, 1111, 1112, 1100031] S (sv_sts (sv_sts S [68, 69, 70] g6) [68, 69, 70, 74] g12) := sv_mod.sts md9 (by decide)
      have h := h r16 hr16 g12 hpo15
      refine sv_iconst (d := (-1 : Int)) hM dX12_waysOfOther_374 rfl rfl ?_
      obtain ⟨o18, h⟩ := h
      refine sv_callV hM dX12_waysOfOther_375 sm_iv_1078 (by decide) (sm_a0 _) rfl rfl (Nat.le_of_ble_eq_true rfl) sm_h215 (Nat.le_of_ble_eq_true rfl) (Nat.le_of_ble_eq_true rfl) (F' := 2) (Nat.le_of_ble_eq_true rfl) rfl (t_addString r16 (-1 : Int) (sv_sts (sv_sts S [68, 69, 70] g6) [68, 69, 70, 74] g12) ok13 hr16 (⟨by decide, by decide⟩ : sv_R (-1 : Int)) o18) (fun v S1 hq => ?_)
      obtain ⟨rfl, ok20, md21, hpo22⟩ := hq
      obtain ⟨g19, rfl⟩ : ∃ g, S1 = sv_sts (sv_sts (sv_sts S [68, 69, 70] g6) [68, 69, 70, 74] g12) [68, 69, 70] g := ⟨_, md21.eq⟩
      show sv_T sm_XS sm_cs sm_L sm_sh 6 (q_waysOfOther p1 p2 S) 268 378 [(0, .ref 0), (1, sv_I p1), (2, sv_I p2), (3, sv_I (647740 : Int))] [] (sv_sts (sv_sts (sv_sts S [68, 69, 70] g6) [68, 69, 70, 74] g12) [68, 69, 70] g19)
      have md23 : sv_mod [68, 69, 70, 81, 82, 83, 84, 85, 86, 71, 74, 75, 1127, 78, 79, 80, 72, 76, 77, 1143, 1144, 5, 1011, 1150, 1149, 1145, 1113, 1111, 1112, 1100031] S (sv_sts (sv_sts (sv_sts S [68, 69, 70] g6) [68, 69, 70, 74] g12) [68, 69, 70] g19) := sv_mod.sts md17 (by decide)
      have h := h g19 hpo22
      refine sv_aload_n hM dX12_waysOfOther_378 rfl rfl ?_
      obtain ⟨o24, h⟩ := h
      refine sv_callV hM dX12_waysOfOther_379 sm_iv_1222 (by decide) (sm_a0 _) rfl rfl (Nat.le_of_ble_eq_true rfl) sm_h258 (Nat.le_of_ble_eq_true rfl) (Nat.le_of_ble_eq_true rfl) (F' := 4) (Nat.le_of_ble_eq_true rfl) rfl (t_on  (sv_sts (sv_sts (sv_sts S [68, 69, 70] g6) [68, 69, 70, 74] g12) [68, 69, 70] g19) ok20 o24) (fun v S1 hq => ?_)
      obtain ⟨rfl, ok26, md27, hpo28⟩ := hq
      obtain ⟨g25, rfl⟩ : ∃ g, S1 = sv_sts (sv_sts (sv_sts (sv_sts S [68, 69, 70] g6) [68, 69, 70, 74] g12) [68, 69, 70] g19) [68, 69, 70, 81, 82, 83, 84, 85, 86, 71, 74, 75, 1127, 78, 79, 80, 72, 76, 77, 1150] g := ⟨_, md27.eq⟩
      show sv_T sm_XS sm_cs sm_L sm_sh 6 (q_waysOfOther p1 p2 S) 268 382 [(0, .ref 0), (1, sv_I p1), (2, sv_I p2), (3, sv_I (647740 : Int))] [] (sv_sts (sv_sts (sv_sts (sv_sts S [68, 69, 70] g6) [68, 69, 70, 74] g12) [68, 69, 70] g19) [68, 69, 70, 81, 82, 83, 84, 85, 86, 71, 74, 75, 1127, 78, 79, 80, 72, 76, 77, 1150] g25)
      have md29 : sv_mod [68, 69, 70, 81, 82, 83, 84, 85, 86, 71, 74, 75, 1127, 78, 79, 80, 72, 76, 77, 1143, 1144, 5, 1011, 1150, 1149, 1145, 1113, 1111, 1112, 1100031] S (sv_sts (sv_sts (sv_sts (sv_sts S [68, 69, 70] g6) [68, 69, 70, 74] g12) [68, 69, 70] g19) [68, 69, 70, 81, 82, 83, 84, 85, 86, 71, 74, 75, 1127, 78, 79, 80, 72, 76, 77, 1150] g25) := sv_mod.sts md23 (by decide)
      have h := h g25 hpo28
      refine sv_aload_n hM dX12_waysOfOther_382 rfl rfl ?_
      refine sv_getA hM dX12_waysOfOther_383 sm_fl_235 (sm_a0 _) sm_k125 rfl ?_
      refine sv_sipush (d := (639 : Int)) hM dX12_waysOfOther_386 rfl rfl ?_
      refine sv_dup2 hM dX12_waysOfOther_389 rfl ?_
      obtain ⟨o30, h⟩ := h
      have k31 : sv_R (g25 74 (639 : Int)) := sm_okI ok26 sm_r74 (639 : Int)
      have h := h k31
      refine sv_iald hM dX12_waysOfOther_390 (sm_a74 _) (by decide) o30.1 o30.2 rfl (x := (g25 74 (639 : Int))) rfl ?_
      refine sv_iconst (d := (2 : Int)) hM dX12_waysOfOther_391 rfl rfl ?_
      refine sv_isub hM dX12_waysOfOther_392 rfl ?_
      obtain ⟨o32, h⟩ := h
      refine sv_iast sm_X hM dX12_waysOfOther_393 (sm_a74 _) (by decide) o30.1 o30.2 rfl ?_
      have ok33 : sm_ok (sv_up (sv_sts (sv_sts (sv_sts (sv_sts S [68, 69, 70] g6) [68, 69, 70, 74] g12) [68, 69, 70] g19) [68, 69, 70, 81, 82, 83, 84, 85, 86, 71, 74, 75, 1127, 78, 79, 80, 72, 76, 77, 1150] g25) 74 (639 : Int) ((g25 74 (639 : Int)) - (2 : Int))) := sm_upI ok26 sm_r74 o32
      have md34 : sv_mod [68, 69, 70, 81, 82, 83, 84, 85, 86, 71, 74, 75, 1127, 78, 79, 80, 72, 76, 77, 1143, 1144, 5, 1011, 1150, 1149, 1145, 1113, 1111, 1112, 1100031] S (sv_up (sv_sts (sv_sts (sv_sts (sv_sts S [68, 69, 70] g6) [68, 69, 70, 74] g12) [68, 69, 70] g19) [68, 69, 70, 81, 82, 83, 84, 85, 86, 71, 74, 75, 1127, 78, 79, 80, 72, 76, 77, 1150] g25) 74 (639 : Int) ((g25 74 (639 : Int)) - (2 : Int))) := sv_mod.up md29 (by decide)
      refine sv_aload_n hM dX12_waysOfOther_394 rfl rfl ?_
      refine sv_iload_n hM dX12_waysOfOther_395 rfl rfl ?_
      obtain ⟨o35, h⟩ := h
      refine sv_callV hM dX12_waysOfOther_396 sm_iv_1274 (by decide) (sm_a0 _) rfl rfl (Nat.le_of_ble_eq_true rfl) sm_h259 (Nat.le_of_ble_eq_true rfl) (Nat.le_of_ble_eq_true rfl) (F' := 4) (Nat.le_of_ble_eq_true rfl) rfl (t_to p2 (sv_up (sv_sts (sv_sts (sv_sts (sv_sts S [68, 69, 70] g6) [68, 69, 70, 74] g12) [68, 69, 70] g19) [68, 69, 70, 81, 82, 83, 84, 85, 86, 71, 74, 75, 1127, 78, 79, 80, 72, 76, 77, 1150] g25) 74 (639 : Int) ((g25 74 (639 : Int)) - (2 : Int))) ok33 hp2 o35) (fun v S1 hq => ?_)
      obtain ⟨rfl, ok37, md38, hpo39⟩ := hq
      obtain ⟨g36, rfl⟩ : ∃ g, S1 = sv_sts (sv_up (sv_sts (sv_sts (sv_sts (sv_sts S [68, 69, 70] g6) [68, 69, 70, 74] g12) [68, 69, 70] g19) [68, 69, 70, 81, 82, 83, 84, 85, 86, 71, 74, 75, 1127, 78, 79, 80, 72, 76, 77, 1150] g25) 74 (639 : Int) ((g25 74 (639 : Int)) - (2 : Int))) [68, 69, 70, 81, 82, 83, 84, 85, 86, 71, 74, 75, 1127, 78, 79, 80, 72, 76, 77, 1150] g := ⟨_, md38.eq⟩
      show sv_T sm_XS sm_cs sm_L sm_sh 6 (q_waysOfOther p1 p2 S) 268 399 [(0, .ref 0), (1, sv_I p1), (2, sv_I p2), (3, sv_I (647740 : Int))] [] (sv_sts (sv_up (sv_sts (sv_sts (sv_sts (sv_sts S [68, 69, 70] g6) [68, 69, 70, 74] g12) [68, 69, 70] g19) [68, 69, 70, 81, 82, 83, 84, 85, 86, 71, 74, 75, 1127, 78, 79, 80, 72, 76, 77, 1150] g25) 74 (639 : Int) ((g25 74 (639 : Int)) - (2 : Int))) [68, 69, 70, 81, 82, 83, 84, 85, 86, 71, 74, 75, 1127, 78, 79, 80, 72, 76, 77, 1150] g36)
      have md40 : sv_mod [68, 69, 70, 81, 82, 83, 84, 85, 86, 71, 74, 75, 1127, 78, 79, 80, 72, 76, 77, 1143, 1144, 5, 1011, 1150, 1149, 1145, 1113, 1111, 1112, 1100031] S (sv_sts (sv_up (sv_sts (sv_sts (sv_sts (sv_sts S [68, 69, 70] g6) [68, 69, 70, 74] g12) [68, 69, 70] g19) [68, 69, 70, 81, 82, 83, 84, 85, 86, 71, 74, 75, 1127, 78, 79, 80, 72, 76, 77, 1150] g25) 74 (639 : Int) ((g25 74 (639 : Int)) - (2 : Int))) [68, 69, 70, 81, 82, 83, 84, 85, 86, 71, 74, 75, 1127, 78, 79, 80, 72, 76, 77, 1150] g36) := sv_mod.sts md34 (by decide)
      have h := h g36 hpo39
      exact sv_vret hM dX12_waysOfOther_399 rfl ⟨rfl, ok37, md40, h⟩
    have J1 : (p1 = (17 : Int)) → sv_T sm_XS sm_cs sm_L sm_sh 6 (q_waysOfOther p1 p2 S) 268 92 [(0, .ref 0), (1, sv_I p1), (2, sv_I p2), (3, sv_I (647740 : Int))] [] (sv_sts S [68, 69, 70] g6) := by
      intro hc
      have h := hS.2.1 hc
      refine sv_aload_n hM dX12_waysOfOther_92 rfl rfl ?_
      refine sv_getA hM dX12_waysOfOther_93 sm_fl_235 (sm_a0 _) sm_k125 rfl ?_
      refine sv_sipush (d := (639 : Int)) hM dX12_waysOfOther_96 rfl rfl ?_
      refine sv_dup2 hM dX12_waysOfOther_99 rfl ?_
      obtain ⟨o41, h⟩ := h
      have k42 : sv_R (S 74 (639 : Int)) := sm_okI ok7 sm_r74 (639 : Int)
      have h := h k42
      refine sv_iald hM dX12_waysOfOther_100 (sm_a74 _) (by decide) o41.1 o41.2 rfl (x := (S 74 (639 : Int))) rfl ?_
      refine sv_iconst (d := (1 : Int)) hM dX12_waysOfOther_101 rfl rfl ?_
      refine sv_isub hM dX12_waysOfOther_102 rfl ?_
      obtain ⟨o43, h⟩ := h
      refine sv_iast sm_X hM dX12_waysOfOther_103 (sm_a74 _) (by decide) o41.1 o41.2 rfl ?_
      have ok44 : sm_ok (sv_up (sv_sts S [68, 69, 70] g6) 74 (639 : Int) ((S 74 (639 : Int)) - (1 : Int))) := sm_upI ok7 sm_r74 o43
      have md45 : sv_mod [68, 69, 70, 81, 82, 83, 84, 85, 86, 71, 74, 75, 1127, 78, 79, 80, 72, 76, 77, 1143, 1144, 5, 1011, 1150, 1149, 1145, 1113, 1111, 1112, 1100031] S (sv_up (sv_sts S [68, 69, 70] g6) 74 (639 : Int) ((S 74 (639 : Int)) - (1 : Int))) := sv_mod.up md9 (by decide)
      refine sv_aload_n hM dX12_waysOfOther_104 rfl rfl ?_
      obtain ⟨o46, h⟩ := h
      refine sv_callV hM dX12_waysOfOther_105 sm_iv_1222 (by decide) (sm_a0 _) rfl rfl (Nat.le_of_ble_eq_true rfl) sm_h258 (Nat.le_of_ble_eq_true rfl) (Nat.le_of_ble_eq_true rfl) (F' := 4) (Nat.le_of_ble_eq_true rfl) rfl (t_on  (sv_up (sv_sts S [68, 69, 70] g6) 74 (639 : Int) ((S 74 (639 : Int)) - (1 : Int))) ok44 o46) (fun v S1 hq => ?_)
      obtain ⟨rfl, ok48, md49, hpo50⟩ := hq
      obtain ⟨g47, rfl⟩ : ∃ g, S1 = sv_sts (sv_up (sv_sts S [68, 69, 70] g6) 74 (639 : Int) ((S 74 (639 : Int)) - (1 : Int))) [68, 69, 70, 81, 82, 83, 84, 85, 86, 71, 74, 75, 1127, 78, 79, 80, 72, 76, 77, 1150] g := ⟨_, md49.eq⟩
      show sv_T sm_XS sm_cs sm_L sm_sh 6 (q_waysOfOther p1 p2 S) 268 108 [(0, .ref 0), (1, sv_I p1), (2, sv_I p2), (3, sv_I (647740 : Int))] [] (sv_sts (sv_up (sv_sts S [68, 69, 70] g6) 74 (639 : Int) ((S 74 (639 : Int)) - (1 : Int))) [68, 69, 70, 81, 82, 83, 84, 85, 86, 71, 74, 75, 1127, 78, 79, 80, 72, 76, 77, 1150] g47)
      have md51 : sv_mod [68, 69, 70, 81, 82, 83, 84, 85, 86, 71, 74, 75, 1127, 78, 79, 80, 72, 76, 77, 1143, 1144, 5, 1011, 1150, 1149, 1145, 1113, 1111, 1112, 1100031] S (sv_sts (sv_up (sv_sts S [68, 69, 70] g6) 74 (639 : Int) ((S 74 (639 : Int)) - (1 : Int))) [68, 69, 70, 81, 82, 83, 84, 85, 86, 71, 74, 75, 1127, 78, 79, 80, 72, 76, 77, 1150] g47) := sv_mod.sts md45 (by decide)
      have h := h g47 hpo50
      refine sv_goto hM dX12_waysOfOther_108 (pc' := 399) rfl ?_
      exact sv_vret hM dX12_waysOfOther_399 rfl ⟨rfl, ok48, md51, h⟩
    have J2 : (p1 = (18 : Int)) → sv_T sm_XS sm_cs sm_L sm_sh 6 (q_waysOfOther p1 p2 S) 268 111 [(0, .ref 0), (1, sv_I p1), (2, sv_I p2), (3, sv_I (647740 : Int))] [] (sv_sts S [68, 69, 70] g6) := by
      intro hc
      have h := hS.2.2.1 hc
      refine sv_aload_n hM dX12_waysOfOther_111 rfl rfl ?_
      refine sv_iload_n hM dX12_waysOfOther_112 rfl rfl ?_
      refine sv_aload_n hM dX12_waysOfOther_113 rfl rfl ?_
      obtain ⟨o52, h⟩ := h
      refine sv_callV hM dX12_waysOfOther_114 sm_iv_1201 (by decide) (sm_a0 _) rfl rfl (Nat.le_of_ble_eq_true rfl) sm_h230 (Nat.le_of_ble_eq_true rfl) (Nat.le_of_ble_eq_true rfl) (F' := 1) (Nat.le_of_ble_eq_true rfl) rfl (t_pushSet  (sv_sts S [68, 69, 70] g6) ok7 o52) (fun v S1 hq => ?_)
      obtain ⟨r57, rfl, hr57, ok54, md55, hpo56⟩ := hq
      obtain ⟨g53, rfl⟩ : ∃ g, S1 = sv_sts (sv_sts S [68, 69, 70] g6) [68, 69, 70, 74] g := ⟨_, md55.eq⟩
      show sv_T sm_XS sm_cs sm_L sm_sh 6 (q_waysOfOther p1 p2 S) 268 117 [(0, .ref 0), (1, sv_I p1), (2, sv_I p2), (3, sv_I (647740 : Int))] [sv_I r57, sv_I (647740 : Int), .ref 0] (sv_sts (sv_sts S [68, 69, 70] g6) [68, 69, 70, 74] g53)
      have md58 : sv_mod [68, 69, 70, 81, 82, 83, 84, 85, 86, 71, 74, 75, 1127, 78, 79, 80, 72, 76, 77, 1143, 1144, 5, 1011, 1150, 1149, 1145, 1113, 1111, 1112, 1100031] S (sv_sts (sv_sts S [68, 69, 70] g6) [68, 69, 70, 74] g53) := sv_mod.sts md9 (by decide)
      have h := h r57 hr57 g53 hpo56
      obtain ⟨o59, h⟩ := h
      refine sv_callV hM dX12_waysOfOther_117 sm_iv_1092 (by decide) (sm_a0 _) rfl rfl (Nat.le_of_ble_eq_true rfl) sm_h207 (Nat.le_of_ble_eq_true rfl) (Nat.le_of_ble_eq_true rfl) (F' := 0) (Nat.le_of_ble_eq_true rfl) rfl (t_copySet (647740 : Int) r57 (sv_sts (sv_sts S [68, 69, 70] g6) [68, 69, 70, 74] g53) ok54 (⟨by decide, by decide⟩ : sv_R (647740 : Int)) hr57 o59) (fun v S1 hq => ?_)
      obtain ⟨rfl, ok61, md62, hpo63⟩ := hq
      obtain ⟨g60, rfl⟩ : ∃ g, S1 = sv_sts (sv_sts (sv_sts S [68, 69, 70] g6) [68, 69, 70, 74] g53) [68, 69, 70] g := ⟨_, md62.eq⟩
      show sv_T sm_XS sm_cs sm_L sm_sh 6 (q_waysOfOther p1 p2 S) 268 120 [(0, .ref 0), (1, sv_I p1), (2, sv_I p2), (3, sv_I (647740 : Int))] [] (sv_sts (sv_sts (sv_sts S [68, 69, 70] g6) [68, 69, 70, 74] g53) [68, 69, 70] g60)
      have md64 : sv_mod [68, 69, 70, 81, 82, 83, 84, 85, 86, 71, 74, 75, 1127, 78, 79, 80, 72, 76, 77, 1143, 1144, 5, 1011, 1150, 1149, 1145, 1113, 1111, 1112, 1100031] S (sv_sts (sv_sts (sv_sts S [68, 69, 70] g6) [68, 69, 70, 74] g53) [68, 69, 70] g60) := sv_mod.sts md58 (by decide)
      have h := h g60 hpo63
      refine sv_aload_n hM dX12_waysOfOther_120 rfl rfl ?_
      obtain ⟨o65, h⟩ := h
      refine sv_callV hM dX12_waysOfOther_121 sm_iv_1222 (by decide) (sm_a0 _) rfl rfl (Nat.le_of_ble_eq_true rfl) sm_h258 (Nat.le_of_ble_eq_true rfl) (Nat.le_of_ble_eq_true rfl) (F' := 4) (Nat.le_of_ble_eq_true rfl) rfl (t_on  (sv_sts (sv_sts (sv_sts S [68, 69, 70] g6) [68, 69, 70, 74] g53) [68, 69, 70] g60) ok61 o65) (fun v S1 hq => ?_)
      obtain ⟨rfl, ok67, md68, hpo69⟩ := hq
      obtain ⟨g66, rfl⟩ : ∃ g, S1 = sv_sts (sv_sts (sv_sts (sv_sts S [68, 69, 70] g6) [68, 69, 70, 74] g53) [68, 69, 70] g60) [68, 69, 70, 81, 82, 83, 84, 85, 86, 71, 74, 75, 1127, 78, 79, 80, 72, 76, 77, 1150] g := ⟨_, md68.eq⟩
      show sv_T sm_XS sm_cs sm_L sm_sh 6 (q_waysOfOther p1 p2 S) 268 124 [(0, .ref 0), (1, sv_I p1), (2, sv_I p2), (3, sv_I (647740 : Int))] [] (sv_sts (sv_sts (sv_sts (sv_sts S [68, 69, 70] g6) [68, 69, 70, 74] g53) [68, 69, 70] g60) [68, 69, 70, 81, 82, 83, 84, 85, 86, 71, 74, 75, 1127, 78, 79, 80, 72, 76, 77, 1150] g66)
      have md70 : sv_mod [68, 69, 70, 81, 82, 83, 84, 85, 86, 71, 74, 75, 1127, 78, 79, 80, 72, 76, 77, 1143, 1144, 5, 1011, 1150, 1149, 1145, 1113, 1111, 1112, 1100031] S (sv_sts (sv_sts (sv_sts (sv_sts S [68, 69, 70] g6) [68, 69, 70, 74] g53) [68, 69, 70] g60) [68, 69, 70, 81, 82, 83, 84, 85, 86, 71, 74, 75, 1127, 78, 79, 80, 72, 76, 77, 1150] g66) := sv_mod.sts md64 (by decide)
      have h := h g66 hpo69
      refine sv_goto hM dX12_waysOfOther_124 (pc' := 399) rfl ?_
      exact sv_vret hM dX12_waysOfOther_399 rfl ⟨rfl, ok67, md70, h⟩
    have J3 : (p1 = (19 : Int)) → sv_T sm_XS sm_cs sm_L sm_sh 6 (q_waysOfOther p1 p2 S) 268 127 [(0, .ref 0), (1, sv_I p1), (2, sv_I p2), (3, sv_I (647740 : Int))] [] (sv_sts S [68, 69, 70] g6) := by
      intro hc
      have h := hS.2.2.2.1 hc
      refine sv_aload_n hM dX12_waysOfOther_127 rfl rfl ?_
      refine sv_aload_n hM dX12_waysOfOther_128 rfl rfl ?_
      refine sv_iconst (d := (1 : Int)) hM dX12_waysOfOther_129 rfl rfl ?_
      obtain ⟨o71, h⟩ := h
      refine sv_callV hM dX12_waysOfOther_130 sm_iv_1195 (by decide) (sm_a0 _) rfl rfl (Nat.le_of_ble_eq_true rfl) sm_h229 (Nat.le_of_ble_eq_true rfl) (Nat.le_of_ble_eq_true rfl) (F' := 0) (Nat.le_of_ble_eq_true rfl) rfl (t_fromTop (1 : Int) (sv_sts S [68, 69, 70] g6) ok7 (⟨by decide, by decide⟩ : sv_R (1 : Int)) o71) (fun v S1 hq => ?_)
      obtain ⟨r76, rfl, hr76, ok73, md74, hpo75⟩ := hq
      obtain rfl : (sv_sts S [68, 69, 70] g6) = S1 := (funext fun j => md74 j (by intro q; cases q)).symm
      show sv_T sm_XS sm_cs sm_L sm_sh 6 (q_waysOfOther p1 p2 S) 268 133 [(0, .ref 0), (1, sv_I p1), (2, sv_I p2), (3, sv_I (647740 : Int))] [sv_I r76, .ref 0] (sv_sts S [68, 69, 70] g6)
      have h := h r76 hr76 hpo75
      refine sv_aload_n hM dX12_waysOfOther_133 rfl rfl ?_
      obtain ⟨o77, h⟩ := h
      refine sv_callV hM dX12_waysOfOther_134 sm_iv_1201 (by decide) (sm_a0 _) rfl rfl (Nat.le_of_ble_eq_true rfl) sm_h230 (Nat.le_of_ble_eq_true rfl) (Nat.le_of_ble_eq_true rfl) (F' := 1) (Nat.le_of_ble_eq_true rfl) rfl (t_pushSet  (sv_sts S [68, 69, 70] g6) ok73 o77) (fun v S1 hq => ?_)
      obtain ⟨r82, rfl, hr82, ok79, md80, hpo81⟩ := hq
      obtain ⟨g78, rfl⟩ : ∃ g, S1 = sv_sts (sv_sts S [68, 69, 70] g6) [68, 69, 70, 74] g := ⟨_, md80.eq⟩
      show sv_T sm_XS sm_cs sm_L sm_sh 6 (q_waysOfOther p1 p2 S) 268 137 [(0, .ref 0), (1, sv_I p1), (2, sv_I p2), (3, sv_I (647740 : Int))] [sv_I r82, sv_I r76, .ref 0] (sv_sts (sv_sts S [68, 69, 70] g6) [68, 69, 70, 74] g78)
      have md83 : sv_mod [68, 69, 70, 81, 82, 83, 84, 85, 86, 71, 74, 75, 1127, 78, 79, 80, 72, 76, 77, 1143, 1144, 5, 1011, 1150, 1149, 1145, 1113, 1111, 1112, 1100031] S (sv_sts (sv_sts S [68, 69, 70] g6) [68, 69, 70, 74] g78) := sv_mod.sts md9 (by decide)
      have h := h r82 hr82 g78 hpo81
      obtain ⟨o84, h⟩ := h
      refine sv_callV hM dX12_waysOfOther_137 sm_iv_1092 (by decide) (sm_a0 _) rfl rfl (Nat.le_of_ble_eq_true rfl) sm_h207 (Nat.le_of_ble_eq_true rfl) (Nat.le_of_ble_eq_true rfl) (F' := 0) (Nat.le_of_ble_eq_true rfl) rfl (t_copySet r76 r82 (sv_sts (sv_sts S [68, 69, 70] g6) [68, 69, 70, 74] g78) ok79 hr76 hr82 o84) (fun v S1 hq => ?_)
      obtain ⟨rfl, ok86, md87, hpo88⟩ := hq
      obtain ⟨g85, rfl⟩ : ∃ g, S1 = sv_sts (sv_sts (sv_sts S [68, 69, 70] g6) [68, 69, 70, 74] g78) [68, 69, 70] g := ⟨_, md87.eq⟩
      show sv_T sm_XS sm_cs sm_L sm_sh 6 (q_waysOfOther p1 p2 S) 268 140 [(0, .ref 0), (1, sv_I p1), (2, sv_I p2), (3, sv_I (647740 : Int))] [] (sv_sts (sv_sts (sv_sts S [68, 69, 70] g6) [68, 69, 70, 74] g78) [68, 69, 70] g85)
      have md89 : sv_mod [68, 69, 70, 81, 82, 83, 84, 85, 86, 71, 74, 75, 1127, 78, 79, 80, 72, 76, 77, 1143, 1144, 5, 1011, 1150, 1149, 1145, 1113, 1111, 1112, 1100031] S (sv_sts (sv_sts (sv_sts S [68, 69, 70] g6) [68, 69, 70, 74] g78) [68, 69, 70] g85) := sv_mod.sts md83 (by decide)
      have h := h g85 hpo88
      refine sv_aload_n hM dX12_waysOfOther_140 rfl rfl ?_
      refine sv_iload_n hM dX12_waysOfOther_141 rfl rfl ?_
      refine sv_aload_n hM dX12_waysOfOther_142 rfl rfl ?_
      obtain ⟨o90, h⟩ := h
      refine sv_callV hM dX12_waysOfOther_143 sm_iv_1201 (by decide) (sm_a0 _) rfl rfl (Nat.le_of_ble_eq_true rfl) sm_h230 (Nat.le_of_ble_eq_true rfl) (Nat.le_of_ble_eq_true rfl) (F' := 1) (Nat.le_of_ble_eq_true rfl) rfl (t_pushSet  (sv_sts (sv_sts (sv_sts S [68, 69, 70] g6) [68, 69, 70, 74] g78) [68, 69, 70] g85) ok86 o90) (fun v S1 hq => ?_)
      obtain ⟨r95, rfl, hr95, ok92, md93, hpo94⟩ := hq
      obtain ⟨g91, rfl⟩ : ∃ g, S1 = sv_sts (sv_sts (sv_sts (sv_sts S [68, 69, 70] g6) [68, 69, 70, 74] g78) [68, 69, 70] g85) [68, 69, 70, 74] g := ⟨_, md93.eq⟩
      show sv_T sm_XS sm_cs sm_L sm_sh 6 (q_waysOfOther p1 p2 S) 268 146 [(0, .ref 0), (1, sv_I p1), (2, sv_I p2), (3, sv_I (647740 : Int))] [sv_I r95, sv_I (647740 : Int), .ref 0] (sv_sts (sv_sts (sv_sts (sv_sts S [68, 69, 70] g6) [68, 69, 70, 74] g78) [68, 69, 70] g85) [68, 69, 70, 74] g91)
      have md96 : sv_mod [68, 69, 70, 81, 82, 83, 84, 85, 86, 71, 74, 75, 1127, 78, 79, 80, 72, 76, 77, 1143, 1144, 5, 1011, 1150, 1149, 1145, 1113, 1111, 1112, 1100031] S (sv_sts (sv_sts (sv_sts (sv_sts S [68, 69, 70] g6) [68, 69, 70, 74] g78) [68, 69, 70] g85) [68, 69, 70, 74] g91) := sv_mod.sts md89 (by decide)
      have h := h r95 hr95 g91 hpo94
      obtain ⟨o97, h⟩ := h
      refine sv_callV hM dX12_waysOfOther_146 sm_iv_1092 (by decide) (sm_a0 _) rfl rfl (Nat.le_of_ble_eq_true rfl) sm_h207 (Nat.le_of_ble_eq_true rfl) (Nat.le_of_ble_eq_true rfl) (F' := 0) (Nat.le_of_ble_eq_true rfl) rfl (t_copySet (647740 : Int) r95 (sv_sts (sv_sts (sv_sts (sv_sts S [68, 69, 70] g6) [68, 69, 70, 74] g78) [68, 69, 70] g85) [68, 69, 70, 74] g91) ok92 (⟨by decide, by decide⟩ : sv_R (647740 : Int)) hr95 o97) (fun v S1 hq => ?_)
      obtain ⟨rfl, ok99, md100, hpo101⟩ := hq
      obtain ⟨g98, rfl⟩ : ∃ g, S1 = sv_sts (sv_sts (sv_sts (sv_sts (sv_sts S [68, 69, 70] g6) [68, 69, 70, 74] g78) [68, 69, 70] g85) [68, 69, 70, 74] g91) [68, 69, 70] g := ⟨_, md100.eq⟩
      show sv_T sm_XS sm_cs sm_L sm_sh 6 (q_waysOfOther p1 p2 S) 268 149 [(0, .ref 0), (1, sv_I p1), (2, sv_I p2), (3, sv_I (647740 : Int))] [] (sv_sts (sv_sts (sv_sts (sv_sts (sv_sts S [68, 69, 70] g6) [68, 69, 70, 74] g78) [68, 69, 70] g85) [68, 69, 70, 74] g91) [68, 69, 70] g98)
      have md102 : sv_mod [68, 69, 70, 81, 82, 83, 84, 85, 86, 71, 74, 75, 1127, 78, 79, 80, 72, 76, 77, 1143, 1144, 5, 1011, 1150, 1149, 1145, 1113, 1111, 1112, 1100031] S (sv_sts (sv_sts (sv_sts (sv_sts (sv_sts S [68, 69, 70] g6) [68, 69, 70, 74] g78) [68, 69, 70] g85) [68, 69, 70, 74] g91) [68, 69, 70] g98) := sv_mod.sts md96 (by decide)
      have h := h g98 hpo101
      refine sv_aload_n hM dX12_waysOfOther_149 rfl rfl ?_
      obtain ⟨o103, h⟩ := h
      refine sv_callV hM dX12_waysOfOther_150 sm_iv_1222 (by decide) (sm_a0 _) rfl rfl (Nat.le_of_ble_eq_true rfl) sm_h258 (Nat.le_of_ble_eq_true rfl) (Nat.le_of_ble_eq_true rfl) (F' := 4) (Nat.le_of_ble_eq_true rfl) rfl (t_on  (sv_sts (sv_sts (sv_sts (sv_sts (sv_sts S [68, 69, 70] g6) [68, 69, 70, 74] g78) [68, 69, 70] g85) [68, 69, 70, 74] g91) [68, 69, 70] g98) ok99 o103) (fun v S1 hq => ?_)
      obtain ⟨rfl, ok105, md106, hpo107⟩ := hq
      obtain ⟨g104, rfl⟩ : ∃ g, S1 = sv_sts (sv_sts (sv_sts (sv_sts (sv_sts (sv_sts S [68, 69, 70] g6) [68, 69, 70, 74] g78) [68, 69, 70] g85) [68, 69, 70, 74] g91) [68, 69, 70] g98) [68, 69, 70, 81, 82, 83, 84, 85, 86, 71, 74, 75, 1127, 78, 79, 80, 72, 76, 77, 1150] g := ⟨_, md106.eq⟩
      show sv_T sm_XS sm_cs sm_L sm_sh 6 (q_waysOfOther p1 p2 S) 268 153 [(0, .ref 0), (1, sv_I p1), (2, sv_I p2), (3, sv_I (647740 : Int))] [] (sv_sts (sv_sts (sv_sts (sv_sts (sv_sts (sv_sts S [68, 69, 70] g6) [68, 69, 70, 74] g78) [68, 69, 70] g85) [68, 69, 70, 74] g91) [68, 69, 70] g98) [68, 69, 70, 81, 82, 83, 84, 85, 86, 71, 74, 75, 1127, 78, 79, 80, 72, 76, 77, 1150] g104)
      have md108 : sv_mod [68, 69, 70, 81, 82, 83, 84, 85, 86, 71, 74, 75, 1127, 78, 79, 80, 72, 76, 77, 1143, 1144, 5, 1011, 1150, 1149, 1145, 1113, 1111, 1112, 1100031] S (sv_sts (sv_sts (sv_sts (sv_sts (sv_sts (sv_sts S [68, 69, 70] g6) [68, 69, 70, 74] g78) [68, 69, 70] g85) [68, 69, 70, 74] g91) [68, 69, 70] g98) [68, 69, 70, 81, 82, 83, 84, 85, 86, 71, 74, 75, 1127, 78, 79, 80, 72, 76, 77, 1150] g104) := sv_mod.sts md102 (by decide)
      have h := h g104 hpo107
      refine sv_goto hM dX12_waysOfOther_153 (pc' := 399) rfl ?_
      exact sv_vret hM dX12_waysOfOther_399 rfl ⟨rfl, ok105, md108, h⟩
    have J4 : (p1 = (20 : Int)) → sv_T sm_XS sm_cs sm_L sm_sh 6 (q_waysOfOther p1 p2 S) 268 156 [(0, .ref 0), (1, sv_I p1), (2, sv_I p2), (3, sv_I (647740 : Int))] [] (sv_sts S [68, 69, 70] g6) := by
      intro hc
      have h := hS.2.2.2.2.1 hc
      refine sv_aload_n hM dX12_waysOfOther_156 rfl rfl ?_
      obtain ⟨o109, h⟩ := h
      refine sv_callV hM dX12_waysOfOther_157 sm_iv_1201 (by decide) (sm_a0 _) rfl rfl (Nat.le_of_ble_eq_true rfl) sm_h230 (Nat.le_of_ble_eq_true rfl) (Nat.le_of_ble_eq_true rfl) (F' := 1) (Nat.le_of_ble_eq_true rfl) rfl (t_pushSet  (sv_sts S [68, 69, 70] g6) ok7 o109) (fun v S1 hq => ?_)
      obtain ⟨r114, rfl, hr114, ok111, md112, hpo113⟩ := hq
      obtain ⟨g110, rfl⟩ : ∃ g, S1 = sv_sts (sv_sts S [68, 69, 70] g6) [68, 69, 70, 74] g := ⟨_, md112.eq⟩
      show sv_T sm_XS sm_cs sm_L sm_sh 6 (q_waysOfOther p1 p2 S) 268 160 [(0, .ref 0), (1, sv_I p1), (2, sv_I p2), (3, sv_I (647740 : Int))] [sv_I r114] (sv_sts (sv_sts S [68, 69, 70] g6) [68, 69, 70, 74] g110)
      have md115 : sv_mod [68, 69, 70, 81, 82, 83, 84, 85, 86, 71, 74, 75, 1127, 78, 79, 80, 72, 76, 77, 1143, 1144, 5, 1011, 1150, 1149, 1145, 1113, 1111, 1112, 1100031] S (sv_sts (sv_sts S [68, 69, 70] g6) [68, 69, 70, 74] g110) := sv_mod.sts md9 (by decide)
      have h := h r114 hr114 g110 hpo113
      refine sv_istore hM dX12_waysOfOther_160 (by decide) rfl ?_
      show sv_T sm_XS sm_cs sm_L sm_sh 6 (q_waysOfOther p1 p2 S) 268 162 [(0, .ref 0), (1, sv_I p1), (2, sv_I p2), (3, sv_I (647740 : Int)), (4, sv_I r114)] [] (sv_sts (sv_sts S [68, 69, 70] g6) [68, 69, 70, 74] g110)
      refine sv_aload_n hM dX12_waysOfOther_162 rfl rfl ?_
      refine sv_iload hM dX12_waysOfOther_163 rfl rfl ?_
      refine sv_iconst (d := (1 : Int)) hM dX12_waysOfOther_165 rfl rfl ?_
      refine sv_isub hM dX12_waysOfOther_166 rfl ?_
      refine sv_iload hM dX12_waysOfOther_167 rfl rfl ?_
      obtain ⟨o116, h⟩ := h
      obtain ⟨o117, h⟩ := h
      refine sv_callV hM dX12_waysOfOther_169 sm_iv_1092 (by decide) (sm_a0 _) rfl rfl (Nat.le_of_ble_eq_true rfl) sm_h207 (Nat.le_of_ble_eq_true rfl) (Nat.le_of_ble_eq_true rfl) (F' := 0) (Nat.le_of_ble_eq_true rfl) rfl (t_copySet (r114 - (1 : Int)) r114 (sv_sts (sv_sts S [68, 69, 70] g6) [68, 69, 70, 74] g110) ok111 o116 hr114 o117) (fun v S1 hq => ?_)
      obtain ⟨rfl, ok119, md120, hpo121⟩ := hq
      obtain ⟨g118, rfl⟩ : ∃ g, S1 = sv_sts (sv_sts (sv_sts S [68, 69, 70] g6) [68, 69, 70, 74] g110) [68, 69, 70] g := ⟨_, md120.eq⟩
      show sv_T sm_XS sm_cs sm_L sm_sh 6 (q_waysOfOther p1 p2 S) 268 172 [(0, .ref 0), (1, sv_I p1), (2, sv_I p2), (3, sv_I (647740 : Int)), (4, sv_I r114)] [] (sv_sts (sv_sts (sv_sts S [68, 69, 70] g6) [68, 69, 70, 74] g110) [68, 69, 70] g118)
      have md122 : sv_mod [68, 69, 70, 81, 82, 83, 84, 85, 86, 71, 74, 75, 1127, 78, 79, 80, 72, 76, 77, 1143, 1144, 5, 1011, 1150, 1149, 1145, 1113, 1111, 1112, 1100031] S (sv_sts (sv_sts (sv_sts S [68, 69, 70] g6) [68, 69, 70, 74] g110) [68, 69, 70] g118) := sv_mod.sts md115 (by decide)
      have h := h g118 hpo121
      refine sv_aload_n hM dX12_waysOfOther_172 rfl rfl ?_
      refine sv_iload hM dX12_waysOfOther_173 rfl rfl ?_
      refine sv_iconst (d := (2 : Int)) hM dX12_waysOfOther_175 rfl rfl ?_
      refine sv_isub hM dX12_waysOfOther_176 rfl ?_
      refine sv_iload hM dX12_waysOfOther_177 rfl rfl ?_
      refine sv_iconst (d := (1 : Int)) hM dX12_waysOfOther_179 rfl rfl ?_
      refine sv_isub hM dX12_waysOfOther_180 rfl ?_
      obtain ⟨o123, h⟩ := h
      obtain ⟨o124, h⟩ := h
      refine sv_callV hM dX12_waysOfOther_181 sm_iv_1092 (by decide) (sm_a0 _) rfl rfl (Nat.le_of_ble_eq_true rfl) sm_h207 (Nat.le_of_ble_eq_true rfl) (Nat.le_of_ble_eq_true rfl) (F' := 0) (Nat.le_of_ble_eq_true rfl) rfl (t_copySet (r114 - (2 : Int)) (r114 - (1 : Int)) (sv_sts (sv_sts (sv_sts S [68, 69, 70] g6) [68, 69, 70, 74] g110) [68, 69, 70] g118) ok119 o123 o116 o124) (fun v S1 hq => ?_)
      obtain ⟨rfl, ok126, md127, hpo128⟩ := hq
      obtain ⟨g125, rfl⟩ : ∃ g, S1 = sv_sts (sv_sts (sv_sts (sv_sts S [68, 69, 70] g6) [68, 69, 70, 74] g110) [68, 69, 70] g118) [68, 69, 70] g := ⟨_, md127.eq⟩
      show sv_T sm_XS sm_cs sm_L sm_sh 6 (q_waysOfOther p1 p2 S) 268 184 [(0, .ref 0), (1, sv_I p1), (2, sv_I p2), (3, sv_I (647740 : Int)), (4, sv_I r114)] [] (sv_sts (sv_sts (sv_sts (sv_sts S [68, 69, 70] g6) [68, 69, 70, 74] g110) [68, 69, 70] g118) [68, 69, 70] g125)
      have md129 : sv_mod [68, 69, 70, 81, 82, 83, 84, 85, 86, 71, 74, 75, 1127, 78, 79, 80, 72, 76, 77, 1143, 1144, 5, 1011, 1150, 1149, 1145, 1113, 1111, 1112, 1100031] S (sv_sts (sv_sts (sv_sts (sv_sts S [68, 69, 70] g6) [68, 69, 70, 74] g110) [68, 69, 70] g118) [68, 69, 70] g125) := sv_mod.sts md122 (by decide)
      have h := h g125 hpo128
      refine sv_aload_n hM dX12_waysOfOther_184 rfl rfl ?_
      refine sv_iload hM dX12_waysOfOther_185 rfl rfl ?_
      refine sv_iconst (d := (3 : Int)) hM dX12_waysOfOther_187 rfl rfl ?_
      refine sv_isub hM dX12_waysOfOther_188 rfl ?_
      refine sv_iload hM dX12_waysOfOther_189 rfl rfl ?_
      refine sv_iconst (d := (2 : Int)) hM dX12_waysOfOther_191 rfl rfl ?_
      refine sv_isub hM dX12_waysOfOther_192 rfl ?_
      obtain ⟨o130, h⟩ := h
      obtain ⟨o131, h⟩ := h
      refine sv_callV hM dX12_waysOfOther_193 sm_iv_1092 (by decide) (sm_a0 _) rfl rfl (Nat.le_of_ble_eq_true rfl) sm_h207 (Nat.le_of_ble_eq_true rfl) (Nat.le_of_ble_eq_true rfl) (F' := 0) (Nat.le_of_ble_eq_true rfl) rfl (t_copySet (r114 - (3 : Int)) (r114 - (2 : Int)) (sv_sts (sv_sts (sv_sts (sv_sts S [68, 69, 70] g6) [68, 69, 70, 74] g110) [68, 69, 70] g118) [68, 69, 70] g125) ok126 o130 o123 o131) (fun v S1 hq => ?_)
      obtain ⟨rfl, ok133, md134, hpo135⟩ := hq
      obtain ⟨g132, rfl⟩ : ∃ g, S1 = sv_sts (sv_sts (sv_sts (sv_sts (sv_sts S [68, 69, 70] g6) [68, 69, 70, 74] g110) [68, 69, 70] g118) [68, 69, 70] g125) [68, 69, 70] g := ⟨_, md134.eq⟩
      show sv_T sm_XS sm_cs sm_L sm_sh 6 (q_waysOfOther p1 p2 S) 268 196 [(0, .ref 0), (1, sv_I p1), (2, sv_I p2), (3, sv_I (647740 : Int)), (4, sv_I r114)] [] (sv_sts (sv_sts (sv_sts (sv_sts (sv_sts S [68, 69, 70] g6) [68, 69, 70, 74] g110) [68, 69, 70] g118) [68, 69, 70] g125) [68, 69, 70] g132)
      have md136 : sv_mod [68, 69, 70, 81, 82, 83, 84, 85, 86, 71, 74, 75, 1127, 78, 79, 80, 72, 76, 77, 1143, 1144, 5, 1011, 1150, 1149, 1145, 1113, 1111, 1112, 1100031] S (sv_sts (sv_sts (sv_sts (sv_sts (sv_sts S [68, 69, 70] g6) [68, 69, 70, 74] g110) [68, 69, 70] g118) [68, 69, 70] g125) [68, 69, 70] g132) := sv_mod.sts md129 (by decide)
      have h := h g132 hpo135
      refine sv_aload_n hM dX12_waysOfOther_196 rfl rfl ?_
      refine sv_iload_n hM dX12_waysOfOther_197 rfl rfl ?_
      refine sv_iload hM dX12_waysOfOther_198 rfl rfl ?_
      refine sv_iconst (d := (3 : Int)) hM dX12_waysOfOther_200 rfl rfl ?_
      refine sv_isub hM dX12_waysOfOther_201 rfl ?_
      obtain ⟨o137, h⟩ := h
      refine sv_callV hM dX12_waysOfOther_202 sm_iv_1092 (by decide) (sm_a0 _) rfl rfl (Nat.le_of_ble_eq_true rfl) sm_h207 (Nat.le_of_ble_eq_true rfl) (Nat.le_of_ble_eq_true rfl) (F' := 0) (Nat.le_of_ble_eq_true rfl) rfl (t_copySet (647740 : Int) (r114 - (3 : Int)) (sv_sts (sv_sts (sv_sts (sv_sts (sv_sts S [68, 69, 70] g6) [68, 69, 70, 74] g110) [68, 69, 70] g118) [68, 69, 70] g125) [68, 69, 70] g132) ok133 (⟨by decide, by decide⟩ : sv_R (647740 : Int)) o130 o137) (fun v S1 hq => ?_)
      obtain ⟨rfl, ok139, md140, hpo141⟩ := hq
      obtain ⟨g138, rfl⟩ : ∃ g, S1 = sv_sts (sv_sts (sv_sts (sv_sts (sv_sts (sv_sts S [68, 69, 70] g6) [68, 69, 70, 74] g110) [68, 69, 70] g118) [68, 69, 70] g125) [68, 69, 70] g132) [68, 69, 70] g := ⟨_, md140.eq⟩
      show sv_T sm_XS sm_cs sm_L sm_sh 6 (q_waysOfOther p1 p2 S) 268 205 [(0, .ref 0), (1, sv_I p1), (2, sv_I p2), (3, sv_I (647740 : Int)), (4, sv_I r114)] [] (sv_sts (sv_sts (sv_sts (sv_sts (sv_sts (sv_sts S [68, 69, 70] g6) [68, 69, 70, 74] g110) [68, 69, 70] g118) [68, 69, 70] g125) [68, 69, 70] g132) [68, 69, 70] g138)
      have md142 : sv_mod [68, 69, 70, 81, 82, 83, 84, 85, 86, 71, 74, 75, 1127, 78, 79, 80, 72, 76, 77, 1143, 1144, 5, 1011, 1150, 1149, 1145, 1113, 1111, 1112, 1100031] S (sv_sts (sv_sts (sv_sts (sv_sts (sv_sts (sv_sts S [68, 69, 70] g6) [68, 69, 70, 74] g110) [68, 69, 70] g118) [68, 69, 70] g125) [68, 69, 70] g132) [68, 69, 70] g138) := sv_mod.sts md136 (by decide)
      have h := h g138 hpo141
      refine sv_aload_n hM dX12_waysOfOther_205 rfl rfl ?_
      obtain ⟨o143, h⟩ := h
      refine sv_callV hM dX12_waysOfOther_206 sm_iv_1222 (by decide) (sm_a0 _) rfl rfl (Nat.le_of_ble_eq_true rfl) sm_h258 (Nat.le_of_ble_eq_true rfl) (Nat.le_of_ble_eq_true rfl) (F' := 4) (Nat.le_of_ble_eq_true rfl) rfl (t_on  (sv_sts (sv_sts (sv_sts (sv_sts (sv_sts (sv_sts S [68, 69, 70] g6) [68, 69, 70, 74] g110) [68, 69, 70] g118) [68, 69, 70] g125) [68, 69, 70] g132) [68, 69, 70] g138) ok139 o143) (fun v S1 hq => ?_)
      obtain ⟨rfl, ok145, md146, hpo147⟩ := hq
      obtain ⟨g144, rfl⟩ : ∃ g, S1 = sv_sts (sv_sts (sv_sts (sv_sts (sv_sts (sv_sts (sv_sts S [68, 69, 70] g6) [68, 69, 70, 74] g110) [68, 69, 70] g118) [68, 69, 70] g125) [68, 69, 70] g132) [68, 69, 70] g138) [68, 69, 70, 81, 82, 83, 84, 85, 86, 71, 74, 75, 1127, 78, 79, 80, 72, 76, 77, 1150] g := ⟨_, md146.eq⟩
      show sv_T sm_XS sm_cs sm_L sm_sh 6 (q_waysOfOther p1 p2 S) 268 209 [(0, .ref 0), (1, sv_I p1), (2, sv_I p2), (3, sv_I (647740 : Int)), (4, sv_I r114)] [] (sv_sts (sv_sts (sv_sts (sv_sts (sv_sts (sv_sts (sv_sts S [68, 69, 70] g6) [68, 69, 70, 74] g110) [68, 69, 70] g118) [68, 69, 70] g125) [68, 69, 70] g132) [68, 69, 70] g138) [68, 69, 70, 81, 82, 83, 84, 85, 86, 71, 74, 75, 1127, 78, 79, 80, 72, 76, 77, 1150] g144)
      have md148 : sv_mod [68, 69, 70, 81, 82, 83, 84, 85, 86, 71, 74, 75, 1127, 78, 79, 80, 72, 76, 77, 1143, 1144, 5, 1011, 1150, 1149, 1145, 1113, 1111, 1112, 1100031] S (sv_sts (sv_sts (sv_sts (sv_sts (sv_sts (sv_sts (sv_sts S [68, 69, 70] g6) [68, 69, 70, 74] g110) [68, 69, 70] g118) [68, 69, 70] g125) [68, 69, 70] g132) [68, 69, 70] g138) [68, 69, 70, 81, 82, 83, 84, 85, 86, 71, 74, 75, 1127, 78, 79, 80, 72, 76, 77, 1150] g144) := sv_mod.sts md142 (by decide)
      have h := h g144 hpo147
      refine sv_goto hM dX12_waysOfOther_209 (pc' := 399) rfl ?_
      exact sv_vret hM dX12_waysOfOther_399 rfl ⟨rfl, ok145, md148, h⟩
    have J5 : (p1 = (21 : Int)) → sv_T sm_XS sm_cs sm_L sm_sh 6 (q_waysOfOther p1 p2 S) 268 212 [(0, .ref 0), (1, sv_I p1), (2, sv_I p2), (3, sv_I (647740 : Int))] [] (sv_sts S [68, 69, 70] g6) := by
      intro hc
      have h := hS.2.2.2.2.2.1 hc
      refine sv_aload_n hM dX12_waysOfOther_212 rfl rfl ?_
      refine sv_iload_n hM dX12_waysOfOther_213 rfl rfl ?_
      obtain ⟨o149, h⟩ := h
      refine sv_callV hM dX12_waysOfOther_214 sm_iv_1274 (by decide) (sm_a0 _) rfl rfl (Nat.le_of_ble_eq_true rfl) sm_h259 (Nat.le_of_ble_eq_true rfl) (Nat.le_of_ble_eq_true rfl) (F' := 4) (Nat.le_of_ble_eq_true rfl) rfl (t_to p2 (sv_sts S [68, 69, 70] g6) ok7 hp2 o149) (fun v S1 hq => ?_)
      obtain ⟨rfl, ok151, md152, hpo153⟩ := hq
      obtain ⟨g150, rfl⟩ : ∃ g, S1 = sv_sts (sv_sts S [68, 69, 70] g6) [68, 69, 70, 81, 82, 83, 84, 85, 86, 71, 74, 75, 1127, 78, 79, 80, 72, 76, 77, 1150] g := ⟨_, md152.eq⟩
      show sv_T sm_XS sm_cs sm_L sm_sh 6 (q_waysOfOther p1 p2 S) 268 217 [(0, .ref 0), (1, sv_I p1), (2, sv_I p2), (3, sv_I (647740 : Int))] [] (sv_sts (sv_sts S [68, 69, 70] g6) [68, 69, 70, 81, 82, 83, 84, 85, 86, 71, 74, 75, 1127, 78, 79, 80, 72, 76, 77, 1150] g150)
      have md154 : sv_mod [68, 69, 70, 81, 82, 83, 84, 85, 86, 71, 74, 75, 1127, 78, 79, 80, 72, 76, 77, 1143, 1144, 5, 1011, 1150, 1149, 1145, 1113, 1111, 1112, 1100031] S (sv_sts (sv_sts S [68, 69, 70] g6) [68, 69, 70, 81, 82, 83, 84, 85, 86, 71, 74, 75, 1127, 78, 79, 80, 72, 76, 77, 1150] g150) := sv_mod.sts md9 (by decide)
      have h := h g150 hpo153
      refine sv_goto hM dX12_waysOfOther_217 (pc' := 399) rfl ?_
      exact sv_vret hM dX12_waysOfOther_399 rfl ⟨rfl, ok151, md154, h⟩
    have J6 : (p1 = (22 : Int) ∨ p1 = (23 : Int) ∨ p1 = (24 : Int)) → sv_T sm_XS sm_cs sm_L sm_sh 6 (q_waysOfOther p1 p2 S) 268 220 [(0, .ref 0), (1, sv_I p1), (2, sv_I p2), (3, sv_I (647740 : Int))] [] (sv_sts S [68, 69, 70] g6) := by
      intro hc
      have h := hS.2.2.2.2.2.2.1 hc
      refine sv_aload_n hM dX12_waysOfOther_220 rfl rfl ?_
      refine sv_iload_n hM dX12_waysOfOther_221 rfl rfl ?_
      refine sv_iload_n hM dX12_waysOfOther_222 rfl rfl ?_
      refine sv_iload_n hM dX12_waysOfOther_223 rfl rfl ?_
      obtain ⟨o155, h⟩ := h
      refine sv_callV hM dX12_waysOfOther_224 sm_iv_1277 (by decide) (sm_a0 _) rfl rfl (Nat.le_of_ble_eq_true rfl) sm_h269 (Nat.le_of_ble_eq_true rfl) (Nat.le_of_ble_eq_true rfl) (F' := 5) (Nat.le_of_ble_eq_true rfl) rfl (t_waysOfTest p1 p2 (647740 : Int) (sv_sts S [68, 69, 70] g6) ok7 hp1 hp2 (⟨by decide, by decide⟩ : sv_R (647740 : Int)) o155) (fun v S1 hq => ?_)
      obtain ⟨rfl, ok157, md158, hpo159⟩ := hq
      obtain ⟨g156, rfl⟩ : ∃ g, S1 = sv_sts (sv_sts S [68, 69, 70] g6) [68, 69, 70, 81, 82, 83, 84, 85, 86, 71, 74, 75, 1127, 78, 79, 80, 72, 76, 77, 1143, 1144, 5, 1011, 1150, 1149, 1145, 1113, 1111, 1112, 1100031] g := ⟨_, md158.eq⟩
      show sv_T sm_XS sm_cs sm_L sm_sh 6 (q_waysOfOther p1 p2 S) 268 227 [(0, .ref 0), (1, sv_I p1), (2, sv_I p2), (3, sv_I (647740 : Int))] [] (sv_sts (sv_sts S [68, 69, 70] g6) [68, 69, 70, 81, 82, 83, 84, 85, 86, 71, 74, 75, 1127, 78, 79, 80, 72, 76, 77, 1143, 1144, 5, 1011, 1150, 1149, 1145, 1113, 1111, 1112, 1100031] g156)
      have md160 : sv_mod [68, 69, 70, 81, 82, 83, 84, 85, 86, 71, 74, 75, 1127, 78, 79, 80, 72, 76, 77, 1143, 1144, 5, 1011, 1150, 1149, 1145, 1113, 1111, 1112, 1100031] S (sv_sts (sv_sts S [68, 69, 70] g6) [68, 69, 70, 81, 82, 83, 84, 85, 86, 71, 74, 75, 1127, 78, 79, 80, 72, 76, 77, 1143, 1144, 5, 1011, 1150, 1149, 1145, 1113, 1111, 1112, 1100031] g156) := sv_mod.sts md9 (by decide)
      have h := h g156 hpo159
      refine sv_goto hM dX12_waysOfOther_227 (pc' := 399) rfl ?_
      exact sv_vret hM dX12_waysOfOther_399 rfl ⟨rfl, ok157, md160, h⟩
    have J7 : (p1 = (25 : Int)) → sv_T sm_XS sm_cs sm_L sm_sh 6 (q_waysOfOther p1 p2 S) 268 230 [(0, .ref 0), (1, sv_I p1), (2, sv_I p2), (3, sv_I (647740 : Int))] [] (sv_sts S [68, 69, 70] g6) := by
      intro hc
      have h := hS.2.2.2.2.2.2.2.1 hc
      refine sv_aload_n hM dX12_waysOfOther_230 rfl rfl ?_
      refine sv_getA hM dX12_waysOfOther_231 sm_fl_235 (sm_a0 _) sm_k125 rfl ?_
      refine sv_sipush (d := (639 : Int)) hM dX12_waysOfOther_234 rfl rfl ?_
      refine sv_iconst (d := (0 : Int)) hM dX12_waysOfOther_237 rfl rfl ?_
      obtain ⟨o161, h⟩ := h
      refine sv_iast sm_X hM dX12_waysOfOther_238 (sm_a74 _) (by decide) o161.1 o161.2 rfl ?_
      have ok162 : sm_ok (sv_up (sv_sts S [68, 69, 70] g6) 74 (639 : Int) (0 : Int)) := sm_upI ok7 sm_r74 (⟨by decide, by decide⟩ : sv_R (0 : Int))
      have md163 : sv_mod [68, 69, 70, 81, 82, 83, 84, 85, 86, 71, 74, 75, 1127, 78, 79, 80, 72, 76, 77, 1143, 1144, 5, 1011, 1150, 1149, 1145, 1113, 1111, 1112, 1100031] S (sv_up (sv_sts S [68, 69, 70] g6) 74 (639 : Int) (0 : Int)) := sv_mod.up md9 (by decide)
      refine sv_aload_n hM dX12_waysOfOther_239 rfl rfl ?_
      refine sv_iload_n hM dX12_waysOfOther_240 rfl rfl ?_
      refine sv_aload_n hM dX12_waysOfOther_241 rfl rfl ?_
      obtain ⟨o164, h⟩ := h
      refine sv_callV hM dX12_waysOfOther_242 sm_iv_1201 (by decide) (sm_a0 _) rfl rfl (Nat.le_of_ble_eq_true rfl) sm_h230 (Nat.le_of_ble_eq_true rfl) (Nat.le_of_ble_eq_true rfl) (F' := 1) (Nat.le_of_ble_eq_true rfl) rfl (t_pushSet  (sv_up (sv_sts S [68, 69, 70] g6) 74 (639 : Int) (0 : Int)) ok162 o164) (fun v S1 hq => ?_)
      obtain ⟨r169, rfl, hr169, ok166, md167, hpo168⟩ := hq
      obtain ⟨g165, rfl⟩ : ∃ g, S1 = sv_sts (sv_up (sv_sts S [68, 69, 70] g6) 74 (639 : Int) (0 : Int)) [68, 69, 70, 74] g := ⟨_, md167.eq⟩
      show sv_T sm_XS sm_cs sm_L sm_sh 6 (q_waysOfOther p1 p2 S) 268 245 [(0, .ref 0), (1, sv_I p1), (2, sv_I p2), (3, sv_I (647740 : Int))] [sv_I r169, sv_I (647740 : Int), .ref 0] (sv_sts (sv_up (sv_sts S [68, 69, 70] g6) 74 (639 : Int) (0 : Int)) [68, 69, 70, 74] g165)
      have md170 : sv_mod [68, 69, 70, 81, 82, 83, 84, 85, 86, 71, 74, 75, 1127, 78, 79, 80, 72, 76, 77, 1143, 1144, 5, 1011, 1150, 1149, 1145, 1113, 1111, 1112, 1100031] S (sv_sts (sv_up (sv_sts S [68, 69, 70] g6) 74 (639 : Int) (0 : Int)) [68, 69, 70, 74] g165) := sv_mod.sts md163 (by decide)
      have h := h r169 hr169 g165 hpo168
      obtain ⟨o171, h⟩ := h
      refine sv_callV hM dX12_waysOfOther_245 sm_iv_1092 (by decide) (sm_a0 _) rfl rfl (Nat.le_of_ble_eq_true rfl) sm_h207 (Nat.le_of_ble_eq_true rfl) (Nat.le_of_ble_eq_true rfl) (F' := 0) (Nat.le_of_ble_eq_true rfl) rfl (t_copySet (647740 : Int) r169 (sv_sts (sv_up (sv_sts S [68, 69, 70] g6) 74 (639 : Int) (0 : Int)) [68, 69, 70, 74] g165) ok166 (⟨by decide, by decide⟩ : sv_R (647740 : Int)) hr169 o171) (fun v S1 hq => ?_)
      obtain ⟨rfl, ok173, md174, hpo175⟩ := hq
      obtain ⟨g172, rfl⟩ : ∃ g, S1 = sv_sts (sv_sts (sv_up (sv_sts S [68, 69, 70] g6) 74 (639 : Int) (0 : Int)) [68, 69, 70, 74] g165) [68, 69, 70] g := ⟨_, md174.eq⟩
      show sv_T sm_XS sm_cs sm_L sm_sh 6 (q_waysOfOther p1 p2 S) 268 248 [(0, .ref 0), (1, sv_I p1), (2, sv_I p2), (3, sv_I (647740 : Int))] [] (sv_sts (sv_sts (sv_up (sv_sts S [68, 69, 70] g6) 74 (639 : Int) (0 : Int)) [68, 69, 70, 74] g165) [68, 69, 70] g172)
      have md176 : sv_mod [68, 69, 70, 81, 82, 83, 84, 85, 86, 71, 74, 75, 1127, 78, 79, 80, 72, 76, 77, 1143, 1144, 5, 1011, 1150, 1149, 1145, 1113, 1111, 1112, 1100031] S (sv_sts (sv_sts (sv_up (sv_sts S [68, 69, 70] g6) 74 (639 : Int) (0 : Int)) [68, 69, 70, 74] g165) [68, 69, 70] g172) := sv_mod.sts md170 (by decide)
      have h := h g172 hpo175
      refine sv_aload_n hM dX12_waysOfOther_248 rfl rfl ?_
      refine sv_aload_n hM dX12_waysOfOther_249 rfl rfl ?_
      have k177 : sv_R (S 1046 0) := sm_okI ok173 sm_r1046 0
      have h := h k177
      refine sv_getI hM dX12_waysOfOther_250 sm_fl_606 (sm_a0 _) sm_k46 rfl (x := (S 1046 0)) rfl ?_
      refine sv_iconst (d := (2 : Int)) hM dX12_waysOfOther_253 rfl rfl ?_
      refine sv_aload_n hM dX12_waysOfOther_254 rfl rfl ?_
      refine sv_getA hM dX12_waysOfOther_255 sm_fl_98 (sm_a0 _) sm_k51 rfl ?_
      refine sv_aload_n hM dX12_waysOfOther_258 rfl rfl ?_
      have k178 : sv_R (S 1148 0) := sm_okI ok173 sm_r1148 0
      have h := h k178
      refine sv_getI hM dX12_waysOfOther_259 sm_fl_1188 (sm_a0 _) sm_k148 rfl (x := (S 1148 0)) rfl ?_
      obtain ⟨o179, h⟩ := h
      have k180 : sv_R (S 29 (S 1148 0)) := sm_okI ok173 sm_r29 (S 1148 0)
      have h := h k180
      refine sv_iald hM dX12_waysOfOther_262 (sm_a29 _) (by decide) o179.1 o179.2 rfl (x := (S 29 (S 1148 0))) rfl ?_
      refine sv_imul hM dX12_waysOfOther_263 rfl ?_
      refine sv_iadd hM dX12_waysOfOther_264 rfl ?_
      obtain ⟨o181, h⟩ := h
      obtain ⟨o182, h⟩ := h
      refine sv_callV hM dX12_waysOfOther_265 sm_iv_1191 (by decide) (sm_a0 _) rfl rfl (Nat.le_of_ble_eq_true rfl) sm_h235 (Nat.le_of_ble_eq_true rfl) (Nat.le_of_ble_eq_true rfl) (F' := 3) (Nat.le_of_ble_eq_true rfl) rfl (t_flow ((S 1046 0) + ((2 : Int) * (S 29 (S 1148 0)))) (sv_sts (sv_sts (sv_up (sv_sts S [68, 69, 70] g6) 74 (639 : Int) (0 : Int)) [68, 69, 70, 74] g165) [68, 69, 70] g172) ok173 o181 o182) (fun v S1 hq => ?_)
      obtain ⟨rfl, ok184, md185, hpo186⟩ := hq
      obtain ⟨g183, rfl⟩ : ∃ g, S1 = sv_sts (sv_sts (sv_sts (sv_up (sv_sts S [68, 69, 70] g6) 74 (639 : Int) (0 : Int)) [68, 69, 70, 74] g165) [68, 69, 70] g172) [68, 69, 70, 81, 82, 83, 84, 85, 86, 71, 74, 75, 1127, 78, 79, 80, 72, 76, 77] g := ⟨_, md185.eq⟩
      show sv_T sm_XS sm_cs sm_L sm_sh 6 (q_waysOfOther p1 p2 S) 268 268 [(0, .ref 0), (1, sv_I p1), (2, sv_I p2), (3, sv_I (647740 : Int))] [] (sv_sts (sv_sts (sv_sts (sv_up (sv_sts S [68, 69, 70] g6) 74 (639 : Int) (0 : Int)) [68, 69, 70, 74] g165) [68, 69, 70] g172) [68, 69, 70, 81, 82, 83, 84, 85, 86, 71, 74, 75, 1127, 78, 79, 80, 72, 76, 77] g183)
      have md187 : sv_mod [68, 69, 70, 81, 82, 83, 84, 85, 86, 71, 74, 75, 1127, 78, 79, 80, 72, 76, 77, 1143, 1144, 5, 1011, 1150, 1149, 1145, 1113, 1111, 1112, 1100031] S (sv_sts (sv_sts (sv_sts (sv_up (sv_sts S [68, 69, 70] g6) 74 (639 : Int) (0 : Int)) [68, 69, 70, 74] g165) [68, 69, 70] g172) [68, 69, 70, 81, 82, 83, 84, 85, 86, 71, 74, 75, 1127, 78, 79, 80, 72, 76, 77] g183) := sv_mod.sts md176 (by decide)
      have h := h g183 hpo186
      refine sv_goto hM dX12_waysOfOther_268 (pc' := 399) rfl ?_
      exact sv_vret hM dX12_waysOfOther_399 rfl ⟨rfl, ok184, md187, h⟩
    have J8 : (p1 = (26 : Int)) → sv_T sm_XS sm_cs sm_L sm_sh 6 (q_waysOfOther p1 p2 S) 268 271 [(0, .ref 0), (1, sv_I p1), (2, sv_I p2), (3, sv_I (647740 : Int))] [] (sv_sts S [68, 69, 70] g6) := by
      intro hc
      have h := hS.2.2.2.2.2.2.2.2.1 hc
      refine sv_aload_n hM dX12_waysOfOther_271 rfl rfl ?_
      obtain ⟨o188, h⟩ := h
      refine sv_callV hM dX12_waysOfOther_272 sm_iv_1280 (by decide) (sm_a0 _) rfl rfl (Nat.le_of_ble_eq_true rfl) sm_h260 (Nat.le_of_ble_eq_true rfl) (Nat.le_of_ble_eq_true rfl) (F' := 5) (Nat.le_of_ble_eq_true rfl) rfl (t_tossTop  (sv_sts S [68, 69, 70] g6) ok7 o188) (fun v S1 hq => ?_)
      obtain ⟨rfl, ok190, md191, hpo192⟩ := hq
      obtain ⟨g189, rfl⟩ : ∃ g, S1 = sv_sts (sv_sts S [68, 69, 70] g6) [68, 69, 70, 81, 82, 83, 84, 85, 86, 71, 74, 75, 1127, 78, 79, 80, 72, 76, 77, 1100031] g := ⟨_, md191.eq⟩
      show sv_T sm_XS sm_cs sm_L sm_sh 6 (q_waysOfOther p1 p2 S) 268 275 [(0, .ref 0), (1, sv_I p1), (2, sv_I p2), (3, sv_I (647740 : Int))] [] (sv_sts (sv_sts S [68, 69, 70] g6) [68, 69, 70, 81, 82, 83, 84, 85, 86, 71, 74, 75, 1127, 78, 79, 80, 72, 76, 77, 1100031] g189)
      have md193 : sv_mod [68, 69, 70, 81, 82, 83, 84, 85, 86, 71, 74, 75, 1127, 78, 79, 80, 72, 76, 77, 1143, 1144, 5, 1011, 1150, 1149, 1145, 1113, 1111, 1112, 1100031] S (sv_sts (sv_sts S [68, 69, 70] g6) [68, 69, 70, 81, 82, 83, 84, 85, 86, 71, 74, 75, 1127, 78, 79, 80, 72, 76, 77, 1100031] g189) := sv_mod.sts md9 (by decide)
      have h := h g189 hpo192
      refine sv_goto hM dX12_waysOfOther_275 (pc' := 399) rfl ?_
      exact sv_vret hM dX12_waysOfOther_399 rfl ⟨rfl, ok190, md193, h⟩
    have J9 : (p1 = (27 : Int)) → sv_T sm_XS sm_cs sm_L sm_sh 6 (q_waysOfOther p1 p2 S) 268 278 [(0, .ref 0), (1, sv_I p1), (2, sv_I p2), (3, sv_I (647740 : Int))] [] (sv_sts S [68, 69, 70] g6) := by
      intro hc
      have h := hS.2.2.2.2.2.2.2.2.2.1 hc
      refine sv_sipush (d := (25560 : Int)) hM dX12_waysOfOther_278 rfl rfl ?_
      refine sv_aload_n hM dX12_waysOfOther_281 rfl rfl ?_
      refine sv_getA hM dX12_waysOfOther_282 sm_fl_247 (sm_a0 _) sm_k130 rfl ?_
      refine sv_sipush (d := (639 : Int)) hM dX12_waysOfOther_285 rfl rfl ?_
      obtain ⟨o194, h⟩ := h
      have k195 : sv_R (S 78 (639 : Int)) := sm_okI ok7 sm_r78 (639 : Int)
      have h := h k195
      refine sv_iald hM dX12_waysOfOther_288 (sm_a78 _) (by decide) o194.1 o194.2 rfl (x := (S 78 (639 : Int))) rfl ?_
      refine sv_iadd hM dX12_waysOfOther_289 rfl ?_
      obtain ⟨x196, e197⟩ : ∃ x : Int, ((25560 : Int) + (S 78 (639 : Int))) = x := ⟨_, rfl⟩
      have h := h x196 e197
      refine sv_nameI e197 ?_
      refine sv_istore hM dX12_waysOfOther_290 (by decide) rfl ?_
      show sv_T sm_XS sm_cs sm_L sm_sh 6 (q_waysOfOther p1 p2 S) 268 292 [(0, .ref 0), (1, sv_I p1), (2, sv_I p2), (3, sv_I (647740 : Int)), (4, sv_I x196)] [] (sv_sts S [68, 69, 70] g6)
      refine sv_aload_n hM dX12_waysOfOther_292 rfl rfl ?_
      refine sv_getA hM dX12_waysOfOther_293 sm_fl_250 (sm_a0 _) sm_k131 rfl ?_
      refine sv_iload hM dX12_waysOfOther_296 rfl rfl ?_
      refine sv_iload_n hM dX12_waysOfOther_298 rfl rfl ?_
      obtain ⟨o198, h⟩ := h
      refine sv_iast sm_X hM dX12_waysOfOther_299 (sm_a79 _) (by decide) o198.1 o198.2 rfl ?_
      have ok199 : sm_ok (sv_up (sv_sts S [68, 69, 70] g6) 79 x196 p2) := sm_upI ok7 sm_r79 hp2
      have md200 : sv_mod [68, 69, 70, 81, 82, 83, 84, 85, 86, 71, 74, 75, 1127, 78, 79, 80, 72, 76, 77, 1143, 1144, 5, 1011, 1150, 1149, 1145, 1113, 1111, 1112, 1100031] S (sv_up (sv_sts S [68, 69, 70] g6) 79 x196 p2) := sv_mod.up md9 (by decide)
      refine sv_aload_n hM dX12_waysOfOther_300 rfl rfl ?_
      refine sv_getA hM dX12_waysOfOther_301 sm_fl_253 (sm_a0 _) sm_k132 rfl ?_
      refine sv_iload hM dX12_waysOfOther_304 rfl rfl ?_
      refine sv_aload_n hM dX12_waysOfOther_306 rfl rfl ?_
      refine sv_getA hM dX12_waysOfOther_307 sm_fl_235 (sm_a0 _) sm_k125 rfl ?_
      refine sv_sipush (d := (639 : Int)) hM dX12_waysOfOther_310 rfl rfl ?_
      have k201 : sv_R (S 74 (639 : Int)) := sm_okI ok199 sm_r74 (639 : Int)
      have h := h k201
      refine sv_iald hM dX12_waysOfOther_313 (sm_a74 _) (by decide) o194.1 o194.2 rfl (x := (S 74 (639 : Int))) rfl ?_
      refine sv_iast sm_X hM dX12_waysOfOther_314 (sm_a80 _) (by decide) o198.1 o198.2 rfl ?_
      have ok202 : sm_ok (sv_up (sv_up (sv_sts S [68, 69, 70] g6) 79 x196 p2) 80 x196 (S 74 (639 : Int))) := sm_upI ok199 sm_r80 k201
      have md203 : sv_mod [68, 69, 70, 81, 82, 83, 84, 85, 86, 71, 74, 75, 1127, 78, 79, 80, 72, 76, 77, 1143, 1144, 5, 1011, 1150, 1149, 1145, 1113, 1111, 1112, 1100031] S (sv_up (sv_up (sv_sts S [68, 69, 70] g6) 79 x196 p2) 80 x196 (S 74 (639 : Int))) := sv_mod.up md200 (by decide)
      refine sv_aload_n hM dX12_waysOfOther_315 rfl rfl ?_
      refine sv_getA hM dX12_waysOfOther_316 sm_fl_247 (sm_a0 _) sm_k130 rfl ?_
      refine sv_sipush (d := (639 : Int)) hM dX12_waysOfOther_319 rfl rfl ?_
      refine sv_dup2 hM dX12_waysOfOther_322 rfl ?_
      refine sv_iald hM dX12_waysOfOther_323 (sm_a78 _) (by decide) o194.1 o194.2 rfl (x := (S 78 (639 : Int))) rfl ?_
      refine sv_iconst (d := (1 : Int)) hM dX12_waysOfOther_324 rfl rfl ?_
      refine sv_iadd hM dX12_waysOfOther_325 rfl ?_
      obtain ⟨o204, h⟩ := h
      refine sv_iast sm_X hM dX12_waysOfOther_326 (sm_a78 _) (by decide) o194.1 o194.2 rfl ?_
      have ok205 : sm_ok (sv_up (sv_up (sv_up (sv_sts S [68, 69, 70] g6) 79 x196 p2) 80 x196 (S 74 (639 : Int))) 78 (639 : Int) ((S 78 (639 : Int)) + (1 : Int))) := sm_upI ok202 sm_r78 o204
      have md206 : sv_mod [68, 69, 70, 81, 82, 83, 84, 85, 86, 71, 74, 75, 1127, 78, 79, 80, 72, 76, 77, 1143, 1144, 5, 1011, 1150, 1149, 1145, 1113, 1111, 1112, 1100031] S (sv_up (sv_up (sv_up (sv_sts S [68, 69, 70] g6) 79 x196 p2) 80 x196 (S 74 (639 : Int))) 78 (639 : Int) ((S 78 (639 : Int)) + (1 : Int))) := sv_mod.up md203 (by decide)
      have k207 : sv_R (S 1148 0) := sm_okI ok205 sm_r1148 0
      have h := h k207
      refine sv_ghost sm_X 1100031 0 (S 1148 0) (by decide) ?_
      have ok208 : sm_ok (sv_up (sv_up (sv_up (sv_up (sv_sts S [68, 69, 70] g6) 79 x196 p2) 80 x196 (S 74 (639 : Int))) 78 (639 : Int) ((S 78 (639 : Int)) + (1 : Int))) 1100031 0 (S 1148 0)) := sm_upI ok205 sm_r1100031 k207
      have md209 : sv_mod [68, 69, 70, 81, 82, 83, 84, 85, 86, 71, 74, 75, 1127, 78, 79, 80, 72, 76, 77, 1143, 1144, 5, 1011, 1150, 1149, 1145, 1113, 1111, 1112, 1100031] S (sv_up (sv_up (sv_up (sv_up (sv_sts S [68, 69, 70] g6) 79 x196 p2) 80 x196 (S 74 (639 : Int))) 78 (639 : Int) ((S 78 (639 : Int)) + (1 : Int))) 1100031 0 (S 1148 0)) := sv_mod.up md206 (by decide)
      have k210 : (sm_TC (S 79) (S 80) (S 27) (S 1100007) (S 1100023) (S 1100024) 25560 (S 1100023 (S 1148 0)) → 0 ≤ (S 1148 0) → -1 ≤ (S 1100023 (S 1148 0)) ∧ (S 1100023 (S 1148 0)) < (S 1148 0) → (S 1100024 (S 1148 0)) = sm_dp (S 1100024) (S 1100023 (S 1148 0)) → p2 = (S 27 (S 1148 0)) → (S 74 639) = (S 1100007 (S 1148 0)) → x196 = 25560 + (S 1100024 (S 1148 0)) → sm_TC (fun i' : Int => if i' = x196 then p2 else (S 79) i') (fun i' : Int => if i' = x196 then (S 74 (639 : Int)) else (S 80) i') (S 27) (S 1100007) (S 1100023) (S 1100024) 25560 (S 1148 0)) := fun h a b c d e f => sm_TC_push h a b c d e f f
      have h := h k210
      refine sv_aload_n hM dX12_waysOfOther_327 rfl rfl ?_
      obtain ⟨o211, h⟩ := h
      refine sv_callV hM dX12_waysOfOther_328 sm_iv_1222 (by decide) (sm_a0 _) rfl rfl (Nat.le_of_ble_eq_true rfl) sm_h258 (Nat.le_of_ble_eq_true rfl) (Nat.le_of_ble_eq_true rfl) (F' := 4) (Nat.le_of_ble_eq_true rfl) rfl (t_on  (sv_up (sv_up (sv_up (sv_up (sv_sts S [68, 69, 70] g6) 79 x196 p2) 80 x196 (S 74 (639 : Int))) 78 (639 : Int) ((S 78 (639 : Int)) + (1 : Int))) 1100031 0 (S 1148 0)) ok208 o211) (fun v S1 hq => ?_)
      obtain ⟨rfl, ok213, md214, hpo215⟩ := hq
      obtain ⟨g212, rfl⟩ : ∃ g, S1 = sv_sts (sv_up (sv_up (sv_up (sv_up (sv_sts S [68, 69, 70] g6) 79 x196 p2) 80 x196 (S 74 (639 : Int))) 78 (639 : Int) ((S 78 (639 : Int)) + (1 : Int))) 1100031 0 (S 1148 0)) [68, 69, 70, 81, 82, 83, 84, 85, 86, 71, 74, 75, 1127, 78, 79, 80, 72, 76, 77, 1150] g := ⟨_, md214.eq⟩
      show sv_T sm_XS sm_cs sm_L sm_sh 6 (q_waysOfOther p1 p2 S) 268 331 [(0, .ref 0), (1, sv_I p1), (2, sv_I p2), (3, sv_I (647740 : Int)), (4, sv_I x196)] [] (sv_sts (sv_up (sv_up (sv_up (sv_up (sv_sts S [68, 69, 70] g6) 79 x196 p2) 80 x196 (S 74 (639 : Int))) 78 (639 : Int) ((S 78 (639 : Int)) + (1 : Int))) 1100031 0 (S 1148 0)) [68, 69, 70, 81, 82, 83, 84, 85, 86, 71, 74, 75, 1127, 78, 79, 80, 72, 76, 77, 1150] g212)
      have md216 : sv_mod [68, 69, 70, 81, 82, 83, 84, 85, 86, 71, 74, 75, 1127, 78, 79, 80, 72, 76, 77, 1143, 1144, 5, 1011, 1150, 1149, 1145, 1113, 1111, 1112, 1100031] S (sv_sts (sv_up (sv_up (sv_up (sv_up (sv_sts S [68, 69, 70] g6) 79 x196 p2) 80 x196 (S 74 (639 : Int))) 78 (639 : Int) ((S 78 (639 : Int)) + (1 : Int))) 1100031 0 (S 1148 0)) [68, 69, 70, 81, 82, 83, 84, 85, 86, 71, 74, 75, 1127, 78, 79, 80, 72, 76, 77, 1150] g212) := sv_mod.sts md209 (by decide)
      have h := h g212 hpo215
      refine sv_goto hM dX12_waysOfOther_331 (pc' := 399) rfl ?_
      exact sv_vret hM dX12_waysOfOther_399 rfl ⟨rfl, ok213, md216, h⟩
    have J10 : (p1 = (28 : Int)) → sv_T sm_XS sm_cs sm_L sm_sh 6 (q_waysOfOther p1 p2 S) 268 334 [(0, .ref 0), (1, sv_I p1), (2, sv_I p2), (3, sv_I (647740 : Int))] [] (sv_sts S [68, 69, 70] g6) := by
      intro hc
      have h := hS.2.2.2.2.2.2.2.2.2.2.1 hc
      refine sv_aload_n hM dX12_waysOfOther_334 rfl rfl ?_
      refine sv_getA hM dX12_waysOfOther_335 sm_fl_247 (sm_a0 _) sm_k130 rfl ?_
      refine sv_sipush (d := (639 : Int)) hM dX12_waysOfOther_338 rfl rfl ?_
      refine sv_dup2 hM dX12_waysOfOther_341 rfl ?_
      obtain ⟨o217, h⟩ := h
      have k218 : sv_R (S 78 (639 : Int)) := sm_okI ok7 sm_r78 (639 : Int)
      have h := h k218
      refine sv_iald hM dX12_waysOfOther_342 (sm_a78 _) (by decide) o217.1 o217.2 rfl (x := (S 78 (639 : Int))) rfl ?_
      refine sv_iconst (d := (1 : Int)) hM dX12_waysOfOther_343 rfl rfl ?_
      refine sv_isub hM dX12_waysOfOther_344 rfl ?_
      obtain ⟨o219, h⟩ := h
      refine sv_iast sm_X hM dX12_waysOfOther_345 (sm_a78 _) (by decide) o217.1 o217.2 rfl ?_
      have ok220 : sm_ok (sv_up (sv_sts S [68, 69, 70] g6) 78 (639 : Int) ((S 78 (639 : Int)) - (1 : Int))) := sm_upI ok7 sm_r78 o219
      have md221 : sv_mod [68, 69, 70, 81, 82, 83, 84, 85, 86, 71, 74, 75, 1127, 78, 79, 80, 72, 76, 77, 1143, 1144, 5, 1011, 1150, 1149, 1145, 1113, 1111, 1112, 1100031] S (sv_up (sv_sts S [68, 69, 70] g6) 78 (639 : Int) ((S 78 (639 : Int)) - (1 : Int))) := sv_mod.up md9 (by decide)
      obtain ⟨o222, h⟩ := h
      refine sv_ghost sm_X 1100031 0 ((S 1100023 (S 1100031 0))) (by decide) ?_
      have ok223 : sm_ok (sv_up (sv_up (sv_sts S [68, 69, 70] g6) 78 (639 : Int) ((S 78 (639 : Int)) - (1 : Int))) 1100031 0 ((S 1100023 (S 1100031 0)))) := sm_upI ok220 sm_r1100031 o222
      have md224 : sv_mod [68, 69, 70, 81, 82, 83, 84, 85, 86, 71, 74, 75, 1127, 78, 79, 80, 72, 76, 77, 1143, 1144, 5, 1011, 1150, 1149, 1145, 1113, 1111, 1112, 1100031] S (sv_up (sv_up (sv_sts S [68, 69, 70] g6) 78 (639 : Int) ((S 78 (639 : Int)) - (1 : Int))) 1100031 0 ((S 1100023 (S 1100031 0)))) := sv_mod.up md221 (by decide)
      refine sv_aload_n hM dX12_waysOfOther_346 rfl rfl ?_
      obtain ⟨o225, h⟩ := h
      refine sv_callV hM dX12_waysOfOther_347 sm_iv_1222 (by decide) (sm_a0 _) rfl rfl (Nat.le_of_ble_eq_true rfl) sm_h258 (Nat.le_of_ble_eq_true rfl) (Nat.le_of_ble_eq_true rfl) (F' := 4) (Nat.le_of_ble_eq_true rfl) rfl (t_on  (sv_up (sv_up (sv_sts S [68, 69, 70] g6) 78 (639 : Int) ((S 78 (639 : Int)) - (1 : Int))) 1100031 0 ((S 1100023 (S 1100031 0)))) ok223 o225) (fun v S1 hq => ?_)
      obtain ⟨rfl, ok227, md228, hpo229⟩ := hq
      obtain ⟨g226, rfl⟩ : ∃ g, S1 = sv_sts (sv_up (sv_up (sv_sts S [68, 69, 70] g6) 78 (639 : Int) ((S 78 (639 : Int)) - (1 : Int))) 1100031 0 ((S 1100023 (S 1100031 0)))) [68, 69, 70, 81, 82, 83, 84, 85, 86, 71, 74, 75, 1127, 78, 79, 80, 72, 76, 77, 1150] g := ⟨_, md228.eq⟩
      show sv_T sm_XS sm_cs sm_L sm_sh 6 (q_waysOfOther p1 p2 S) 268 350 [(0, .ref 0), (1, sv_I p1), (2, sv_I p2), (3, sv_I (647740 : Int))] [] (sv_sts (sv_up (sv_up (sv_sts S [68, 69, 70] g6) 78 (639 : Int) ((S 78 (639 : Int)) - (1 : Int))) 1100031 0 ((S 1100023 (S 1100031 0)))) [68, 69, 70, 81, 82, 83, 84, 85, 86, 71, 74, 75, 1127, 78, 79, 80, 72, 76, 77, 1150] g226)
      have md230 : sv_mod [68, 69, 70, 81, 82, 83, 84, 85, 86, 71, 74, 75, 1127, 78, 79, 80, 72, 76, 77, 1143, 1144, 5, 1011, 1150, 1149, 1145, 1113, 1111, 1112, 1100031] S (sv_sts (sv_up (sv_up (sv_sts S [68, 69, 70] g6) 78 (639 : Int) ((S 78 (639 : Int)) - (1 : Int))) 1100031 0 ((S 1100023 (S 1100031 0)))) [68, 69, 70, 81, 82, 83, 84, 85, 86, 71, 74, 75, 1127, 78, 79, 80, 72, 76, 77, 1150] g226) := sv_mod.sts md224 (by decide)
      have h := h g226 hpo229
      refine sv_goto hM dX12_waysOfOther_350 (pc' := 399) rfl ?_
      exact sv_vret hM dX12_waysOfOther_399 rfl ⟨rfl, ok227, md230, h⟩
    have J11 : (p1 = (29 : Int)) → sv_T sm_XS sm_cs sm_L sm_sh 6 (q_waysOfOther p1 p2 S) 268 353 [(0, .ref 0), (1, sv_I p1), (2, sv_I p2), (3, sv_I (647740 : Int))] [] (sv_sts S [68, 69, 70] g6) := by
      intro hc
      have h := hS.2.2.2.2.2.2.2.2.2.2.2 hc
      refine sv_aload_n hM dX12_waysOfOther_353 rfl rfl ?_
      refine sv_aload_n hM dX12_waysOfOther_354 rfl rfl ?_
      refine sv_iconst (d := (0 : Int)) hM dX12_waysOfOther_355 rfl rfl ?_
      obtain ⟨o231, h⟩ := h
      refine sv_callV hM dX12_waysOfOther_356 sm_iv_1195 (by decide) (sm_a0 _) rfl rfl (Nat.le_of_ble_eq_true rfl) sm_h229 (Nat.le_of_ble_eq_true rfl) (Nat.le_of_ble_eq_true rfl) (F' := 0) (Nat.le_of_ble_eq_true rfl) rfl (t_fromTop (0 : Int) (sv_sts S [68, 69, 70] g6) ok7 (⟨by decide, by decide⟩ : sv_R (0 : Int)) o231) (fun v S1 hq => ?_)
      obtain ⟨r236, rfl, hr236, ok233, md234, hpo235⟩ := hq
      obtain rfl : (sv_sts S [68, 69, 70] g6) = S1 := (funext fun j => md234 j (by intro q; cases q)).symm
      show sv_T sm_XS sm_cs sm_L sm_sh 6 (q_waysOfOther p1 p2 S) 268 359 [(0, .ref 0), (1, sv_I p1), (2, sv_I p2), (3, sv_I (647740 : Int))] [sv_I r236, .ref 0] (sv_sts S [68, 69, 70] g6)
      have h := h r236 hr236 hpo235
      obtain ⟨o237, h⟩ := h
      refine sv_callV hM dX12_waysOfOther_359 sm_iv_1066 (by decide) (sm_a0 _) rfl rfl (Nat.le_of_ble_eq_true rfl) sm_h206 (Nat.le_of_ble_eq_true rfl) (Nat.le_of_ble_eq_true rfl) (F' := 0) (Nat.le_of_ble_eq_true rfl) rfl (t_empty r236 (sv_sts S [68, 69, 70] g6) ok233 hr236 o237) (fun v S1 hq => ?_)
      obtain ⟨rfl, ok239, md240, hpo241⟩ := hq
      obtain ⟨g238, rfl⟩ : ∃ g, S1 = sv_sts (sv_sts S [68, 69, 70] g6) [68, 69, 70] g := ⟨_, md240.eq⟩
      show sv_T sm_XS sm_cs sm_L sm_sh 6 (q_waysOfOther p1 p2 S) 268 362 [(0, .ref 0), (1, sv_I p1), (2, sv_I p2), (3, sv_I (647740 : Int))] [] (sv_sts (sv_sts S [68, 69, 70] g6) [68, 69, 70] g238)
      have md242 : sv_mod [68, 69, 70, 81, 82, 83, 84, 85, 86, 71, 74, 75, 1127, 78, 79, 80, 72, 76, 77, 1143, 1144, 5, 1011, 1150, 1149, 1145, 1113, 1111, 1112, 1100031] S (sv_sts (sv_sts S [68, 69, 70] g6) [68, 69, 70] g238) := sv_mod.sts md9 (by decide)
      have h := h g238 hpo241
      refine sv_aload_n hM dX12_waysOfOther_362 rfl rfl ?_
      obtain ⟨o243, h⟩ := h
      refine sv_callV hM dX12_waysOfOther_363 sm_iv_1222 (by decide) (sm_a0 _) rfl rfl (Nat.le_of_ble_eq_true rfl) sm_h258 (Nat.le_of_ble_eq_true rfl) (Nat.le_of_ble_eq_true rfl) (F' := 4) (Nat.le_of_ble_eq_true rfl) rfl (t_on  (sv_sts (sv_sts S [68, 69, 70] g6) [68, 69, 70] g238) ok239 o243) (fun v S1 hq => ?_)
      obtain ⟨rfl, ok245, md246, hpo247⟩ := hq
      obtain ⟨g244, rfl⟩ : ∃ g, S1 = sv_sts (sv_sts (sv_sts S [68, 69, 70] g6) [68, 69, 70] g238) [68, 69, 70, 81, 82, 83, 84, 85, 86, 71, 74, 75, 1127, 78, 79, 80, 72, 76, 77, 1150] g := ⟨_, md246.eq⟩
      show sv_T sm_XS sm_cs sm_L sm_sh 6 (q_waysOfOther p1 p2 S) 268 366 [(0, .ref 0), (1, sv_I p1), (2, sv_I p2), (3, sv_I (647740 : Int))] [] (sv_sts (sv_sts (sv_sts S [68, 69, 70] g6) [68, 69, 70] g238) [68, 69, 70, 81, 82, 83, 84, 85, 86, 71, 74, 75, 1127, 78, 79, 80, 72, 76, 77, 1150] g244)
      have md248 : sv_mod [68, 69, 70, 81, 82, 83, 84, 85, 86, 71, 74, 75, 1127, 78, 79, 80, 72, 76, 77, 1143, 1144, 5, 1011, 1150, 1149, 1145, 1113, 1111, 1112, 1100031] S (sv_sts (sv_sts (sv_sts S [68, 69, 70] g6) [68, 69, 70] g238) [68, 69, 70, 81, 82, 83, 84, 85, 86, 71, 74, 75, 1127, 78, 79, 80, 72, 76, 77, 1150] g244) := sv_mod.sts md242 (by decide)
      have h := h g244 hpo247
      refine sv_goto hM dX12_waysOfOther_366 (pc' := 399) rfl ?_
      exact sv_vret hM dX12_waysOfOther_399 rfl ⟨rfl, ok245, md248, h⟩
    refine sv_tsw hM dX12_waysOfOther_26 hp1 (t := 369) rfl (fun hc => J0 (by rcases hc with hc | hc; exact Or.inl hc; exact Or.inr hc)) (fun hc => ?_)
    have hv : p1 = (17 : Int) ∨ p1 = (18 : Int) ∨ p1 = (19 : Int) ∨ p1 = (20 : Int) ∨ p1 = (21 : Int) ∨ p1 = (22 : Int) ∨ p1 = (23 : Int) ∨ p1 = (24 : Int) ∨ p1 = (25 : Int) ∨ p1 = (26 : Int) ∨ p1 = (27 : Int) ∨ p1 = (28 : Int) ∨ p1 = (29 : Int) := by omega
    rcases hv with hv | hv | hv | hv | hv | hv | hv | hv | hv | hv | hv | hv | hv
    · exact ⟨66, 92, by rw [hv]; rfl, rfl, J1 (by omega)⟩
    · exact ⟨85, 111, by rw [hv]; rfl, rfl, J2 (by omega)⟩
    · exact ⟨101, 127, by rw [hv]; rfl, rfl, J3 (by omega)⟩
    · exact ⟨130, 156, by rw [hv]; rfl, rfl, J4 (by omega)⟩
    · exact ⟨186, 212, by rw [hv]; rfl, rfl, J5 (by omega)⟩
    · exact ⟨194, 220, by rw [hv]; rfl, rfl, J6 (by omega)⟩
    · exact ⟨194, 220, by rw [hv]; rfl, rfl, J6 (by omega)⟩
    · exact ⟨194, 220, by rw [hv]; rfl, rfl, J6 (by omega)⟩
    · exact ⟨204, 230, by rw [hv]; rfl, rfl, J7 (by omega)⟩
    · exact ⟨245, 271, by rw [hv]; rfl, rfl, J8 (by omega)⟩
    · exact ⟨252, 278, by rw [hv]; rfl, rfl, J9 (by omega)⟩
    · exact ⟨308, 334, by rw [hv]; rfl, rfl, J10 (by omega)⟩
    · exact ⟨327, 353, by rw [hv]; rfl, rfl, J11 (by omega)⟩
  have h := h.2
  refine sv_aload_n hM dX12_waysOfOther_4 rfl rfl ?_
  refine sv_getA hM dX12_waysOfOther_5 sm_fl_235 (sm_a0 _) sm_k125 rfl ?_
  refine sv_sipush (d := (639 : Int)) hM dX12_waysOfOther_8 rfl rfl ?_
  obtain ⟨o250, h⟩ := h
  have k251 : sv_R (S 74 (639 : Int)) := sm_okI hok sm_r74 (639 : Int)
  have h := h k251
  refine sv_iald hM dX12_waysOfOther_11 (sm_a74 _) (by decide) o250.1 o250.2 rfl (x := (S 74 (639 : Int))) rfl ?_
  refine sv_cond_le hM dX12_waysOfOther_12 k251 (t := 25) rfl rfl (fun hc => ?_) (fun hc => ?_)
  · have h := h.1 (hc)
    have eS := sv_mod.eq (sv_mod.rf (l := [68, 69, 70]) (S := S))
    have hb := J249 S (by rw [← eS]; exact hok) h
    have hb : sv_T sm_XS sm_cs sm_L sm_sh 6 (q_waysOfOther p1 p2 S) 268 25 [(0, .ref 0), (1, sv_I p1), (2, sv_I p2), (3, sv_I (647740 : Int))] [] S := Eq.mpr (congrArg (fun Z => sv_T sm_XS sm_cs sm_L sm_sh 6 (q_waysOfOther p1 p2 S) 268 25 [(0, .ref 0), (1, sv_I p1), (2, sv_I p2), (3, sv_I (647740 : Int))] [] Z) eS) hb
    exact sv_less (lv := [(0, .ref 0), (1, sv_I p1), (2, sv_I p2), (3, sv_I (647740 : Int))]) (sv_Sub_cons rfl (sv_Sub_cons rfl (sv_Sub_cons rfl (sv_Sub_cons rfl sv_Sub_nil)))) hb
  · have h := h.2 (hc)
    refine sv_aload_n hM dX12_waysOfOther_15 rfl rfl ?_
    refine sv_aload_n hM dX12_waysOfOther_16 rfl rfl ?_
    refine sv_iconst (d := (0 : Int)) hM dX12_waysOfOther_17 rfl rfl ?_
    obtain ⟨o252, h⟩ := h
    refine sv_callV hM dX12_waysOfOther_18 sm_iv_1195 (by decide) (sm_a0 _) rfl rfl (Nat.le_of_ble_eq_true rfl) sm_h229 (Nat.le_of_ble_eq_true rfl) (Nat.le_of_ble_eq_true rfl) (F' := 0) (Nat.le_of_ble_eq_true rfl) rfl (t_fromTop (0 : Int) S hok (⟨by decide, by decide⟩ : sv_R (0 : Int)) o252) (fun v S1 hq => ?_)
    obtain ⟨r257, rfl, hr257, ok254, md255, hpo256⟩ := hq
    obtain rfl : S = S1 := (funext fun j => md255 j (by intro q; cases q)).symm
    show sv_T sm_XS sm_cs sm_L sm_sh 6 (q_waysOfOther p1 p2 S) 268 21 [(0, .ref 0), (1, sv_I p1), (2, sv_I p2), (3, sv_I (647740 : Int))] [sv_I r257, .ref 0] S
    have h := h r257 hr257 hpo256
    refine sv_iload_n hM dX12_waysOfOther_21 rfl rfl ?_
    obtain ⟨o258, h⟩ := h
    refine sv_callV hM dX12_waysOfOther_22 sm_iv_1092 (by decide) (sm_a0 _) rfl rfl (Nat.le_of_ble_eq_true rfl) sm_h207 (Nat.le_of_ble_eq_true rfl) (Nat.le_of_ble_eq_true rfl) (F' := 0) (Nat.le_of_ble_eq_true rfl) rfl (t_copySet r257 (647740 : Int) S ok254 hr257 (⟨by decide, by decide⟩ : sv_R (647740 : Int)) o258) (fun v S1 hq => ?_)
    obtain ⟨rfl, ok260, md261, hpo262⟩ := hq
    obtain ⟨g259, rfl⟩ : ∃ g, S1 = sv_sts S [68, 69, 70] g := ⟨_, md261.eq⟩
    show sv_T sm_XS sm_cs sm_L sm_sh 6 (q_waysOfOther p1 p2 S) 268 25 [(0, .ref 0), (1, sv_I p1), (2, sv_I p2), (3, sv_I (647740 : Int))] [] (sv_sts S [68, 69, 70] g259)
    have md263 : sv_mod [68, 69, 70, 81, 82, 83, 84, 85, 86, 71, 74, 75, 1127, 78, 79, 80, 72, 76, 77, 1143, 1144, 5, 1011, 1150, 1149, 1145, 1113, 1111, 1112, 1100031] S (sv_sts S [68, 69, 70] g259) := sv_mod.sts sv_mod.rf (by decide)
    have md264 : sv_mod [68, 69, 70] S (sv_sts S [68, 69, 70] g259) := sv_mod.sts (sv_mod.rf (l := [68, 69, 70]) (S := S)) (by decide)
    have h := h g259 hpo262
    have eS := sv_mod.eq md264
    have hb := J249 (sv_sts S [68, 69, 70] g259) (by rw [← eS]; exact ok260) h
    have hb : sv_T sm_XS sm_cs sm_L sm_sh 6 (q_waysOfOther p1 p2 S) 268 25 [(0, .ref 0), (1, sv_I p1), (2, sv_I p2), (3, sv_I (647740 : Int))] [] (sv_sts S [68, 69, 70] g259) := Eq.mpr (congrArg (fun Z => sv_T sm_XS sm_cs sm_L sm_sh 6 (q_waysOfOther p1 p2 S) 268 25 [(0, .ref 0), (1, sv_I p1), (2, sv_I p2), (3, sv_I (647740 : Int))] [] Z) eS) hb
    exact sv_less (lv := [(0, .ref 0), (1, sv_I p1), (2, sv_I p2), (3, sv_I (647740 : Int))]) (sv_Sub_cons rfl (sv_Sub_cons rfl (sv_Sub_cons rfl (sv_Sub_cons rfl sv_Sub_nil)))) hb
