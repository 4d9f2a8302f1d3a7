theorem dX12_joinLabel_0 : decode cX12_joinLabel 0 = .ok (.aload_n 0, 1) := by decide +kernel
theorem dX12_joinLabel_1 : decode cX12_joinLabel 1 = .ok (.getfield 256, 3) := by decide +kernel
theorem dX12_joinLabel_4 : decode cX12_joinLabel 4 = .ok (.iload_n 1, 1) := by decide +kernel
theorem dX12_joinLabel_5 : decode cX12_joinLabel 5 = .ok (.baload, 1) := by decide +kernel
theorem dX12_joinLabel_6 : decode cX12_joinLabel 6 = .ok (.ifCond .eq 12, 3) := by decide +kernel
theorem dX12_joinLabel_9 : decode cX12_joinLabel 9 = .ok (.aload_n 0, 1) := by decide +kernel
theorem dX12_joinLabel_10 : decode cX12_joinLabel 10 = .ok (.getfield 256, 3) := by decide +kernel
theorem dX12_joinLabel_13 : decode cX12_joinLabel 13 = .ok (.iload_n 2, 1) := by decide +kernel
theorem dX12_joinLabel_14 : decode cX12_joinLabel 14 = .ok (.baload, 1) := by decide +kernel
theorem dX12_joinLabel_15 : decode cX12_joinLabel 15 = .ok (.ifCond .eq 21, 3) := by decide +kernel
theorem dX12_joinLabel_18 : decode cX12_joinLabel 18 = .ok (.aload_n 0, 1) := by decide +kernel
theorem dX12_joinLabel_19 : decode cX12_joinLabel 19 = .ok (.getfield 259, 3) := by decide +kernel
theorem dX12_joinLabel_22 : decode cX12_joinLabel 22 = .ok (.iload_n 1, 1) := by decide +kernel
theorem dX12_joinLabel_23 : decode cX12_joinLabel 23 = .ok (.baload, 1) := by decide +kernel
theorem dX12_joinLabel_24 : decode cX12_joinLabel 24 = .ok (.ifCond .eq 16, 3) := by decide +kernel
theorem dX12_joinLabel_27 : decode cX12_joinLabel 27 = .ok (.aload_n 0, 1) := by decide +kernel
theorem dX12_joinLabel_28 : decode cX12_joinLabel 28 = .ok (.getfield 259, 3) := by decide +kernel
theorem dX12_joinLabel_31 : decode cX12_joinLabel 31 = .ok (.iload_n 2, 1) := by decide +kernel
theorem dX12_joinLabel_32 : decode cX12_joinLabel 32 = .ok (.baload, 1) := by decide +kernel
theorem dX12_joinLabel_33 : decode cX12_joinLabel 33 = .ok (.ifCond .ne 7, 3) := by decide +kernel
theorem dX12_joinLabel_36 : decode cX12_joinLabel 36 = .ok (.iconst 1, 1) := by decide +kernel
theorem dX12_joinLabel_37 : decode cX12_joinLabel 37 = .ok (.goto 4, 3) := by decide +kernel
theorem dX12_joinLabel_40 : decode cX12_joinLabel 40 = .ok (.iconst 0, 1) := by decide +kernel
theorem dX12_joinLabel_41 : decode cX12_joinLabel 41 = .ok (.istore_n 3, 1) := by decide +kernel
theorem dX12_joinLabel_42 : decode cX12_joinLabel 42 = .ok (.iload_n 3, 1) := by decide +kernel
theorem dX12_joinLabel_43 : decode cX12_joinLabel 43 = .ok (.ifCond .ne 47, 3) := by decide +kernel
theorem dX12_joinLabel_46 : decode cX12_joinLabel 46 = .ok (.aload_n 0, 1) := by decide +kernel
theorem dX12_joinLabel_47 : decode cX12_joinLabel 47 = .ok (.getfield 262, 3) := by decide +kernel
theorem dX12_joinLabel_50 : decode cX12_joinLabel 50 = .ok (.iload_n 1, 1) := by decide +kernel
theorem dX12_joinLabel_51 : decode cX12_joinLabel 51 = .ok (.laload, 1) := by decide +kernel
theorem dX12_joinLabel_52 : decode cX12_joinLabel 52 = .ok (.aload_n 0, 1) := by decide +kernel
theorem dX12_joinLabel_53 : decode cX12_joinLabel 53 = .ok (.getfield 262, 3) := by decide +kernel
theorem dX12_joinLabel_56 : decode cX12_joinLabel 56 = .ok (.iload_n 2, 1) := by decide +kernel
theorem dX12_joinLabel_57 : decode cX12_joinLabel 57 = .ok (.laload, 1) := by decide +kernel
theorem dX12_joinLabel_58 : decode cX12_joinLabel 58 = .ok (.ldc2_w 1110, 3) := by decide +kernel
theorem dX12_joinLabel_61 : decode cX12_joinLabel 61 = .ok (.lxor, 1) := by decide +kernel
theorem dX12_joinLabel_62 : decode cX12_joinLabel 62 = .ok (.land, 1) := by decide +kernel
theorem dX12_joinLabel_63 : decode cX12_joinLabel 63 = .ok (.lconst 0, 1) := by decide +kernel
theorem dX12_joinLabel_64 : decode cX12_joinLabel 64 = .ok (.lcmp, 1) := by decide +kernel
theorem dX12_joinLabel_65 : decode cX12_joinLabel 65 = .ok (.ifCond .ne 25, 3) := by decide +kernel
theorem dX12_joinLabel_68 : decode cX12_joinLabel 68 = .ok (.aload_n 0, 1) := by decide +kernel
theorem dX12_joinLabel_69 : decode cX12_joinLabel 69 = .ok (.getfield 265, 3) := by decide +kernel
theorem dX12_joinLabel_72 : decode cX12_joinLabel 72 = .ok (.iload_n 1, 1) := by decide +kernel
theorem dX12_joinLabel_73 : decode cX12_joinLabel 73 = .ok (.laload, 1) := by decide +kernel
theorem dX12_joinLabel_74 : decode cX12_joinLabel 74 = .ok (.aload_n 0, 1) := by decide +kernel
theorem dX12_joinLabel_75 : decode cX12_joinLabel 75 = .ok (.getfield 265, 3) := by decide +kernel
theorem dX12_joinLabel_78 : decode cX12_joinLabel 78 = .ok (.iload_n 2, 1) := by decide +kernel
theorem dX12_joinLabel_79 : decode cX12_joinLabel 79 = .ok (.laload, 1) := by decide +kernel
theorem dX12_joinLabel_80 : decode cX12_joinLabel 80 = .ok (.ldc2_w 1110, 3) := by decide +kernel
theorem dX12_joinLabel_83 : decode cX12_joinLabel 83 = .ok (.lxor, 1) := by decide +kernel
theorem dX12_joinLabel_84 : decode cX12_joinLabel 84 = .ok (.land, 1) := by decide +kernel
theorem dX12_joinLabel_85 : decode cX12_joinLabel 85 = .ok (.lconst 0, 1) := by decide +kernel
theorem dX12_joinLabel_86 : decode cX12_joinLabel 86 = .ok (.lcmp, 1) := by decide +kernel
theorem dX12_joinLabel_87 : decode cX12_joinLabel 87 = .ok (.ifCond .eq 7, 3) := by decide +kernel
theorem dX12_joinLabel_90 : decode cX12_joinLabel 90 = .ok (.iconst 1, 1) := by decide +kernel
theorem dX12_joinLabel_91 : decode cX12_joinLabel 91 = .ok (.goto 4, 3) := by decide +kernel
theorem dX12_joinLabel_94 : decode cX12_joinLabel 94 = .ok (.iconst 0, 1) := by decide +kernel
theorem dX12_joinLabel_95 : decode cX12_joinLabel 95 = .ok (.istore_n 3, 1) := by decide +kernel
theorem dX12_joinLabel_96 : decode cX12_joinLabel 96 = .ok (.iload_n 3, 1) := by decide +kernel
theorem dX12_joinLabel_97 : decode cX12_joinLabel 97 = .ok (.ifCond .ne 47, 3) := by decide +kernel
theorem dX12_joinLabel_100 : decode cX12_joinLabel 100 = .ok (.aload_n 0, 1) := by decide +kernel
theorem dX12_joinLabel_101 : decode cX12_joinLabel 101 = .ok (.getfield 268, 3) := by decide +kernel
theorem dX12_joinLabel_104 : decode cX12_joinLabel 104 = .ok (.iload_n 1, 1) := by decide +kernel
theorem dX12_joinLabel_105 : decode cX12_joinLabel 105 = .ok (.laload, 1) := by decide +kernel
theorem dX12_joinLabel_106 : decode cX12_joinLabel 106 = .ok (.aload_n 0, 1) := by decide +kernel
theorem dX12_joinLabel_107 : decode cX12_joinLabel 107 = .ok (.getfield 268, 3) := by decide +kernel
theorem dX12_joinLabel_110 : decode cX12_joinLabel 110 = .ok (.iload_n 2, 1) := by decide +kernel
theorem dX12_joinLabel_111 : decode cX12_joinLabel 111 = .ok (.laload, 1) := by decide +kernel
theorem dX12_joinLabel_112 : decode cX12_joinLabel 112 = .ok (.ldc2_w 1110, 3) := by decide +kernel
theorem dX12_joinLabel_115 : decode cX12_joinLabel 115 = .ok (.lxor, 1) := by decide +kernel
theorem dX12_joinLabel_116 : decode cX12_joinLabel 116 = .ok (.land, 1) := by decide +kernel
theorem dX12_joinLabel_117 : decode cX12_joinLabel 117 = .ok (.lconst 0, 1) := by decide +kernel
theorem dX12_joinLabel_118 : decode cX12_joinLabel 118 = .ok (.lcmp, 1) := by decide +kernel
theorem dX12_joinLabel_119 : decode cX12_joinLabel 119 = .ok (.ifCond .ne 25, 3) := by decide +kernel
theorem dX12_joinLabel_122 : decode cX12_joinLabel 122 = .ok (.aload_n 0, 1) := by decide +kernel
theorem dX12_joinLabel_123 : decode cX12_joinLabel 123 = .ok (.getfield 271, 3) := by decide +kernel
theorem dX12_joinLabel_126 : decode cX12_joinLabel 126 = .ok (.iload_n 1, 1) := by decide +kernel
theorem dX12_joinLabel_127 : decode cX12_joinLabel 127 = .ok (.laload, 1) := by decide +kernel
theorem dX12_joinLabel_128 : decode cX12_joinLabel 128 = .ok (.aload_n 0, 1) := by decide +kernel
theorem dX12_joinLabel_129 : decode cX12_joinLabel 129 = .ok (.getfield 271, 3) := by decide +kernel
theorem dX12_joinLabel_132 : decode cX12_joinLabel 132 = .ok (.iload_n 2, 1) := by decide +kernel
theorem dX12_joinLabel_133 : decode cX12_joinLabel 133 = .ok (.laload, 1) := by decide +kernel
theorem dX12_joinLabel_134 : decode cX12_joinLabel 134 = .ok (.ldc2_w 1110, 3) := by decide +kernel
theorem dX12_joinLabel_137 : decode cX12_joinLabel 137 = .ok (.lxor, 1) := by decide +kernel
theorem dX12_joinLabel_138 : decode cX12_joinLabel 138 = .ok (.land, 1) := by decide +kernel
theorem dX12_joinLabel_139 : decode cX12_joinLabel 139 = .ok (.lconst 0, 1) := by decide +kernel
theorem dX12_joinLabel_140 : decode cX12_joinLabel 140 = .ok (.lcmp, 1) := by decide +kernel
theorem dX12_joinLabel_141 : decode cX12_joinLabel 141 = .ok (.ifCond .eq 7, 3) := by decide +kernel
theorem dX12_joinLabel_144 : decode cX12_joinLabel 144 = .ok (.iconst 1, 1) := by decide +kernel
theorem dX12_joinLabel_145 : decode cX12_joinLabel 145 = .ok (.goto 4, 3) := by decide +kernel
theorem dX12_joinLabel_148 : decode cX12_joinLabel 148 = .ok (.iconst 0, 1) := by decide +kernel
theorem dX12_joinLabel_149 : decode cX12_joinLabel 149 = .ok (.istore_n 3, 1) := by decide +kernel
theorem dX12_joinLabel_150 : decode cX12_joinLabel 150 = .ok (.aload_n 0, 1) := by decide +kernel
theorem dX12_joinLabel_151 : decode cX12_joinLabel 151 = .ok (.getfield 256, 3) := by decide +kernel
theorem dX12_joinLabel_154 : decode cX12_joinLabel 154 = .ok (.iload_n 2, 1) := by decide +kernel
theorem dX12_joinLabel_155 : decode cX12_joinLabel 155 = .ok (.aload_n 0, 1) := by decide +kernel
theorem dX12_joinLabel_156 : decode cX12_joinLabel 156 = .ok (.getfield 256, 3) := by decide +kernel
theorem dX12_joinLabel_159 : decode cX12_joinLabel 159 = .ok (.iload_n 2, 1) := by decide +kernel
theorem dX12_joinLabel_160 : decode cX12_joinLabel 160 = .ok (.baload, 1) := by decide +kernel
theorem dX12_joinLabel_161 : decode cX12_joinLabel 161 = .ok (.ifCond .ne 12, 3) := by decide +kernel
theorem dX12_joinLabel_164 : decode cX12_joinLabel 164 = .ok (.aload_n 0, 1) := by decide +kernel
theorem dX12_joinLabel_165 : decode cX12_joinLabel 165 = .ok (.getfield 256, 3) := by decide +kernel
theorem dX12_joinLabel_168 : decode cX12_joinLabel 168 = .ok (.iload_n 1, 1) := by decide +kernel
theorem dX12_joinLabel_169 : decode cX12_joinLabel 169 = .ok (.baload, 1) := by decide +kernel
theorem dX12_joinLabel_170 : decode cX12_joinLabel 170 = .ok (.ifCond .eq 7, 3) := by decide +kernel
theorem dX12_joinLabel_173 : decode cX12_joinLabel 173 = .ok (.iconst 1, 1) := by decide +kernel
theorem dX12_joinLabel_174 : decode cX12_joinLabel 174 = .ok (.goto 4, 3) := by decide +kernel
theorem dX12_joinLabel_177 : decode cX12_joinLabel 177 = .ok (.iconst 0, 1) := by decide +kernel
theorem dX12_joinLabel_178 : decode cX12_joinLabel 178 = .ok (.bastore, 1) := by decide +kernel
theorem dX12_joinLabel_179 : decode cX12_joinLabel 179 = .ok (.aload_n 0, 1) := by decide +kernel
theorem dX12_joinLabel_180 : decode cX12_joinLabel 180 = .ok (.getfield 259, 3) := by decide +kernel
theorem dX12_joinLabel_183 : decode cX12_joinLabel 183 = .ok (.iload_n 2, 1) := by decide +kernel
theorem dX12_joinLabel_184 : decode cX12_joinLabel 184 = .ok (.aload_n 0, 1) := by decide +kernel
theorem dX12_joinLabel_185 : decode cX12_joinLabel 185 = .ok (.getfield 259, 3) := by decide +kernel
theorem dX12_joinLabel_188 : decode cX12_joinLabel 188 = .ok (.iload_n 2, 1) := by decide +kernel
theorem dX12_joinLabel_189 : decode cX12_joinLabel 189 = .ok (.baload, 1) := by decide +kernel
theorem dX12_joinLabel_190 : decode cX12_joinLabel 190 = .ok (.ifCond .ne 12, 3) := by decide +kernel
theorem dX12_joinLabel_193 : decode cX12_joinLabel 193 = .ok (.aload_n 0, 1) := by decide +kernel
theorem dX12_joinLabel_194 : decode cX12_joinLabel 194 = .ok (.getfield 259, 3) := by decide +kernel
theorem dX12_joinLabel_197 : decode cX12_joinLabel 197 = .ok (.iload_n 1, 1) := by decide +kernel
theorem dX12_joinLabel_198 : decode cX12_joinLabel 198 = .ok (.baload, 1) := by decide +kernel
theorem dX12_joinLabel_199 : decode cX12_joinLabel 199 = .ok (.ifCond .eq 7, 3) := by decide +kernel
theorem dX12_joinLabel_202 : decode cX12_joinLabel 202 = .ok (.iconst 1, 1) := by decide +kernel
theorem dX12_joinLabel_203 : decode cX12_joinLabel 203 = .ok (.goto 4, 3) := by decide +kernel
theorem dX12_joinLabel_206 : decode cX12_joinLabel 206 = .ok (.iconst 0, 1) := by decide +kernel
theorem dX12_joinLabel_207 : decode cX12_joinLabel 207 = .ok (.bastore, 1) := by decide +kernel
theorem dX12_joinLabel_208 : decode cX12_joinLabel 208 = .ok (.aload_n 0, 1) := by decide +kernel
theorem dX12_joinLabel_209 : decode cX12_joinLabel 209 = .ok (.getfield 262, 3) := by decide +kernel
theorem dX12_joinLabel_212 : decode cX12_joinLabel 212 = .ok (.iload_n 2, 1) := by decide +kernel
theorem dX12_joinLabel_213 : decode cX12_joinLabel 213 = .ok (.aload_n 0, 1) := by decide +kernel
theorem dX12_joinLabel_214 : decode cX12_joinLabel 214 = .ok (.getfield 262, 3) := by decide +kernel
theorem dX12_joinLabel_217 : decode cX12_joinLabel 217 = .ok (.iload_n 2, 1) := by decide +kernel
theorem dX12_joinLabel_218 : decode cX12_joinLabel 218 = .ok (.laload, 1) := by decide +kernel
theorem dX12_joinLabel_219 : decode cX12_joinLabel 219 = .ok (.aload_n 0, 1) := by decide +kernel
theorem dX12_joinLabel_220 : decode cX12_joinLabel 220 = .ok (.getfield 262, 3) := by decide +kernel
theorem dX12_joinLabel_223 : decode cX12_joinLabel 223 = .ok (.iload_n 1, 1) := by decide +kernel
theorem dX12_joinLabel_224 : decode cX12_joinLabel 224 = .ok (.laload, 1) := by decide +kernel
theorem dX12_joinLabel_225 : decode cX12_joinLabel 225 = .ok (.lor, 1) := by decide +kernel
theorem dX12_joinLabel_226 : decode cX12_joinLabel 226 = .ok (.lastore, 1) := by decide +kernel
theorem dX12_joinLabel_227 : decode cX12_joinLabel 227 = .ok (.aload_n 0, 1) := by decide +kernel
theorem dX12_joinLabel_228 : decode cX12_joinLabel 228 = .ok (.getfield 265, 3) := by decide +kernel
theorem dX12_joinLabel_231 : decode cX12_joinLabel 231 = .ok (.iload_n 2, 1) := by decide +kernel
theorem dX12_joinLabel_232 : decode cX12_joinLabel 232 = .ok (.aload_n 0, 1) := by decide +kernel
theorem dX12_joinLabel_233 : decode cX12_joinLabel 233 = .ok (.getfield 265, 3) := by decide +kernel
theorem dX12_joinLabel_236 : decode cX12_joinLabel 236 = .ok (.iload_n 2, 1) := by decide +kernel
theorem dX12_joinLabel_237 : decode cX12_joinLabel 237 = .ok (.laload, 1) := by decide +kernel
theorem dX12_joinLabel_238 : decode cX12_joinLabel 238 = .ok (.aload_n 0, 1) := by decide +kernel
theorem dX12_joinLabel_239 : decode cX12_joinLabel 239 = .ok (.getfield 265, 3) := by decide +kernel
theorem dX12_joinLabel_242 : decode cX12_joinLabel 242 = .ok (.iload_n 1, 1) := by decide +kernel
theorem dX12_joinLabel_243 : decode cX12_joinLabel 243 = .ok (.laload, 1) := by decide +kernel
theorem dX12_joinLabel_244 : decode cX12_joinLabel 244 = .ok (.lor, 1) := by decide +kernel
theorem dX12_joinLabel_245 : decode cX12_joinLabel 245 = .ok (.lastore, 1) := by decide +kernel
theorem dX12_joinLabel_246 : decode cX12_joinLabel 246 = .ok (.aload_n 0, 1) := by decide +kernel
theorem dX12_joinLabel_247 : decode cX12_joinLabel 247 = .ok (.getfield 268, 3) := by decide +kernel
theorem dX12_joinLabel_250 : decode cX12_joinLabel 250 = .ok (.iload_n 2, 1) := by decide +kernel
theorem dX12_joinLabel_251 : decode cX12_joinLabel 251 = .ok (.aload_n 0, 1) := by decide +kernel
theorem dX12_joinLabel_252 : decode cX12_joinLabel 252 = .ok (.getfield 268, 3) := by decide +kernel
theorem dX12_joinLabel_255 : decode cX12_joinLabel 255 = .ok (.iload_n 2, 1) := by decide +kernel
theorem dX12_joinLabel_256 : decode cX12_joinLabel 256 = .ok (.laload, 1) := by decide +kernel
theorem dX12_joinLabel_257 : decode cX12_joinLabel 257 = .ok (.aload_n 0, 1) := by decide +kernel
theorem dX12_joinLabel_258 : decode cX12_joinLabel 258 = .ok (.getfield 268, 3) := by decide +kernel
theorem dX12_joinLabel_261 : decode cX12_joinLabel 261 = .ok (.iload_n 1, 1) := by decide +kernel
theorem dX12_joinLabel_262 : decode cX12_joinLabel 262 = .ok (.laload, 1) := by decide +kernel
theorem dX12_joinLabel_263 : decode cX12_joinLabel 263 = .ok (.lor, 1) := by decide +kernel
theorem dX12_joinLabel_264 : decode cX12_joinLabel 264 = .ok (.lastore, 1) := by decide +kernel
theorem dX12_joinLabel_265 : decode cX12_joinLabel 265 = .ok (.aload_n 0, 1) := by decide +kernel
theorem dX12_joinLabel_266 : decode cX12_joinLabel 266 = .ok (.getfield 271, 3) := by decide +kernel
theorem dX12_joinLabel_269 : decode cX12_joinLabel 269 = .ok (.iload_n 2, 1) := by decide +kernel
theorem dX12_joinLabel_270 : decode cX12_joinLabel 270 = .ok (.aload_n 0, 1) := by decide +kernel
theorem dX12_joinLabel_271 : decode cX12_joinLabel 271 = .ok (.getfield 271, 3) := by decide +kernel
theorem dX12_joinLabel_274 : decode cX12_joinLabel 274 = .ok (.iload_n 2, 1) := by decide +kernel
theorem dX12_joinLabel_275 : decode cX12_joinLabel 275 = .ok (.laload, 1) := by decide +kernel
theorem dX12_joinLabel_276 : decode cX12_joinLabel 276 = .ok (.aload_n 0, 1) := by decide +kernel
theorem dX12_joinLabel_277 : decode cX12_joinLabel 277 = .ok (.getfield 271, 3) := by decide +kernel
theorem dX12_joinLabel_280 : decode cX12_joinLabel 280 = .ok (.iload_n 1, 1) := by decide +kernel
theorem dX12_joinLabel_281 : decode cX12_joinLabel 281 = .ok (.laload, 1) := by decide +kernel
theorem dX12_joinLabel_282 : decode cX12_joinLabel 282 = .ok (.lor, 1) := by decide +kernel
theorem dX12_joinLabel_283 : decode cX12_joinLabel 283 = .ok (.lastore, 1) := by decide +kernel
theorem dX12_joinLabel_284 : decode cX12_joinLabel 284 = .ok (.iload_n 3, 1) := by decide +kernel
theorem dX12_joinLabel_285 : decode cX12_joinLabel 285 = .ok (.ireturn, 1) := by decide +kernel
theorem dX12_make_0 : decode cX12_make 0 = .ok (.iconst 0, 1) := by decide +kernel
theorem dX12_make_1 : decode cX12_make 1 = .ok (.istore_n 3, 1) := by decide +kernel
theorem dX12_make_2 : decode cX12_make 2 = .ok (.iload_n 3, 1) := by decide +kernel
theorem dX12_make_3 : decode cX12_make 3 = .ok (.aload_n 0, 1) := by decide +kernel
theorem dX12_make_4 : decode cX12_make 4 = .ok (.getfield 765, 3) := by decide +kernel
theorem dX12_make_7 : decode cX12_make 7 = .ok (.aload_n 0, 1) := by decide +kernel
theorem dX12_make_8 : decode cX12_make 8 = .ok (.getfield 762, 3) := by decide +kernel
theorem dX12_make_11 : decode cX12_make 11 = .ok (.iconst 1, 1) := by decide +kernel
theorem dX12_make_12 : decode cX12_make 12 = .ok (.iadd, 1) := by decide +kernel
theorem dX12_make_13 : decode cX12_make 13 = .ok (.imul, 1) := by decide +kernel
theorem dX12_make_14 : decode cX12_make 14 = .ok (.if_icmp .ge 19, 3) := by decide +kernel
theorem dX12_make_17 : decode cX12_make 17 = .ok (.aload_n 0, 1) := by decide +kernel
theorem dX12_make_18 : decode cX12_make 18 = .ok (.ldc_w 1084, 3) := by decide +kernel
theorem dX12_make_21 : decode cX12_make 21 = .ok (.iload_n 3, 1) := by decide +kernel
theorem dX12_make_22 : decode cX12_make 22 = .ok (.iadd, 1) := by decide +kernel
theorem dX12_make_23 : decode cX12_make 23 = .ok (.iload_n 1, 1) := by decide +kernel
theorem dX12_make_24 : decode cX12_make 24 = .ok (.invokevirtual 1175, 3) := by decide +kernel
theorem dX12_make_27 : decode cX12_make 27 = .ok (.iinc 3 1, 3) := by decide +kernel
theorem dX12_make_30 : decode cX12_make 30 = .ok (.goto (-28), 3) := by decide +kernel
theorem dX12_make_33 : decode cX12_make 33 = .ok (.iconst 0, 1) := by decide +kernel
theorem dX12_make_34 : decode cX12_make 34 = .ok (.istore_n 3, 1) := by decide +kernel
theorem dX12_make_35 : decode cX12_make 35 = .ok (.iload_n 3, 1) := by decide +kernel
theorem dX12_make_36 : decode cX12_make 36 = .ok (.aload_n 0, 1) := by decide +kernel
theorem dX12_make_37 : decode cX12_make 37 = .ok (.getfield 235, 3) := by decide +kernel
theorem dX12_make_40 : decode cX12_make 40 = .ok (.sipush 639, 3) := by decide +kernel
theorem dX12_make_43 : decode cX12_make 43 = .ok (.iaload, 1) := by decide +kernel
theorem dX12_make_44 : decode cX12_make 44 = .ok (.if_icmp .ge 24, 3) := by decide +kernel
theorem dX12_make_47 : decode cX12_make 47 = .ok (.aload_n 0, 1) := by decide +kernel
theorem dX12_make_48 : decode cX12_make 48 = .ok (.aload_n 0, 1) := by decide +kernel
theorem dX12_make_49 : decode cX12_make 49 = .ok (.getfield 238, 3) := by decide +kernel
theorem dX12_make_52 : decode cX12_make 52 = .ok (.sipush 639, 3) := by decide +kernel
theorem dX12_make_55 : decode cX12_make 55 = .ok (.iaload, 1) := by decide +kernel
theorem dX12_make_56 : decode cX12_make 56 = .ok (.iload_n 3, 1) := by decide +kernel
theorem dX12_make_57 : decode cX12_make 57 = .ok (.iadd, 1) := by decide +kernel
theorem dX12_make_58 : decode cX12_make 58 = .ok (.iload_n 1, 1) := by decide +kernel
theorem dX12_make_59 : decode cX12_make 59 = .ok (.invokevirtual 1175, 3) := by decide +kernel
theorem dX12_make_62 : decode cX12_make 62 = .ok (.iinc 3 1, 3) := by decide +kernel
theorem dX12_make_65 : decode cX12_make 65 = .ok (.goto (-30), 3) := by decide +kernel
theorem dX12_make_68 : decode cX12_make 68 = .ok (.aload_n 0, 1) := by decide +kernel
theorem dX12_make_69 : decode cX12_make 69 = .ok (.aload_n 0, 1) := by decide +kernel
theorem dX12_make_70 : decode cX12_make 70 = .ok (.sipush 639, 3) := by decide +kernel
theorem dX12_make_73 : decode cX12_make 73 = .ok (.invokevirtual 1098, 3) := by decide +kernel
theorem dX12_make_76 : decode cX12_make 76 = .ok (.iload_n 1, 1) := by decide +kernel
theorem dX12_make_77 : decode cX12_make 77 = .ok (.invokevirtual 1175, 3) := by decide +kernel
theorem dX12_make_80 : decode cX12_make 80 = .ok (.iconst 0, 1) := by decide +kernel
theorem dX12_make_81 : decode cX12_make 81 = .ok (.istore_n 3, 1) := by decide +kernel
theorem dX12_make_82 : decode cX12_make 82 = .ok (.iload_n 3, 1) := by decide +kernel
theorem dX12_make_83 : decode cX12_make 83 = .ok (.aload_n 0, 1) := by decide +kernel
theorem dX12_make_84 : decode cX12_make 84 = .ok (.getfield 1178, 3) := by decide +kernel
theorem dX12_make_87 : decode cX12_make 87 = .ok (.if_icmp .ge 20, 3) := by decide +kernel
theorem dX12_make_90 : decode cX12_make 90 = .ok (.aload_n 0, 1) := by decide +kernel
theorem dX12_make_91 : decode cX12_make 91 = .ok (.aload_n 0, 1) := by decide +kernel
theorem dX12_make_92 : decode cX12_make 92 = .ok (.getfield 286, 3) := by decide +kernel
theorem dX12_make_95 : decode cX12_make 95 = .ok (.iload_n 3, 1) := by decide +kernel
theorem dX12_make_96 : decode cX12_make 96 = .ok (.iaload, 1) := by decide +kernel
theorem dX12_make_97 : decode cX12_make 97 = .ok (.iload_n 1, 1) := by decide +kernel
theorem dX12_make_98 : decode cX12_make 98 = .ok (.invokevirtual 1175, 3) := by decide +kernel
theorem dX12_make_101 : decode cX12_make 101 = .ok (.iinc 3 1, 3) := by decide +kernel
theorem dX12_make_104 : decode cX12_make 104 = .ok (.goto (-22), 3) := by decide +kernel
theorem dX12_make_107 : decode cX12_make 107 = .ok (.ldc_w 1181, 3) := by decide +kernel
theorem dX12_make_110 : decode cX12_make 110 = .ok (.istore_n 3, 1) := by decide +kernel
theorem dX12_make_111 : decode cX12_make 111 = .ok (.aload_n 0, 1) := by decide +kernel
theorem dX12_make_112 : decode cX12_make 112 = .ok (.getfield 220, 3) := by decide +kernel
theorem dX12_make_115 : decode cX12_make 115 = .ok (.iload_n 3, 1) := by decide +kernel
theorem dX12_make_116 : decode cX12_make 116 = .ok (.aload_n 0, 1) := by decide +kernel
theorem dX12_make_117 : decode cX12_make 117 = .ok (.getfield 241, 3) := by decide +kernel
theorem dX12_make_120 : decode cX12_make 120 = .ok (.sipush 639, 3) := by decide +kernel
theorem dX12_make_123 : decode cX12_make 123 = .ok (.laload, 1) := by decide +kernel
theorem dX12_make_124 : decode cX12_make 124 = .ok (.lastore, 1) := by decide +kernel
theorem dX12_make_125 : decode cX12_make 125 = .ok (.aload_n 0, 1) := by decide +kernel
theorem dX12_make_126 : decode cX12_make 126 = .ok (.getfield 223, 3) := by decide +kernel
theorem dX12_make_129 : decode cX12_make 129 = .ok (.iload_n 3, 1) := by decide +kernel
theorem dX12_make_130 : decode cX12_make 130 = .ok (.aload_n 0, 1) := by decide +kernel
theorem dX12_make_131 : decode cX12_make 131 = .ok (.getfield 244, 3) := by decide +kernel
theorem dX12_make_134 : decode cX12_make 134 = .ok (.sipush 639, 3) := by decide +kernel
theorem dX12_make_137 : decode cX12_make 137 = .ok (.laload, 1) := by decide +kernel
theorem dX12_make_138 : decode cX12_make 138 = .ok (.lastore, 1) := by decide +kernel
theorem dX12_make_139 : decode cX12_make 139 = .ok (.aload_n 0, 1) := by decide +kernel
theorem dX12_make_140 : decode cX12_make 140 = .ok (.iload_n 3, 1) := by decide +kernel
theorem dX12_make_141 : decode cX12_make 141 = .ok (.iload_n 1, 1) := by decide +kernel
theorem dX12_make_142 : decode cX12_make 142 = .ok (.invokevirtual 1175, 3) := by decide +kernel
theorem dX12_make_145 : decode cX12_make 145 = .ok (.aload_n 0, 1) := by decide +kernel
theorem dX12_make_146 : decode cX12_make 146 = .ok (.getfield 241, 3) := by decide +kernel
theorem dX12_make_149 : decode cX12_make 149 = .ok (.sipush 639, 3) := by decide +kernel
theorem dX12_make_152 : decode cX12_make 152 = .ok (.aload_n 0, 1) := by decide +kernel
theorem dX12_make_153 : decode cX12_make 153 = .ok (.getfield 220, 3) := by decide +kernel
theorem dX12_make_156 : decode cX12_make 156 = .ok (.iload_n 3, 1) := by decide +kernel
theorem dX12_make_157 : decode cX12_make 157 = .ok (.laload, 1) := by decide +kernel
theorem dX12_make_158 : decode cX12_make 158 = .ok (.lastore, 1) := by decide +kernel
theorem dX12_make_159 : decode cX12_make 159 = .ok (.aload_n 0, 1) := by decide +kernel
theorem dX12_make_160 : decode cX12_make 160 = .ok (.getfield 244, 3) := by decide +kernel
theorem dX12_make_163 : decode cX12_make 163 = .ok (.sipush 639, 3) := by decide +kernel
theorem dX12_make_166 : decode cX12_make 166 = .ok (.aload_n 0, 1) := by decide +kernel
theorem dX12_make_167 : decode cX12_make 167 = .ok (.getfield 223, 3) := by decide +kernel
theorem dX12_make_170 : decode cX12_make 170 = .ok (.iload_n 3, 1) := by decide +kernel
theorem dX12_make_171 : decode cX12_make 171 = .ok (.laload, 1) := by decide +kernel
theorem dX12_make_172 : decode cX12_make 172 = .ok (.lastore, 1) := by decide +kernel
theorem dX12_make_173 : decode cX12_make 173 = .ok (.iconst 0, 1) := by decide +kernel
theorem dX12_make_174 : decode cX12_make 174 = .ok (.istore 4, 2) := by decide +kernel
theorem dX12_make_176 : decode cX12_make 176 = .ok (.iload 4, 2) := by decide +kernel
theorem dX12_make_178 : decode cX12_make 178 = .ok (.aload_n 0, 1) := by decide +kernel
theorem dX12_make_179 : decode cX12_make 179 = .ok (.getfield 765, 3) := by decide +kernel
theorem dX12_make_182 : decode cX12_make 182 = .ok (.if_icmp .ge 136, 3) := by decide +kernel
theorem dX12_make_185 : decode cX12_make 185 = .ok (.aload_n 0, 1) := by decide +kernel
theorem dX12_make_186 : decode cX12_make 186 = .ok (.sipush 639, 3) := by decide +kernel
theorem dX12_make_189 : decode cX12_make 189 = .ok (.iload 4, 2) := by decide +kernel
theorem dX12_make_191 : decode cX12_make 191 = .ok (.invokevirtual 1101, 3) := by decide +kernel
theorem dX12_make_194 : decode cX12_make 194 = .ok (.istore 5, 2) := by decide +kernel
theorem dX12_make_196 : decode cX12_make 196 = .ok (.aload_n 0, 1) := by decide +kernel
theorem dX12_make_197 : decode cX12_make 197 = .ok (.getfield 220, 3) := by decide +kernel
theorem dX12_make_200 : decode cX12_make 200 = .ok (.iload_n 3, 1) := by decide +kernel
theorem dX12_make_201 : decode cX12_make 201 = .ok (.aload_n 0, 1) := by decide +kernel
theorem dX12_make_202 : decode cX12_make 202 = .ok (.getfield 262, 3) := by decide +kernel
theorem dX12_make_205 : decode cX12_make 205 = .ok (.iload 5, 2) := by decide +kernel
theorem dX12_make_207 : decode cX12_make 207 = .ok (.laload, 1) := by decide +kernel
theorem dX12_make_208 : decode cX12_make 208 = .ok (.lastore, 1) := by decide +kernel
theorem dX12_make_209 : decode cX12_make 209 = .ok (.aload_n 0, 1) := by decide +kernel
theorem dX12_make_210 : decode cX12_make 210 = .ok (.getfield 223, 3) := by decide +kernel
theorem dX12_make_213 : decode cX12_make 213 = .ok (.iload_n 3, 1) := by decide +kernel
theorem dX12_make_214 : decode cX12_make 214 = .ok (.aload_n 0, 1) := by decide +kernel
theorem dX12_make_215 : decode cX12_make 215 = .ok (.getfield 265, 3) := by decide +kernel
theorem dX12_make_218 : decode cX12_make 218 = .ok (.iload 5, 2) := by decide +kernel
theorem dX12_make_220 : decode cX12_make 220 = .ok (.laload, 1) := by decide +kernel
theorem dX12_make_221 : decode cX12_make 221 = .ok (.lastore, 1) := by decide +kernel
theorem dX12_make_222 : decode cX12_make 222 = .ok (.aload_n 0, 1) := by decide +kernel
theorem dX12_make_223 : decode cX12_make 223 = .ok (.iload_n 3, 1) := by decide +kernel
theorem dX12_make_224 : decode cX12_make 224 = .ok (.iload_n 1, 1) := by decide +kernel
theorem dX12_make_225 : decode cX12_make 225 = .ok (.invokevirtual 1175, 3) := by decide +kernel
theorem dX12_make_228 : decode cX12_make 228 = .ok (.aload_n 0, 1) := by decide +kernel
theorem dX12_make_229 : decode cX12_make 229 = .ok (.getfield 262, 3) := by decide +kernel
theorem dX12_make_232 : decode cX12_make 232 = .ok (.iload 5, 2) := by decide +kernel
theorem dX12_make_234 : decode cX12_make 234 = .ok (.aload_n 0, 1) := by decide +kernel
theorem dX12_make_235 : decode cX12_make 235 = .ok (.getfield 220, 3) := by decide +kernel
theorem dX12_make_238 : decode cX12_make 238 = .ok (.iload_n 3, 1) := by decide +kernel
theorem dX12_make_239 : decode cX12_make 239 = .ok (.laload, 1) := by decide +kernel
theorem dX12_make_240 : decode cX12_make 240 = .ok (.lastore, 1) := by decide +kernel
theorem dX12_make_241 : decode cX12_make 241 = .ok (.aload_n 0, 1) := by decide +kernel
theorem dX12_make_242 : decode cX12_make 242 = .ok (.getfield 265, 3) := by decide +kernel
theorem dX12_make_245 : decode cX12_make 245 = .ok (.iload 5, 2) := by decide +kernel
theorem dX12_make_247 : decode cX12_make 247 = .ok (.aload_n 0, 1) := by decide +kernel
theorem dX12_make_248 : decode cX12_make 248 = .ok (.getfield 223, 3) := by decide +kernel
theorem dX12_make_251 : decode cX12_make 251 = .ok (.iload_n 3, 1) := by decide +kernel
theorem dX12_make_252 : decode cX12_make 252 = .ok (.laload, 1) := by decide +kernel
theorem dX12_make_253 : decode cX12_make 253 = .ok (.lastore, 1) := by decide +kernel
theorem dX12_make_254 : decode cX12_make 254 = .ok (.aload_n 0, 1) := by decide +kernel
theorem dX12_make_255 : decode cX12_make 255 = .ok (.getfield 220, 3) := by decide +kernel
theorem dX12_make_258 : decode cX12_make 258 = .ok (.iload_n 3, 1) := by decide +kernel
theorem dX12_make_259 : decode cX12_make 259 = .ok (.aload_n 0, 1) := by decide +kernel
theorem dX12_make_260 : decode cX12_make 260 = .ok (.getfield 268, 3) := by decide +kernel
theorem dX12_make_263 : decode cX12_make 263 = .ok (.iload 5, 2) := by decide +kernel
theorem dX12_make_265 : decode cX12_make 265 = .ok (.laload, 1) := by decide +kernel
theorem dX12_make_266 : decode cX12_make 266 = .ok (.lastore, 1) := by decide +kernel
theorem dX12_make_267 : decode cX12_make 267 = .ok (.aload_n 0, 1) := by decide +kernel
theorem dX12_make_268 : decode cX12_make 268 = .ok (.getfield 223, 3) := by decide +kernel
theorem dX12_make_271 : decode cX12_make 271 = .ok (.iload_n 3, 1) := by decide +kernel
theorem dX12_make_272 : decode cX12_make 272 = .ok (.aload_n 0, 1) := by decide +kernel
theorem dX12_make_273 : decode cX12_make 273 = .ok (.getfield 271, 3) := by decide +kernel
theorem dX12_make_276 : decode cX12_make 276 = .ok (.iload 5, 2) := by decide +kernel
theorem dX12_make_278 : decode cX12_make 278 = .ok (.laload, 1) := by decide +kernel
theorem dX12_make_279 : decode cX12_make 279 = .ok (.lastore, 1) := by decide +kernel
theorem dX12_make_280 : decode cX12_make 280 = .ok (.aload_n 0, 1) := by decide +kernel
theorem dX12_make_281 : decode cX12_make 281 = .ok (.iload_n 3, 1) := by decide +kernel
theorem dX12_make_282 : decode cX12_make 282 = .ok (.iload_n 1, 1) := by decide +kernel
theorem dX12_make_283 : decode cX12_make 283 = .ok (.invokevirtual 1175, 3) := by decide +kernel
theorem dX12_make_286 : decode cX12_make 286 = .ok (.aload_n 0, 1) := by decide +kernel
theorem dX12_make_287 : decode cX12_make 287 = .ok (.getfield 268, 3) := by decide +kernel
theorem dX12_make_290 : decode cX12_make 290 = .ok (.iload 5, 2) := by decide +kernel
theorem dX12_make_292 : decode cX12_make 292 = .ok (.aload_n 0, 1) := by decide +kernel
theorem dX12_make_293 : decode cX12_make 293 = .ok (.getfield 220, 3) := by decide +kernel
theorem dX12_make_296 : decode cX12_make 296 = .ok (.iload_n 3, 1) := by decide +kernel
theorem dX12_make_297 : decode cX12_make 297 = .ok (.laload, 1) := by decide +kernel
theorem dX12_make_298 : decode cX12_make 298 = .ok (.lastore, 1) := by decide +kernel
theorem dX12_make_299 : decode cX12_make 299 = .ok (.aload_n 0, 1) := by decide +kernel
theorem dX12_make_300 : decode cX12_make 300 = .ok (.getfield 271, 3) := by decide +kernel
theorem dX12_make_303 : decode cX12_make 303 = .ok (.iload 5, 2) := by decide +kernel
theorem dX12_make_305 : decode cX12_make 305 = .ok (.aload_n 0, 1) := by decide +kernel
theorem dX12_make_306 : decode cX12_make 306 = .ok (.getfield 223, 3) := by decide +kernel
theorem dX12_make_309 : decode cX12_make 309 = .ok (.iload_n 3, 1) := by decide +kernel
theorem dX12_make_310 : decode cX12_make 310 = .ok (.laload, 1) := by decide +kernel
theorem dX12_make_311 : decode cX12_make 311 = .ok (.lastore, 1) := by decide +kernel
theorem dX12_make_312 : decode cX12_make 312 = .ok (.iinc 4 1, 3) := by decide +kernel
theorem dX12_make_315 : decode cX12_make 315 = .ok (.goto (-139), 3) := by decide +kernel
theorem dX12_make_318 : decode cX12_make 318 = .ok (.aload_n 0, 1) := by decide +kernel
theorem dX12_make_319 : decode cX12_make 319 = .ok (.aload_n 0, 1) := by decide +kernel
theorem dX12_make_320 : decode cX12_make 320 = .ok (.sipush 639, 3) := by decide +kernel
theorem dX12_make_323 : decode cX12_make 323 = .ok (.iload_n 1, 1) := by decide +kernel
theorem dX12_make_324 : decode cX12_make 324 = .ok (.invokevirtual 1101, 3) := by decide +kernel
theorem dX12_make_327 : decode cX12_make 327 = .ok (.aload_n 0, 1) := by decide +kernel
theorem dX12_make_328 : decode cX12_make 328 = .ok (.sipush 639, 3) := by decide +kernel
theorem dX12_make_331 : decode cX12_make 331 = .ok (.iload_n 1, 1) := by decide +kernel
theorem dX12_make_332 : decode cX12_make 332 = .ok (.iconst 1, 1) := by decide +kernel
theorem dX12_make_333 : decode cX12_make 333 = .ok (.iadd, 1) := by decide +kernel
theorem dX12_make_334 : decode cX12_make 334 = .ok (.invokevirtual 1101, 3) := by decide +kernel
theorem dX12_make_337 : decode cX12_make 337 = .ok (.invokevirtual 1112, 3) := by decide +kernel
theorem dX12_make_340 : decode cX12_make 340 = .ok (.istore 4, 2) := by decide +kernel
theorem dX12_make_342 : decode cX12_make 342 = .ok (.iconst 0, 1) := by decide +kernel
theorem dX12_make_343 : decode cX12_make 343 = .ok (.istore 5, 2) := by decide +kernel
theorem dX12_make_345 : decode cX12_make 345 = .ok (.iload 5, 2) := by decide +kernel
theorem dX12_make_347 : decode cX12_make 347 = .ok (.aload_n 0, 1) := by decide +kernel
theorem dX12_make_348 : decode cX12_make 348 = .ok (.getfield 762, 3) := by decide +kernel
theorem dX12_make_351 : decode cX12_make 351 = .ok (.if_icmp .gt 37, 3) := by decide +kernel
theorem dX12_make_354 : decode cX12_make 354 = .ok (.aload_n 0, 1) := by decide +kernel
theorem dX12_make_355 : decode cX12_make 355 = .ok (.aload_n 0, 1) := by decide +kernel
theorem dX12_make_356 : decode cX12_make 356 = .ok (.sipush 639, 3) := by decide +kernel
theorem dX12_make_359 : decode cX12_make 359 = .ok (.iload_n 1, 1) := by decide +kernel
theorem dX12_make_360 : decode cX12_make 360 = .ok (.iload 5, 2) := by decide +kernel
theorem dX12_make_362 : decode cX12_make 362 = .ok (.invokevirtual 1163, 3) := by decide +kernel
theorem dX12_make_365 : decode cX12_make 365 = .ok (.aload_n 0, 1) := by decide +kernel
theorem dX12_make_366 : decode cX12_make 366 = .ok (.sipush 639, 3) := by decide +kernel
theorem dX12_make_369 : decode cX12_make 369 = .ok (.iload_n 1, 1) := by decide +kernel
theorem dX12_make_370 : decode cX12_make 370 = .ok (.iconst 1, 1) := by decide +kernel
theorem dX12_make_371 : decode cX12_make 371 = .ok (.iadd, 1) := by decide +kernel
theorem dX12_make_372 : decode cX12_make 372 = .ok (.iload 5, 2) := by decide +kernel
theorem dX12_make_374 : decode cX12_make 374 = .ok (.invokevirtual 1163, 3) := by decide +kernel
theorem dX12_make_377 : decode cX12_make 377 = .ok (.invokevirtual 1069, 3) := by decide +kernel
theorem dX12_make_380 : decode cX12_make 380 = .ok (.istore 4, 2) := by decide +kernel
theorem dX12_make_382 : decode cX12_make 382 = .ok (.iinc 5 1, 3) := by decide +kernel
theorem dX12_make_385 : decode cX12_make 385 = .ok (.goto (-40), 3) := by decide +kernel
theorem dX12_make_388 : decode cX12_make 388 = .ok (.aload_n 0, 1) := by decide +kernel
theorem dX12_make_389 : decode cX12_make 389 = .ok (.iload_n 1, 1) := by decide +kernel
theorem dX12_make_390 : decode cX12_make 390 = .ok (.iload_n 2, 1) := by decide +kernel
theorem dX12_make_391 : decode cX12_make 391 = .ok (.invokevirtual 1182, 3) := by decide +kernel
theorem dX12_make_394 : decode cX12_make 394 = .ok (.return_, 1) := by decide +kernel
theorem dX12_age_0 : decode cX12_age 0 = .ok (.bipush 29, 2) := by decide +kernel
theorem dX12_age_2 : decode cX12_age 2 = .ok (.istore_n 2, 1) := by decide +kernel
theorem dX12_age_3 : decode cX12_age 3 = .ok (.iload_n 2, 1) := by decide +kernel
theorem dX12_age_4 : decode cX12_age 4 = .ok (.aload_n 0, 1) := by decide +kernel
theorem dX12_age_5 : decode cX12_age 5 = .ok (.getfield 765, 3) := by decide +kernel
theorem dX12_age_8 : decode cX12_age 8 = .ok (.if_icmp .ge 43, 3) := by decide +kernel
theorem dX12_age_11 : decode cX12_age 11 = .ok (.iload_n 2, 1) := by decide +kernel
theorem dX12_age_12 : decode cX12_age 12 = .ok (.invokestatic 1166, 3) := by decide +kernel
theorem dX12_age_15 : decode cX12_age 15 = .ok (.ifCond .eq 30, 3) := by decide +kernel
theorem dX12_age_18 : decode cX12_age 18 = .ok (.aload_n 0, 1) := by decide +kernel
theorem dX12_age_19 : decode cX12_age 19 = .ok (.getfield 220, 3) := by decide +kernel
theorem dX12_age_22 : decode cX12_age 22 = .ok (.iload_n 1, 1) := by decide +kernel
theorem dX12_age_23 : decode cX12_age 23 = .ok (.laload, 1) := by decide +kernel
theorem dX12_age_24 : decode cX12_age 24 = .ok (.aload_n 0, 1) := by decide +kernel
theorem dX12_age_25 : decode cX12_age 25 = .ok (.getfield 223, 3) := by decide +kernel
theorem dX12_age_28 : decode cX12_age 28 = .ok (.iload_n 1, 1) := by decide +kernel
theorem dX12_age_29 : decode cX12_age 29 = .ok (.laload, 1) := by decide +kernel
theorem dX12_age_30 : decode cX12_age 30 = .ok (.iload_n 2, 1) := by decide +kernel
theorem dX12_age_31 : decode cX12_age 31 = .ok (.invokestatic 1125, 3) := by decide +kernel
theorem dX12_age_34 : decode cX12_age 34 = .ok (.ifCond .eq 11, 3) := by decide +kernel
theorem dX12_age_37 : decode cX12_age 37 = .ok (.aload_n 0, 1) := by decide +kernel
theorem dX12_age_38 : decode cX12_age 38 = .ok (.iload_n 1, 1) := by decide +kernel
theorem dX12_age_39 : decode cX12_age 39 = .ok (.iload_n 2, 1) := by decide +kernel
theorem dX12_age_40 : decode cX12_age 40 = .ok (.iconst 1, 1) := by decide +kernel
theorem dX12_age_41 : decode cX12_age 41 = .ok (.iadd, 1) := by decide +kernel
theorem dX12_age_42 : decode cX12_age 42 = .ok (.invokevirtual 1081, 3) := by decide +kernel
theorem dX12_age_45 : decode cX12_age 45 = .ok (.iinc 2 1, 3) := by decide +kernel
theorem dX12_age_48 : decode cX12_age 48 = .ok (.goto (-45), 3) := by decide +kernel
theorem dX12_age_51 : decode cX12_age 51 = .ok (.return_, 1) := by decide +kernel
theorem dX12_joinPlain_0 : decode cX12_joinPlain 0 = .ok (.ldc_w 1273, 3) := by decide +kernel
theorem dX12_joinPlain_3 : decode cX12_joinPlain 3 = .ok (.istore_n 3, 1) := by decide +kernel
theorem dX12_joinPlain_4 : decode cX12_joinPlain 4 = .ok (.aload_n 0, 1) := by decide +kernel
theorem dX12_joinPlain_5 : decode cX12_joinPlain 5 = .ok (.iload_n 1, 1) := by decide +kernel
theorem dX12_joinPlain_6 : decode cX12_joinPlain 6 = .ok (.iload_n 3, 1) := by decide +kernel
theorem dX12_joinPlain_7 : decode cX12_joinPlain 7 = .ok (.invokevirtual 1092, 3) := by decide +kernel
theorem dX12_joinPlain_10 : decode cX12_joinPlain 10 = .ok (.aload_n 0, 1) := by decide +kernel
theorem dX12_joinPlain_11 : decode cX12_joinPlain 11 = .ok (.iload_n 3, 1) := by decide +kernel
theorem dX12_joinPlain_12 : decode cX12_joinPlain 12 = .ok (.aload_n 0, 1) := by decide +kernel
theorem dX12_joinPlain_13 : decode cX12_joinPlain 13 = .ok (.iload_n 3, 1) := by decide +kernel
theorem dX12_joinPlain_14 : decode cX12_joinPlain 14 = .ok (.invokevirtual 1059, 3) := by decide +kernel
theorem dX12_joinPlain_17 : decode cX12_joinPlain 17 = .ok (.aload_n 0, 1) := by decide +kernel
theorem dX12_joinPlain_18 : decode cX12_joinPlain 18 = .ok (.iload_n 3, 1) := by decide +kernel
theorem dX12_joinPlain_19 : decode cX12_joinPlain 19 = .ok (.invokevirtual 1053, 3) := by decide +kernel
theorem dX12_joinPlain_22 : decode cX12_joinPlain 22 = .ok (.aload_n 0, 1) := by decide +kernel
theorem dX12_joinPlain_23 : decode cX12_joinPlain 23 = .ok (.iload_n 3, 1) := by decide +kernel
theorem dX12_joinPlain_24 : decode cX12_joinPlain 24 = .ok (.invokevirtual 1050, 3) := by decide +kernel
theorem dX12_joinPlain_27 : decode cX12_joinPlain 27 = .ok (.invokevirtual 1056, 3) := by decide +kernel
theorem dX12_joinPlain_30 : decode cX12_joinPlain 30 = .ok (.aload_n 0, 1) := by decide +kernel
theorem dX12_joinPlain_31 : decode cX12_joinPlain 31 = .ok (.iload_n 3, 1) := by decide +kernel
theorem dX12_joinPlain_32 : decode cX12_joinPlain 32 = .ok (.iload_n 2, 1) := by decide +kernel
theorem dX12_joinPlain_33 : decode cX12_joinPlain 33 = .ok (.invokevirtual 1069, 3) := by decide +kernel
theorem dX12_joinPlain_36 : decode cX12_joinPlain 36 = .ok (.istore 4, 2) := by decide +kernel
theorem dX12_joinPlain_38 : decode cX12_joinPlain 38 = .ok (.return_, 1) := by decide +kernel
theorem dX12_scopesAt_0 : decode cX12_scopesAt 0 = .ok (.aload_n 0, 1) := by decide +kernel
theorem dX12_scopesAt_1 : decode cX12_scopesAt 1 = .ok (.iload_n 2, 1) := by decide +kernel
theorem dX12_scopesAt_2 : decode cX12_scopesAt 2 = .ok (.invokevirtual 1066, 3) := by decide +kernel
theorem dX12_scopesAt_5 : decode cX12_scopesAt 5 = .ok (.aload_n 0, 1) := by decide +kernel
theorem dX12_scopesAt_6 : decode cX12_scopesAt 6 = .ok (.getfield 220, 3) := by decide +kernel
theorem dX12_scopesAt_9 : decode cX12_scopesAt 9 = .ok (.iload_n 2, 1) := by decide +kernel
theorem dX12_scopesAt_10 : decode cX12_scopesAt 10 = .ok (.aload_n 0, 1) := by decide +kernel
theorem dX12_scopesAt_11 : decode cX12_scopesAt 11 = .ok (.getfield 241, 3) := by decide +kernel
theorem dX12_scopesAt_14 : decode cX12_scopesAt 14 = .ok (.sipush 639, 3) := by decide +kernel
theorem dX12_scopesAt_17 : decode cX12_scopesAt 17 = .ok (.laload, 1) := by decide +kernel
theorem dX12_scopesAt_18 : decode cX12_scopesAt 18 = .ok (.lastore, 1) := by decide +kernel
theorem dX12_scopesAt_19 : decode cX12_scopesAt 19 = .ok (.aload_n 0, 1) := by decide +kernel
theorem dX12_scopesAt_20 : decode cX12_scopesAt 20 = .ok (.getfield 223, 3) := by decide +kernel
theorem dX12_scopesAt_23 : decode cX12_scopesAt 23 = .ok (.iload_n 2, 1) := by decide +kernel
theorem dX12_scopesAt_24 : decode cX12_scopesAt 24 = .ok (.aload_n 0, 1) := by decide +kernel
theorem dX12_scopesAt_25 : decode cX12_scopesAt 25 = .ok (.getfield 244, 3) := by decide +kernel
theorem dX12_scopesAt_28 : decode cX12_scopesAt 28 = .ok (.sipush 639, 3) := by decide +kernel
theorem dX12_scopesAt_31 : decode cX12_scopesAt 31 = .ok (.laload, 1) := by decide +kernel
theorem dX12_scopesAt_32 : decode cX12_scopesAt 32 = .ok (.lastore, 1) := by decide +kernel
theorem dX12_scopesAt_33 : decode cX12_scopesAt 33 = .ok (.ldc_w 1217, 3) := by decide +kernel
theorem dX12_scopesAt_36 : decode cX12_scopesAt 36 = .ok (.istore_n 3, 1) := by decide +kernel
theorem dX12_scopesAt_37 : decode cX12_scopesAt 37 = .ok (.iconst 0, 1) := by decide +kernel
theorem dX12_scopesAt_38 : decode cX12_scopesAt 38 = .ok (.istore 4, 2) := by decide +kernel
theorem dX12_scopesAt_40 : decode cX12_scopesAt 40 = .ok (.iload 4, 2) := by decide +kernel
theorem dX12_scopesAt_42 : decode cX12_scopesAt 42 = .ok (.iload_n 1, 1) := by decide +kernel
theorem dX12_scopesAt_43 : decode cX12_scopesAt 43 = .ok (.if_icmp .ge 115, 3) := by decide +kernel
theorem dX12_scopesAt_46 : decode cX12_scopesAt 46 = .ok (.aload_n 0, 1) := by decide +kernel
theorem dX12_scopesAt_47 : decode cX12_scopesAt 47 = .ok (.iload_n 3, 1) := by decide +kernel
theorem dX12_scopesAt_48 : decode cX12_scopesAt 48 = .ok (.invokevirtual 1066, 3) := by decide +kernel
theorem dX12_scopesAt_51 : decode cX12_scopesAt 51 = .ok (.iconst 0, 1) := by decide +kernel
theorem dX12_scopesAt_52 : decode cX12_scopesAt 52 = .ok (.istore 5, 2) := by decide +kernel
theorem dX12_scopesAt_54 : decode cX12_scopesAt 54 = .ok (.iload 5, 2) := by decide +kernel
theorem dX12_scopesAt_56 : decode cX12_scopesAt 56 = .ok (.aload_n 0, 1) := by decide +kernel
theorem dX12_scopesAt_57 : decode cX12_scopesAt 57 = .ok (.getfield 765, 3) := by decide +kernel
theorem dX12_scopesAt_60 : decode cX12_scopesAt 60 = .ok (.if_icmp .ge 86, 3) := by decide +kernel
theorem dX12_scopesAt_63 : decode cX12_scopesAt 63 = .ok (.aload_n 0, 1) := by decide +kernel
theorem dX12_scopesAt_64 : decode cX12_scopesAt 64 = .ok (.getfield 220, 3) := by decide +kernel
theorem dX12_scopesAt_67 : decode cX12_scopesAt 67 = .ok (.iload_n 2, 1) := by decide +kernel
theorem dX12_scopesAt_68 : decode cX12_scopesAt 68 = .ok (.laload, 1) := by decide +kernel
theorem dX12_scopesAt_69 : decode cX12_scopesAt 69 = .ok (.aload_n 0, 1) := by decide +kernel
theorem dX12_scopesAt_70 : decode cX12_scopesAt 70 = .ok (.getfield 223, 3) := by decide +kernel
theorem dX12_scopesAt_73 : decode cX12_scopesAt 73 = .ok (.iload_n 2, 1) := by decide +kernel
theorem dX12_scopesAt_74 : decode cX12_scopesAt 74 = .ok (.laload, 1) := by decide +kernel
theorem dX12_scopesAt_75 : decode cX12_scopesAt 75 = .ok (.iload 5, 2) := by decide +kernel
theorem dX12_scopesAt_77 : decode cX12_scopesAt 77 = .ok (.invokestatic 1125, 3) := by decide +kernel
theorem dX12_scopesAt_80 : decode cX12_scopesAt 80 = .ok (.ifCond .ne 6, 3) := by decide +kernel
theorem dX12_scopesAt_83 : decode cX12_scopesAt 83 = .ok (.goto 57, 3) := by decide +kernel
theorem dX12_scopesAt_86 : decode cX12_scopesAt 86 = .ok (.aload_n 0, 1) := by decide +kernel
theorem dX12_scopesAt_87 : decode cX12_scopesAt 87 = .ok (.getfield 220, 3) := by decide +kernel
theorem dX12_scopesAt_90 : decode cX12_scopesAt 90 = .ok (.iload_n 3, 1) := by decide +kernel
theorem dX12_scopesAt_91 : decode cX12_scopesAt 91 = .ok (.aload_n 0, 1) := by decide +kernel
theorem dX12_scopesAt_92 : decode cX12_scopesAt 92 = .ok (.getfield 220, 3) := by decide +kernel
theorem dX12_scopesAt_95 : decode cX12_scopesAt 95 = .ok (.iload_n 3, 1) := by decide +kernel
theorem dX12_scopesAt_96 : decode cX12_scopesAt 96 = .ok (.laload, 1) := by decide +kernel
theorem dX12_scopesAt_97 : decode cX12_scopesAt 97 = .ok (.aload_n 0, 1) := by decide +kernel
theorem dX12_scopesAt_98 : decode cX12_scopesAt 98 = .ok (.getfield 268, 3) := by decide +kernel
theorem dX12_scopesAt_101 : decode cX12_scopesAt 101 = .ok (.aload_n 0, 1) := by decide +kernel
theorem dX12_scopesAt_102 : decode cX12_scopesAt 102 = .ok (.sipush 639, 3) := by decide +kernel
theorem dX12_scopesAt_105 : decode cX12_scopesAt 105 = .ok (.iload 5, 2) := by decide +kernel
theorem dX12_scopesAt_107 : decode cX12_scopesAt 107 = .ok (.invokevirtual 1101, 3) := by decide +kernel
theorem dX12_scopesAt_110 : decode cX12_scopesAt 110 = .ok (.laload, 1) := by decide +kernel
theorem dX12_scopesAt_111 : decode cX12_scopesAt 111 = .ok (.lor, 1) := by decide +kernel
theorem dX12_scopesAt_112 : decode cX12_scopesAt 112 = .ok (.lastore, 1) := by decide +kernel
theorem dX12_scopesAt_113 : decode cX12_scopesAt 113 = .ok (.aload_n 0, 1) := by decide +kernel
theorem dX12_scopesAt_114 : decode cX12_scopesAt 114 = .ok (.getfield 223, 3) := by decide +kernel
theorem dX12_scopesAt_117 : decode cX12_scopesAt 117 = .ok (.iload_n 3, 1) := by decide +kernel
theorem dX12_scopesAt_118 : decode cX12_scopesAt 118 = .ok (.aload_n 0, 1) := by decide +kernel
theorem dX12_scopesAt_119 : decode cX12_scopesAt 119 = .ok (.getfield 223, 3) := by decide +kernel
theorem dX12_scopesAt_122 : decode cX12_scopesAt 122 = .ok (.iload_n 3, 1) := by decide +kernel
theorem dX12_scopesAt_123 : decode cX12_scopesAt 123 = .ok (.laload, 1) := by decide +kernel
theorem dX12_scopesAt_124 : decode cX12_scopesAt 124 = .ok (.aload_n 0, 1) := by decide +kernel
theorem dX12_scopesAt_125 : decode cX12_scopesAt 125 = .ok (.getfield 271, 3) := by decide +kernel
theorem dX12_scopesAt_128 : decode cX12_scopesAt 128 = .ok (.aload_n 0, 1) := by decide +kernel
theorem dX12_scopesAt_129 : decode cX12_scopesAt 129 = .ok (.sipush 639, 3) := by decide +kernel
theorem dX12_scopesAt_132 : decode cX12_scopesAt 132 = .ok (.iload 5, 2) := by decide +kernel
theorem dX12_scopesAt_134 : decode cX12_scopesAt 134 = .ok (.invokevirtual 1101, 3) := by decide +kernel
theorem dX12_scopesAt_137 : decode cX12_scopesAt 137 = .ok (.laload, 1) := by decide +kernel
theorem dX12_scopesAt_138 : decode cX12_scopesAt 138 = .ok (.lor, 1) := by decide +kernel
theorem dX12_scopesAt_139 : decode cX12_scopesAt 139 = .ok (.lastore, 1) := by decide +kernel
theorem dX12_scopesAt_140 : decode cX12_scopesAt 140 = .ok (.iinc 5 1, 3) := by decide +kernel
theorem dX12_scopesAt_143 : decode cX12_scopesAt 143 = .ok (.goto (-89), 3) := by decide +kernel
theorem dX12_scopesAt_146 : decode cX12_scopesAt 146 = .ok (.aload_n 0, 1) := by decide +kernel
theorem dX12_scopesAt_147 : decode cX12_scopesAt 147 = .ok (.iload_n 3, 1) := by decide +kernel
theorem dX12_scopesAt_148 : decode cX12_scopesAt 148 = .ok (.iload_n 2, 1) := by decide +kernel
theorem dX12_scopesAt_149 : decode cX12_scopesAt 149 = .ok (.invokevirtual 1092, 3) := by decide +kernel
theorem dX12_scopesAt_152 : decode cX12_scopesAt 152 = .ok (.iinc 4 1, 3) := by decide +kernel
theorem dX12_scopesAt_155 : decode cX12_scopesAt 155 = .ok (.goto (-115), 3) := by decide +kernel
theorem dX12_scopesAt_158 : decode cX12_scopesAt 158 = .ok (.return_, 1) := by decide +kernel
theorem dX12_typesOf_0 : decode cX12_typesOf 0 = .ok (.aload_n 0, 1) := by decide +kernel
theorem dX12_typesOf_1 : decode cX12_typesOf 1 = .ok (.iload_n 1, 1) := by decide +kernel
theorem dX12_typesOf_2 : decode cX12_typesOf 2 = .ok (.invokevirtual 1047, 3) := by decide +kernel
theorem dX12_typesOf_5 : decode cX12_typesOf 5 = .ok (.istore_n 3, 1) := by decide +kernel
theorem dX12_typesOf_6 : decode cX12_typesOf 6 = .ok (.iload_n 3, 1) := by decide +kernel
theorem dX12_typesOf_7 : decode cX12_typesOf 7 = .ok (.iconst 1, 1) := by decide +kernel
theorem dX12_typesOf_8 : decode cX12_typesOf 8 = .ok (.iand, 1) := by decide +kernel
theorem dX12_typesOf_9 : decode cX12_typesOf 9 = .ok (.ifCond .eq 10, 3) := by decide +kernel
theorem dX12_typesOf_12 : decode cX12_typesOf 12 = .ok (.aload_n 0, 1) := by decide +kernel
theorem dX12_typesOf_13 : decode cX12_typesOf 13 = .ok (.iload_n 2, 1) := by decide +kernel
theorem dX12_typesOf_14 : decode cX12_typesOf 14 = .ok (.bipush 19, 2) := by decide +kernel
theorem dX12_typesOf_16 : decode cX12_typesOf 16 = .ok (.invokevirtual 1078, 3) := by decide +kernel
theorem dX12_typesOf_19 : decode cX12_typesOf 19 = .ok (.iload_n 3, 1) := by decide +kernel
theorem dX12_typesOf_20 : decode cX12_typesOf 20 = .ok (.iconst 2, 1) := by decide +kernel
theorem dX12_typesOf_21 : decode cX12_typesOf 21 = .ok (.iand, 1) := by decide +kernel
theorem dX12_typesOf_22 : decode cX12_typesOf 22 = .ok (.ifCond .eq 10, 3) := by decide +kernel
theorem dX12_typesOf_25 : decode cX12_typesOf 25 = .ok (.aload_n 0, 1) := by decide +kernel
theorem dX12_typesOf_26 : decode cX12_typesOf 26 = .ok (.iload_n 2, 1) := by decide +kernel
theorem dX12_typesOf_27 : decode cX12_typesOf 27 = .ok (.bipush 20, 2) := by decide +kernel
theorem dX12_typesOf_29 : decode cX12_typesOf 29 = .ok (.invokevirtual 1078, 3) := by decide +kernel
theorem dX12_typesOf_32 : decode cX12_typesOf 32 = .ok (.iload_n 3, 1) := by decide +kernel
theorem dX12_typesOf_33 : decode cX12_typesOf 33 = .ok (.bipush 12, 2) := by decide +kernel
theorem dX12_typesOf_35 : decode cX12_typesOf 35 = .ok (.iand, 1) := by decide +kernel
theorem dX12_typesOf_36 : decode cX12_typesOf 36 = .ok (.ifCond .eq 10, 3) := by decide +kernel
theorem dX12_typesOf_39 : decode cX12_typesOf 39 = .ok (.aload_n 0, 1) := by decide +kernel
theorem dX12_typesOf_40 : decode cX12_typesOf 40 = .ok (.iload_n 2, 1) := by decide +kernel
theorem dX12_typesOf_41 : decode cX12_typesOf 41 = .ok (.bipush 21, 2) := by decide +kernel
theorem dX12_typesOf_43 : decode cX12_typesOf 43 = .ok (.invokevirtual 1078, 3) := by decide +kernel
theorem dX12_typesOf_46 : decode cX12_typesOf 46 = .ok (.iload_n 3, 1) := by decide +kernel
theorem dX12_typesOf_47 : decode cX12_typesOf 47 = .ok (.bipush 112, 2) := by decide +kernel
theorem dX12_typesOf_49 : decode cX12_typesOf 49 = .ok (.iand, 1) := by decide +kernel
theorem dX12_typesOf_50 : decode cX12_typesOf 50 = .ok (.ifCond .eq 10, 3) := by decide +kernel
theorem dX12_typesOf_53 : decode cX12_typesOf 53 = .ok (.aload_n 0, 1) := by decide +kernel
theorem dX12_typesOf_54 : decode cX12_typesOf 54 = .ok (.iload_n 2, 1) := by decide +kernel
theorem dX12_typesOf_55 : decode cX12_typesOf 55 = .ok (.bipush 22, 2) := by decide +kernel
theorem dX12_typesOf_57 : decode cX12_typesOf 57 = .ok (.invokevirtual 1078, 3) := by decide +kernel
theorem dX12_typesOf_60 : decode cX12_typesOf 60 = .ok (.iload_n 3, 1) := by decide +kernel
theorem dX12_typesOf_61 : decode cX12_typesOf 61 = .ok (.sipush 384, 3) := by decide +kernel
theorem dX12_typesOf_64 : decode cX12_typesOf 64 = .ok (.iand, 1) := by decide +kernel
theorem dX12_typesOf_65 : decode cX12_typesOf 65 = .ok (.ifCond .eq 10, 3) := by decide +kernel
theorem dX12_typesOf_68 : decode cX12_typesOf 68 = .ok (.aload_n 0, 1) := by decide +kernel
theorem dX12_typesOf_69 : decode cX12_typesOf 69 = .ok (.iload_n 2, 1) := by decide +kernel
theorem dX12_typesOf_70 : decode cX12_typesOf 70 = .ok (.bipush 23, 2) := by decide +kernel
theorem dX12_typesOf_72 : decode cX12_typesOf 72 = .ok (.invokevirtual 1078, 3) := by decide +kernel
theorem dX12_typesOf_75 : decode cX12_typesOf 75 = .ok (.iconst 0, 1) := by decide +kernel
theorem dX12_typesOf_76 : decode cX12_typesOf 76 = .ok (.istore 4, 2) := by decide +kernel
theorem dX12_typesOf_78 : decode cX12_typesOf 78 = .ok (.iload 4, 2) := by decide +kernel
theorem dX12_typesOf_80 : decode cX12_typesOf 80 = .ok (.aload_n 0, 1) := by decide +kernel
theorem dX12_typesOf_81 : decode cX12_typesOf 81 = .ok (.getfield 765, 3) := by decide +kernel
theorem dX12_typesOf_84 : decode cX12_typesOf 84 = .ok (.if_icmp .ge 50, 3) := by decide +kernel
theorem dX12_typesOf_87 : decode cX12_typesOf 87 = .ok (.aload_n 0, 1) := by decide +kernel
theorem dX12_typesOf_88 : decode cX12_typesOf 88 = .ok (.getfield 220, 3) := by decide +kernel
theorem dX12_typesOf_91 : decode cX12_typesOf 91 = .ok (.iload_n 1, 1) := by decide +kernel
theorem dX12_typesOf_92 : decode cX12_typesOf 92 = .ok (.laload, 1) := by decide +kernel
theorem dX12_typesOf_93 : decode cX12_typesOf 93 = .ok (.aload_n 0, 1) := by decide +kernel
theorem dX12_typesOf_94 : decode cX12_typesOf 94 = .ok (.getfield 223, 3) := by decide +kernel
theorem dX12_typesOf_97 : decode cX12_typesOf 97 = .ok (.iload_n 1, 1) := by decide +kernel
theorem dX12_typesOf_98 : decode cX12_typesOf 98 = .ok (.laload, 1) := by decide +kernel
theorem dX12_typesOf_99 : decode cX12_typesOf 99 = .ok (.iload 4, 2) := by decide +kernel
theorem dX12_typesOf_101 : decode cX12_typesOf 101 = .ok (.invokestatic 1125, 3) := by decide +kernel
theorem dX12_typesOf_104 : decode cX12_typesOf 104 = .ok (.ifCond .eq 24, 3) := by decide +kernel
theorem dX12_typesOf_107 : decode cX12_typesOf 107 = .ok (.aload_n 0, 1) := by decide +kernel
theorem dX12_typesOf_108 : decode cX12_typesOf 108 = .ok (.iload_n 2, 1) := by decide +kernel
theorem dX12_typesOf_109 : decode cX12_typesOf 109 = .ok (.aload_n 0, 1) := by decide +kernel
theorem dX12_typesOf_110 : decode cX12_typesOf 110 = .ok (.iload 4, 2) := by decide +kernel
theorem dX12_typesOf_112 : decode cX12_typesOf 112 = .ok (.invokevirtual 1115, 3) := by decide +kernel
theorem dX12_typesOf_115 : decode cX12_typesOf 115 = .ok (.ifCond .eq 8, 3) := by decide +kernel
theorem dX12_typesOf_118 : decode cX12_typesOf 118 = .ok (.bipush 24, 2) := by decide +kernel
theorem dX12_typesOf_120 : decode cX12_typesOf 120 = .ok (.goto 5, 3) := by decide +kernel
theorem dX12_typesOf_123 : decode cX12_typesOf 123 = .ok (.bipush 20, 2) := by decide +kernel
theorem dX12_typesOf_125 : decode cX12_typesOf 125 = .ok (.invokevirtual 1078, 3) := by decide +kernel
theorem dX12_typesOf_128 : decode cX12_typesOf 128 = .ok (.iinc 4 1, 3) := by decide +kernel
theorem dX12_typesOf_131 : decode cX12_typesOf 131 = .ok (.goto (-53), 3) := by decide +kernel
theorem dX12_typesOf_134 : decode cX12_typesOf 134 = .ok (.return_, 1) := by decide +kernel

def q_joinLabel (p1 : Int) (p2 : Int) (S : sv_S) : Option Value → sv_S → Prop := fun v S' => ∃ r : Int, v = some (sv_I r) ∧ sv_R r ∧ sm_ok S' ∧ sv_mod [81, 82, 83, 84, 85, 86] S S' ∧ ((15000 ≤ p2 → sm_pl (S' 81) (S' 82) (S' 83) (S' 84) (S' 85) (S' 86) = sm_pl (S 81) (S 82) (S 83) (S 84) (S 85) (S 86)) ∧ (r = 0 ∨ r = 1) ∧ (p2 < 15000 → sm_pl (S' 81) (S' 82) (S' 83) (S' 84) (S' 85) (S' 86) + r ≤ sm_pl (S 81) (S 82) (S 83) (S 84) (S 85) (S 86)))
theorem la_joinLabel_0 {x0 : Int} (h0 : 0 ≤ x0) (h1 : x0 < 15128) : 0 ≤ x0 ∧ x0 < 15128 := by omega
theorem la_joinLabel_1 {x0 : Int} (h0 : 0 ≤ x0) (h1 : ¬ x0 = 0) : 0 < x0 := by omega
theorem la_joinLabel_2 {x0 : Int} : x0 = x0 := by omega
theorem la_joinLabel_3 {x0 x1 : Int} (h0 : x0 ≤ 1) (h1 : x1 = 1) : x0 ≤ x1 := by omega
theorem la_joinLabel_4 {x0 : Int} (h0 : x0 = 0 ∨ x0 = 1) : 0 ≤ x0 := by omega
theorem la_joinLabel_5 {x0 : Int} (h0 : x0 = 0 ∨ x0 = 1) : x0 ≤ 1 := by omega
theorem la_joinLabel_6 {x0 x1 x2 x3 x4 x5 x6 : Int} (h0 : x0 = x1) (h1 : x1 = x2) (h2 : x2 = x3) (h3 : x3 = x4) (h4 : x4 = x5) (h5 : x5 = x6) : x0 = x6 := by omega
theorem la_joinLabel_7 {x0 x1 x2 x3 x4 x5 x6 x7 x8 x9 x10 x11 x12 x13 x14 x15 x16 x17 x18 x19 x20 x21 x22 x23 x24 x25 x26 x27 x28 x29 x30 x31 x32 x33 x34 x35 x36 x37 x38 x39 x40 x41 x42 x43 x44 x45 x46 x47 x48 x49 x50 x51 x52 x53 x54 x55 x56 x57 x58 x59 x60 x61 x62 x63 x64 x65 x66 : Int} (h0 : x0 = 0 ∨ x0 = 1) (h1 : x0 = 1 → x1 = 1 ∧ x2 = 0 ∨ x3 = 1 ∧ x4 = 0) (h2 : x5 = 0 ∨ x5 = 1) (h3 : x5 = 1 → x0 = 1 ∨ ¬ x6 = 0 ∨ ¬ x7 = 0) (h4 : x8 = 0 ∨ x8 = 1) (h5 : x8 = 1 → x5 = 1 ∨ ¬ x9 = 0 ∨ ¬ x10 = 0) (h6 : 0 < x2) (h7 : 0 < x4) (h8 : ¬ x6 = 0 → ¬ x11 = x12) (h9 : ¬ x7 = 0 → ¬ x13 = x14) (h10 : ¬ x9 = 0 → ¬ x15 = x16) (h11 : ¬ x10 = 0 → ¬ x17 = x18) (h12 : (x8 = 1 → x2 < x19 ∨ x4 < x20 ∨ ¬ x11 = x12 ∨ ¬ x13 = x14 ∨ ¬ x15 = x16 ∨ ¬ x17 = x18) → x21 + x8 ≤ x22) (h13 : x23 = x24 + x25 - x26) (h14 : x24 = x27 + x28 - x29) (h15 : x27 = x30 + x31 - x32) (h16 : x30 = x33 + x34 - x35) (h17 : x33 = x36 + x37 - x38) (h18 : x36 = x39 + x21 - x40) (h19 : x38 = x41) (h20 : x37 = x40) (h21 : x35 = x42) (h22 : x42 = x43) (h23 : x34 = x44) (h24 : x44 = x41) (h25 : x32 = x45) (h26 : x45 = x46) (h27 : x46 = x47) (h28 : x31 = x48) (h29 : x48 = x49) (h30 : x49 = x43) (h31 : x29 = x50) (h32 : x50 = x51) (h33 : x51 = x52) (h34 : x52 = x53) (h35 : x28 = x54) (h36 : x54 = x55) (h37 : x55 = x56) (h38 : x56 = x47) (h39 : x26 = x57) (h40 : x57 = x58) (h41 : x58 = x59) (h42 : x59 = x60) (h43 : x60 = x61) (h44 : x25 = x62) (h45 : x62 = x63) (h46 : x63 = x64) (h47 : x64 = x65) (h48 : x65 = x53) (h49 : x22 = x66) (h50 : x66 = x61) : x23 + x8 ≤ x39 := by omega
theorem la_joinLabel_8 {x0 x1 : Int} (h0 : ¬ ¬ x0 = 0) (h1 : x1 = 0) : x0 ≤ x1 := by omega
theorem la_joinLabel_9 {x0 x1 x2 x3 x4 x5 x6 x7 x8 x9 x10 x11 x12 x13 x14 x15 x16 x17 x18 x19 x20 x21 x22 x23 x24 x25 x26 x27 x28 x29 x30 x31 x32 x33 x34 x35 x36 x37 x38 x39 x40 x41 x42 x43 x44 x45 x46 x47 x48 x49 x50 x51 x52 x53 x54 x55 x56 x57 x58 x59 x60 x61 x62 x63 x64 x65 x66 : Int} (h0 : x0 = 1 → x1 = 1 ∧ x2 = 0 ∨ x3 = 1 ∧ x4 = 0) (h1 : x5 = 1 → x0 = 1 ∨ ¬ x6 = 0 ∨ ¬ x7 = 0) (h2 : x8 = 0 ∨ x8 = 1) (h3 : x8 = 1 → x5 = 1 ∨ ¬ x9 = 0 ∨ ¬ x10 = 0) (h4 : 0 < x2) (h5 : x3 = 0) (h6 : ¬ x6 = 0 → ¬ x11 = x12) (h7 : ¬ x7 = 0 → ¬ x13 = x14) (h8 : ¬ x9 = 0 → ¬ x15 = x16) (h9 : ¬ x10 = 0 → ¬ x17 = x18) (h10 : (x8 = 1 → x2 < x19 ∨ x4 < x20 ∨ ¬ x11 = x12 ∨ ¬ x13 = x14 ∨ ¬ x15 = x16 ∨ ¬ x17 = x18) → x21 + x8 ≤ x22) (h11 : x23 = x24 + x25 - x26) (h12 : x24 = x27 + x28 - x29) (h13 : x27 = x30 + x31 - x32) (h14 : x30 = x33 + x34 - x35) (h15 : x33 = x36 + x37 - x38) (h16 : x36 = x39 + x21 - x40) (h17 : x38 = x41) (h18 : x37 = x40) (h19 : x35 = x42) (h20 : x42 = x43) (h21 : x34 = x44) (h22 : x44 = x41) (h23 : x32 = x45) (h24 : x45 = x46) (h25 : x46 = x47) (h26 : x31 = x48) (h27 : x48 = x49) (h28 : x49 = x43) (h29 : x29 = x50) (h30 : x50 = x51) (h31 : x51 = x52) (h32 : x52 = x53) (h33 : x28 = x54) (h34 : x54 = x55) (h35 : x55 = x56) (h36 : x56 = x47) (h37 : x26 = x57) (h38 : x57 = x58) (h39 : x58 = x59) (h40 : x59 = x60) (h41 : x60 = x61) (h42 : x25 = x62) (h43 : x62 = x63) (h44 : x63 = x64) (h45 : x64 = x65) (h46 : x65 = x53) (h47 : x22 = x66) (h48 : x66 = x61) : x23 + x8 ≤ x39 := by omega
theorem la_joinLabel_10 {x0 x1 : Int} (h0 : ¬ ¬ x0 = 0) (h1 : x1 = 1) : x0 ≤ x1 := by omega
theorem la_joinLabel_11 {x0 x1 x2 x3 x4 x5 x6 x7 x8 x9 x10 x11 x12 : Int} (h0 : ¬ ¬ x0 = 0) (h1 : x1 = 1) : x2 = 1 → x3 < x4 ∨ x0 < x1 ∨ ¬ x5 = x6 ∨ ¬ x7 = x8 ∨ ¬ x9 = x10 ∨ ¬ x11 = x12 := by omega
theorem la_joinLabel_12 {x0 x1 x2 x3 x4 x5 x6 x7 x8 x9 x10 x11 x12 x13 x14 x15 x16 x17 x18 x19 x20 x21 x22 x23 x24 x25 x26 x27 x28 x29 x30 x31 x32 x33 x34 x35 x36 x37 x38 x39 x40 x41 x42 x43 x44 x45 x46 : Int} (h0 : x0 + x1 ≤ x2) (h1 : x3 = x4 + x5 - x6) (h2 : x4 = x7 + x8 - x9) (h3 : x7 = x10 + x11 - x12) (h4 : x10 = x13 + x14 - x15) (h5 : x13 = x16 + x17 - x18) (h6 : x16 = x19 + x0 - x20) (h7 : x18 = x21) (h8 : x17 = x20) (h9 : x15 = x22) (h10 : x22 = x23) (h11 : x14 = x24) (h12 : x24 = x21) (h13 : x12 = x25) (h14 : x25 = x26) (h15 : x26 = x27) (h16 : x11 = x28) (h17 : x28 = x29) (h18 : x29 = x23) (h19 : x9 = x30) (h20 : x30 = x31) (h21 : x31 = x32) (h22 : x32 = x33) (h23 : x8 = x34) (h24 : x34 = x35) (h25 : x35 = x36) (h26 : x36 = x27) (h27 : x6 = x37) (h28 : x37 = x38) (h29 : x38 = x39) (h30 : x39 = x40) (h31 : x40 = x41) (h32 : x5 = x42) (h33 : x42 = x43) (h34 : x43 = x44) (h35 : x44 = x45) (h36 : x45 = x33) (h37 : x2 = x46) (h38 : x46 = x41) : x3 + x1 ≤ x19 := by omega
theorem la_joinLabel_13 {x0 x1 x2 x3 x4 x5 x6 x7 x8 x9 x10 x11 x12 x13 x14 x15 x16 x17 x18 x19 x20 x21 x22 x23 x24 x25 x26 x27 x28 x29 x30 x31 x32 x33 x34 x35 x36 x37 x38 x39 x40 x41 x42 x43 x44 x45 x46 x47 x48 x49 x50 x51 x52 x53 x54 x55 x56 x57 x58 x59 x60 x61 x62 x63 x64 x65 x66 : Int} (h0 : x0 = 1 → x1 = 1 ∧ x2 = 0 ∨ x3 = 1 ∧ x4 = 0) (h1 : x5 = 1 → x0 = 1 ∨ ¬ x6 = 0 ∨ ¬ x7 = 0) (h2 : x8 = 0 ∨ x8 = 1) (h3 : x8 = 1 → x5 = 1 ∨ ¬ x9 = 0 ∨ ¬ x10 = 0) (h4 : x1 = 0) (h5 : 0 < x4) (h6 : ¬ x6 = 0 → ¬ x11 = x12) (h7 : ¬ x7 = 0 → ¬ x13 = x14) (h8 : ¬ x9 = 0 → ¬ x15 = x16) (h9 : ¬ x10 = 0 → ¬ x17 = x18) (h10 : (x8 = 1 → x2 < x19 ∨ x4 < x20 ∨ ¬ x11 = x12 ∨ ¬ x13 = x14 ∨ ¬ x15 = x16 ∨ ¬ x17 = x18) → x21 + x8 ≤ x22) (h11 : x23 = x24 + x25 - x26) (h12 : x24 = x27 + x28 - x29) (h13 : x27 = x30 + x31 - x32) (h14 : x30 = x33 + x34 - x35) (h15 : x33 = x36 + x37 - x38) (h16 : x36 = x39 + x21 - x40) (h17 : x38 = x41) (h18 : x37 = x40) (h19 : x35 = x42) (h20 : x42 = x43) (h21 : x34 = x44) (h22 : x44 = x41) (h23 : x32 = x45) (h24 : x45 = x46) (h25 : x46 = x47) (h26 : x31 = x48) (h27 : x48 = x49) (h28 : x49 = x43) (h29 : x29 = x50) (h30 : x50 = x51) (h31 : x51 = x52) (h32 : x52 = x53) (h33 : x28 = x54) (h34 : x54 = x55) (h35 : x55 = x56) (h36 : x56 = x47) (h37 : x26 = x57) (h38 : x57 = x58) (h39 : x58 = x59) (h40 : x59 = x60) (h41 : x60 = x61) (h42 : x25 = x62) (h43 : x62 = x63) (h44 : x63 = x64) (h45 : x64 = x65) (h46 : x65 = x53) (h47 : x22 = x66) (h48 : x66 = x61) : x23 + x8 ≤ x39 := by omega
theorem la_joinLabel_14 {x0 x1 x2 x3 x4 x5 x6 x7 x8 x9 x10 x11 x12 x13 x14 x15 x16 x17 x18 x19 x20 x21 x22 x23 x24 x25 x26 x27 x28 x29 x30 x31 x32 x33 x34 x35 x36 x37 x38 x39 x40 x41 x42 x43 x44 x45 x46 x47 x48 x49 x50 x51 x52 x53 x54 x55 x56 x57 x58 x59 x60 x61 x62 x63 x64 x65 x66 : Int} (h0 : x0 = 1 → x1 = 1 ∧ x2 = 0 ∨ x3 = 1 ∧ x4 = 0) (h1 : x5 = 0 ∨ x5 = 1) (h2 : x5 = 1 → x0 = 1 ∨ ¬ x6 = 0 ∨ ¬ x7 = 0) (h3 : x8 = 0 ∨ x8 = 1) (h4 : x8 = 1 → x5 = 1 ∨ ¬ x9 = 0 ∨ ¬ x10 = 0) (h5 : x1 = 0) (h6 : x3 = 0) (h7 : ¬ x6 = 0 → ¬ x11 = x12) (h8 : ¬ x7 = 0 → ¬ x13 = x14) (h9 : ¬ x9 = 0 → ¬ x15 = x16) (h10 : ¬ x10 = 0 → ¬ x17 = x18) (h11 : (x8 = 1 → x2 < x19 ∨ x4 < x20 ∨ ¬ x11 = x12 ∨ ¬ x13 = x14 ∨ ¬ x15 = x16 ∨ ¬ x17 = x18) → x21 + x8 ≤ x22) (h12 : x23 = x24 + x25 - x26) (h13 : x24 = x27 + x28 - x29) (h14 : x27 = x30 + x31 - x32) (h15 : x30 = x33 + x34 - x35) (h16 : x33 = x36 + x37 - x38) (h17 : x36 = x39 + x21 - x40) (h18 : x38 = x41) (h19 : x37 = x40) (h20 : x35 = x42) (h21 : x42 = x43) (h22 : x34 = x44) (h23 : x44 = x41) (h24 : x32 = x45) (h25 : x45 = x46) (h26 : x46 = x47) (h27 : x31 = x48) (h28 : x48 = x49) (h29 : x49 = x43) (h30 : x29 = x50) (h31 : x50 = x51) (h32 : x51 = x52) (h33 : x52 = x53) (h34 : x28 = x54) (h35 : x54 = x55) (h36 : x55 = x56) (h37 : x56 = x47) (h38 : x26 = x57) (h39 : x57 = x58) (h40 : x58 = x59) (h41 : x59 = x60) (h42 : x60 = x61) (h43 : x25 = x62) (h44 : x62 = x63) (h45 : x63 = x64) (h46 : x64 = x65) (h47 : x65 = x53) (h48 : x22 = x66) (h49 : x66 = x61) : x23 + x8 ≤ x39 := by omega
theorem la_joinLabel_15 {x0 x1 x2 x3 x4 x5 x6 x7 x8 x9 x10 x11 x12 : Int} (h0 : ¬ ¬ x0 = 0) (h1 : x1 = 1) : x2 = 1 → x0 < x1 ∨ x3 < x4 ∨ ¬ x5 = x6 ∨ ¬ x7 = x8 ∨ ¬ x9 = x10 ∨ ¬ x11 = x12 := by omega
theorem la_joinLabel_16 {x0 x1 x2 : Int} (h0 : x0 = 0 ∨ x0 = 1) : ¬ x0 = 0 → ((1 : Int) = 0 ∨ (1 : Int) = 1) ∧ ((1 : Int) = 1 → x0 = 1 ∨ ¬ x1 = 0 ∨ ¬ x2 = 0) := by omega
theorem la_joinLabel_17 {x0 : Int} (h0 : ¬ ¬ x0 = 0) : ¬ x0 = 1 := by omega
theorem la_joinLabel_18 {x0 x1 x2 : Int} (h0 : ¬ ¬ x0 = 0) : ¬ x1 = 0 → ((1 : Int) = 0 ∨ (1 : Int) = 1) ∧ ((1 : Int) = 1 → x0 = 1 ∨ ¬ x1 = 0 ∨ ¬ x2 = 0) := by omega
theorem la_joinLabel_19 {x0 x1 x2 : Int} : x0 = 0 → ((0 : Int) = 0 ∨ (0 : Int) = 1) ∧ ((0 : Int) = 1 → x1 = 1 ∨ ¬ x2 = 0 ∨ ¬ x0 = 0) := by omega
theorem la_joinLabel_20 : (1 : Int) = 0 ∨ (1 : Int) = 1 := by omega
theorem la_joinLabel_21 {x0 x1 x2 : Int} (h0 : ¬ ¬ x0 = 0) (h1 : ¬ x1 = 0) : x0 = 1 ∨ ¬ x2 = 0 ∨ ¬ x1 = 0 := by omega
theorem la_joinLabel_22 {x0 x1 x2 x3 : Int} : x0 = 0 → ((0 : Int) = 0 ∨ (0 : Int) = 1) ∧ ((0 : Int) = 1 → x1 = 1 ∧ x2 = 0 ∨ x0 = 1 ∧ x3 = 0) := by omega
theorem la_joinLabel_23 {x0 x1 x2 x3 : Int} : ¬ x0 = 0 → ((0 : Int) = 0 ∨ (0 : Int) = 1) ∧ ((0 : Int) = 1 → x1 = 1 ∧ x2 = 0 ∨ x3 = 1 ∧ x0 = 0) := by omega
theorem la_joinLabel_24 {x0 x1 x2 x3 : Int} (h0 : x0 = 0) (h1 : x1 ≤ 1) (h2 : 0 < x1) (h3 : 0 ≤ x2) (h4 : ¬ ¬ x2 = 0) : x0 = 1 ∧ x3 = 0 ∨ x1 = 1 ∧ x2 = 0 := by omega
theorem la_joinLabel_25 {x0 x1 x2 x3 : Int} (h0 : x0 ≤ 1) (h1 : 0 < x0) (h2 : 0 ≤ x1) : x1 = 0 → ((1 : Int) = 0 ∨ (1 : Int) = 1) ∧ ((1 : Int) = 1 → x0 = 1 ∧ x1 = 0 ∨ x2 = 1 ∧ x3 = 0) := by omega
theorem la_joinLabel_26 {x0 x1 x2 x3 : Int} (h0 : x0 ≤ 1) (h1 : 0 < x0) (h2 : 0 < x1) (h3 : x2 ≤ 1) (h4 : 0 < x2) (h5 : 0 ≤ x3) (h6 : ¬ ¬ x3 = 0) : x0 = 1 ∧ x1 = 0 ∨ x2 = 1 ∧ x3 = 0 := by omega
set_option maxHeartbeats 2000000 in
theorem f_joinLabel : ∀ (p1 : Int) (p2 : Int) (S : sv_S), sm_ok S → sv_R p1 → sv_R p2 → (0 ≤ p1 ∧ p1 < 15128 ∧ 0 ≤ p2 ∧ p2 < 15128) → ((∀ s1 : Int, sv_R s1 → ((s1 = 0 ∨ s1 = 1) ∧ (s1 = 1 → ((S 81 p1) = 1 ∧ (S 81 p2) = 0) ∨ ((S 82 p1) = 1 ∧ (S 82 p2) = 0))) → ((∀ s3 : Int, sv_R s3 → ((s3 = 0 ∨ s3 = 1) ∧ (s3 = 1 → s1 = 1 ∨ ¬ sm_land (S 83 p1) (sm_lxor (S 83 p2) (-1)) = 0 ∨ ¬ sm_land (S 84 p1) (sm_lxor (S 84 p2) (-1)) = 0)) → ((∀ s5 : Int, sv_R s5 → ((s5 = 0 ∨ s5 = 1) ∧ (s5 = 1 → s3 = 1 ∨ ¬ sm_land (S 85 p1) (sm_lxor (S 85 p2) (-1)) = 0 ∨ ¬ sm_land (S 86 p1) (sm_lxor (S 86 p2) (-1)) = 0)) → (0 ≤ p2 ∧ p2 < 15128) ∧ ((0 ≤ (S 81 p2) ∧ (S 81 p2) ≤ 1) → (((¬ (S 81 p2) = (0 : Int)) → ((0 ≤ (S 82 p2) ∧ (S 82 p2) ≤ 1) → (((¬ (S 82 p2) = (0 : Int)) → (sv_RL (S 83 p2) → (0 ≤ p1 ∧ p1 < 15128) ∧ (sv_RL (S 83 p1) → (sv_RL (sm_lor (S 83 p2) (S 83 p1)) → (sv_RL (S 84 p2) → (sv_RL (S 84 p1) → (sv_RL (sm_lor (S 84 p2) (S 84 p1)) → (sv_RL (S 85 p2) → (sv_RL (S 85 p1) → (sv_RL (sm_lor (S 85 p2) (S 85 p1)) → (sv_RL (S 86 p2) → (sv_RL (S 86 p1) → (sv_RL (sm_lor (S 86 p2) (S 86 p1)) → ((sv_RL (S 83 p2) → ¬ sm_land (S 83 p1) (sm_lxor (S 83 p2) (-1)) = 0 → ¬ sm_lor (S 83 p2) (S 83 p1) = (S 83 p2)) → ((sv_RL (S 84 p2) → ¬ sm_land (S 84 p1) (sm_lxor (S 84 p2) (-1)) = 0 → ¬ sm_lor (S 84 p2) (S 84 p1) = (S 84 p2)) → ((sv_RL (S 85 p2) → ¬ sm_land (S 85 p1) (sm_lxor (S 85 p2) (-1)) = 0 → ¬ sm_lor (S 85 p2) (S 85 p1) = (S 85 p2)) → ((sv_RL (S 86 p2) → ¬ sm_land (S 86 p1) (sm_lxor (S 86 p2) (-1)) = 0 → ¬ sm_lor (S 86 p2) (S 86 p1) = (S 86 p2)) → (((S 81 p2) ≤ (if p2 = p2 then (1 : Int) else (S 81 p2)) → (S 82 p2) ≤ (if p2 = p2 then (1 : Int) else (S 82 p2)) → sv_RL (S 83 p2) → sv_RL (S 84 p2) → sv_RL (S 85 p2) → sv_RL (S 86 p2) → (s5 = 0 ∨ s5 = 1) → (s5 = 1 → (S 81 p2) < (if p2 = p2 then (1 : Int) else (S 81 p2)) ∨ (S 82 p2) < (if p2 = p2 then (1 : Int) else (S 82 p2)) ∨ ¬ sm_lor (S 83 p2) (S 83 p1) = (S 83 p2) ∨ ¬ sm_lor (S 84 p2) (S 84 p1) = (S 84 p2) ∨ ¬ sm_lor (S 85 p2) (S 85 p1) = (S 85 p2) ∨ ¬ sm_lor (S 86 p2) (S 86 p1) = (S 86 p2)) → sm_rl (S 81 p2) (S 82 p2) (S 83 p2) (S 84 p2) (S 85 p2) (S 86 p2) + s5 ≤ sm_rl (if p2 = p2 then (1 : Int) else (S 81 p2)) (if p2 = p2 then (1 : Int) else (S 82 p2)) (sm_lor (S 83 p2) (S 83 p1)) (sm_lor (S 84 p2) (S 84 p1)) (sm_lor (S 85 p2) (S 85 p1)) (sm_lor (S 86 p2) (S 86 p1))) → (0 ≤ s5 ∧ s5 ≤ 1) ∧ ((15000 ≤ p2 → sm_pl (fun i' : Int => if i' = p2 then (1 : Int) else (S 81) i') (fun i' : Int => if i' = p2 then (1 : Int) else (S 82) i') (fun i' : Int => if i' = p2 then (sm_lor (S 83 p2) (S 83 p1)) else (S 83) i') (fun i' : Int => if i' = p2 then (sm_lor (S 84 p2) (S 84 p1)) else (S 84) i') (fun i' : Int => if i' = p2 then (sm_lor (S 85 p2) (S 85 p1)) else (S 85) i') (fun i' : Int => if i' = p2 then (sm_lor (S 86 p2) (S 86 p1)) else (S 86) i') = sm_pl (S 81) (S 82) (S 83) (S 84) (S 85) (S 86)) ∧ (s5 = 0 ∨ s5 = 1) ∧ (p2 < 15000 → sm_pl (fun i' : Int => if i' = p2 then (1 : Int) else (S 81) i') (fun i' : Int => if i' = p2 then (1 : Int) else (S 82) i') (fun i' : Int => if i' = p2 then (sm_lor (S 83 p2) (S 83 p1)) else (S 83) i') (fun i' : Int => if i' = p2 then (sm_lor (S 84 p2) (S 84 p1)) else (S 84) i') (fun i' : Int => if i' = p2 then (sm_lor (S 85 p2) (S 85 p1)) else (S 85) i') (fun i' : Int => if i' = p2 then (sm_lor (S 86 p2) (S 86 p1)) else (S 86) i') + s5 ≤ sm_pl (S 81) (S 82) (S 83) (S 84) (S 85) (S 86))))))))))))))))))))) ∧ ((¬ (¬ (S 82 p2) = (0 : Int))) → (0 ≤ p1 ∧ p1 < 15128) ∧ ((0 ≤ (S 82 p1) ∧ (S 82 p1) ≤ 1) → ((((S 82 p1) = (0 : Int)) → (sv_RL (S 83 p2) → (sv_RL (S 83 p1) → (sv_RL (sm_lor (S 83 p2) (S 83 p1)) → (sv_RL (S 84 p2) → (sv_RL (S 84 p1) → (sv_RL (sm_lor (S 84 p2) (S 84 p1)) → (sv_RL (S 85 p2) → (sv_RL (S 85 p1) → (sv_RL (sm_lor (S 85 p2) (S 85 p1)) → (sv_RL (S 86 p2) → (sv_RL (S 86 p1) → (sv_RL (sm_lor (S 86 p2) (S 86 p1)) → ((sv_RL (S 83 p2) → ¬ sm_land (S 83 p1) (sm_lxor (S 83 p2) (-1)) = 0 → ¬ sm_lor (S 83 p2) (S 83 p1) = (S 83 p2)) → ((sv_RL (S 84 p2) → ¬ sm_land (S 84 p1) (sm_lxor (S 84 p2) (-1)) = 0 → ¬ sm_lor (S 84 p2) (S 84 p1) = (S 84 p2)) → ((sv_RL (S 85 p2) → ¬ sm_land (S 85 p1) (sm_lxor (S 85 p2) (-1)) = 0 → ¬ sm_lor (S 85 p2) (S 85 p1) = (S 85 p2)) → ((sv_RL (S 86 p2) → ¬ sm_land (S 86 p1) (sm_lxor (S 86 p2) (-1)) = 0 → ¬ sm_lor (S 86 p2) (S 86 p1) = (S 86 p2)) → (((S 81 p2) ≤ (if p2 = p2 then (1 : Int) else (S 81 p2)) → (S 82 p2) ≤ (if p2 = p2 then (0 : Int) else (S 82 p2)) → sv_RL (S 83 p2) → sv_RL (S 84 p2) → sv_RL (S 85 p2) → sv_RL (S 86 p2) → (s5 = 0 ∨ s5 = 1) → (s5 = 1 → (S 81 p2) < (if p2 = p2 then (1 : Int) else (S 81 p2)) ∨ (S 82 p2) < (if p2 = p2 then (0 : Int) else (S 82 p2)) ∨ ¬ sm_lor (S 83 p2) (S 83 p1) = (S 83 p2) ∨ ¬ sm_lor (S 84 p2) (S 84 p1) = (S 84 p2) ∨ ¬ sm_lor (S 85 p2) (S 85 p1) = (S 85 p2) ∨ ¬ sm_lor (S 86 p2) (S 86 p1) = (S 86 p2)) → sm_rl (S 81 p2) (S 82 p2) (S 83 p2) (S 84 p2) (S 85 p2) (S 86 p2) + s5 ≤ sm_rl (if p2 = p2 then (1 : Int) else (S 81 p2)) (if p2 = p2 then (0 : Int) else (S 82 p2)) (sm_lor (S 83 p2) (S 83 p1)) (sm_lor (S 84 p2) (S 84 p1)) (sm_lor (S 85 p2) (S 85 p1)) (sm_lor (S 86 p2) (S 86 p1))) → (0 ≤ s5 ∧ s5 ≤ 1) ∧ ((15000 ≤ p2 → sm_pl (fun i' : Int => if i' = p2 then (1 : Int) else (S 81) i') (fun i' : Int => if i' = p2 then (0 : Int) else (S 82) i') (fun i' : Int => if i' = p2 then (sm_lor (S 83 p2) (S 83 p1)) else (S 83) i') (fun i' : Int => if i' = p2 then (sm_lor (S 84 p2) (S 84 p1)) else (S 84) i') (fun i' : Int => if i' = p2 then (sm_lor (S 85 p2) (S 85 p1)) else (S 85) i') (fun i' : Int => if i' = p2 then (sm_lor (S 86 p2) (S 86 p1)) else (S 86) i') = sm_pl (S 81) (S 82) (S 83) (S 84) (S 85) (S 86)) ∧ (s5 = 0 ∨ s5 = 1) ∧ (p2 < 15000 → sm_pl (fun i' : Int => if i' = p2 then (1 : Int) else (S 81) i') (fun i' : Int => if i' = p2 then (0 : Int) else (S 82) i') (fun i' : Int => if i' = p2 then (sm_lor (S 83 p2) (S 83 p1)) else (S 83) i') (fun i' : Int => if i' = p2 then (sm_lor (S 84 p2) (S 84 p1)) else (S 84) i') (fun i' : Int => if i' = p2 then (sm_lor (S 85 p2) (S 85 p1)) else (S 85) i') (fun i' : Int => if i' = p2 then (sm_lor (S 86 p2) (S 86 p1)) else (S 86) i') + s5 ≤ sm_pl (S 81) (S 82) (S 83) (S 84) (S 85) (S 86))))))))))))))))))))) ∧ ((¬ ((S 82 p1) = (0 : Int))) → (sv_RL (S 83 p2) → (sv_RL (S 83 p1) → (sv_RL (sm_lor (S 83 p2) (S 83 p1)) → (sv_RL (S 84 p2) → (sv_RL (S 84 p1) → (sv_RL (sm_lor (S 84 p2) (S 84 p1)) → (sv_RL (S 85 p2) → (sv_RL (S 85 p1) → (sv_RL (sm_lor (S 85 p2) (S 85 p1)) → (sv_RL (S 86 p2) → (sv_RL (S 86 p1) → (sv_RL (sm_lor (S 86 p2) (S 86 p1)) → ((sv_RL (S 83 p2) → ¬ sm_land (S 83 p1) (sm_lxor (S 83 p2) (-1)) = 0 → ¬ sm_lor (S 83 p2) (S 83 p1) = (S 83 p2)) → ((sv_RL (S 84 p2) → ¬ sm_land (S 84 p1) (sm_lxor (S 84 p2) (-1)) = 0 → ¬ sm_lor (S 84 p2) (S 84 p1) = (S 84 p2)) → ((sv_RL (S 85 p2) → ¬ sm_land (S 85 p1) (sm_lxor (S 85 p2) (-1)) = 0 → ¬ sm_lor (S 85 p2) (S 85 p1) = (S 85 p2)) → ((sv_RL (S 86 p2) → ¬ sm_land (S 86 p1) (sm_lxor (S 86 p2) (-1)) = 0 → ¬ sm_lor (S 86 p2) (S 86 p1) = (S 86 p2)) → (((S 81 p2) ≤ (if p2 = p2 then (1 : Int) else (S 81 p2)) → (S 82 p2) ≤ (if p2 = p2 then (1 : Int) else (S 82 p2)) → sv_RL (S 83 p2) → sv_RL (S 84 p2) → sv_RL (S 85 p2) → sv_RL (S 86 p2) → (s5 = 0 ∨ s5 = 1) → (s5 = 1 → (S 81 p2) < (if p2 = p2 then (1 : Int) else (S 81 p2)) ∨ (S 82 p2) < (if p2 = p2 then (1 : Int) else (S 82 p2)) ∨ ¬ sm_lor (S 83 p2) (S 83 p1) = (S 83 p2) ∨ ¬ sm_lor (S 84 p2) (S 84 p1) = (S 84 p2) ∨ ¬ sm_lor (S 85 p2) (S 85 p1) = (S 85 p2) ∨ ¬ sm_lor (S 86 p2) (S 86 p1) = (S 86 p2)) → sm_rl (S 81 p2) (S 82 p2) (S 83 p2) (S 84 p2) (S 85 p2) (S 86 p2) + s5 ≤ sm_rl (if p2 = p2 then (1 : Int) else (S 81 p2)) (if p2 = p2 then (1 : Int) else (S 82 p2)) (sm_lor (S 83 p2) (S 83 p1)) (sm_lor (S 84 p2) (S 84 p1)) (sm_lor (S 85 p2) (S 85 p1)) (sm_lor (S 86 p2) (S 86 p1))) → (0 ≤ s5 ∧ s5 ≤ 1) ∧ ((15000 ≤ p2 → sm_pl (fun i' : Int => if i' = p2 then (1 : Int) else (S 81) i') (fun i' : Int => if i' = p2 then (1 : Int) else (S 82) i') (fun i' : Int => if i' = p2 then (sm_lor (S 83 p2) (S 83 p1)) else (S 83) i') (fun i' : Int => if i' = p2 then (sm_lor (S 84 p2) (S 84 p1)) else (S 84) i') (fun i' : Int => if i' = p2 then (sm_lor (S 85 p2) (S 85 p1)) else (S 85) i') (fun i' : Int => if i' = p2 then (sm_lor (S 86 p2) (S 86 p1)) else (S 86) i') = sm_pl (S 81) (S 82) (S 83) (S 84) (S 85) (S 86)) ∧ (s5 = 0 ∨ s5 = 1) ∧ (p2 < 15000 → sm_pl (fun i' : Int => if i' = p2 then (1 : Int) else (S 81) i') (fun i' : Int => if i' = p2 then (1 : Int) else (S 82) i') (fun i' : Int => if i' = p2 then (sm_lor (S 83 p2) (S 83 p1)) else (S 83) i') (fun i' : Int => if i' = p2 then (sm_lor (S 84 p2) (S 84 p1)) else (S 84) i') (fun i' : Int => if i' = p2 then (sm_lor (S 85 p2) (S 85 p1)) else (S 85) i') (fun i' : Int => if i' = p2 then (sm_lor (S 86 p2) (S 86 p1)) else (S 86) i') + s5 ≤ sm_pl (S 81) (S 82) (S 83) (S 84) (S 85) (S 86))))))))))))))))))))))))))) ∧ ((¬ (¬ (S 81 p2) = (0 : Int))) → (0 ≤ p1 ∧ p1 < 15128) ∧ ((0 ≤ (S 81 p1) ∧ (S 81 p1) ≤ 1) → ((((S 81 p1) = (0 : Int)) → ((0 ≤ (S 82 p2) ∧ (S 82 p2) ≤ 1) → (((¬ (S 82 p2) = (0 : Int)) → (sv_RL (S 83 p2) → (sv_RL (S 83 p1) → (sv_RL (sm_lor (S 83 p2) (S 83 p1)) → (sv_RL (S 84 p2) → (sv_RL (S 84 p1) → (sv_RL (sm_lor (S 84 p2) (S 84 p1)) → (sv_RL (S 85 p2) → (sv_RL (S 85 p1) → (sv_RL (sm_lor (S 85 p2) (S 85 p1)) → (sv_RL (S 86 p2) → (sv_RL (S 86 p1) → (sv_RL (sm_lor (S 86 p2) (S 86 p1)) → ((sv_RL (S 83 p2) → ¬ sm_land (S 83 p1) (sm_lxor (S 83 p2) (-1)) = 0 → ¬ sm_lor (S 83 p2) (S 83 p1) = (S 83 p2)) → ((sv_RL (S 84 p2) → ¬ sm_land (S 84 p1) (sm_lxor (S 84 p2) (-1)) = 0 → ¬ sm_lor (S 84 p2) (S 84 p1) = (S 84 p2)) → ((sv_RL (S 85 p2) → ¬ sm_land (S 85 p1) (sm_lxor (S 85 p2) (-1)) = 0 → ¬ sm_lor (S 85 p2) (S 85 p1) = (S 85 p2)) → ((sv_RL (S 86 p2) → ¬ sm_land (S 86 p1) (sm_lxor (S 86 p2) (-1)) = 0 → ¬ sm_lor (S 86 p2) (S 86 p1) = (S 86 p2)) → (((S 81 p2) ≤ (if p2 = p2 then (0 : Int) else (S 81 p2)) → (S 82 p2) ≤ (if p2 = p2 then (1 : Int) else (S 82 p2)) → sv_RL (S 83 p2) → sv_RL (S 84 p2) → sv_RL (S 85 p2) → sv_RL (S 86 p2) → (s5 = 0 ∨ s5 = 1) → (s5 = 1 → (S 81 p2) < (if p2 = p2 then (0 : Int) else (S 81 p2)) ∨ (S 82 p2) < (if p2 = p2 then (1 : Int) else (S 82 p2)) ∨ ¬ sm_lor (S 83 p2) (S 83 p1) = (S 83 p2) ∨ ¬ sm_lor (S 84 p2) (S 84 p1) = (S 84 p2) ∨ ¬ sm_lor (S 85 p2) (S 85 p1) = (S 85 p2) ∨ ¬ sm_lor (S 86 p2) (S 86 p1) = (S 86 p2)) → sm_rl (S 81 p2) (S 82 p2) (S 83 p2) (S 84 p2) (S 85 p2) (S 86 p2) + s5 ≤ sm_rl (if p2 = p2 then (0 : Int) else (S 81 p2)) (if p2 = p2 then (1 : Int) else (S 82 p2)) (sm_lor (S 83 p2) (S 83 p1)) (sm_lor (S 84 p2) (S 84 p1)) (sm_lor (S 85 p2) (S 85 p1)) (sm_lor (S 86 p2) (S 86 p1))) → (0 ≤ s5 ∧ s5 ≤ 1) ∧ ((15000 ≤ p2 → sm_pl (fun i' : Int => if i' = p2 then (0 : Int) else (S 81) i') (fun i' : Int => if i' = p2 then (1 : Int) else (S 82) i') (fun i' : Int => if i' = p2 then (sm_lor (S 83 p2) (S 83 p1)) else (S 83) i') (fun i' : Int => if i' = p2 then (sm_lor (S 84 p2) (S 84 p1)) else (S 84) i') (fun i' : Int => if i' = p2 then (sm_lor (S 85 p2) (S 85 p1)) else (S 85) i') (fun i' : Int => if i' = p2 then (sm_lor (S 86 p2) (S 86 p1)) else (S 86) i') = sm_pl (S 81) (S 82) (S 83) (S 84) (S 85) (S 86)) ∧ (s5 = 0 ∨ s5 = 1) ∧ (p2 < 15000 → sm_pl (fun i' : Int => if i' = p2 then (0 : Int) else (S 81) i') (fun i' : Int => if i' = p2 then (1 : Int) else (S 82) i') (fun i' : Int => if i' = p2 then (sm_lor (S 83 p2) (S 83 p1)) else (S 83) i') (fun i' : Int => if i' = p2 then (sm_lor (S 84 p2) (S 84 p1)) else (S 84) i') (fun i' : Int => if i' = p2 then (sm_lor (S 85 p2) (S 85 p1)) else (S 85) i') (fun i' : Int => if i' = p2 then (sm_lor (S 86 p2) (S 86 p1)) else (S 86) i') + s5 ≤ sm_pl (S 81) (S 82) (S 83) (S 84) (S 85) (S 86))))))))))))))))))))) ∧ ((¬ (¬ (S 82 p2) = (0 : Int))) → ((0 ≤ (S 82 p1) ∧ (S 82 p1) ≤ 1) → ((((S 82 p1) = (0 : Int)) → (sv_RL (S 83 p2) → (sv_RL (S 83 p1) → (sv_RL (sm_lor (S 83 p2) (S 83 p1)) → (sv_RL (S 84 p2) → (sv_RL (S 84 p1) → (sv_RL (sm_lor (S 84 p2) (S 84 p1)) → (sv_RL (S 85 p2) → (sv_RL (S 85 p1) → (sv_RL (sm_lor (S 85 p2) (S 85 p1)) → (sv_RL (S 86 p2) → (sv_RL (S 86 p1) → (sv_RL (sm_lor (S 86 p2) (S 86 p1)) → ((sv_RL (S 83 p2) → ¬ sm_land (S 83 p1) (sm_lxor (S 83 p2) (-1)) = 0 → ¬ sm_lor (S 83 p2) (S 83 p1) = (S 83 p2)) → ((sv_RL (S 84 p2) → ¬ sm_land (S 84 p1) (sm_lxor (S 84 p2) (-1)) = 0 → ¬ sm_lor (S 84 p2) (S 84 p1) = (S 84 p2)) → ((sv_RL (S 85 p2) → ¬ sm_land (S 85 p1) (sm_lxor (S 85 p2) (-1)) = 0 → ¬ sm_lor (S 85 p2) (S 85 p1) = (S 85 p2)) → ((sv_RL (S 86 p2) → ¬ sm_land (S 86 p1) (sm_lxor (S 86 p2) (-1)) = 0 → ¬ sm_lor (S 86 p2) (S 86 p1) = (S 86 p2)) → (((S 81 p2) ≤ (if p2 = p2 then (0 : Int) else (S 81 p2)) → (S 82 p2) ≤ (if p2 = p2 then (0 : Int) else (S 82 p2)) → sv_RL (S 83 p2) → sv_RL (S 84 p2) → sv_RL (S 85 p2) → sv_RL (S 86 p2) → (s5 = 0 ∨ s5 = 1) → (s5 = 1 → (S 81 p2) < (if p2 = p2 then (0 : Int) else (S 81 p2)) ∨ (S 82 p2) < (if p2 = p2 then (0 : Int) else (S 82 p2)) ∨ ¬ sm_lor (S 83 p2) (S 83 p1) = (S 83 p2) ∨ ¬ sm_lor (S 84 p2) (S 84 p1) = (S 84 p2) ∨ ¬ sm_lor (S 85 p2) (S 85 p1) = (S 85 p2) ∨ ¬ sm_lor (S 86 p2) (S 86 p1) = (S 86 p2)) → sm_rl (S 81 p2) (S 82 p2) (S 83 p2) (S 84 p2) (S 85 p2) (S 86 p2) + s5 ≤ sm_rl (if p2 = p2 then (0 : Int) else (S 81 p2)) (if p2 = p2 then (0 : Int) else (S 82 p2)) (sm_lor (S 83 p2) (S 83 p1)) (sm_lor (S 84 p2) (S 84 p1)) (sm_lor (S 85 p2) (S 85 p1)) (sm_lor (S 86 p2) (S 86 p1))) → (0 ≤ s5 ∧ s5 ≤ 1) ∧ ((15000 ≤ p2 → sm_pl (fun i' : Int => if i' = p2 then (0 : Int) else (S 81) i') (fun i' : Int => if i' = p2 then (0 : Int) else (S 82) i') (fun i' : Int => if i' = p2 then (sm_lor (S 83 p2) (S 83 p1)) else (S 83) i') (fun i' : Int => if i' = p2 then (sm_lor (S 84 p2) (S 84 p1)) else (S 84) i') (fun i' : Int => if i' = p2 then (sm_lor (S 85 p2) (S 85 p1)) else (S 85) i') (fun i' : Int => if i' = p2 then (sm_lor (S 86 p2) (S 86 p1)) else (S 86) i') = sm_pl (S 81) (S 82) (S 83) (S 84) (S 85) (S 86)) ∧ (s5 = 0 ∨ s5 = 1) ∧ (p2 < 15000 → sm_pl (fun i' : Int => if i' = p2 then (0 : Int) else (S 81) i') (fun i' : Int => if i' = p2 then (0 : Int) else (S 82) i') (fun i' : Int => if i' = p2 then (sm_lor (S 83 p2) (S 83 p1)) else (S 83) i') (fun i' : Int => if i' = p2 then (sm_lor (S 84 p2) (S 84 p1)) else (S 84) i') (fun i' : Int => if i' = p2 then (sm_lor (S 85 p2) (S 85 p1)) else (S 85) i') (fun i' : Int => if i' = p2 then (sm_lor (S 86 p2) (S 86 p1)) else (S 86) i') + s5 ≤ sm_pl (S 81) (S 82) (S 83) (S 84) (S 85) (S 86))))))))))))))))))))) ∧ ((¬ ((S 82 p1) = (0 : Int))) → (sv_RL (S 83 p2) → (sv_RL (S 83 p1) → (sv_RL (sm_lor (S 83 p2) (S 83 p1)) → (sv_RL (S 84 p2) → (sv_RL (S 84 p1) → (sv_RL (sm_lor (S 84 p2) (S 84 p1)) → (sv_RL (S 85 p2) → (sv_RL (S 85 p1) → (sv_RL (sm_lor (S 85 p2) (S 85 p1)) → (sv_RL (S 86 p2) → (sv_RL (S 86 p1) → (sv_RL (sm_lor (S 86 p2) (S 86 p1)) → ((sv_RL (S 83 p2) → ¬ sm_land (S 83 p1) (sm_lxor (S 83 p2) (-1)) = 0 → ¬ sm_lor (S 83 p2) (S 83 p1) = (S 83 p2)) → ((sv_RL (S 84 p2) → ¬ sm_land (S 84 p1) (sm_lxor (S 84 p2) (-1)) = 0 → ¬ sm_lor (S 84 p2) (S 84 p1) = (S 84 p2)) → ((sv_RL (S 85 p2) → ¬ sm_land (S 85 p1) (sm_lxor (S 85 p2) (-1)) = 0 → ¬ sm_lor (S 85 p2) (S 85 p1) = (S 85 p2)) → ((sv_RL (S 86 p2) → ¬ sm_land (S 86 p1) (sm_lxor (S 86 p2) (-1)) = 0 → ¬ sm_lor (S 86 p2) (S 86 p1) = (S 86 p2)) → (((S 81 p2) ≤ (if p2 = p2 then (0 : Int) else (S 81 p2)) → (S 82 p2) ≤ (if p2 = p2 then (1 : Int) else (S 82 p2)) → sv_RL (S 83 p2) → sv_RL (S 84 p2) → sv_RL (S 85 p2) → sv_RL (S 86 p2) → (s5 = 0 ∨ s5 = 1) → (s5 = 1 → (S 81 p2) < (if p2 = p2 then (0 : Int) else (S 81 p2)) ∨ (S 82 p2) < (if p2 = p2 then (1 : Int) else (S 82 p2)) ∨ ¬ sm_lor (S 83 p2) (S 83 p1) = (S 83 p2) ∨ ¬ sm_lor (S 84 p2) (S 84 p1) = (S 84 p2) ∨ ¬ sm_lor (S 85 p2) (S 85 p1) = (S 85 p2) ∨ ¬ sm_lor (S 86 p2) (S 86 p1) = (S 86 p2)) → sm_rl (S 81 p2) (S 82 p2) (S 83 p2) (S 84 p2) (S 85 p2) (S 86 p2) + s5 ≤ sm_rl (if p2 = p2 then (0 : Int) else (S 81 p2)) (if p2 = p2 then (1 : Int) else (S 82 p2)) (sm_lor (S 83 p2) (S 83 p1)) (sm_lor (S 84 p2) (S 84 p1)) (sm_lor (S 85 p2) (S 85 p1)) (sm_lor (S 86 p2) (S 86 p1))) → (0 ≤ s5 ∧ s5 ≤ 1) ∧ ((15000 ≤ p2 → sm_pl (fun i' : Int => if i' = p2 then (0 : Int) else (S 81) i') (fun i' : Int => if i' = p2 then (1 : Int) else (S 82) i') (fun i' : Int => if i' = p2 then (sm_lor (S 83 p2) (S 83 p1)) else (S 83) i') (fun i' : Int => if i' = p2 then (sm_lor (S 84 p2) (S 84 p1)) else (S 84) i') (fun i' : Int => if i' = p2 then (sm_lor (S 85 p2) (S 85 p1)) else (S 85) i') (fun i' : Int => if i' = p2 then (sm_lor (S 86 p2) (S 86 p1)) else (S 86) i') = sm_pl (S 81) (S 82) (S 83) (S 84) (S 85) (S 86)) ∧ (s5 = 0 ∨ s5 = 1) ∧ (p2 < 15000 → sm_pl (fun i' : Int => if i' = p2 then (0 : Int) else (S 81) i') (fun i' : Int => if i' = p2 then (1 : Int) else (S 82) i') (fun i' : Int => if i' = p2 then (sm_lor (S 83 p2) (S 83 p1)) else (S 83) i') (fun i' : Int => if i' = p2 then (sm_lor (S 84 p2) (S 84 p1)) else (S 84) i') (fun i' : Int => if i' = p2 then (sm_lor (S 85 p2) (S 85 p1)) else (S 85) i') (fun i' : Int => if i' = p2 then (sm_lor (S 86 p2) (S 86 p1)) else (S 86) i') + s5 ≤ sm_pl (S 81) (S 82) (S 83) (S 84) (S 85) (S 86))))))))))))))))))))))))))) ∧ ((¬ ((S 81 p1) = (0 : Int))) → ((0 ≤ (S 82 p2) ∧ (S 82 p2) ≤ 1) → (((¬ (S 82 p2) = (0 : Int)) → (sv_RL (S 83 p2) → (sv_RL (S 83 p1) → (sv_RL (sm_lor (S 83 p2) (S 83 p1)) → (sv_RL (S 84 p2) → (sv_RL (S 84 p1) → (sv_RL (sm_lor (S 84 p2) (S 84 p1)) → (sv_RL (S 85 p2) → (sv_RL (S 85 p1) → (sv_RL (sm_lor (S 85 p2) (S 85 p1)) → (sv_RL (S 86 p2) → (sv_RL (S 86 p1) → (sv_RL (sm_lor (S 86 p2) (S 86 p1)) → ((sv_RL (S 83 p2) → ¬ sm_land (S 83 p1) (sm_lxor (S 83 p2) (-1)) = 0 → ¬ sm_lor (S 83 p2) (S 83 p1) = (S 83 p2)) → ((sv_RL (S 84 p2) → ¬ sm_land (S 84 p1) (sm_lxor (S 84 p2) (-1)) = 0 → ¬ sm_lor (S 84 p2) (S 84 p1) = (S 84 p2)) → ((sv_RL (S 85 p2) → ¬ sm_land (S 85 p1) (sm_lxor (S 85 p2) (-1)) = 0 → ¬ sm_lor (S 85 p2) (S 85 p1) = (S 85 p2)) → ((sv_RL (S 86 p2) → ¬ sm_land (S 86 p1) (sm_lxor (S 86 p2) (-1)) = 0 → ¬ sm_lor (S 86 p2) (S 86 p1) = (S 86 p2)) → (((S 81 p2) ≤ (if p2 = p2 then (1 : Int) else (S 81 p2)) → (S 82 p2) ≤ (if p2 = p2 then (1 : Int) else (S 82 p2)) → sv_RL (S 83 p2) → sv_RL (S 84 p2) → sv_RL (S 85 p2) → sv_RL (S 86 p2) → (s5 = 0 ∨ s5 = 1) → (s5 = 1 → (S 81 p2) < (if p2 = p2 then (1 : Int) else (S 81 p2)) ∨ (S 82 p2) < (if p2 = p2 then (1 : Int) else (S 82 p2)) ∨ ¬ sm_lor (S 83 p2) (S 83 p1) = (S 83 p2) ∨ ¬ sm_lor (S 84 p2) (S 84 p1) = (S 84 p2) ∨ ¬ sm_lor (S 85 p2) (S 85 p1) = (S 85 p2) ∨ ¬ sm_lor (S 86 p2) (S 86 p1) = (S 86 p2)) → sm_rl (S 81 p2) (S 82 p2) (S 83 p2) (S 84 p2) (S 85 p2) (S 86 p2) + s5 ≤ sm_rl (if p2 = p2 then (1 : Int) else (S 81 p2)) (if p2 = p2 then (1 : Int) else (S 82 p2)) (sm_lor (S 83 p2) (S 83 p1)) (sm_lor (S 84 p2) (S 84 p1)) (sm_lor (S 85 p2) (S 85 p1)) (sm_lor (S 86 p2) (S 86 p1))) → (0 ≤ s5 ∧ s5 ≤ 1) ∧ ((15000 ≤ p2 → sm_pl (fun i' : Int => if i' = p2 then (1 : Int) else (S 81) i') (fun i' : Int => if i' = p2 then (1 : Int) else (S 82) i') (fun i' : Int => if i' = p2 then (sm_lor (S 83 p2) (S 83 p1)) else (S 83) i') (fun i' : Int => if i' = p2 then (sm_lor (S 84 p2) (S 84 p1)) else (S 84) i') (fun i' : Int => if i' = p2 then (sm_lor (S 85 p2) (S 85 p1)) else (S 85) i') (fun i' : Int => if i' = p2 then (sm_lor (S 86 p2) (S 86 p1)) else (S 86) i') = sm_pl (S 81) (S 82) (S 83) (S 84) (S 85) (S 86)) ∧ (s5 = 0 ∨ s5 = 1) ∧ (p2 < 15000 → sm_pl (fun i' : Int => if i' = p2 then (1 : Int) else (S 81) i') (fun i' : Int => if i' = p2 then (1 : Int) else (S 82) i') (fun i' : Int => if i' = p2 then (sm_lor (S 83 p2) (S 83 p1)) else (S 83) i') (fun i' : Int => if i' = p2 then (sm_lor (S 84 p2) (S 84 p1)) else (S 84) i') (fun i' : Int => if i' = p2 then (sm_lor (S 85 p2) (S 85 p1)) else (S 85) i') (fun i' : Int => if i' = p2 then (sm_lor (S 86 p2) (S 86 p1)) else (S 86) i') + s5 ≤ sm_pl (S 81) (S 82) (S 83) (S 84) (S 85) (S 86))))))))))))))))))))) ∧ ((¬ (¬ (S 82 p2) = (0 : Int))) → ((0 ≤ (S 82 p1) ∧ (S 82 p1) ≤ 1) → ((((S 82 p1) = (0 : Int)) → (sv_RL (S 83 p2) → (sv_RL (S 83 p1) → (sv_RL (sm_lor (S 83 p2) (S 83 p1)) → (sv_RL (S 84 p2) → (sv_RL (S 84 p1) → (sv_RL (sm_lor (S 84 p2) (S 84 p1)) → (sv_RL (S 85 p2) → (sv_RL (S 85 p1) → (sv_RL (sm_lor (S 85 p2) (S 85 p1)) → (sv_RL (S 86 p2) → (sv_RL (S 86 p1) → (sv_RL (sm_lor (S 86 p2) (S 86 p1)) → ((sv_RL (S 83 p2) → ¬ sm_land (S 83 p1) (sm_lxor (S 83 p2) (-1)) = 0 → ¬ sm_lor (S 83 p2) (S 83 p1) = (S 83 p2)) → ((sv_RL (S 84 p2) → ¬ sm_land (S 84 p1) (sm_lxor (S 84 p2) (-1)) = 0 → ¬ sm_lor (S 84 p2) (S 84 p1) = (S 84 p2)) → ((sv_RL (S 85 p2) → ¬ sm_land (S 85 p1) (sm_lxor (S 85 p2) (-1)) = 0 → ¬ sm_lor (S 85 p2) (S 85 p1) = (S 85 p2)) → ((sv_RL (S 86 p2) → ¬ sm_land (S 86 p1) (sm_lxor (S 86 p2) (-1)) = 0 → ¬ sm_lor (S 86 p2) (S 86 p1) = (S 86 p2)) → (((S 81 p2) ≤ (if p2 = p2 then (1 : Int) else (S 81 p2)) → (S 82 p2) ≤ (if p2 = p2 then (0 : Int) else (S 82 p2)) → sv_RL (S 83 p2) → sv_RL (S 84 p2) → sv_RL (S 85 p2) → sv_RL (S 86 p2) → (s5 = 0 ∨ s5 = 1) → (s5 = 1 → (S 81 p2) < (if p2 = p2 then (1 : Int) else (S 81 p2)) ∨ (S 82 p2) < (if p2 = p2 then (0 : Int) else (S 82 p2)) ∨ ¬ sm_lor (S 83 p2) (S 83 p1) = (S 83 p2) ∨ ¬ sm_lor (S 84 p2) (S 84 p1) = (S 84 p2) ∨ ¬ sm_lor (S 85 p2) (S 85 p1) = (S 85 p2) ∨ ¬ sm_lor (S 86 p2) (S 86 p1) = (S 86 p2)) → sm_rl (S 81 p2) (S 82 p2) (S 83 p2) (S 84 p2) (S 85 p2) (S 86 p2) + s5 ≤ sm_rl (if p2 = p2 then (1 : Int) else (S 81 p2)) (if p2 = p2 then (0 : Int) else (S 82 p2)) (sm_lor (S 83 p2) (S 83 p1)) (sm_lor (S 84 p2) (S 84 p1)) (sm_lor (S 85 p2) (S 85 p1)) (sm_lor (S 86 p2) (S 86 p1))) → (0 ≤ s5 ∧ s5 ≤ 1) ∧ ((15000 ≤ p2 → sm_pl (fun i' : Int => if i' = p2 then (1 : Int) else (S 81) i') (fun i' : Int => if i' = p2 then (0 : Int) else (S 82) i') (fun i' : Int => if i' = p2 then (sm_lor (S 83 p2) (S 83 p1)) else (S 83) i') (fun i' : Int => if i' = p2 then (sm_lor (S 84 p2) (S 84 p1)) else (S 84) i') (fun i' : Int => if i' = p2 then (sm_lor (S 85 p2) (S 85 p1)) else (S 85) i') (fun i' : Int => if i' = p2 then (sm_lor (S 86 p2) (S 86 p1)) else (S 86) i') = sm_pl (S 81) (S 82) (S 83) (S 84) (S 85) (S 86)) ∧ (s5 = 0 ∨ s5 = 1) ∧ (p2 < 15000 → sm_pl (fun i' : Int => if i' = p2 then (1 : Int) else (S 81) i') (fun i' : Int => if i' = p2 then (0 : Int) else (S 82) i') (fun i' : Int => if i' = p2 then (sm_lor (S 83 p2) (S 83 p1)) else (S 83) i') (fun i' : Int => if i' = p2 then (sm_lor (S 84 p2) (S 84 p1)) else (S 84) i') (fun i' : Int => if i' = p2 then (sm_lor (S 85 p2) (S 85 p1)) else (S 85) i') (fun i' : Int => if i' = p2 then (sm_lor (S 86 p2) (S 86 p1)) else (S 86) i') + s5 ≤ sm_pl (S 81) (S 82) (S 83) (S 84) (S 85) (S 86))))))))))))))))))))) ∧ ((¬ ((S 82 p1) = (0 : Int))) → (sv_RL (S 83 p2) → (sv_RL (S 83 p1) → (sv_RL (sm_lor (S 83 p2) (S 83 p1)) → (sv_RL (S 84 p2) → (sv_RL (S 84 p1) → (sv_RL (sm_lor (S 84 p2) (S 84 p1)) → (sv_RL (S 85 p2) → (sv_RL (S 85 p1) → (sv_RL (sm_lor (S 85 p2) (S 85 p1)) → (sv_RL (S 86 p2) → (sv_RL (S 86 p1) → (sv_RL (sm_lor (S 86 p2) (S 86 p1)) → ((sv_RL (S 83 p2) → ¬ sm_land (S 83 p1) (sm_lxor (S 83 p2) (-1)) = 0 → ¬ sm_lor (S 83 p2) (S 83 p1) = (S 83 p2)) → ((sv_RL (S 84 p2) → ¬ sm_land (S 84 p1) (sm_lxor (S 84 p2) (-1)) = 0 → ¬ sm_lor (S 84 p2) (S 84 p1) = (S 84 p2)) → ((sv_RL (S 85 p2) → ¬ sm_land (S 85 p1) (sm_lxor (S 85 p2) (-1)) = 0 → ¬ sm_lor (S 85 p2) (S 85 p1) = (S 85 p2)) → ((sv_RL (S 86 p2) → ¬ sm_land (S 86 p1) (sm_lxor (S 86 p2) (-1)) = 0 → ¬ sm_lor (S 86 p2) (S 86 p1) = (S 86 p2)) → (((S 81 p2) ≤ (if p2 = p2 then (1 : Int) else (S 81 p2)) → (S 82 p2) ≤ (if p2 = p2 then (1 : Int) else (S 82 p2)) → sv_RL (S 83 p2) → sv_RL (S 84 p2) → sv_RL (S 85 p2) → sv_RL (S 86 p2) → (s5 = 0 ∨ s5 = 1) → (s5 = 1 → (S 81 p2) < (if p2 = p2 then (1 : Int) else (S 81 p2)) ∨ (S 82 p2) < (if p2 = p2 then (1 : Int) else (S 82 p2)) ∨ ¬ sm_lor (S 83 p2) (S 83 p1) = (S 83 p2) ∨ ¬ sm_lor (S 84 p2) (S 84 p1) = (S 84 p2) ∨ ¬ sm_lor (S 85 p2) (S 85 p1) = (S 85 p2) ∨ ¬ sm_lor (S 86 p2) (S 86 p1) = (S 86 p2)) → sm_rl (S 81 p2) (S 82 p2) (S 83 p2) (S 84 p2) (S 85 p2) (S 86 p2) + s5 ≤ sm_rl (if p2 = p2 then (1 : Int) else (S 81 p2)) (if p2 = p2 then (1 : Int) else (S 82 p2)) (sm_lor (S 83 p2) (S 83 p1)) (sm_lor (S 84 p2) (S 84 p1)) (sm_lor (S 85 p2) (S 85 p1)) (sm_lor (S 86 p2) (S 86 p1))) → (0 ≤ s5 ∧ s5 ≤ 1) ∧ ((15000 ≤ p2 → sm_pl (fun i' : Int => if i' = p2 then (1 : Int) else (S 81) i') (fun i' : Int => if i' = p2 then (1 : Int) else (S 82) i') (fun i' : Int => if i' = p2 then (sm_lor (S 83 p2) (S 83 p1)) else (S 83) i') (fun i' : Int => if i' = p2 then (sm_lor (S 84 p2) (S 84 p1)) else (S 84) i') (fun i' : Int => if i' = p2 then (sm_lor (S 85 p2) (S 85 p1)) else (S 85) i') (fun i' : Int => if i' = p2 then (sm_lor (S 86 p2) (S 86 p1)) else (S 86) i') = sm_pl (S 81) (S 82) (S 83) (S 84) (S 85) (S 86)) ∧ (s5 = 0 ∨ s5 = 1) ∧ (p2 < 15000 → sm_pl (fun i' : Int => if i' = p2 then (1 : Int) else (S 81) i') (fun i' : Int => if i' = p2 then (1 : Int) else (S 82) i') (fun i' : Int => if i' = p2 then (sm_lor (S 83 p2) (S 83 p1)) else (S 83) i') (fun i' : Int => if i' = p2 then (sm_lor (S 84 p2) (S 84 p1)) else (S 84) i') (fun i' : Int => if i' = p2 then (sm_lor (S 85 p2) (S 85 p1)) else (S 85) i') (fun i' : Int => if i' = p2 then (sm_lor (S 86 p2) (S 86 p1)) else (S 86) i') + s5 ≤ sm_pl (S 81) (S 82) (S 83) (S 84) (S 85) (S 86))))))))))))))))))))))))))))))))) ∧ (((¬ s3 = (0 : Int)) → (((1 : Int) = 0 ∨ (1 : Int) = 1) ∧ ((1 : Int) = 1 → s3 = 1 ∨ ¬ sm_land (S 85 p1) (sm_lxor (S 85 p2) (-1)) = 0 ∨ ¬ sm_land (S 86 p1) (sm_lxor (S 86 p2) (-1)) = 0))) ∧ ((¬ (¬ s3 = (0 : Int))) → (0 ≤ p1 ∧ p1 < 15128) ∧ (sv_RL (S 85 p1) → (0 ≤ p2 ∧ p2 < 15128) ∧ (sv_RL (S 85 p2) → (sv_RL (sm_lxor (S 85 p2) (-1 : Int)) → (sv_RL (sm_land (S 85 p1) (sm_lxor (S 85 p2) (-1 : Int))) → (((¬ (sm_land (S 85 p1) (sm_lxor (S 85 p2) (-1 : Int))) = (0 : Int)) → (((1 : Int) = 0 ∨ (1 : Int) = 1) ∧ ((1 : Int) = 1 → s3 = 1 ∨ ¬ sm_land (S 85 p1) (sm_lxor (S 85 p2) (-1)) = 0 ∨ ¬ sm_land (S 86 p1) (sm_lxor (S 86 p2) (-1)) = 0))) ∧ ((¬ (¬ (sm_land (S 85 p1) (sm_lxor (S 85 p2) (-1 : Int))) = (0 : Int))) → (sv_RL (S 86 p1) → (sv_RL (S 86 p2) → (sv_RL (sm_lxor (S 86 p2) (-1 : Int)) → (sv_RL (sm_land (S 86 p1) (sm_lxor (S 86 p2) (-1 : Int))) → ((((sm_land (S 86 p1) (sm_lxor (S 86 p2) (-1 : Int))) = (0 : Int)) → (((0 : Int) = 0 ∨ (0 : Int) = 1) ∧ ((0 : Int) = 1 → s3 = 1 ∨ ¬ sm_land (S 85 p1) (sm_lxor (S 85 p2) (-1)) = 0 ∨ ¬ sm_land (S 86 p1) (sm_lxor (S 86 p2) (-1)) = 0))) ∧ ((¬ ((sm_land (S 86 p1) (sm_lxor (S 86 p2) (-1 : Int))) = (0 : Int))) → (((1 : Int) = 0 ∨ (1 : Int) = 1) ∧ ((1 : Int) = 1 → s3 = 1 ∨ ¬ sm_land (S 85 p1) (sm_lxor (S 85 p2) (-1)) = 0 ∨ ¬ sm_land (S 86 p1) (sm_lxor (S 86 p2) (-1)) = 0)))))))))))))))))) ∧ (((¬ s1 = (0 : Int)) → (((1 : Int) = 0 ∨ (1 : Int) = 1) ∧ ((1 : Int) = 1 → s1 = 1 ∨ ¬ sm_land (S 83 p1) (sm_lxor (S 83 p2) (-1)) = 0 ∨ ¬ sm_land (S 84 p1) (sm_lxor (S 84 p2) (-1)) = 0))) ∧ ((¬ (¬ s1 = (0 : Int))) → (0 ≤ p1 ∧ p1 < 15128) ∧ (sv_RL (S 83 p1) → (0 ≤ p2 ∧ p2 < 15128) ∧ (sv_RL (S 83 p2) → (sv_RL (sm_lxor (S 83 p2) (-1 : Int)) → (sv_RL (sm_land (S 83 p1) (sm_lxor (S 83 p2) (-1 : Int))) → (((¬ (sm_land (S 83 p1) (sm_lxor (S 83 p2) (-1 : Int))) = (0 : Int)) → (((1 : Int) = 0 ∨ (1 : Int) = 1) ∧ ((1 : Int) = 1 → s1 = 1 ∨ ¬ sm_land (S 83 p1) (sm_lxor (S 83 p2) (-1)) = 0 ∨ ¬ sm_land (S 84 p1) (sm_lxor (S 84 p2) (-1)) = 0))) ∧ ((¬ (¬ (sm_land (S 83 p1) (sm_lxor (S 83 p2) (-1 : Int))) = (0 : Int))) → (sv_RL (S 84 p1) → (sv_RL (S 84 p2) → (sv_RL (sm_lxor (S 84 p2) (-1 : Int)) → (sv_RL (sm_land (S 84 p1) (sm_lxor (S 84 p2) (-1 : Int))) → ((((sm_land (S 84 p1) (sm_lxor (S 84 p2) (-1 : Int))) = (0 : Int)) → (((0 : Int) = 0 ∨ (0 : Int) = 1) ∧ ((0 : Int) = 1 → s1 = 1 ∨ ¬ sm_land (S 83 p1) (sm_lxor (S 83 p2) (-1)) = 0 ∨ ¬ sm_land (S 84 p1) (sm_lxor (S 84 p2) (-1)) = 0))) ∧ ((¬ ((sm_land (S 84 p1) (sm_lxor (S 84 p2) (-1 : Int))) = (0 : Int))) → (((1 : Int) = 0 ∨ (1 : Int) = 1) ∧ ((1 : Int) = 1 → s1 = 1 ∨ ¬ sm_land (S 83 p1) (sm_lxor (S 83 p2) (-1)) = 0 ∨ ¬ sm_land (S 84 p1) (sm_lxor (S 84 p2) (-1)) = 0)))))))))))))))))) ∧ (0 ≤ p1 ∧ p1 < 15128) ∧ ((0 ≤ (S 81 p1) ∧ (S 81 p1) ≤ 1) → ((((S 81 p1) = (0 : Int)) → ((0 ≤ (S 82 p1) ∧ (S 82 p1) ≤ 1) → ((((S 82 p1) = (0 : Int)) → (((0 : Int) = 0 ∨ (0 : Int) = 1) ∧ ((0 : Int) = 1 → ((S 81 p1) = 1 ∧ (S 81 p2) = 0) ∨ ((S 82 p1) = 1 ∧ (S 82 p2) = 0)))) ∧ ((¬ ((S 82 p1) = (0 : Int))) → (0 ≤ p2 ∧ p2 < 15128) ∧ ((0 ≤ (S 82 p2) ∧ (S 82 p2) ≤ 1) → (((¬ (S 82 p2) = (0 : Int)) → (((0 : Int) = 0 ∨ (0 : Int) = 1) ∧ ((0 : Int) = 1 → ((S 81 p1) = 1 ∧ (S 81 p2) = 0) ∨ ((S 82 p1) = 1 ∧ (S 82 p2) = 0)))) ∧ ((¬ (¬ (S 82 p2) = (0 : Int))) → (((1 : Int) = 0 ∨ (1 : Int) = 1) ∧ ((1 : Int) = 1 → ((S 81 p1) = 1 ∧ (S 81 p2) = 0) ∨ ((S 82 p1) = 1 ∧ (S 82 p2) = 0)))))))))) ∧ ((¬ ((S 81 p1) = (0 : Int))) → (0 ≤ p2 ∧ p2 < 15128) ∧ ((0 ≤ (S 81 p2) ∧ (S 81 p2) ≤ 1) → ((((S 81 p2) = (0 : Int)) → (((1 : Int) = 0 ∨ (1 : Int) = 1) ∧ ((1 : Int) = 1 → ((S 81 p1) = 1 ∧ (S 81 p2) = 0) ∨ ((S 82 p1) = 1 ∧ (S 82 p2) = 0)))) ∧ ((¬ ((S 81 p2) = (0 : Int))) → ((0 ≤ (S 82 p1) ∧ (S 82 p1) ≤ 1) → ((((S 82 p1) = (0 : Int)) → (((0 : Int) = 0 ∨ (0 : Int) = 1) ∧ ((0 : Int) = 1 → ((S 81 p1) = 1 ∧ (S 81 p2) = 0) ∨ ((S 82 p1) = 1 ∧ (S 82 p2) = 0)))) ∧ ((¬ ((S 82 p1) = (0 : Int))) → ((0 ≤ (S 82 p2) ∧ (S 82 p2) ≤ 1) → (((¬ (S 82 p2) = (0 : Int)) → (((0 : Int) = 0 ∨ (0 : Int) = 1) ∧ ((0 : Int) = 1 → ((S 81 p1) = 1 ∧ (S 81 p2) = 0) ∨ ((S 82 p1) = 1 ∧ (S 82 p2) = 0)))) ∧ ((¬ (¬ (S 82 p2) = (0 : Int))) → (((1 : Int) = 0 ∨ (1 : Int) = 1) ∧ ((1 : Int) = 1 → ((S 81 p1) = 1 ∧ (S 81 p2) = 0) ∨ ((S 82 p1) = 1 ∧ (S 82 p2) = 0)))))))))))))))) := by
  intro p1
  intro p2
  intro S
  intro h1_
  intro h2_
  intro h3_
  rintro ⟨h4_, ⟨h5_, ⟨h6_, h7_⟩⟩⟩
  refine ⟨?_, ?_⟩
  · skip
    intro s1
    intro h8_
    rintro ⟨h9_, h10_⟩
    refine ⟨?_, ?_⟩
    · skip
      intro s3
      intro h11_
      rintro ⟨h12_, h13_⟩
      refine ⟨?_, ?_⟩
      · skip
        intro s5
        intro h14_
        rintro ⟨h15_, h16_⟩
        refine ⟨(la_joinLabel_0 h6_ h7_), ?_⟩
        rintro ⟨h17_, h18_⟩
        refine ⟨?_, ?_⟩
        · skip
          intro h19_
          rintro ⟨h20_, h21_⟩
          refine ⟨?_, ?_⟩
          · skip
            intro h22_
            intro h23_
            refine ⟨(la_joinLabel_0 h4_ h5_), ?_⟩
            intro h24_
            intro h25_
            intro h26_
            intro h27_
            intro h28_
            intro h29_
            intro h30_
            intro h31_
            intro h32_
            intro h33_
            intro h34_
            intro h35_
            have h36_ := (h35_ h23_)
            intro h37_
            have h38_ := (h37_ h26_)
            intro h39_
            have h40_ := (h39_ h29_)
            intro h41_
            have h42_ := (h41_ h32_)
            intro h43_
            have e44_ : (if p2 = p2 then 1 else S 82 p2 : Int) = 1 := if_pos la_joinLabel_2
            have e45_ : (if p2 = p2 then 1 else S 81 p2 : Int) = 1 := if_pos la_joinLabel_2
            have h46_ := (h43_ (la_joinLabel_3 h18_ e45_))
            have h47_ := (h46_ (la_joinLabel_3 h21_ e44_))
            have h48_ := (h47_ h23_)
            have h49_ := (h48_ h26_)
            have h50_ := (h49_ h29_)
            have h51_ := (h50_ h32_)
            have h52_ := (h51_ h15_)
            refine ⟨?_, ?_⟩
            · skip
              refine ⟨?_, ?_⟩
              · skip
                have e53_ : sm_rl (if p2 = p2 then 1 else S 81 p2) (if p2 = p2 then 1 else S 82 p2) (sm_lor (S 83 p2) (S 83 p1)) (sm_lor (S 84 p2) (S 84 p1)) (sm_lor (S 85 p2) (S 85 p1)) (sm_lor (S 86 p2) (S 86 p1)) = sm_rl 1 (if p2 = p2 then 1 else S 82 p2) (sm_lor (S 83 p2) (S 83 p1)) (sm_lor (S 84 p2) (S 84 p1)) (sm_lor (S 85 p2) (S 85 p1)) (sm_lor (S 86 p2) (S 86 p1)) := congrArg (fun z_ : Int => sm_rl z_ (if p2 = p2 then 1 else S 82 p2) (sm_lor (S 83 p2) (S 83 p1)) (sm_lor (S 84 p2) (S 84 p1)) (sm_lor (S 85 p2) (S 85 p1)) (sm_lor (S 86 p2) (S 86 p1))) (if_pos la_joinLabel_2)
                have e54_ : sm_rl 1 (if p2 = p2 then 1 else S 82 p2) (sm_lor (S 83 p2) (S 83 p1)) (sm_lor (S 84 p2) (S 84 p1)) (sm_lor (S 85 p2) (S 85 p1)) (sm_lor (S 86 p2) (S 86 p1)) = sm_rl 1 1 (sm_lor (S 83 p2) (S 83 p1)) (sm_lor (S 84 p2) (S 84 p1)) (sm_lor (S 85 p2) (S 85 p1)) (sm_lor (S 86 p2) (S 86 p1)) := congrArg (fun z_ : Int => sm_rl 1 z_ (sm_lor (S 83 p2) (S 83 p1)) (sm_lor (S 84 p2) (S 84 p1)) (sm_lor (S 85 p2) (S 85 p1)) (sm_lor (S 86 p2) (S 86 p1))) (if_pos la_joinLabel_2)
                exact (la_joinLabel_4 h15_)
              have e55_ : sm_rl (if p2 = p2 then 1 else S 81 p2) (if p2 = p2 then 1 else S 82 p2) (sm_lor (S 83 p2) (S 83 p1)) (sm_lor (S 84 p2) (S 84 p1)) (sm_lor (S 85 p2) (S 85 p1)) (sm_lor (S 86 p2) (S 86 p1)) = sm_rl 1 (if p2 = p2 then 1 else S 82 p2) (sm_lor (S 83 p2) (S 83 p1)) (sm_lor (S 84 p2) (S 84 p1)) (sm_lor (S 85 p2) (S 85 p1)) (sm_lor (S 86 p2) (S 86 p1)) := congrArg (fun z_ : Int => sm_rl z_ (if p2 = p2 then 1 else S 82 p2) (sm_lor (S 83 p2) (S 83 p1)) (sm_lor (S 84 p2) (S 84 p1)) (sm_lor (S 85 p2) (S 85 p1)) (sm_lor (S 86 p2) (S 86 p1))) (if_pos la_joinLabel_2)
              have e56_ : sm_rl 1 (if p2 = p2 then 1 else S 82 p2) (sm_lor (S 83 p2) (S 83 p1)) (sm_lor (S 84 p2) (S 84 p1)) (sm_lor (S 85 p2) (S 85 p1)) (sm_lor (S 86 p2) (S 86 p1)) = sm_rl 1 1 (sm_lor (S 83 p2) (S 83 p1)) (sm_lor (S 84 p2) (S 84 p1)) (sm_lor (S 85 p2) (S 85 p1)) (sm_lor (S 86 p2) (S 86 p1)) := congrArg (fun z_ : Int => sm_rl 1 z_ (sm_lor (S 83 p2) (S 83 p1)) (sm_lor (S 84 p2) (S 84 p1)) (sm_lor (S 85 p2) (S 85 p1)) (sm_lor (S 86 p2) (S 86 p1))) (if_pos la_joinLabel_2)
              exact (la_joinLabel_5 h15_)
            refine ⟨?_, ?_⟩
            · skip
              intro h57_
              have e58_ : sm_pl (fun i' : Int => (if i' = p2 then 1 else (S 81) i')) (fun i' : Int => (if i' = p2 then 1 else (S 82) i')) (fun i' : Int => (if i' = p2 then sm_lor (S 83 p2) (S 83 p1) else (S 83) i')) (fun i' : Int => (if i' = p2 then sm_lor (S 84 p2) (S 84 p1) else (S 84) i')) (fun i' : Int => (if i' = p2 then sm_lor (S 85 p2) (S 85 p1) else (S 85) i')) (fun i' : Int => (if i' = p2 then sm_lor (S 86 p2) (S 86 p1) else (S 86) i')) = sm_pl (fun i' : Int => (if i' = p2 then 1 else (S 81) i')) (fun i' : Int => (if i' = p2 then 1 else (S 82) i')) (fun i' : Int => (if i' = p2 then sm_lor (S 83 p2) (S 83 p1) else (S 83) i')) (fun i' : Int => (if i' = p2 then sm_lor (S 84 p2) (S 84 p1) else (S 84) i')) (fun i' : Int => (if i' = p2 then sm_lor (S 85 p2) (S 85 p1) else (S 85) i')) (S 86) := sm_pl_D h57_
              have e59_ : sm_pl (fun i' : Int => (if i' = p2 then 1 else (S 81) i')) (fun i' : Int => (if i' = p2 then 1 else (S 82) i')) (fun i' : Int => (if i' = p2 then sm_lor (S 83 p2) (S 83 p1) else (S 83) i')) (fun i' : Int => (if i' = p2 then sm_lor (S 84 p2) (S 84 p1) else (S 84) i')) (fun i' : Int => (if i' = p2 then sm_lor (S 85 p2) (S 85 p1) else (S 85) i')) (S 86) = sm_pl (fun i' : Int => (if i' = p2 then 1 else (S 81) i')) (fun i' : Int => (if i' = p2 then 1 else (S 82) i')) (fun i' : Int => (if i' = p2 then sm_lor (S 83 p2) (S 83 p1) else (S 83) i')) (fun i' : Int => (if i' = p2 then sm_lor (S 84 p2) (S 84 p1) else (S 84) i')) (S 85) (S 86) := sm_pl_C h57_
              have e60_ : sm_pl (fun i' : Int => (if i' = p2 then 1 else (S 81) i')) (fun i' : Int => (if i' = p2 then 1 else (S 82) i')) (fun i' : Int => (if i' = p2 then sm_lor (S 83 p2) (S 83 p1) else (S 83) i')) (fun i' : Int => (if i' = p2 then sm_lor (S 84 p2) (S 84 p1) else (S 84) i')) (S 85) (S 86) = sm_pl (fun i' : Int => (if i' = p2 then 1 else (S 81) i')) (fun i' : Int => (if i' = p2 then 1 else (S 82) i')) (fun i' : Int => (if i' = p2 then sm_lor (S 83 p2) (S 83 p1) else (S 83) i')) (S 84) (S 85) (S 86) := sm_pl_B h57_
              have e61_ : sm_pl (fun i' : Int => (if i' = p2 then 1 else (S 81) i')) (fun i' : Int => (if i' = p2 then 1 else (S 82) i')) (fun i' : Int => (if i' = p2 then sm_lor (S 83 p2) (S 83 p1) else (S 83) i')) (S 84) (S 85) (S 86) = sm_pl (fun i' : Int => (if i' = p2 then 1 else (S 81) i')) (fun i' : Int => (if i' = p2 then 1 else (S 82) i')) (S 83) (S 84) (S 85) (S 86) := sm_pl_A h57_
              have e62_ : sm_pl (fun i' : Int => (if i' = p2 then 1 else (S 81) i')) (fun i' : Int => (if i' = p2 then 1 else (S 82) i')) (S 83) (S 84) (S 85) (S 86) = sm_pl (fun i' : Int => (if i' = p2 then 1 else (S 81) i')) (S 82) (S 83) (S 84) (S 85) (S 86) := sm_pl_N h57_
              have e63_ : sm_pl (fun i' : Int => (if i' = p2 then 1 else (S 81) i')) (S 82) (S 83) (S 84) (S 85) (S 86) = sm_pl (S 81) (S 82) (S 83) (S 84) (S 85) (S 86) := sm_pl_T h57_
              exact (la_joinLabel_6 e58_ e59_ e60_ e61_ e62_ e63_)
            refine ⟨h15_, ?_⟩
            intro h64_
            have e65_ : sm_pl (fun i' : Int => (if i' = p2 then 1 else (S 81) i')) (fun i' : Int => (if i' = p2 then 1 else (S 82) i')) (fun i' : Int => (if i' = p2 then sm_lor (S 83 p2) (S 83 p1) else (S 83) i')) (fun i' : Int => (if i' = p2 then sm_lor (S 84 p2) (S 84 p1) else (S 84) i')) (fun i' : Int => (if i' = p2 then sm_lor (S 85 p2) (S 85 p1) else (S 85) i')) (fun i' : Int => (if i' = p2 then sm_lor (S 86 p2) (S 86 p1) else (S 86) i')) = sm_pl (fun i' : Int => (if i' = p2 then 1 else (S 81) i')) (fun i' : Int => (if i' = p2 then 1 else (S 82) i')) (fun i' : Int => (if i' = p2 then sm_lor (S 83 p2) (S 83 p1) else (S 83) i')) (fun i' : Int => (if i' = p2 then sm_lor (S 84 p2) (S 84 p1) else (S 84) i')) (fun i' : Int => (if i' = p2 then sm_lor (S 85 p2) (S 85 p1) else (S 85) i')) (S 86) + sm_rl (if p2 = p2 then 1 else S 81 p2) (if p2 = p2 then 1 else S 82 p2) (if p2 = p2 then sm_lor (S 83 p2) (S 83 p1) else S 83 p2) (if p2 = p2 then sm_lor (S 84 p2) (S 84 p1) else S 84 p2) (if p2 = p2 then sm_lor (S 85 p2) (S 85 p1) else S 85 p2) (S 86 p2) - sm_rl (if p2 = p2 then 1 else S 81 p2) (if p2 = p2 then 1 else S 82 p2) (if p2 = p2 then sm_lor (S 83 p2) (S 83 p1) else S 83 p2) (if p2 = p2 then sm_lor (S 84 p2) (S 84 p1) else S 84 p2) (if p2 = p2 then sm_lor (S 85 p2) (S 85 p1) else S 85 p2) (sm_lor (S 86 p2) (S 86 p1)) := sm_pl_D' h6_ h64_
            have e66_ : sm_pl (fun i' : Int => (if i' = p2 then 1 else (S 81) i')) (fun i' : Int => (if i' = p2 then 1 else (S 82) i')) (fun i' : Int => (if i' = p2 then sm_lor (S 83 p2) (S 83 p1) else (S 83) i')) (fun i' : Int => (if i' = p2 then sm_lor (S 84 p2) (S 84 p1) else (S 84) i')) (fun i' : Int => (if i' = p2 then sm_lor (S 85 p2) (S 85 p1) else (S 85) i')) (S 86) = sm_pl (fun i' : Int => (if i' = p2 then 1 else (S 81) i')) (fun i' : Int => (if i' = p2 then 1 else (S 82) i')) (fun i' : Int => (if i' = p2 then sm_lor (S 83 p2) (S 83 p1) else (S 83) i')) (fun i' : Int => (if i' = p2 then sm_lor (S 84 p2) (S 84 p1) else (S 84) i')) (S 85) (S 86) + sm_rl (if p2 = p2 then 1 else S 81 p2) (if p2 = p2 then 1 else S 82 p2) (if p2 = p2 then sm_lor (S 83 p2) (S 83 p1) else S 83 p2) (if p2 = p2 then sm_lor (S 84 p2) (S 84 p1) else S 84 p2) (S 85 p2) (S 86 p2) - sm_rl (if p2 = p2 then 1 else S 81 p2) (if p2 = p2 then 1 else S 82 p2) (if p2 = p2 then sm_lor (S 83 p2) (S 83 p1) else S 83 p2) (if p2 = p2 then sm_lor (S 84 p2) (S 84 p1) else S 84 p2) (sm_lor (S 85 p2) (S 85 p1)) (S 86 p2) := sm_pl_C' h6_ h64_
            have e67_ : sm_pl (fun i' : Int => (if i' = p2 then 1 else (S 81) i')) (fun i' : Int => (if i' = p2 then 1 else (S 82) i')) (fun i' : Int => (if i' = p2 then sm_lor (S 83 p2) (S 83 p1) else (S 83) i')) (fun i' : Int => (if i' = p2 then sm_lor (S 84 p2) (S 84 p1) else (S 84) i')) (S 85) (S 86) = sm_pl (fun i' : Int => (if i' = p2 then 1 else (S 81) i')) (fun i' : Int => (if i' = p2 then 1 else (S 82) i')) (fun i' : Int => (if i' = p2 then sm_lor (S 83 p2) (S 83 p1) else (S 83) i')) (S 84) (S 85) (S 86) + sm_rl (if p2 = p2 then 1 else S 81 p2) (if p2 = p2 then 1 else S 82 p2) (if p2 = p2 then sm_lor (S 83 p2) (S 83 p1) else S 83 p2) (S 84 p2) (S 85 p2) (S 86 p2) - sm_rl (if p2 = p2 then 1 else S 81 p2) (if p2 = p2 then 1 else S 82 p2) (if p2 = p2 then sm_lor (S 83 p2) (S 83 p1) else S 83 p2) (sm_lor (S 84 p2) (S 84 p1)) (S 85 p2) (S 86 p2) := sm_pl_B' h6_ h64_
            have e68_ : sm_pl (fun i' : Int => (if i' = p2 then 1 else (S 81) i')) (fun i' : Int => (if i' = p2 then 1 else (S 82) i')) (fun i' : Int => (if i' = p2 then sm_lor (S 83 p2) (S 83 p1) else (S 83) i')) (S 84) (S 85) (S 86) = sm_pl (fun i' : Int => (if i' = p2 then 1 else (S 81) i')) (fun i' : Int => (if i' = p2 then 1 else (S 82) i')) (S 83) (S 84) (S 85) (S 86) + sm_rl (if p2 = p2 then 1 else S 81 p2) (if p2 = p2 then 1 else S 82 p2) (S 83 p2) (S 84 p2) (S 85 p2) (S 86 p2) - sm_rl (if p2 = p2 then 1 else S 81 p2) (if p2 = p2 then 1 else S 82 p2) (sm_lor (S 83 p2) (S 83 p1)) (S 84 p2) (S 85 p2) (S 86 p2) := sm_pl_A' h6_ h64_
            have e69_ : sm_pl (fun i' : Int => (if i' = p2 then 1 else (S 81) i')) (fun i' : Int => (if i' = p2 then 1 else (S 82) i')) (S 83) (S 84) (S 85) (S 86) = sm_pl (fun i' : Int => (if i' = p2 then 1 else (S 81) i')) (S 82) (S 83) (S 84) (S 85) (S 86) + sm_rl (if p2 = p2 then 1 else S 81 p2) (S 82 p2) (S 83 p2) (S 84 p2) (S 85 p2) (S 86 p2) - sm_rl (if p2 = p2 then 1 else S 81 p2) 1 (S 83 p2) (S 84 p2) (S 85 p2) (S 86 p2) := sm_pl_N' h6_ h64_
            have e70_ : sm_pl (fun i' : Int => (if i' = p2 then 1 else (S 81) i')) (S 82) (S 83) (S 84) (S 85) (S 86) = sm_pl (S 81) (S 82) (S 83) (S 84) (S 85) (S 86) + sm_rl (S 81 p2) (S 82 p2) (S 83 p2) (S 84 p2) (S 85 p2) (S 86 p2) - sm_rl 1 (S 82 p2) (S 83 p2) (S 84 p2) (S 85 p2) (S 86 p2) := sm_pl_T' h6_ h64_
            have e71_ : sm_rl (if p2 = p2 then 1 else S 81 p2) 1 (S 83 p2) (S 84 p2) (S 85 p2) (S 86 p2) = sm_rl 1 1 (S 83 p2) (S 84 p2) (S 85 p2) (S 86 p2) := congrArg (fun z_ : Int => sm_rl z_ 1 (S 83 p2) (S 84 p2) (S 85 p2) (S 86 p2)) (if_pos la_joinLabel_2)
            have e72_ : sm_rl (if p2 = p2 then 1 else S 81 p2) (S 82 p2) (S 83 p2) (S 84 p2) (S 85 p2) (S 86 p2) = sm_rl 1 (S 82 p2) (S 83 p2) (S 84 p2) (S 85 p2) (S 86 p2) := congrArg (fun z_ : Int => sm_rl z_ (S 82 p2) (S 83 p2) (S 84 p2) (S 85 p2) (S 86 p2)) (if_pos la_joinLabel_2)
            have e73_ : sm_rl (if p2 = p2 then 1 else S 81 p2) (if p2 = p2 then 1 else S 82 p2) (sm_lor (S 83 p2) (S 83 p1)) (S 84 p2) (S 85 p2) (S 86 p2) = sm_rl 1 (if p2 = p2 then 1 else S 82 p2) (sm_lor (S 83 p2) (S 83 p1)) (S 84 p2) (S 85 p2) (S 86 p2) := congrArg (fun z_ : Int => sm_rl z_ (if p2 = p2 then 1 else S 82 p2) (sm_lor (S 83 p2) (S 83 p1)) (S 84 p2) (S 85 p2) (S 86 p2)) (if_pos la_joinLabel_2)
            have e74_ : sm_rl 1 (if p2 = p2 then 1 else S 82 p2) (sm_lor (S 83 p2) (S 83 p1)) (S 84 p2) (S 85 p2) (S 86 p2) = sm_rl 1 1 (sm_lor (S 83 p2) (S 83 p1)) (S 84 p2) (S 85 p2) (S 86 p2) := congrArg (fun z_ : Int => sm_rl 1 z_ (sm_lor (S 83 p2) (S 83 p1)) (S 84 p2) (S 85 p2) (S 86 p2)) (if_pos la_joinLabel_2)
            have e75_ : sm_rl (if p2 = p2 then 1 else S 81 p2) (if p2 = p2 then 1 else S 82 p2) (S 83 p2) (S 84 p2) (S 85 p2) (S 86 p2) = sm_rl 1 (if p2 = p2 then 1 else S 82 p2) (S 83 p2) (S 84 p2) (S 85 p2) (S 86 p2) := congrArg (fun z_ : Int => sm_rl z_ (if p2 = p2 then 1 else S 82 p2) (S 83 p2) (S 84 p2) (S 85 p2) (S 86 p2)) (if_pos la_joinLabel_2)
            have e76_ : sm_rl 1 (if p2 = p2 then 1 else S 82 p2) (S 83 p2) (S 84 p2) (S 85 p2) (S 86 p2) = sm_rl 1 1 (S 83 p2) (S 84 p2) (S 85 p2) (S 86 p2) := congrArg (fun z_ : Int => sm_rl 1 z_ (S 83 p2) (S 84 p2) (S 85 p2) (S 86 p2)) (if_pos la_joinLabel_2)
            have e77_ : sm_rl (if p2 = p2 then 1 else S 81 p2) (if p2 = p2 then 1 else S 82 p2) (if p2 = p2 then sm_lor (S 83 p2) (S 83 p1) else S 83 p2) (sm_lor (S 84 p2) (S 84 p1)) (S 85 p2) (S 86 p2) = sm_rl 1 (if p2 = p2 then 1 else S 82 p2) (if p2 = p2 then sm_lor (S 83 p2) (S 83 p1) else S 83 p2) (sm_lor (S 84 p2) (S 84 p1)) (S 85 p2) (S 86 p2) := congrArg (fun z_ : Int => sm_rl z_ (if p2 = p2 then 1 else S 82 p2) (if p2 = p2 then sm_lor (S 83 p2) (S 83 p1) else S 83 p2) (sm_lor (S 84 p2) (S 84 p1)) (S 85 p2) (S 86 p2)) (if_pos la_joinLabel_2)
            have e78_ : sm_rl 1 (if p2 = p2 then 1 else S 82 p2) (if p2 = p2 then sm_lor (S 83 p2) (S 83 p1) else S 83 p2) (sm_lor (S 84 p2) (S 84 p1)) (S 85 p2) (S 86 p2) = sm_rl 1 1 (if p2 = p2 then sm_lor (S 83 p2) (S 83 p1) else S 83 p2) (sm_lor (S 84 p2) (S 84 p1)) (S 85 p2) (S 86 p2) := congrArg (fun z_ : Int => sm_rl 1 z_ (if p2 = p2 then sm_lor (S 83 p2) (S 83 p1) else S 83 p2) (sm_lor (S 84 p2) (S 84 p1)) (S 85 p2) (S 86 p2)) (if_pos la_joinLabel_2)
            have e79_ : sm_rl 1 1 (if p2 = p2 then sm_lor (S 83 p2) (S 83 p1) else S 83 p2) (sm_lor (S 84 p2) (S 84 p1)) (S 85 p2) (S 86 p2) = sm_rl 1 1 (sm_lor (S 83 p2) (S 83 p1)) (sm_lor (S 84 p2) (S 84 p1)) (S 85 p2) (S 86 p2) := congrArg (fun z_ : Int => sm_rl 1 1 z_ (sm_lor (S 84 p2) (S 84 p1)) (S 85 p2) (S 86 p2)) (if_pos la_joinLabel_2)
            have e80_ : sm_rl (if p2 = p2 then 1 else S 81 p2) (if p2 = p2 then 1 else S 82 p2) (if p2 = p2 then sm_lor (S 83 p2) (S 83 p1) else S 83 p2) (S 84 p2) (S 85 p2) (S 86 p2) = sm_rl 1 (if p2 = p2 then 1 else S 82 p2) (if p2 = p2 then sm_lor (S 83 p2) (S 83 p1) else S 83 p2) (S 84 p2) (S 85 p2) (S 86 p2) := congrArg (fun z_ : Int => sm_rl z_ (if p2 = p2 then 1 else S 82 p2) (if p2 = p2 then sm_lor (S 83 p2) (S 83 p1) else S 83 p2) (S 84 p2) (S 85 p2) (S 86 p2)) (if_pos la_joinLabel_2)
            have e81_ : sm_rl 1 (if p2 = p2 then 1 else S 82 p2) (if p2 = p2 then sm_lor (S 83 p2) (S 83 p1) else S 83 p2) (S 84 p2) (S 85 p2) (S 86 p2) = sm_rl 1 1 (if p2 = p2 then sm_lor (S 83 p2) (S 83 p1) else S 83 p2) (S 84 p2) (S 85 p2) (S 86 p2) := congrArg (fun z_ : Int => sm_rl 1 z_ (if p2 = p2 then sm_lor (S 83 p2) (S 83 p1) else S 83 p2) (S 84 p2) (S 85 p2) (S 86 p2)) (if_pos la_joinLabel_2)
            have e82_ : sm_rl 1 1 (if p2 = p2 then sm_lor (S 83 p2) (S 83 p1) else S 83 p2) (S 84 p2) (S 85 p2) (S 86 p2) = sm_rl 1 1 (sm_lor (S 83 p2) (S 83 p1)) (S 84 p2) (S 85 p2) (S 86 p2) := congrArg (fun z_ : Int => sm_rl 1 1 z_ (S 84 p2) (S 85 p2) (S 86 p2)) (if_pos la_joinLabel_2)
            have e83_ : sm_rl (if p2 = p2 then 1 else S 81 p2) (if p2 = p2 then 1 else S 82 p2) (if p2 = p2 then sm_lor (S 83 p2) (S 83 p1) else S 83 p2) (if p2 = p2 then sm_lor (S 84 p2) (S 84 p1) else S 84 p2) (sm_lor (S 85 p2) (S 85 p1)) (S 86 p2) = sm_rl 1 (if p2 = p2 then 1 else S 82 p2) (if p2 = p2 then sm_lor (S 83 p2) (S 83 p1) else S 83 p2) (if p2 = p2 then sm_lor (S 84 p2) (S 84 p1) else S 84 p2) (sm_lor (S 85 p2) (S 85 p1)) (S 86 p2) := congrArg (fun z_ : Int => sm_rl z_ (if p2 = p2 then 1 else S 82 p2) (if p2 = p2 then sm_lor (S 83 p2) (S 83 p1) else S 83 p2) (if p2 = p2 then sm_lor (S 84 p2) (S 84 p1) else S 84 p2) (sm_lor (S 85 p2) (S 85 p1)) (S 86 p2)) (if_pos la_joinLabel_2)
            have e84_ : sm_rl 1 (if p2 = p2 then 1 else S 82 p2) (if p2 = p2 then sm_lor (S 83 p2) (S 83 p1) else S 83 p2) (if p2 = p2 then sm_lor (S 84 p2) (S 84 p1) else S 84 p2) (sm_lor (S 85 p2) (S 85 p1)) (S 86 p2) = sm_rl 1 1 (if p2 = p2 then sm_lor (S 83 p2) (S 83 p1) else S 83 p2) (if p2 = p2 then sm_lor (S 84 p2) (S 84 p1) else S 84 p2) (sm_lor (S 85 p2) (S 85 p1)) (S 86 p2) := congrArg (fun z_ : Int => sm_rl 1 z_ (if p2 = p2 then sm_lor (S 83 p2) (S 83 p1) else S 83 p2) (if p2 = p2 then sm_lor (S 84 p2) (S 84 p1) else S 84 p2) (sm_lor (S 85 p2) (S 85 p1)) (S 86 p2)) (if_pos la_joinLabel_2)
            have e85_ : sm_rl 1 1 (if p2 = p2 then sm_lor (S 83 p2) (S 83 p1) else S 83 p2) (if p2 = p2 then sm_lor (S 84 p2) (S 84 p1) else S 84 p2) (sm_lor (S 85 p2) (S 85 p1)) (S 86 p2) = sm_rl 1 1 (sm_lor (S 83 p2) (S 83 p1)) (if p2 = p2 then sm_lor (S 84 p2) (S 84 p1) else S 84 p2) (sm_lor (S 85 p2) (S 85 p1)) (S 86 p2) := congrArg (fun z_ : Int => sm_rl 1 1 z_ (if p2 = p2 then sm_lor (S 84 p2) (S 84 p1) else S 84 p2) (sm_lor (S 85 p2) (S 85 p1)) (S 86 p2)) (if_pos la_joinLabel_2)
            have e86_ : sm_rl 1 1 (sm_lor (S 83 p2) (S 83 p1)) (if p2 = p2 then sm_lor (S 84 p2) (S 84 p1) else S 84 p2) (sm_lor (S 85 p2) (S 85 p1)) (S 86 p2) = sm_rl 1 1 (sm_lor (S 83 p2) (S 83 p1)) (sm_lor (S 84 p2) (S 84 p1)) (sm_lor (S 85 p2) (S 85 p1)) (S 86 p2) := congrArg (fun z_ : Int => sm_rl 1 1 (sm_lor (S 83 p2) (S 83 p1)) z_ (sm_lor (S 85 p2) (S 85 p1)) (S 86 p2)) (if_pos la_joinLabel_2)
            have e87_ : sm_rl (if p2 = p2 then 1 else S 81 p2) (if p2 = p2 then 1 else S 82 p2) (if p2 = p2 then sm_lor (S 83 p2) (S 83 p1) else S 83 p2) (if p2 = p2 then sm_lor (S 84 p2) (S 84 p1) else S 84 p2) (S 85 p2) (S 86 p2) = sm_rl 1 (if p2 = p2 then 1 else S 82 p2) (if p2 = p2 then sm_lor (S 83 p2) (S 83 p1) else S 83 p2) (if p2 = p2 then sm_lor (S 84 p2) (S 84 p1) else S 84 p2) (S 85 p2) (S 86 p2) := congrArg (fun z_ : Int => sm_rl z_ (if p2 = p2 then 1 else S 82 p2) (if p2 = p2 then sm_lor (S 83 p2) (S 83 p1) else S 83 p2) (if p2 = p2 then sm_lor (S 84 p2) (S 84 p1) else S 84 p2) (S 85 p2) (S 86 p2)) (if_pos la_joinLabel_2)
            have e88_ : sm_rl 1 (if p2 = p2 then 1 else S 82 p2) (if p2 = p2 then sm_lor (S 83 p2) (S 83 p1) else S 83 p2) (if p2 = p2 then sm_lor (S 84 p2) (S 84 p1) else S 84 p2) (S 85 p2) (S 86 p2) = sm_rl 1 1 (if p2 = p2 then sm_lor (S 83 p2) (S 83 p1) else S 83 p2) (if p2 = p2 then sm_lor (S 84 p2) (S 84 p1) else S 84 p2) (S 85 p2) (S 86 p2) := congrArg (fun z_ : Int => sm_rl 1 z_ (if p2 = p2 then sm_lor (S 83 p2) (S 83 p1) else S 83 p2) (if p2 = p2 then sm_lor (S 84 p2) (S 84 p1) else S 84 p2) (S 85 p2) (S 86 p2)) (if_pos la_joinLabel_2)
            have e89_ : sm_rl 1 1 (if p2 = p2 then sm_lor (S 83 p2) (S 83 p1) else S 83 p2) (if p2 = p2 then sm_lor (S 84 p2) (S 84 p1) else S 84 p2) (S 85 p2) (S 86 p2) = sm_rl 1 1 (sm_lor (S 83 p2) (S 83 p1)) (if p2 = p2 then sm_lor (S 84 p2) (S 84 p1) else S 84 p2) (S 85 p2) (S 86 p2) := congrArg (fun z_ : Int => sm_rl 1 1 z_ (if p2 = p2 then sm_lor (S 84 p2) (S 84 p1) else S 84 p2) (S 85 p2) (S 86 p2)) (if_pos la_joinLabel_2)
            have e90_ : sm_rl 1 1 (sm_lor (S 83 p2) (S 83 p1)) (if p2 = p2 then sm_lor (S 84 p2) (S 84 p1) else S 84 p2) (S 85 p2) (S 86 p2) = sm_rl 1 1 (sm_lor (S 83 p2) (S 83 p1)) (sm_lor (S 84 p2) (S 84 p1)) (S 85 p2) (S 86 p2) := congrArg (fun z_ : Int => sm_rl 1 1 (sm_lor (S 83 p2) (S 83 p1)) z_ (S 85 p2) (S 86 p2)) (if_pos la_joinLabel_2)
            have e91_ : sm_rl (if p2 = p2 then 1 else S 81 p2) (if p2 = p2 then 1 else S 82 p2) (if p2 = p2 then sm_lor (S 83 p2) (S 83 p1) else S 83 p2) (if p2 = p2 then sm_lor (S 84 p2) (S 84 p1) else S 84 p2) (if p2 = p2 then sm_lor (S 85 p2) (S 85 p1) else S 85 p2) (sm_lor (S 86 p2) (S 86 p1)) = sm_rl 1 (if p2 = p2 then 1 else S 82 p2) (if p2 = p2 then sm_lor (S 83 p2) (S 83 p1) else S 83 p2) (if p2 = p2 then sm_lor (S 84 p2) (S 84 p1) else S 84 p2) (if p2 = p2 then sm_lor (S 85 p2) (S 85 p1) else S 85 p2) (sm_lor (S 86 p2) (S 86 p1)) := congrArg (fun z_ : Int => sm_rl z_ (if p2 = p2 then 1 else S 82 p2) (if p2 = p2 then sm_lor (S 83 p2) (S 83 p1) else S 83 p2) (if p2 = p2 then sm_lor (S 84 p2) (S 84 p1) else S 84 p2) (if p2 = p2 then sm_lor (S 85 p2) (S 85 p1) else S 85 p2) (sm_lor (S 86 p2) (S 86 p1))) (if_pos la_joinLabel_2)
            have e92_ : sm_rl 1 (if p2 = p2 then 1 else S 82 p2) (if p2 = p2 then sm_lor (S 83 p2) (S 83 p1) else S 83 p2) (if p2 = p2 then sm_lor (S 84 p2) (S 84 p1) else S 84 p2) (if p2 = p2 then sm_lor (S 85 p2) (S 85 p1) else S 85 p2) (sm_lor (S 86 p2) (S 86 p1)) = sm_rl 1 1 (if p2 = p2 then sm_lor (S 83 p2) (S 83 p1) else S 83 p2) (if p2 = p2 then sm_lor (S 84 p2) (S 84 p1) else S 84 p2) (if p2 = p2 then sm_lor (S 85 p2) (S 85 p1) else S 85 p2) (sm_lor (S 86 p2) (S 86 p1)) := congrArg (fun z_ : Int => sm_rl 1 z_ (if p2 = p2 then sm_lor (S 83 p2) (S 83 p1) else S 83 p2) (if p2 = p2 then sm_lor (S 84 p2) (S 84 p1) else S 84 p2) (if p2 = p2 then sm_lor (S 85 p2) (S 85 p1) else S 85 p2) (sm_lor (S 86 p2) (S 86 p1))) (if_pos la_joinLabel_2)
            have e93_ : sm_rl 1 1 (if p2 = p2 then sm_lor (S 83 p2) (S 83 p1) else S 83 p2) (if p2 = p2 then sm_lor (S 84 p2) (S 84 p1) else S 84 p2) (if p2 = p2 then sm_lor (S 85 p2) (S 85 p1) else S 85 p2) (sm_lor (S 86 p2) (S 86 p1)) = sm_rl 1 1 (sm_lor (S 83 p2) (S 83 p1)) (if p2 = p2 then sm_lor (S 84 p2) (S 84 p1) else S 84 p2) (if p2 = p2 then sm_lor (S 85 p2) (S 85 p1) else S 85 p2) (sm_lor (S 86 p2) (S 86 p1)) := congrArg (fun z_ : Int => sm_rl 1 1 z_ (if p2 = p2 then sm_lor (S 84 p2) (S 84 p1) else S 84 p2) (if p2 = p2 then sm_lor (S 85 p2) (S 85 p1) else S 85 p2) (sm_lor (S 86 p2) (S 86 p1))) (if_pos la_joinLabel_2)
            have e94_ : sm_rl 1 1 (sm_lor (S 83 p2) (S 83 p1)) (if p2 = p2 then sm_lor (S 84 p2) (S 84 p1) else S 84 p2) (if p2 = p2 then sm_lor (S 85 p2) (S 85 p1) else S 85 p2) (sm_lor (S 86 p2) (S 86 p1)) = sm_rl 1 1 (sm_lor (S 83 p2) (S 83 p1)) (sm_lor (S 84 p2) (S 84 p1)) (if p2 = p2 then sm_lor (S 85 p2) (S 85 p1) else S 85 p2) (sm_lor (S 86 p2) (S 86 p1)) := congrArg (fun z_ : Int => sm_rl 1 1 (sm_lor (S 83 p2) (S 83 p1)) z_ (if p2 = p2 then sm_lor (S 85 p2) (S 85 p1) else S 85 p2) (sm_lor (S 86 p2) (S 86 p1))) (if_pos la_joinLabel_2)
            have e95_ : sm_rl 1 1 (sm_lor (S 83 p2) (S 83 p1)) (sm_lor (S 84 p2) (S 84 p1)) (if p2 = p2 then sm_lor (S 85 p2) (S 85 p1) else S 85 p2) (sm_lor (S 86 p2) (S 86 p1)) = sm_rl 1 1 (sm_lor (S 83 p2) (S 83 p1)) (sm_lor (S 84 p2) (S 84 p1)) (sm_lor (S 85 p2) (S 85 p1)) (sm_lor (S 86 p2) (S 86 p1)) := congrArg (fun z_ : Int => sm_rl 1 1 (sm_lor (S 83 p2) (S 83 p1)) (sm_lor (S 84 p2) (S 84 p1)) z_ (sm_lor (S 86 p2) (S 86 p1))) (if_pos la_joinLabel_2)
            have e96_ : sm_rl (if p2 = p2 then 1 else S 81 p2) (if p2 = p2 then 1 else S 82 p2) (if p2 = p2 then sm_lor (S 83 p2) (S 83 p1) else S 83 p2) (if p2 = p2 then sm_lor (S 84 p2) (S 84 p1) else S 84 p2) (if p2 = p2 then sm_lor (S 85 p2) (S 85 p1) else S 85 p2) (S 86 p2) = sm_rl 1 (if p2 = p2 then 1 else S 82 p2) (if p2 = p2 then sm_lor (S 83 p2) (S 83 p1) else S 83 p2) (if p2 = p2 then sm_lor (S 84 p2) (S 84 p1) else S 84 p2) (if p2 = p2 then sm_lor (S 85 p2) (S 85 p1) else S 85 p2) (S 86 p2) := congrArg (fun z_ : Int => sm_rl z_ (if p2 = p2 then 1 else S 82 p2) (if p2 = p2 then sm_lor (S 83 p2) (S 83 p1) else S 83 p2) (if p2 = p2 then sm_lor (S 84 p2) (S 84 p1) else S 84 p2) (if p2 = p2 then sm_lor (S 85 p2) (S 85 p1) else S 85 p2) (S 86 p2)) (if_pos la_joinLabel_2)
            have e97_ : sm_rl 1 (if p2 = p2 then 1 else S 82 p2) (if p2 = p2 then sm_lor (S 83 p2) (S 83 p1) else S 83 p2) (if p2 = p2 then sm_lor (S 84 p2) (S 84 p1) else S 84 p2) (if p2 = p2 then sm_lor (S 85 p2) (S 85 p1) else S 85 p2) (S 86 p2) = sm_rl 1 1 (if p2 = p2 then sm_lor (S 83 p2) (S 83 p1) else S 83 p2) (if p2 = p2 then sm_lor (S 84 p2) (S 84 p1) else S 84 p2) (if p2 = p2 then sm_lor (S 85 p2) (S 85 p1) else S 85 p2) (S 86 p2) := congrArg (fun z_ : Int => sm_rl 1 z_ (if p2 = p2 then sm_lor (S 83 p2) (S 83 p1) else S 83 p2) (if p2 = p2 then sm_lor (S 84 p2) (S 84 p1) else S 84 p2) (if p2 = p2 then sm_lor (S 85 p2) (S 85 p1) else S 85 p2) (S 86 p2)) (if_pos la_joinLabel_2)
            have e98_ : sm_rl 1 1 (if p2 = p2 then sm_lor (S 83 p2) (S 83 p1) else S 83 p2) (if p2 = p2 then sm_lor (S 84 p2) (S 84 p1) else S 84 p2) (if p2 = p2 then sm_lor (S 85 p2) (S 85 p1) else S 85 p2) (S 86 p2) = sm_rl 1 1 (sm_lor (S 83 p2) (S 83 p1)) (if p2 = p2 then sm_lor (S 84 p2) (S 84 p1) else S 84 p2) (if p2 = p2 then sm_lor (S 85 p2) (S 85 p1) else S 85 p2) (S 86 p2) := congrArg (fun z_ : Int => sm_rl 1 1 z_ (if p2 = p2 then sm_lor (S 84 p2) (S 84 p1) else S 84 p2) (if p2 = p2 then sm_lor (S 85 p2) (S 85 p1) else S 85 p2) (S 86 p2)) (if_pos la_joinLabel_2)
            have e99_ : sm_rl 1 1 (sm_lor (S 83 p2) (S 83 p1)) (if p2 = p2 then sm_lor (S 84 p2) (S 84 p1) else S 84 p2) (if p2 = p2 then sm_lor (S 85 p2) (S 85 p1) else S 85 p2) (S 86 p2) = sm_rl 1 1 (sm_lor (S 83 p2) (S 83 p1)) (sm_lor (S 84 p2) (S 84 p1)) (if p2 = p2 then sm_lor (S 85 p2) (S 85 p1) else S 85 p2) (S 86 p2) := congrArg (fun z_ : Int => sm_rl 1 1 (sm_lor (S 83 p2) (S 83 p1)) z_ (if p2 = p2 then sm_lor (S 85 p2) (S 85 p1) else S 85 p2) (S 86 p2)) (if_pos la_joinLabel_2)
            have e100_ : sm_rl 1 1 (sm_lor (S 83 p2) (S 83 p1)) (sm_lor (S 84 p2) (S 84 p1)) (if p2 = p2 then sm_lor (S 85 p2) (S 85 p1) else S 85 p2) (S 86 p2) = sm_rl 1 1 (sm_lor (S 83 p2) (S 83 p1)) (sm_lor (S 84 p2) (S 84 p1)) (sm_lor (S 85 p2) (S 85 p1)) (S 86 p2) := congrArg (fun z_ : Int => sm_rl 1 1 (sm_lor (S 83 p2) (S 83 p1)) (sm_lor (S 84 p2) (S 84 p1)) z_ (S 86 p2)) (if_pos la_joinLabel_2)
            have e101_ : sm_rl (if p2 = p2 then 1 else S 81 p2) (if p2 = p2 then 1 else S 82 p2) (sm_lor (S 83 p2) (S 83 p1)) (sm_lor (S 84 p2) (S 84 p1)) (sm_lor (S 85 p2) (S 85 p1)) (sm_lor (S 86 p2) (S 86 p1)) = sm_rl 1 (if p2 = p2 then 1 else S 82 p2) (sm_lor (S 83 p2) (S 83 p1)) (sm_lor (S 84 p2) (S 84 p1)) (sm_lor (S 85 p2) (S 85 p1)) (sm_lor (S 86 p2) (S 86 p1)) := congrArg (fun z_ : Int => sm_rl z_ (if p2 = p2 then 1 else S 82 p2) (sm_lor (S 83 p2) (S 83 p1)) (sm_lor (S 84 p2) (S 84 p1)) (sm_lor (S 85 p2) (S 85 p1)) (sm_lor (S 86 p2) (S 86 p1))) (if_pos la_joinLabel_2)
            have e102_ : sm_rl 1 (if p2 = p2 then 1 else S 82 p2) (sm_lor (S 83 p2) (S 83 p1)) (sm_lor (S 84 p2) (S 84 p1)) (sm_lor (S 85 p2) (S 85 p1)) (sm_lor (S 86 p2) (S 86 p1)) = sm_rl 1 1 (sm_lor (S 83 p2) (S 83 p1)) (sm_lor (S 84 p2) (S 84 p1)) (sm_lor (S 85 p2) (S 85 p1)) (sm_lor (S 86 p2) (S 86 p1)) := congrArg (fun z_ : Int => sm_rl 1 z_ (sm_lor (S 83 p2) (S 83 p1)) (sm_lor (S 84 p2) (S 84 p1)) (sm_lor (S 85 p2) (S 85 p1)) (sm_lor (S 86 p2) (S 86 p1))) (if_pos la_joinLabel_2)
            have e103_ : (if p2 = p2 then sm_lor (S 84 p2) (S 84 p1) else S 84 p2 : Int) = sm_lor (S 84 p2) (S 84 p1) := if_pos la_joinLabel_2
            have e104_ : (if p2 = p2 then sm_lor (S 83 p2) (S 83 p1) else S 83 p2 : Int) = sm_lor (S 83 p2) (S 83 p1) := if_pos la_joinLabel_2
            have e105_ : (if p2 = p2 then sm_lor (S 85 p2) (S 85 p1) else S 85 p2 : Int) = sm_lor (S 85 p2) (S 85 p1) := if_pos la_joinLabel_2
            exact (la_joinLabel_7 h9_ h10_ h12_ h13_ h15_ h16_ (la_joinLabel_1 h17_ h19_) (la_joinLabel_1 h20_ h22_) h36_ h38_ h40_ h42_ h52_ e65_ e66_ e67_ e68_ e69_ e70_ e71_ e72_ e73_ e74_ e75_ e76_ e77_ e78_ e79_ e80_ e81_ e82_ e83_ e84_ e85_ e86_ e87_ e88_ e89_ e90_ e91_ e92_ e93_ e94_ e95_ e96_ e97_ e98_ e99_ e100_ e101_ e102_)
          intro h106_
          refine ⟨(la_joinLabel_0 h4_ h5_), ?_⟩
          rintro ⟨h107_, h108_⟩
          refine ⟨?_, ?_⟩
          · skip
            intro h109_
            intro h110_
            intro h111_
            intro h112_
            intro h113_
            intro h114_
            intro h115_
            intro h116_
            intro h117_
            intro h118_
            intro h119_
            intro h120_
            intro h121_
            intro h122_
            have h123_ := (h122_ h110_)
            intro h124_
            have h125_ := (h124_ h113_)
            intro h126_
            have h127_ := (h126_ h116_)
            intro h128_
            have h129_ := (h128_ h119_)
            intro h130_
            have e131_ : (if p2 = p2 then 0 else S 82 p2 : Int) = 0 := if_pos la_joinLabel_2
            have e132_ : (if p2 = p2 then 1 else S 81 p2 : Int) = 1 := if_pos la_joinLabel_2
            have h133_ := (h130_ (la_joinLabel_3 h18_ e132_))
            have h134_ := (h133_ (la_joinLabel_8 h106_ e131_))
            have h135_ := (h134_ h110_)
            have h136_ := (h135_ h113_)
            have h137_ := (h136_ h116_)
            have h138_ := (h137_ h119_)
            have h139_ := (h138_ h15_)
            refine ⟨?_, ?_⟩
            · skip
              refine ⟨?_, ?_⟩
              · skip
                have e140_ : sm_rl (if p2 = p2 then 1 else S 81 p2) (if p2 = p2 then 0 else S 82 p2) (sm_lor (S 83 p2) (S 83 p1)) (sm_lor (S 84 p2) (S 84 p1)) (sm_lor (S 85 p2) (S 85 p1)) (sm_lor (S 86 p2) (S 86 p1)) = sm_rl 1 (if p2 = p2 then 0 else S 82 p2) (sm_lor (S 83 p2) (S 83 p1)) (sm_lor (S 84 p2) (S 84 p1)) (sm_lor (S 85 p2) (S 85 p1)) (sm_lor (S 86 p2) (S 86 p1)) := congrArg (fun z_ : Int => sm_rl z_ (if p2 = p2 then 0 else S 82 p2) (sm_lor (S 83 p2) (S 83 p1)) (sm_lor (S 84 p2) (S 84 p1)) (sm_lor (S 85 p2) (S 85 p1)) (sm_lor (S 86 p2) (S 86 p1))) (if_pos la_joinLabel_2)
                have e141_ : sm_rl 1 (if p2 = p2 then 0 else S 82 p2) (sm_lor (S 83 p2) (S 83 p1)) (sm_lor (S 84 p2) (S 84 p1)) (sm_lor (S 85 p2) (S 85 p1)) (sm_lor (S 86 p2) (S 86 p1)) = sm_rl 1 0 (sm_lor (S 83 p2) (S 83 p1)) (sm_lor (S 84 p2) (S 84 p1)) (sm_lor (S 85 p2) (S 85 p1)) (sm_lor (S 86 p2) (S 86 p1)) := congrArg (fun z_ : Int => sm_rl 1 z_ (sm_lor (S 83 p2) (S 83 p1)) (sm_lor (S 84 p2) (S 84 p1)) (sm_lor (S 85 p2) (S 85 p1)) (sm_lor (S 86 p2) (S 86 p1))) (if_pos la_joinLabel_2)
                exact (la_joinLabel_4 h15_)
              have e142_ : sm_rl (if p2 = p2 then 1 else S 81 p2) (if p2 = p2 then 0 else S 82 p2) (sm_lor (S 83 p2) (S 83 p1)) (sm_lor (S 84 p2) (S 84 p1)) (sm_lor (S 85 p2) (S 85 p1)) (sm_lor (S 86 p2) (S 86 p1)) = sm_rl 1 (if p2 = p2 then 0 else S 82 p2) (sm_lor (S 83 p2) (S 83 p1)) (sm_lor (S 84 p2) (S 84 p1)) (sm_lor (S 85 p2) (S 85 p1)) (sm_lor (S 86 p2) (S 86 p1)) := congrArg (fun z_ : Int => sm_rl z_ (if p2 = p2 then 0 else S 82 p2) (sm_lor (S 83 p2) (S 83 p1)) (sm_lor (S 84 p2) (S 84 p1)) (sm_lor (S 85 p2) (S 85 p1)) (sm_lor (S 86 p2) (S 86 p1))) (if_pos la_joinLabel_2)
              have e143_ : sm_rl 1 (if p2 = p2 then 0 else S 82 p2) (sm_lor (S 83 p2) (S 83 p1)) (sm_lor (S 84 p2) (S 84 p1)) (sm_lor (S 85 p2) (S 85 p1)) (sm_lor (S 86 p2) (S 86 p1)) = sm_rl 1 0 (sm_lor (S 83 p2) (S 83 p1)) (sm_lor (S 84 p2) (S 84 p1)) (sm_lor (S 85 p2) (S 85 p1)) (sm_lor (S 86 p2) (S 86 p1)) := congrArg (fun z_ : Int => sm_rl 1 z_ (sm_lor (S 83 p2) (S 83 p1)) (sm_lor (S 84 p2) (S 84 p1)) (sm_lor (S 85 p2) (S 85 p1)) (sm_lor (S 86 p2) (S 86 p1))) (if_pos la_joinLabel_2)
              exact (la_joinLabel_5 h15_)
            refine ⟨?_, ?_⟩
            · skip
              intro h144_
              have e145_ : sm_pl (fun i' : Int => (if i' = p2 then 1 else (S 81) i')) (fun i' : Int => (if i' = p2 then 0 else (S 82) i')) (fun i' : Int => (if i' = p2 then sm_lor (S 83 p2) (S 83 p1) else (S 83) i')) (fun i' : Int => (if i' = p2 then sm_lor (S 84 p2) (S 84 p1) else (S 84) i')) (fun i' : Int => (if i' = p2 then sm_lor (S 85 p2) (S 85 p1) else (S 85) i')) (fun i' : Int => (if i' = p2 then sm_lor (S 86 p2) (S 86 p1) else (S 86) i')) = sm_pl (fun i' : Int => (if i' = p2 then 1 else (S 81) i')) (fun i' : Int => (if i' = p2 then 0 else (S 82) i')) (fun i' : Int => (if i' = p2 then sm_lor (S 83 p2) (S 83 p1) else (S 83) i')) (fun i' : Int => (if i' = p2 then sm_lor (S 84 p2) (S 84 p1) else (S 84) i')) (fun i' : Int => (if i' = p2 then sm_lor (S 85 p2) (S 85 p1) else (S 85) i')) (S 86) := sm_pl_D h144_
              have e146_ : sm_pl (fun i' : Int => (if i' = p2 then 1 else (S 81) i')) (fun i' : Int => (if i' = p2 then 0 else (S 82) i')) (fun i' : Int => (if i' = p2 then sm_lor (S 83 p2) (S 83 p1) else (S 83) i')) (fun i' : Int => (if i' = p2 then sm_lor (S 84 p2) (S 84 p1) else (S 84) i')) (fun i' : Int => (if i' = p2 then sm_lor (S 85 p2) (S 85 p1) else (S 85) i')) (S 86) = sm_pl (fun i' : Int => (if i' = p2 then 1 else (S 81) i')) (fun i' : Int => (if i' = p2 then 0 else (S 82) i')) (fun i' : Int => (if i' = p2 then sm_lor (S 83 p2) (S 83 p1) else (S 83) i')) (fun i' : Int => (if i' = p2 then sm_lor (S 84 p2) (S 84 p1) else (S 84) i')) (S 85) (S 86) := sm_pl_C h144_
              have e147_ : sm_pl (fun i' : Int => (if i' = p2 then 1 else (S 81) i')) (fun i' : Int => (if i' = p2 then 0 else (S 82) i')) (fun i' : Int => (if i' = p2 then sm_lor (S 83 p2) (S 83 p1) else (S 83) i')) (fun i' : Int => (if i' = p2 then sm_lor (S 84 p2) (S 84 p1) else (S 84) i')) (S 85) (S 86) = sm_pl (fun i' : Int => (if i' = p2 then 1 else (S 81) i')) (fun i' : Int => (if i' = p2 then 0 else (S 82) i')) (fun i' : Int => (if i' = p2 then sm_lor (S 83 p2) (S 83 p1) else (S 83) i')) (S 84) (S 85) (S 86) := sm_pl_B h144_
              have e148_ : sm_pl (fun i' : Int => (if i' = p2 then 1 else (S 81) i')) (fun i' : Int => (if i' = p2 then 0 else (S 82) i')) (fun i' : Int => (if i' = p2 then sm_lor (S 83 p2) (S 83 p1) else (S 83) i')) (S 84) (S 85) (S 86) = sm_pl (fun i' : Int => (if i' = p2 then 1 else (S 81) i')) (fun i' : Int => (if i' = p2 then 0 else (S 82) i')) (S 83) (S 84) (S 85) (S 86) := sm_pl_A h144_
              have e149_ : sm_pl (fun i' : Int => (if i' = p2 then 1 else (S 81) i')) (fun i' : Int => (if i' = p2 then 0 else (S 82) i')) (S 83) (S 84) (S 85) (S 86) = sm_pl (fun i' : Int => (if i' = p2 then 1 else (S 81) i')) (S 82) (S 83) (S 84) (S 85) (S 86) := sm_pl_N h144_
              have e150_ : sm_pl (fun i' : Int => (if i' = p2 then 1 else (S 81) i')) (S 82) (S 83) (S 84) (S 85) (S 86) = sm_pl (S 81) (S 82) (S 83) (S 84) (S 85) (S 86) := sm_pl_T h144_
              exact (la_joinLabel_6 e145_ e146_ e147_ e148_ e149_ e150_)
            refine ⟨h15_, ?_⟩
            intro h151_
            have e152_ : sm_pl (fun i' : Int => (if i' = p2 then 1 else (S 81) i')) (fun i' : Int => (if i' = p2 then 0 else (S 82) i')) (fun i' : Int => (if i' = p2 then sm_lor (S 83 p2) (S 83 p1) else (S 83) i')) (fun i' : Int => (if i' = p2 then sm_lor (S 84 p2) (S 84 p1) else (S 84) i')) (fun i' : Int => (if i' = p2 then sm_lor (S 85 p2) (S 85 p1) else (S 85) i')) (fun i' : Int => (if i' = p2 then sm_lor (S 86 p2) (S 86 p1) else (S 86) i')) = sm_pl (fun i' : Int => (if i' = p2 then 1 else (S 81) i')) (fun i' : Int => (if i' = p2 then 0 else (S 82) i')) (fun i' : Int => (if i' = p2 then sm_lor (S 83 p2) (S 83 p1) else (S 83) i')) (fun i' : Int => (if i' = p2 then sm_lor (S 84 p2) (S 84 p1) else (S 84) i')) (fun i' : Int => (if i' = p2 then sm_lor (S 85 p2) (S 85 p1) else (S 85) i')) (S 86) + sm_rl (if p2 = p2 then 1 else S 81 p2) (if p2 = p2 then 0 else S 82 p2) (if p2 = p2 then sm_lor (S 83 p2) (S 83 p1) else S 83 p2) (if p2 = p2 then sm_lor (S 84 p2) (S 84 p1) else S 84 p2) (if p2 = p2 then sm_lor (S 85 p2) (S 85 p1) else S 85 p2) (S 86 p2) - sm_rl (if p2 = p2 then 1 else S 81 p2) (if p2 = p2 then 0 else S 82 p2) (if p2 = p2 then sm_lor (S 83 p2) (S 83 p1) else S 83 p2) (if p2 = p2 then sm_lor (S 84 p2) (S 84 p1) else S 84 p2) (if p2 = p2 then sm_lor (S 85 p2) (S 85 p1) else S 85 p2) (sm_lor (S 86 p2) (S 86 p1)) := sm_pl_D' h6_ h151_
            have e153_ : sm_pl (fun i' : Int => (if i' = p2 then 1 else (S 81) i')) (fun i' : Int => (if i' = p2 then 0 else (S 82) i')) (fun i' : Int => (if i' = p2 then sm_lor (S 83 p2) (S 83 p1) else (S 83) i')) (fun i' : Int => (if i' = p2 then sm_lor (S 84 p2) (S 84 p1) else (S 84) i')) (fun i' : Int => (if i' = p2 then sm_lor (S 85 p2) (S 85 p1) else (S 85) i')) (S 86) = sm_pl (fun i' : Int => (if i' = p2 then 1 else (S 81) i')) (fun i' : Int => (if i' = p2 then 0 else (S 82) i')) (fun i' : Int => (if i' = p2 then sm_lor (S 83 p2) (S 83 p1) else (S 83) i')) (fun i' : Int => (if i' = p2 then sm_lor (S 84 p2) (S 84 p1) else (S 84) i')) (S 85) (S 86) + sm_rl (if p2 = p2 then 1 else S 81 p2) (if p2 = p2 then 0 else S 82 p2) (if p2 = p2 then sm_lor (S 83 p2) (S 83 p1) else S 83 p2) (if p2 = p2 then sm_lor (S 84 p2) (S 84 p1) else S 84 p2) (S 85 p2) (S 86 p2) - sm_rl (if p2 = p2 then 1 else S 81 p2) (if p2 = p2 then 0 else S 82 p2) (if p2 = p2 then sm_lor (S 83 p2) (S 83 p1) else S 83 p2) (if p2 = p2 then sm_lor (S 84 p2) (S 84 p1) else S 84 p2) (sm_lor (S 85 p2) (S 85 p1)) (S 86 p2) := sm_pl_C' h6_ h151_
            have e154_ : sm_pl (fun i' : Int => (if i' = p2 then 1 else (S 81) i')) (fun i' : Int => (if i' = p2 then 0 else (S 82) i')) (fun i' : Int => (if i' = p2 then sm_lor (S 83 p2) (S 83 p1) else (S 83) i')) (fun i' : Int => (if i' = p2 then sm_lor (S 84 p2) (S 84 p1) else (S 84) i')) (S 85) (S 86) = sm_pl (fun i' : Int => (if i' = p2 then 1 else (S 81) i')) (fun i' : Int => (if i' = p2 then 0 else (S 82) i')) (fun i' : Int => (if i' = p2 then sm_lor (S 83 p2) (S 83 p1) else (S 83) i')) (S 84) (S 85) (S 86) + sm_rl (if p2 = p2 then 1 else S 81 p2) (if p2 = p2 then 0 else S 82 p2) (if p2 = p2 then sm_lor (S 83 p2) (S 83 p1) else S 83 p2) (S 84 p2) (S 85 p2) (S 86 p2) - sm_rl (if p2 = p2 then 1 else S 81 p2) (if p2 = p2 then 0 else S 82 p2) (if p2 = p2 then sm_lor (S 83 p2) (S 83 p1) else S 83 p2) (sm_lor (S 84 p2) (S 84 p1)) (S 85 p2) (S 86 p2) := sm_pl_B' h6_ h151_
            have e155_ : sm_pl (fun i' : Int => (if i' = p2 then 1 else (S 81) i')) (fun i' : Int => (if i' = p2 then 0 else (S 82) i')) (fun i' : Int => (if i' = p2 then sm_lor (S 83 p2) (S 83 p1) else (S 83) i')) (S 84) (S 85) (S 86) = sm_pl (fun i' : Int => (if i' = p2 then 1 else (S 81) i')) (fun i' : Int => (if i' = p2 then 0 else (S 82) i')) (S 83) (S 84) (S 85) (S 86) + sm_rl (if p2 = p2 then 1 else S 81 p2) (if p2 = p2 then 0 else S 82 p2) (S 83 p2) (S 84 p2) (S 85 p2) (S 86 p2) - sm_rl (if p2 = p2 then 1 else S 81 p2) (if p2 = p2 then 0 else S 82 p2) (sm_lor (S 83 p2) (S 83 p1)) (S 84 p2) (S 85 p2) (S 86 p2) := sm_pl_A' h6_ h151_
            have e156_ : sm_pl (fun i' : Int => (if i' = p2 then 1 else (S 81) i')) (fun i' : Int => (if i' = p2 then 0 else (S 82) i')) (S 83) (S 84) (S 85) (S 86) = sm_pl (fun i' : Int => (if i' = p2 then 1 else (S 81) i')) (S 82) (S 83) (S 84) (S 85) (S 86) + sm_rl (if p2 = p2 then 1 else S 81 p2) (S 82 p2) (S 83 p2) (S 84 p2) (S 85 p2) (S 86 p2) - sm_rl (if p2 = p2 then 1 else S 81 p2) 0 (S 83 p2) (S 84 p2) (S 85 p2) (S 86 p2) := sm_pl_N' h6_ h151_
            have e157_ : sm_pl (fun i' : Int => (if i' = p2 then 1 else (S 81) i')) (S 82) (S 83) (S 84) (S 85) (S 86) = sm_pl (S 81) (S 82) (S 83) (S 84) (S 85) (S 86) + sm_rl (S 81 p2) (S 82 p2) (S 83 p2) (S 84 p2) (S 85 p2) (S 86 p2) - sm_rl 1 (S 82 p2) (S 83 p2) (S 84 p2) (S 85 p2) (S 86 p2) := sm_pl_T' h6_ h151_
            have e158_ : sm_rl (if p2 = p2 then 1 else S 81 p2) 0 (S 83 p2) (S 84 p2) (S 85 p2) (S 86 p2) = sm_rl 1 0 (S 83 p2) (S 84 p2) (S 85 p2) (S 86 p2) := congrArg (fun z_ : Int => sm_rl z_ 0 (S 83 p2) (S 84 p2) (S 85 p2) (S 86 p2)) (if_pos la_joinLabel_2)
            have e159_ : sm_rl (if p2 = p2 then 1 else S 81 p2) (S 82 p2) (S 83 p2) (S 84 p2) (S 85 p2) (S 86 p2) = sm_rl 1 (S 82 p2) (S 83 p2) (S 84 p2) (S 85 p2) (S 86 p2) := congrArg (fun z_ : Int => sm_rl z_ (S 82 p2) (S 83 p2) (S 84 p2) (S 85 p2) (S 86 p2)) (if_pos la_joinLabel_2)
            have e160_ : sm_rl (if p2 = p2 then 1 else S 81 p2) (if p2 = p2 then 0 else S 82 p2) (sm_lor (S 83 p2) (S 83 p1)) (S 84 p2) (S 85 p2) (S 86 p2) = sm_rl 1 (if p2 = p2 then 0 else S 82 p2) (sm_lor (S 83 p2) (S 83 p1)) (S 84 p2) (S 85 p2) (S 86 p2) := congrArg (fun z_ : Int => sm_rl z_ (if p2 = p2 then 0 else S 82 p2) (sm_lor (S 83 p2) (S 83 p1)) (S 84 p2) (S 85 p2) (S 86 p2)) (if_pos la_joinLabel_2)
            have e161_ : sm_rl 1 (if p2 = p2 then 0 else S 82 p2) (sm_lor (S 83 p2) (S 83 p1)) (S 84 p2) (S 85 p2) (S 86 p2) = sm_rl 1 0 (sm_lor (S 83 p2) (S 83 p1)) (S 84 p2) (S 85 p2) (S 86 p2) := congrArg (fun z_ : Int => sm_rl 1 z_ (sm_lor (S 83 p2) (S 83 p1)) (S 84 p2) (S 85 p2) (S 86 p2)) (if_pos la_joinLabel_2)
            have e162_ : sm_rl (if p2 = p2 then 1 else S 81 p2) (if p2 = p2 then 0 else S 82 p2) (S 83 p2) (S 84 p2) (S 85 p2) (S 86 p2) = sm_rl 1 (if p2 = p2 then 0 else S 82 p2) (S 83 p2) (S 84 p2) (S 85 p2) (S 86 p2) := congrArg (fun z_ : Int => sm_rl z_ (if p2 = p2 then 0 else S 82 p2) (S 83 p2) (S 84 p2) (S 85 p2) (S 86 p2)) (if_pos la_joinLabel_2)
            have e163_ : sm_rl 1 (if p2 = p2 then 0 else S 82 p2) (S 83 p2) (S 84 p2) (S 85 p2) (S 86 p2) = sm_rl 1 0 (S 83 p2) (S 84 p2) (S 85 p2) (S 86 p2) := congrArg (fun z_ : Int => sm_rl 1 z_ (S 83 p2) (S 84 p2) (S 85 p2) (S 86 p2)) (if_pos la_joinLabel_2)
            have e164_ : sm_rl (if p2 = p2 then 1 else S 81 p2) (if p2 = p2 then 0 else S 82 p2) (if p2 = p2 then sm_lor (S 83 p2) (S 83 p1) else S 83 p2) (sm_lor (S 84 p2) (S 84 p1)) (S 85 p2) (S 86 p2) = sm_rl 1 (if p2 = p2 then 0 else S 82 p2) (if p2 = p2 then sm_lor (S 83 p2) (S 83 p1) else S 83 p2) (sm_lor (S 84 p2) (S 84 p1)) (S 85 p2) (S 86 p2) := congrArg (fun z_ : Int => sm_rl z_ (if p2 = p2 then 0 else S 82 p2) (if p2 = p2 then sm_lor (S 83 p2) (S 83 p1) else S 83 p2) (sm_lor (S 84 p2) (S 84 p1)) (S 85 p2) (S 86 p2)) (if_pos la_joinLabel_2)
            have e165_ : sm_rl 1 (if p2 = p2 then 0 else S 82 p2) (if p2 = p2 then sm_lor (S 83 p2) (S 83 p1) else S 83 p2) (sm_lor (S 84 p2) (S 84 p1)) (S 85 p2) (S 86 p2) = sm_rl 1 0 (if p2 = p2 then sm_lor (S 83 p2) (S 83 p1) else S 83 p2) (sm_lor (S 84 p2) (S 84 p1)) (S 85 p2) (S 86 p2) := congrArg (fun z_ : Int => sm_rl 1 z_ (if p2 = p2 then sm_lor (S 83 p2) (S 83 p1) else S 83 p2) (sm_lor (S 84 p2) (S 84 p1)) (S 85 p2) (S 86 p2)) (if_pos la_joinLabel_2)
            have e166_ : sm_rl 1 0 (if p2 = p2 then sm_lor (S 83 p2) (S 83 p1) else S 83 p2) (sm_lor (S 84 p2) (S 84 p1)) (S 85 p2) (S 86 p2) = sm_rl 1 0 (sm_lor (S 83 p2) (S 83 p1)) (sm_lor (S 84 p2) (S 84 p1)) (S 85 p2) (S 86 p2) := congrArg (fun z_ : Int => sm_rl 1 0 z_ (sm_lor (S 84 p2) (S 84 p1)) (S 85 p2) (S 86 p2)) (if_pos la_joinLabel_2)
            have e167_ : sm_rl (if p2 = p2 then 1 else S 81 p2) (if p2 = p2 then 0 else S 82 p2) (if p2 = p2 then sm_lor (S 83 p2) (S 83 p1) else S 83 p2) (S 84 p2) (S 85 p2) (S 86 p2) = sm_rl 1 (if p2 = p2 then 0 else S 82 p2) (if p2 = p2 then sm_lor (S 83 p2) (S 83 p1) else S 83 p2) (S 84 p2) (S 85 p2) (S 86 p2) := congrArg (fun z_ : Int => sm_rl z_ (if p2 = p2 then 0 else S 82 p2) (if p2 = p2 then sm_lor (S 83 p2) (S 83 p1) else S 83 p2) (S 84 p2) (S 85 p2) (S 86 p2)) (if_pos la_joinLabel_2)
            have e168_ : sm_rl 1 (if p2 = p2 then 0 else S 82 p2) (if p2 = p2 then sm_lor (S 83 p2) (S 83 p1) else S 83 p2) (S 84 p2) (S 85 p2) (S 86 p2) = sm_rl 1 0 (if p2 = p2 then sm_lor (S 83 p2) (S 83 p1) else S 83 p2) (S 84 p2) (S 85 p2) (S 86 p2) := congrArg (fun z_ : Int => sm_rl 1 z_ (if p2 = p2 then sm_lor (S 83 p2) (S 83 p1) else S 83 p2) (S 84 p2) (S 85 p2) (S 86 p2)) (if_pos la_joinLabel_2)
            have e169_ : sm_rl 1 0 (if p2 = p2 then sm_lor (S 83 p2) (S 83 p1) else S 83 p2) (S 84 p2) (S 85 p2) (S 86 p2) = sm_rl 1 0 (sm_lor (S 83 p2) (S 83 p1)) (S 84 p2) (S 85 p2) (S 86 p2) := congrArg (fun z_ : Int => sm_rl 1 0 z_ (S 84 p2) (S 85 p2) (S 86 p2)) (if_pos la_joinLabel_2)
            have e170_ : sm_rl (if p2 = p2 then 1 else S 81 p2) (if p2 = p2 then 0 else S 82 p2) (if p2 = p2 then sm_lor (S 83 p2) (S 83 p1) else S 83 p2) (if p2 = p2 then sm_lor (S 84 p2) (S 84 p1) else S 84 p2) (sm_lor (S 85 p2) (S 85 p1)) (S 86 p2) = sm_rl 1 (if p2 = p2 then 0 else S 82 p2) (if p2 = p2 then sm_lor (S 83 p2) (S 83 p1) else S 83 p2) (if p2 = p2 then sm_lor (S 84 p2) (S 84 p1) else S 84 p2) (sm_lor (S 85 p2) (S 85 p1)) (S 86 p2) := congrArg (fun z_ : Int => sm_rl z_ (if p2 = p2 then 0 else S 82 p2) (if p2 = p2 then sm_lor (S 83 p2) (S 83 p1) else S 83 p2) (if p2 = p2 then sm_lor (S 84 p2) (S 84 p1) else S 84 p2) (sm_lor (S 85 p2) (S 85 p1)) (S 86 p2)) (if_pos la_joinLabel_2)
            have e171_ : sm_rl 1 (if p2 = p2 then 0 else S 82 p2) (if p2 = p2 then sm_lor (S 83 p2) (S 83 p1) else S 83 p2) (if p2 = p2 then sm_lor (S 84 p2) (S 84 p1) else S 84 p2) (sm_lor (S 85 p2) (S 85 p1)) (S 86 p2) = sm_rl 1 0 (if p2 = p2 then sm_lor (S 83 p2) (S 83 p1) else S 83 p2) (if p2 = p2 then sm_lor (S 84 p2) (S 84 p1) else S 84 p2) (sm_lor (S 85 p2) (S 85 p1)) (S 86 p2) := congrArg (fun z_ : Int => sm_rl 1 z_ (if p2 = p2 then sm_lor (S 83 p2) (S 83 p1) else S 83 p2) (if p2 = p2 then sm_lor (S 84 p2) (S 84 p1) else S 84 p2) (sm_lor (S 85 p2) (S 85 p1)) (S 86 p2)) (if_pos la_joinLabel_2)
            have e172_ : sm_rl 1 0 (if p2 = p2 then sm_lor (S 83 p2) (S 83 p1) else S 83 p2) (if p2 = p2 then sm_lor (S 84 p2) (S 84 p1) else S 84 p2) (sm_lor (S 85 p2) (S 85 p1)) (S 86 p2) = sm_rl 1 0 (sm_lor (S 83 p2) (S 83 p1)) (if p2 = p2 then sm_lor (S 84 p2) (S 84 p1) else S 84 p2) (sm_lor (S 85 p2) (S 85 p1)) (S 86 p2) := congrArg (fun z_ : Int => sm_rl 1 0 z_ (if p2 = p2 then sm_lor (S 84 p2) (S 84 p1) else S 84 p2) (sm_lor (S 85 p2) (S 85 p1)) (S 86 p2)) (if_pos la_joinLabel_2)
            have e173_ : sm_rl 1 0 (sm_lor (S 83 p2) (S 83 p1)) (if p2 = p2 then sm_lor (S 84 p2) (S 84 p1) else S 84 p2) (sm_lor (S 85 p2) (S 85 p1)) (S 86 p2) = sm_rl 1 0 (sm_lor (S 83 p2) (S 83 p1)) (sm_lor (S 84 p2) (S 84 p1)) (sm_lor (S 85 p2) (S 85 p1)) (S 86 p2) := congrArg (fun z_ : Int => sm_rl 1 0 (sm_lor (S 83 p2) (S 83 p1)) z_ (sm_lor (S 85 p2) (S 85 p1)) (S 86 p2)) (if_pos la_joinLabel_2)
            have e174_ : sm_rl (if p2 = p2 then 1 else S 81 p2) (if p2 = p2 then 0 else S 82 p2) (if p2 = p2 then sm_lor (S 83 p2) (S 83 p1) else S 83 p2) (if p2 = p2 then sm_lor (S 84 p2) (S 84 p1) else S 84 p2) (S 85 p2) (S 86 p2) = sm_rl 1 (if p2 = p2 then 0 else S 82 p2) (if p2 = p2 then sm_lor (S 83 p2) (S 83 p1) else S 83 p2) (if p2 = p2 then sm_lor (S 84 p2) (S 84 p1) else S 84 p2) (S 85 p2) (S 86 p2) := congrArg (fun z_ : Int => sm_rl z_ (if p2 = p2 then 0 else S 82 p2) (if p2 = p2 then sm_lor (S 83 p2) (S 83 p1) else S 83 p2) (if p2 = p2 then sm_lor (S 84 p2) (S 84 p1) else S 84 p2) (S 85 p2) (S 86 p2)) (if_pos la_joinLabel_2)
            have e175_ : sm_rl 1 (if p2 = p2 then 0 else S 82 p2) (if p2 = p2 then sm_lor (S 83 p2) (S 83 p1) else S 83 p2) (if p2 = p2 then sm_lor (S 84 p2) (S 84 p1) else S 84 p2) (S 85 p2) (S 86 p2) = sm_rl 1 0 (if p2 = p2 then sm_lor (S 83 p2) (S 83 p1) else S 83 p2) (if p2 = p2 then sm_lor (S 84 p2) (S 84 p1) else S 84 p2) (S 85 p2) (S 86 p2) := congrArg (fun z_ : Int => sm_rl 1 z_ (if p2 = p2 then sm_lor (S 83 p2) (S 83 p1) else S 83 p2) (if p2 = p2 then sm_lor (S 84 p2) (S 84 p1) else S 84 p2) (S 85 p2) (S 86 p2)) (if_pos la_joinLabel_2)
            have e176_ : sm_rl 1 0 (if p2 = p2 then sm_lor (S 83 p2) (S 83 p1) else S 83 p2) (if p2 = p2 then sm_lor (S 84 p2) (S 84 p1) else S 84 p2) (S 85 p2) (S 86 p2) = sm_rl 1 0 (sm_lor (S 83 p2) (S 83 p1)) (if p2 = p2 then sm_lor (S 84 p2) (S 84 p1) else S 84 p2) (S 85 p2) (S 86 p2) := congrArg (fun z_ : Int => sm_rl 1 0 z_ (if p2 = p2 then sm_lor (S 84 p2) (S 84 p1) else S 84 p2) (S 85 p2) (S 86 p2)) (if_pos la_joinLabel_2)
            have e177_ : sm_rl 1 0 (sm_lor (S 83 p2) (S 83 p1)) (if p2 = p2 then sm_lor (S 84 p2) (S 84 p1) else S 84 p2) (S 85 p2) (S 86 p2) = sm_rl 1 0 (sm_lor (S 83 p2) (S 83 p1)) (sm_lor (S 84 p2) (S 84 p1)) (S 85 p2) (S 86 p2) := congrArg (fun z_ : Int => sm_rl 1 0 (sm_lor (S 83 p2) (S 83 p1)) z_ (S 85 p2) (S 86 p2)) (if_pos la_joinLabel_2)
            have e178_ : sm_rl (if p2 = p2 then 1 else S 81 p2) (if p2 = p2 then 0 else S 82 p2) (if p2 = p2 then sm_lor (S 83 p2) (S 83 p1) else S 83 p2) (if p2 = p2 then sm_lor (S 84 p2) (S 84 p1) else S 84 p2) (if p2 = p2 then sm_lor (S 85 p2) (S 85 p1) else S 85 p2) (sm_lor (S 86 p2) (S 86 p1)) = sm_rl 1 (if p2 = p2 then 0 else S 82 p2) (if p2 = p2 then sm_lor (S 83 p2) (S 83 p1) else S 83 p2) (if p2 = p2 then sm_lor (S 84 p2) (S 84 p1) else S 84 p2) (if p2 = p2 then sm_lor (S 85 p2) (S 85 p1) else S 85 p2) (sm_lor (S 86 p2) (S 86 p1)) := congrArg (fun z_ : Int => sm_rl z_ (if p2 = p2 then 0 else S 82 p2) (if p2 = p2 then sm_lor (S 83 p2) (S 83 p1) else S 83 p2) (if p2 = p2 then sm_lor (S 84 p2) (S 84 p1) else S 84 p2) (if p2 = p2 then sm_lor (S 85 p2) (S 85 p1) else S 85 p2) (sm_lor (S 86 p2) (S 86 p1))) (if_pos la_joinLabel_2)
            have e179_ : sm_rl 1 (if p2 = p2 then 0 else S 82 p2) (if p2 = p2 then sm_lor (S 83 p2) (S 83 p1) else S 83 p2) (if p2 = p2 then sm_lor (S 84 p2) (S 84 p1) else S 84 p2) (if p2 = p2 then sm_lor (S 85 p2) (S 85 p1) else S 85 p2) (sm_lor (S 86 p2) (S 86 p1)) = sm_rl 1 0 (if p2 = p2 then sm_lor (S 83 p2) (S 83 p1) else S 83 p2) (if p2 = p2 then sm_lor (S 84 p2) (S 84 p1) else S 84 p2) (if p2 = p2 then sm_lor (S 85 p2) (S 85 p1) else S 85 p2) (sm_lor (S 86 p2) (S 86 p1)) := congrArg (fun z_ : Int => sm_rl 1 z_ (if p2 = p2 then sm_lor (S 83 p2) (S 83 p1) else S 83 p2) (if p2 = p2 then sm_lor (S 84 p2) (S 84 p1) else S 84 p2) (if p2 = p2 then sm_lor (S 85 p2) (S 85 p1) else S 85 p2) (sm_lor (S 86 p2) (S 86 p1))) (if_pos la_joinLabel_2)
            have e180_ : sm_rl 1 0 (if p2 = p2 then sm_lor (S 83 p2) (S 83 p1) else S 83 p2) (if p2 = p2 then sm_lor (S 84 p2) (S 84 p1) else S 84 p2) (if p2 = p2 then sm_lor (S 85 p2) (S 85 p1) else S 85 p2) (sm_lor (S 86 p2) (S 86 p1)) = sm_rl 1 0 (sm_lor (S 83 p2) (S 83 p1)) (if p2 = p2 then sm_lor (S 84 p2) (S 84 p1) else S 84 p2) (if p2 = p2 then sm_lor (S 85 p2) (S 85 p1) else S 85 p2) (sm_lor (S 86 p2) (S 86 p1)) := congrArg (fun z_ : Int => sm_rl 1 0 z_ (if p2 = p2 then sm_lor (S 84 p2) (S 84 p1) else S 84 p2) (if p2 = p2 then sm_lor (S 85 p2) (S 85 p1) else S 85 p2) (sm_lor (S 86 p2) (S 86 p1))) (if_pos la_joinLabel_2)
            have e181_ : sm_rl 1 0 (sm_lor (S 83 p2) (S 83 p1)) (if p2 = p2 then sm_lor (S 84 p2) (S 84 p1) else S 84 p2) (if p2 = p2 then sm_lor (S 85 p2) (S 85 p1) else S 85 p2) (sm_lor (S 86 p2) (S 86 p1)) = sm_rl 1 0 (sm_lor (S 83 p2) (S 83 p1)) (sm_lor (S 84 p2) (S 84 p1)) (if p2 = p2 then sm_lor (S 85 p2) (S 85 p1) else S 85 p2) (sm_lor (S 86 p2) (S 86 p1)) := congrArg (fun z_ : Int => sm_rl 1 0 (sm_lor (S 83 p2) (S 83 p1)) z_ (if p2 = p2 then sm_lor (S 85 p2) (S 85 p1) else S 85 p2) (sm_lor (S 86 p2) (S 86 p1))) (if_pos la_joinLabel_2)
            have e182_ : sm_rl 1 0 (sm_lor (S 83 p2) (S 83 p1)) (sm_lor (S 84 p2) (S 84 p1)) (if p2 = p2 then sm_lor (S 85 p2) (S 85 p1) else S 85 p2) (sm_lor (S 86 p2) (S 86 p1)) = sm_rl 1 0 (sm_lor (S 83 p2) (S 83 p1)) (sm_lor (S 84 p2) (S 84 p1)) (sm_lor (S 85 p2) (S 85 p1)) (sm_lor (S 86 p2) (S 86 p1)) := congrArg (fun z_ : Int => sm_rl 1 0 (sm_lor (S 83 p2) (S 83 p1)) (sm_lor (S 84 p2) (S 84 p1)) z_ (sm_lor (S 86 p2) (S 86 p1))) (if_pos la_joinLabel_2)
            have e183_ : sm_rl (if p2 = p2 then 1 else S 81 p2) (if p2 = p2 then 0 else S 82 p2) (if p2 = p2 then sm_lor (S 83 p2) (S 83 p1) else S 83 p2) (if p2 = p2 then sm_lor (S 84 p2) (S 84 p1) else S 84 p2) (if p2 = p2 then sm_lor (S 85 p2) (S 85 p1) else S 85 p2) (S 86 p2) = sm_rl 1 (if p2 = p2 then 0 else S 82 p2) (if p2 = p2 then sm_lor (S 83 p2) (S 83 p1) else S 83 p2) (if p2 = p2 then sm_lor (S 84 p2) (S 84 p1) else S 84 p2) (if p2 = p2 then sm_lor (S 85 p2) (S 85 p1) else S 85 p2) (S 86 p2) := congrArg (fun z_ : Int => sm_rl z_ (if p2 = p2 then 0 else S 82 p2) (if p2 = p2 then sm_lor (S 83 p2) (S 83 p1) else S 83 p2) (if p2 = p2 then sm_lor (S 84 p2) (S 84 p1) else S 84 p2) (if p2 = p2 then sm_lor (S 85 p2) (S 85 p1) else S 85 p2) (S 86 p2)) (if_pos la_joinLabel_2)
            have e184_ : sm_rl 1 (if p2 = p2 then 0 else S 82 p2) (if p2 = p2 then sm_lor (S 83 p2) (S 83 p1) else S 83 p2) (if p2 = p2 then sm_lor (S 84 p2) (S 84 p1) else S 84 p2) (if p2 = p2 then sm_lor (S 85 p2) (S 85 p1) else S 85 p2) (S 86 p2) = sm_rl 1 0 (if p2 = p2 then sm_lor (S 83 p2) (S 83 p1) else S 83 p2) (if p2 = p2 then sm_lor (S 84 p2) (S 84 p1) else S 84 p2) (if p2 = p2 then sm_lor (S 85 p2) (S 85 p1) else S 85 p2) (S 86 p2) := congrArg (fun z_ : Int => sm_rl 1 z_ (if p2 = p2 then sm_lor (S 83 p2) (S 83 p1) else S 83 p2) (if p2 = p2 then sm_lor (S 84 p2) (S 84 p1) else S 84 p2) (if p2 = p2 then sm_lor (S 85 p2) (S 85 p1) else S 85 p2) (S 86 p2)) (if_pos la_joinLabel_2)
            have e185_ : sm_rl 1 0 (if p2 = p2 then sm_lor (S 83 p2) (S 83 p1) else S 83 p2) (if p2 = p2 then sm_lor (S 84 p2) (S 84 p1) else S 84 p2) (if p2 = p2 then sm_lor (S 85 p2) (S 85 p1) else S 85 p2) (S 86 p2) = sm_rl 1 0 (sm_lor (S 83 p2) (S 83 p1)) (if p2 = p2 then sm_lor (S 84 p2) (S 84 p1) else S 84 p2) (if p2 = p2 then sm_lor (S 85 p2) (S 85 p1) else S 85 p2) (S 86 p2) := congrArg (fun z_ : Int => sm_rl 1 0 z_ (if p2 = p2 then sm_lor (S 84 p2) (S 84 p1) else S 84 p2) (if p2 = p2 then sm_lor (S 85 p2) (S 85 p1) else S 85 p2) (S 86 p2)) (if_pos la_joinLabel_2)
            have e186_ : sm_rl 1 0 (sm_lor (S 83 p2) (S 83 p1)) (if p2 = p2 then sm_lor (S 84 p2) (S 84 p1) else S 84 p2) (if p2 = p2 then sm_lor (S 85 p2) (S 85 p1) else S 85 p2) (S 86 p2) = sm_rl 1 0 (sm_lor (S 83 p2) (S 83 p1)) (sm_lor (S 84 p2) (S 84 p1)) (if p2 = p2 then sm_lor (S 85 p2) (S 85 p1) else S 85 p2) (S 86 p2) := congrArg (fun z_ : Int => sm_rl 1 0 (sm_lor (S 83 p2) (S 83 p1)) z_ (if p2 = p2 then sm_lor (S 85 p2) (S 85 p1) else S 85 p2) (S 86 p2)) (if_pos la_joinLabel_2)
            have e187_ : sm_rl 1 0 (sm_lor (S 83 p2) (S 83 p1)) (sm_lor (S 84 p2) (S 84 p1)) (if p2 = p2 then sm_lor (S 85 p2) (S 85 p1) else S 85 p2) (S 86 p2) = sm_rl 1 0 (sm_lor (S 83 p2) (S 83 p1)) (sm_lor (S 84 p2) (S 84 p1)) (sm_lor (S 85 p2) (S 85 p1)) (S 86 p2) := congrArg (fun z_ : Int => sm_rl 1 0 (sm_lor (S 83 p2) (S 83 p1)) (sm_lor (S 84 p2) (S 84 p1)) z_ (S 86 p2)) (if_pos la_joinLabel_2)
            have e188_ : sm_rl (if p2 = p2 then 1 else S 81 p2) (if p2 = p2 then 0 else S 82 p2) (sm_lor (S 83 p2) (S 83 p1)) (sm_lor (S 84 p2) (S 84 p1)) (sm_lor (S 85 p2) (S 85 p1)) (sm_lor (S 86 p2) (S 86 p1)) = sm_rl 1 (if p2 = p2 then 0 else S 82 p2) (sm_lor (S 83 p2) (S 83 p1)) (sm_lor (S 84 p2) (S 84 p1)) (sm_lor (S 85 p2) (S 85 p1)) (sm_lor (S 86 p2) (S 86 p1)) := congrArg (fun z_ : Int => sm_rl z_ (if p2 = p2 then 0 else S 82 p2) (sm_lor (S 83 p2) (S 83 p1)) (sm_lor (S 84 p2) (S 84 p1)) (sm_lor (S 85 p2) (S 85 p1)) (sm_lor (S 86 p2) (S 86 p1))) (if_pos la_joinLabel_2)
            have e189_ : sm_rl 1 (if p2 = p2 then 0 else S 82 p2) (sm_lor (S 83 p2) (S 83 p1)) (sm_lor (S 84 p2) (S 84 p1)) (sm_lor (S 85 p2) (S 85 p1)) (sm_lor (S 86 p2) (S 86 p1)) = sm_rl 1 0 (sm_lor (S 83 p2) (S 83 p1)) (sm_lor (S 84 p2) (S 84 p1)) (sm_lor (S 85 p2) (S 85 p1)) (sm_lor (S 86 p2) (S 86 p1)) := congrArg (fun z_ : Int => sm_rl 1 z_ (sm_lor (S 83 p2) (S 83 p1)) (sm_lor (S 84 p2) (S 84 p1)) (sm_lor (S 85 p2) (S 85 p1)) (sm_lor (S 86 p2) (S 86 p1))) (if_pos la_joinLabel_2)
            have e190_ : (if p2 = p2 then sm_lor (S 84 p2) (S 84 p1) else S 84 p2 : Int) = sm_lor (S 84 p2) (S 84 p1) := if_pos la_joinLabel_2
            have e191_ : (if p2 = p2 then sm_lor (S 83 p2) (S 83 p1) else S 83 p2 : Int) = sm_lor (S 83 p2) (S 83 p1) := if_pos la_joinLabel_2
            have e192_ : (if p2 = p2 then sm_lor (S 85 p2) (S 85 p1) else S 85 p2 : Int) = sm_lor (S 85 p2) (S 85 p1) := if_pos la_joinLabel_2
            exact (la_joinLabel_9 h10_ h13_ h15_ h16_ (la_joinLabel_1 h17_ h19_) h109_ h123_ h125_ h127_ h129_ h139_ e152_ e153_ e154_ e155_ e156_ e157_ e158_ e159_ e160_ e161_ e162_ e163_ e164_ e165_ e166_ e167_ e168_ e169_ e170_ e171_ e172_ e173_ e174_ e175_ e176_ e177_ e178_ e179_ e180_ e181_ e182_ e183_ e184_ e185_ e186_ e187_ e188_ e189_)
          intro h193_
          intro h194_
          intro h195_
          intro h196_
          intro h197_
          intro h198_
          intro h199_
          intro h200_
          intro h201_
          intro h202_
          intro h203_
          intro h204_
          intro h205_
          intro h206_
          have h207_ := (h206_ h194_)
          intro h208_
          have h209_ := (h208_ h197_)
          intro h210_
          have h211_ := (h210_ h200_)
          intro h212_
          have h213_ := (h212_ h203_)
          intro h214_
          have e215_ : (if p2 = p2 then 1 else S 82 p2 : Int) = 1 := if_pos la_joinLabel_2
          have e216_ : (if p2 = p2 then 1 else S 81 p2 : Int) = 1 := if_pos la_joinLabel_2
          have h217_ := (h214_ (la_joinLabel_3 h18_ e216_))
          have h218_ := (h217_ (la_joinLabel_10 h106_ e215_))
          have h219_ := (h218_ h194_)
          have h220_ := (h219_ h197_)
          have h221_ := (h220_ h200_)
          have h222_ := (h221_ h203_)
          have h223_ := (h222_ h15_)
          have h224_ := (h223_ (la_joinLabel_11 h106_ e215_))
          refine ⟨?_, ?_⟩
          · skip
            refine ⟨?_, ?_⟩
            · skip
              have e225_ : sm_rl (if p2 = p2 then 1 else S 81 p2) (if p2 = p2 then 1 else S 82 p2) (sm_lor (S 83 p2) (S 83 p1)) (sm_lor (S 84 p2) (S 84 p1)) (sm_lor (S 85 p2) (S 85 p1)) (sm_lor (S 86 p2) (S 86 p1)) = sm_rl 1 (if p2 = p2 then 1 else S 82 p2) (sm_lor (S 83 p2) (S 83 p1)) (sm_lor (S 84 p2) (S 84 p1)) (sm_lor (S 85 p2) (S 85 p1)) (sm_lor (S 86 p2) (S 86 p1)) := congrArg (fun z_ : Int => sm_rl z_ (if p2 = p2 then 1 else S 82 p2) (sm_lor (S 83 p2) (S 83 p1)) (sm_lor (S 84 p2) (S 84 p1)) (sm_lor (S 85 p2) (S 85 p1)) (sm_lor (S 86 p2) (S 86 p1))) (if_pos la_joinLabel_2)
              have e226_ : sm_rl 1 (if p2 = p2 then 1 else S 82 p2) (sm_lor (S 83 p2) (S 83 p1)) (sm_lor (S 84 p2) (S 84 p1)) (sm_lor (S 85 p2) (S 85 p1)) (sm_lor (S 86 p2) (S 86 p1)) = sm_rl 1 1 (sm_lor (S 83 p2) (S 83 p1)) (sm_lor (S 84 p2) (S 84 p1)) (sm_lor (S 85 p2) (S 85 p1)) (sm_lor (S 86 p2) (S 86 p1)) := congrArg (fun z_ : Int => sm_rl 1 z_ (sm_lor (S 83 p2) (S 83 p1)) (sm_lor (S 84 p2) (S 84 p1)) (sm_lor (S 85 p2) (S 85 p1)) (sm_lor (S 86 p2) (S 86 p1))) (if_pos la_joinLabel_2)
              exact (la_joinLabel_4 h15_)
            have e227_ : sm_rl (if p2 = p2 then 1 else S 81 p2) (if p2 = p2 then 1 else S 82 p2) (sm_lor (S 83 p2) (S 83 p1)) (sm_lor (S 84 p2) (S 84 p1)) (sm_lor (S 85 p2) (S 85 p1)) (sm_lor (S 86 p2) (S 86 p1)) = sm_rl 1 (if p2 = p2 then 1 else S 82 p2) (sm_lor (S 83 p2) (S 83 p1)) (sm_lor (S 84 p2) (S 84 p1)) (sm_lor (S 85 p2) (S 85 p1)) (sm_lor (S 86 p2) (S 86 p1)) := congrArg (fun z_ : Int => sm_rl z_ (if p2 = p2 then 1 else S 82 p2) (sm_lor (S 83 p2) (S 83 p1)) (sm_lor (S 84 p2) (S 84 p1)) (sm_lor (S 85 p2) (S 85 p1)) (sm_lor (S 86 p2) (S 86 p1))) (if_pos la_joinLabel_2)
            have e228_ : sm_rl 1 (if p2 = p2 then 1 else S 82 p2) (sm_lor (S 83 p2) (S 83 p1)) (sm_lor (S 84 p2) (S 84 p1)) (sm_lor (S 85 p2) (S 85 p1)) (sm_lor (S 86 p2) (S 86 p1)) = sm_rl 1 1 (sm_lor (S 83 p2) (S 83 p1)) (sm_lor (S 84 p2) (S 84 p1)) (sm_lor (S 85 p2) (S 85 p1)) (sm_lor (S 86 p2) (S 86 p1)) := congrArg (fun z_ : Int => sm_rl 1 z_ (sm_lor (S 83 p2) (S 83 p1)) (sm_lor (S 84 p2) (S 84 p1)) (sm_lor (S 85 p2) (S 85 p1)) (sm_lor (S 86 p2) (S 86 p1))) (if_pos la_joinLabel_2)
            exact (la_joinLabel_5 h15_)
          refine ⟨?_, ?_⟩
          · skip
            intro h229_
            have e230_ : sm_pl (fun i' : Int => (if i' = p2 then 1 else (S 81) i')) (fun i' : Int => (if i' = p2 then 1 else (S 82) i')) (fun i' : Int => (if i' = p2 then sm_lor (S 83 p2) (S 83 p1) else (S 83) i')) (fun i' : Int => (if i' = p2 then sm_lor (S 84 p2) (S 84 p1) else (S 84) i')) (fun i' : Int => (if i' = p2 then sm_lor (S 85 p2) (S 85 p1) else (S 85) i')) (fun i' : Int => (if i' = p2 then sm_lor (S 86 p2) (S 86 p1) else (S 86) i')) = sm_pl (fun i' : Int => (if i' = p2 then 1 else (S 81) i')) (fun i' : Int => (if i' = p2 then 1 else (S 82) i')) (fun i' : Int => (if i' = p2 then sm_lor (S 83 p2) (S 83 p1) else (S 83) i')) (fun i' : Int => (if i' = p2 then sm_lor (S 84 p2) (S 84 p1) else (S 84) i')) (fun i' : Int => (if i' = p2 then sm_lor (S 85 p2) (S 85 p1) else (S 85) i')) (S 86) := sm_pl_D h229_
            have e231_ : sm_pl (fun i' : Int => (if i' = p2 then 1 else (S 81) i')) (fun i' : Int => (if i' = p2 then 1 else (S 82) i')) (fun i' : Int => (if i' = p2 then sm_lor (S 83 p2) (S 83 p1) else (S 83) i')) (fun i' : Int => (if i' = p2 then sm_lor (S 84 p2) (S 84 p1) else (S 84) i')) (fun i' : Int => (if i' = p2 then sm_lor (S 85 p2) (S 85 p1) else (S 85) i')) (S 86) = sm_pl (fun i' : Int => (if i' = p2 then 1 else (S 81) i')) (fun i' : Int => (if i' = p2 then 1 else (S 82) i')) (fun i' : Int => (if i' = p2 then sm_lor (S 83 p2) (S 83 p1) else (S 83) i')) (fun i' : Int => (if i' = p2 then sm_lor (S 84 p2) (S 84 p1) else (S 84) i')) (S 85) (S 86) := sm_pl_C h229_
            have e232_ : sm_pl (fun i' : Int => (if i' = p2 then 1 else (S 81) i')) (fun i' : Int => (if i' = p2 then 1 else (S 82) i')) (fun i' : Int => (if i' = p2 then sm_lor (S 83 p2) (S 83 p1) else (S 83) i')) (fun i' : Int => (if i' = p2 then sm_lor (S 84 p2) (S 84 p1) else (S 84) i')) (S 85) (S 86) = sm_pl (fun i' : Int => (if i' = p2 then 1 else (S 81) i')) (fun i' : Int => (if i' = p2 then 1 else (S 82) i')) (fun i' : Int => (if i' = p2 then sm_lor (S 83 p2) (S 83 p1) else (S 83) i')) (S 84) (S 85) (S 86) := sm_pl_B h229_
            have e233_ : sm_pl (fun i' : Int => (if i' = p2 then 1 else (S 81) i')) (fun i' : Int => (if i' = p2 then 1 else (S 82) i')) (fun i' : Int => (if i' = p2 then sm_lor (S 83 p2) (S 83 p1) else (S 83) i')) (S 84) (S 85) (S 86) = sm_pl (fun i' : Int => (if i' = p2 then 1 else (S 81) i')) (fun i' : Int => (if i' = p2 then 1 else (S 82) i')) (S 83) (S 84) (S 85) (S 86) := sm_pl_A h229_
            have e234_ : sm_pl (fun i' : Int => (if i' = p2 then 1 else (S 81) i')) (fun i' : Int => (if i' = p2 then 1 else (S 82) i')) (S 83) (S 84) (S 85) (S 86) = sm_pl (fun i' : Int => (if i' = p2 then 1 else (S 81) i')) (S 82) (S 83) (S 84) (S 85) (S 86) := sm_pl_N h229_
            have e235_ : sm_pl (fun i' : Int => (if i' = p2 then 1 else (S 81) i')) (S 82) (S 83) (S 84) (S 85) (S 86) = sm_pl (S 81) (S 82) (S 83) (S 84) (S 85) (S 86) := sm_pl_T h229_
            exact (la_joinLabel_6 e230_ e231_ e232_ e233_ e234_ e235_)
          refine ⟨h15_, ?_⟩
          intro h236_
          have e237_ : sm_pl (fun i' : Int => (if i' = p2 then 1 else (S 81) i')) (fun i' : Int => (if i' = p2 then 1 else (S 82) i')) (fun i' : Int => (if i' = p2 then sm_lor (S 83 p2) (S 83 p1) else (S 83) i')) (fun i' : Int => (if i' = p2 then sm_lor (S 84 p2) (S 84 p1) else (S 84) i')) (fun i' : Int => (if i' = p2 then sm_lor (S 85 p2) (S 85 p1) else (S 85) i')) (fun i' : Int => (if i' = p2 then sm_lor (S 86 p2) (S 86 p1) else (S 86) i')) = sm_pl (fun i' : Int => (if i' = p2 then 1 else (S 81) i')) (fun i' : Int => (if i' = p2 then 1 else (S 82) i')) (fun i' : Int => (if i' = p2 then sm_lor (S 83 p2) (S 83 p1) else (S 83) i')) (fun i' : Int => (if i' = p2 then sm_lor (S 84 p2) (S 84 p1) else (S 84) i')) (fun i' : Int => (if i' = p2 then sm_lor (S 85 p2) (S 85 p1) else (S 85) i')) (S 86) + sm_rl (if p2 = p2 then 1 else S 81 p2) (if p2 = p2 then 1 else S 82 p2) (if p2 = p2 then sm_lor (S 83 p2) (S 83 p1) else S 83 p2) (if p2 = p2 then sm_lor (S 84 p2) (S 84 p1) else S 84 p2) (if p2 = p2 then sm_lor (S 85 p2) (S 85 p1) else S 85 p2) (S 86 p2) - sm_rl (if p2 = p2 then 1 else S 81 p2) (if p2 = p2 then 1 else S 82 p2) (if p2 = p2 then sm_lor (S 83 p2) (S 83 p1) else S 83 p2) (if p2 = p2 then sm_lor (S 84 p2) (S 84 p1) else S 84 p2) (if p2 = p2 then sm_lor (S 85 p2) (S 85 p1) else S 85 p2) (sm_lor (S 86 p2) (S 86 p1)) := sm_pl_D' h6_ h236_
          have e238_ : sm_pl (fun i' : Int => (if i' = p2 then 1 else (S 81) i')) (fun i' : Int => (if i' = p2 then 1 else (S 82) i')) (fun i' : Int => (if i' = p2 then sm_lor (S 83 p2) (S 83 p1) else (S 83) i')) (fun i' : Int => (if i' = p2 then sm_lor (S 84 p2) (S 84 p1) else (S 84) i')) (fun i' : Int => (if i' = p2 then sm_lor (S 85 p2) (S 85 p1) else (S 85) i')) (S 86) = sm_pl (fun i' : Int => (if i' = p2 then 1 else (S 81) i')) (fun i' : Int => (if i' = p2 then 1 else (S 82) i')) (fun i' : Int => (if i' = p2 then sm_lor (S 83 p2) (S 83 p1) else (S 83) i')) (fun i' : Int => (if i' = p2 then sm_lor (S 84 p2) (S 84 p1) else (S 84) i')) (S 85) (S 86) + sm_rl (if p2 = p2 then 1 else S 81 p2) (if p2 = p2 then 1 else S 82 p2) (if p2 = p2 then sm_lor (S 83 p2) (S 83 p1) else S 83 p2) (if p2 = p2 then sm_lor (S 84 p2) (S 84 p1) else S 84 p2) (S 85 p2) (S 86 p2) - sm_rl (if p2 = p2 then 1 else S 81 p2) (if p2 = p2 then 1 else S 82 p2) (if p2 = p2 then sm_lor (S 83 p2) (S 83 p1) else S 83 p2) (if p2 = p2 then sm_lor (S 84 p2) (S 84 p1) else S 84 p2) (sm_lor (S 85 p2) (S 85 p1)) (S 86 p2) := sm_pl_C' h6_ h236_
          have e239_ : sm_pl (fun i' : Int => (if i' = p2 then 1 else (S 81) i')) (fun i' : Int => (if i' = p2 then 1 else (S 82) i')) (fun i' : Int => (if i' = p2 then sm_lor (S 83 p2) (S 83 p1) else (S 83) i')) (fun i' : Int => (if i' = p2 then sm_lor (S 84 p2) (S 84 p1) else (S 84) i')) (S 85) (S 86) = sm_pl (fun i' : Int => (if i' = p2 then 1 else (S 81) i')) (fun i' : Int => (if i' = p2 then 1 else (S 82) i')) (fun i' : Int => (if i' = p2 then sm_lor (S 83 p2) (S 83 p1) else (S 83) i')) (S 84) (S 85) (S 86) + sm_rl (if p2 = p2 then 1 else S 81 p2) (if p2 = p2 then 1 else S 82 p2) (if p2 = p2 then sm_lor (S 83 p2) (S 83 p1) else S 83 p2) (S 84 p2) (S 85 p2) (S 86 p2) - sm_rl (if p2 = p2 then 1 else S 81 p2) (if p2 = p2 then 1 else S 82 p2) (if p2 = p2 then sm_lor (S 83 p2) (S 83 p1) else S 83 p2) (sm_lor (S 84 p2) (S 84 p1)) (S 85 p2) (S 86 p2) := sm_pl_B' h6_ h236_
          have e240_ : sm_pl (fun i' : Int => (if i' = p2 then 1 else (S 81) i')) (fun i' : Int => (if i' = p2 then 1 else (S 82) i')) (fun i' : Int => (if i' = p2 then sm_lor (S 83 p2) (S 83 p1) else (S 83) i')) (S 84) (S 85) (S 86) = sm_pl (fun i' : Int => (if i' = p2 then 1 else (S 81) i')) (fun i' : Int => (if i' = p2 then 1 else (S 82) i')) (S 83) (S 84) (S 85) (S 86) + sm_rl (if p2 = p2 then 1 else S 81 p2) (if p2 = p2 then 1 else S 82 p2) (S 83 p2) (S 84 p2) (S 85 p2) (S 86 p2) - sm_rl (if p2 = p2 then 1 else S 81 p2) (if p2 = p2 then 1 else S 82 p2) (sm_lor (S 83 p2) (S 83 p1)) (S 84 p2) (S 85 p2) (S 86 p2) := sm_pl_A' h6_ h236_
          have e241_ : sm_pl (fun i' : Int => (if i' = p2 then 1 else (S 81) i')) (fun i' : Int => (if i' = p2 then 1 else (S 82) i')) (S 83) (S 84) (S 85) (S 86) = sm_pl (fun i' : Int => (if i' = p2 then 1 else (S 81) i')) (S 82) (S 83) (S 84) (S 85) (S 86) + sm_rl (if p2 = p2 then 1 else S 81 p2) (S 82 p2) (S 83 p2) (S 84 p2) (S 85 p2) (S 86 p2) - sm_rl (if p2 = p2 then 1 else S 81 p2) 1 (S 83 p2) (S 84 p2) (S 85 p2) (S 86 p2) := sm_pl_N' h6_ h236_
          have e242_ : sm_pl (fun i' : Int => (if i' = p2 then 1 else (S 81) i')) (S 82) (S 83) (S 84) (S 85) (S 86) = sm_pl (S 81) (S 82) (S 83) (S 84) (S 85) (S 86) + sm_rl (S 81 p2) (S 82 p2) (S 83 p2) (S 84 p2) (S 85 p2) (S 86 p2) - sm_rl 1 (S 82 p2) (S 83 p2) (S 84 p2) (S 85 p2) (S 86 p2) := sm_pl_T' h6_ h236_
          have e243_ : sm_rl (if p2 = p2 then 1 else S 81 p2) 1 (S 83 p2) (S 84 p2) (S 85 p2) (S 86 p2) = sm_rl 1 1 (S 83 p2) (S 84 p2) (S 85 p2) (S 86 p2) := congrArg (fun z_ : Int => sm_rl z_ 1 (S 83 p2) (S 84 p2) (S 85 p2) (S 86 p2)) (if_pos la_joinLabel_2)
          have e244_ : sm_rl (if p2 = p2 then 1 else S 81 p2) (S 82 p2) (S 83 p2) (S 84 p2) (S 85 p2) (S 86 p2) = sm_rl 1 (S 82 p2) (S 83 p2) (S 84 p2) (S 85 p2) (S 86 p2) := congrArg (fun z_ : Int => sm_rl z_ (S 82 p2) (S 83 p2) (S 84 p2) (S 85 p2) (S 86 p2)) (if_pos la_joinLabel_2)
          have e245_ : sm_rl (if p2 = p2 then 1 else S 81 p2) (if p2 = p2 then 1 else S 82 p2) (sm_lor (S 83 p2) (S 83 p1)) (S 84 p2) (S 85 p2) (S 86 p2) = sm_rl 1 (if p2 = p2 then 1 else S 82 p2) (sm_lor (S 83 p2) (S 83 p1)) (S 84 p2) (S 85 p2) (S 86 p2) := congrArg (fun z_ : Int => sm_rl z_ (if p2 = p2 then 1 else S 82 p2) (sm_lor (S 83 p2) (S 83 p1)) (S 84 p2) (S 85 p2) (S 86 p2)) (if_pos la_joinLabel_2)
          have e246_ : sm_rl 1 (if p2 = p2 then 1 else S 82 p2) (sm_lor (S 83 p2) (S 83 p1)) (S 84 p2) (S 85 p2) (S 86 p2) = sm_rl 1 1 (sm_lor (S 83 p2) (S 83 p1)) (S 84 p2) (S 85 p2) (S 86 p2) := congrArg (fun z_ : Int => sm_rl 1 z_ (sm_lor (S 83 p2) (S 83 p1)) (S 84 p2) (S 85 p2) (S 86 p2)) (if_pos la_joinLabel_2)
          have e247_ : sm_rl (if p2 = p2 then 1 else S 81 p2) (if p2 = p2 then 1 else S 82 p2) (S 83 p2) (S 84 p2) (S 85 p2) (S 86 p2) = sm_rl 1 (if p2 = p2 then 1 else S 82 p2) (S 83 p2) (S 84 p2) (S 85 p2) (S 86 p2) := congrArg (fun z_ : Int => sm_rl z_ (if p2 = p2 then 1 else S 82 p2) (S 83 p2) (S 84 p2) (S 85 p2) (S 86 p2)) (if_pos la_joinLabel_2)
          have e248_ : sm_rl 1 (if p2 = p2 then 1 else S 82 p2) (S 83 p2) (S 84 p2) (S 85 p2) (S 86 p2) = sm_rl 1 1 (S 83 p2) (S 84 p2) (S 85 p2) (S 86 p2) := congrArg (fun z_ : Int => sm_rl 1 z_ (S 83 p2) (S 84 p2) (S 85 p2) (S 86 p2)) (if_pos la_joinLabel_2)
          have e249_ : sm_rl (if p2 = p2 then 1 else S 81 p2) (if p2 = p2 then 1 else S 82 p2) (if p2 = p2 then sm_lor (S 83 p2) (S 83 p1) else S 83 p2) (sm_lor (S 84 p2) (S 84 p1)) (S 85 p2) (S 86 p2) = sm_rl 1 (if p2 = p2 then 1 else S 82 p2) (if p2 = p2 then sm_lor (S 83 p2) (S 83 p1) else S 83 p2) (sm_lor (S 84 p2) (S 84 p1)) (S 85 p2) (S 86 p2) := congrArg (fun z_ : Int => sm_rl z_ (if p2 = p2 then 1 else S 82 p2) (if p2 = p2 then sm_lor (S 83 p2) (S 83 p1) else S 83 p2) (sm_lor (S 84 p2) (S 84 p1)) (S 85 p2) (S 86 p2)) (if_pos la_joinLabel_2)
          have e250_ : sm_rl 1 (if p2 = p2 then 1 else S 82 p2) (if p2 = p2 then sm_lor (S 83 p2) (S 83 p1) else S 83 p2) (sm_lor (S 84 p2) (S 84 p1)) (S 85 p2) (S 86 p2) = sm_rl 1 1 (if p2 = p2 then sm_lor (S 83 p2) (S 83 p1) else S 83 p2) (sm_lor (S 84 p2) (S 84 p1)) (S 85 p2) (S 86 p2) := congrArg (fun z_ : Int => sm_rl 1 z_ (if p2 = p2 then sm_lor (S 83 p2) (S 83 p1) else S 83 p2) (sm_lor (S 84 p2) (S 84 p1)) (S 85 p2) (S 86 p2)) (if_pos la_joinLabel_2)
          have e251_ : sm_rl 1 1 (if p2 = p2 then sm_lor (S 83 p2) (S 83 p1) else S 83 p2) (sm_lor (S 84 p2) (S 84 p1)) (S 85 p2) (S 86 p2) = sm_rl 1 1 (sm_lor (S 83 p2) (S 83 p1)) (sm_lor (S 84 p2) (S 84 p1)) (S 85 p2) (S 86 p2) := congrArg (fun z_ : Int => sm_rl 1 1 z_ (sm_lor (S 84 p2) (S 84 p1)) (S 85 p2) (S 86 p2)) (if_pos la_joinLabel_2)
          have e252_ : sm_rl (if p2 = p2 then 1 else S 81 p2) (if p2 = p2 then 1 else S 82 p2) (if p2 = p2 then sm_lor (S 83 p2) (S 83 p1) else S 83 p2) (S 84 p2) (S 85 p2) (S 86 p2) = sm_rl 1 (if p2 = p2 then 1 else S 82 p2) (if p2 = p2 then sm_lor (S 83 p2) (S 83 p1) else S 83 p2) (S 84 p2) (S 85 p2) (S 86 p2) := congrArg (fun z_ : Int => sm_rl z_ (if p2 = p2 then 1 else S 82 p2) (if p2 = p2 then sm_lor (S 83 p2) (S 83 p1) else S 83 p2) (S 84 p2) (S 85 p2) (S 86 p2)) (if_pos la_joinLabel_2)
          have e253_ : sm_rl 1 (if p2 = p2 then 1 else S 82 p2) (if p2 = p2 then sm_lor (S 83 p2) (S 83 p1) else S 83 p2) (S 84 p2) (S 85 p2) (S 86 p2) = sm_rl 1 1 (if p2 = p2 then sm_lor (S 83 p2) (S 83 p1) else S 83 p2) (S 84 p2) (S 85 p2) (S 86 p2) := congrArg (fun z_ : Int => sm_rl 1 z_ (if p2 = p2 then sm_lor (S 83 p2) (S 83 p1) else S 83 p2) (S 84 p2) (S 85 p2) (S 86 p2)) (if_pos la_joinLabel_2)
          have e254_ : sm_rl 1 1 (if p2 = p2 then sm_lor (S 83 p2) (S 83 p1) else S 83 p2) (S 84 p2) (S 85 p2) (S 86 p2) = sm_rl 1 1 (sm_lor (S 83 p2) (S 83 p1)) (S 84 p2) (S 85 p2) (S 86 p2) := congrArg (fun z_ : Int => sm_rl 1 1 z_ (S 84 p2) (S 85 p2) (S 86 p2)) (if_pos la_joinLabel_2)
          have e255_ : sm_rl (if p2 = p2 then 1 else S 81 p2) (if p2 = p2 then 1 else S 82 p2) (if p2 = p2 then sm_lor (S 83 p2) (S 83 p1) else S 83 p2) (if p2 = p2 then sm_lor (S 84 p2) (S 84 p1) else S 84 p2) (sm_lor (S 85 p2) (S 85 p1)) (S 86 p2) = sm_rl 1 (if p2 = p2 then 1 else S 82 p2) (if p2 = p2 then sm_lor (S 83 p2) (S 83 p1) else S 83 p2) (if p2 = p2 then sm_lor (S 84 p2) (S 84 p1) else S 84 p2) (sm_lor (S 85 p2) (S 85 p1)) (S 86 p2) := congrArg (fun z_ : Int => sm_rl z_ (if p2 = p2 then 1 else S 82 p2) (if p2 = p2 then sm_lor (S 83 p2) (S 83 p1) else S 83 p2) (if p2 = p2 then sm_lor (S 84 p2) (S 84 p1) else S 84 p2) (sm_lor (S 85 p2) (S 85 p1)) (S 86 p2)) (if_pos la_joinLabel_2)
          have e256_ : sm_rl 1 (if p2 = p2 then 1 else S 82 p2) (if p2 = p2 then sm_lor (S 83 p2) (S 83 p1) else S 83 p2) (if p2 = p2 then sm_lor (S 84 p2) (S 84 p1) else S 84 p2) (sm_lor (S 85 p2) (S 85 p1)) (S 86 p2) = sm_rl 1 1 (if p2 = p2 then sm_lor (S 83 p2) (S 83 p1) else S 83 p2) (if p2 = p2 then sm_lor (S 84 p2) (S 84 p1) else S 84 p2) (sm_lor (S 85 p2) (S 85 p1)) (S 86 p2) := congrArg (fun z_ : Int => sm_rl 1 z_ (if p2 = p2 then sm_lor (S 83 p2) (S 83 p1) else S 83 p2) (if p2 = p2 then sm_lor (S 84 p2) (S 84 p1) else S 84 p2) (sm_lor (S 85 p2) (S 85 p1)) (S 86 p2)) (if_pos la_joinLabel_2)
          have e257_ : sm_rl 1 1 (if p2 = p2 then sm_lor (S 83 p2) (S 83 p1) else S 83 p2) (if p2 = p2 then sm_lor (S 84 p2) (S 84 p1) else S 84 p2) (sm_lor (S 85 p2) (S 85 p1)) (S 86 p2) = sm_rl 1 1 (sm_lor (S 83 p2) (S 83 p1)) (if p2 = p2 then sm_lor (S 84 p2) (S 84 p1) else S 84 p2) (sm_lor (S 85 p2) (S 85 p1)) (S 86 p2) := congrArg (fun z_ : Int => sm_rl 1 1 z_ (if p2 = p2 then sm_lor (S 84 p2) (S 84 p1) else S 84 p2) (sm_lor (S 85 p2) (S 85 p1)) (S 86 p2)) (if_pos la_joinLabel_2)
          have e258_ : sm_rl 1 1 (sm_lor (S 83 p2) (S 83 p1)) (if p2 = p2 then sm_lor (S 84 p2) (S 84 p1) else S 84 p2) (sm_lor (S 85 p2) (S 85 p1)) (S 86 p2) = sm_rl 1 1 (sm_lor (S 83 p2) (S 83 p1)) (sm_lor (S 84 p2) (S 84 p1)) (sm_lor (S 85 p2) (S 85 p1)) (S 86 p2) := congrArg (fun z_ : Int => sm_rl 1 1 (sm_lor (S 83 p2) (S 83 p1)) z_ (sm_lor (S 85 p2) (S 85 p1)) (S 86 p2)) (if_pos la_joinLabel_2)
          have e259_ : sm_rl (if p2 = p2 then 1 else S 81 p2) (if p2 = p2 then 1 else S 82 p2) (if p2 = p2 then sm_lor (S 83 p2) (S 83 p1) else S 83 p2) (if p2 = p2 then sm_lor (S 84 p2) (S 84 p1) else S 84 p2) (S 85 p2) (S 86 p2) = sm_rl 1 (if p2 = p2 then 1 else S 82 p2) (if p2 = p2 then sm_lor (S 83 p2) (S 83 p1) else S 83 p2) (if p2 = p2 then sm_lor (S 84 p2) (S 84 p1) else S 84 p2) (S 85 p2) (S 86 p2) := congrArg (fun z_ : Int => sm_rl z_ (if p2 = p2 then 1 else S 82 p2) (if p2 = p2 then sm_lor (S 83 p2) (S 83 p1) else S 83 p2) (if p2 = p2 then sm_lor (S 84 p2) (S 84 p1) else S 84 p2) (S 85 p2) (S 86 p2)) (if_pos la_joinLabel_2)
          have e260_ : sm_rl 1 (if p2 = p2 then 1 else S 82 p2) (if p2 = p2 then sm_lor (S 83 p2) (S 83 p1) else S 83 p2) (if p2 = p2 then sm_lor (S 84 p2) (S 84 p1) else S 84 p2) (S 85 p2) (S 86 p2) = sm_rl 1 1 (if p2 = p2 then sm_lor (S 83 p2) (S 83 p1) else S 83 p2) (if p2 = p2 then sm_lor (S 84 p2) (S 84 p1) else S 84 p2) (S 85 p2) (S 86 p2) := congrArg (fun z_ : Int => sm_rl 1 z_ (if p2 = p2 then sm_lor (S 83 p2) (S 83 p1) else S 83 p2) (if p2 = p2 then sm_lor (S 84 p2) (S 84 p1) else S 84 p2) (S 85 p2) (S 86 p2)) (if_pos la_joinLabel_2)
          have e261_ : sm_rl 1 1 (if p2 = p2 then sm_lor (S 83 p2) (S 83 p1) else S 83 p2) (if p2 = p2 then sm_lor (S 84 p2) (S 84 p1) else S 84 p2) (S 85 p2) (S 86 p2) = sm_rl 1 1 (sm_lor (S 83 p2) (S 83 p1)) (if p2 = p2 then sm_lor (S 84 p2) (S 84 p1) else S 84 p2) (S 85 p2) (S 86 p2) := congrArg (fun z_ : Int => sm_rl 1 1 z_ (if p2 = p2 then sm_lor (S 84 p2) (S 84 p1) else S 84 p2) (S 85 p2) (S 86 p2)) (if_pos la_joinLabel_2)
          have e262_ : sm_rl 1 1 (sm_lor (S 83 p2) (S 83 p1)) (if p2 = p2 then sm_lor (S 84 p2) (S 84 p1) else S 84 p2) (S 85 p2) (S 86 p2) = sm_rl 1 1 (sm_lor (S 83 p2) (S 83 p1)) (sm_lor (S 84 p2) (S 84 p1)) (S 85 p2) (S 86 p2) := congrArg (fun z_ : Int => sm_rl 1 1 (sm_lor (S 83 p2) (S 83 p1)) z_ (S 85 p2) (S 86 p2)) (if_pos la_joinLabel_2)
          have e263_ : sm_rl (if p2 = p2 then 1 else S 81 p2) (if p2 = p2 then 1 else S 82 p2) (if p2 = p2 then sm_lor (S 83 p2) (S 83 p1) else S 83 p2) (if p2 = p2 then sm_lor (S 84 p2) (S 84 p1) else S 84 p2) (if p2 = p2 then sm_lor (S 85 p2) (S 85 p1) else S 85 p2) (sm_lor (S 86 p2) (S 86 p1)) = sm_rl 1 (if p2 = p2 then 1 else S 82 p2) (if p2 = p2 then sm_lor (S 83 p2) (S 83 p1) else S 83 p2) (if p2 = p2 then sm_lor (S 84 p2) (S 84 p1) else S 84 p2) (if p2 = p2 then sm_lor (S 85 p2) (S 85 p1) else S 85 p2) (sm_lor (S 86 p2) (S 86 p1)) := congrArg (fun z_ : Int => sm_rl z_ (if p2 = p2 then 1 else S 82 p2) (if p2 = p2 then sm_lor (S 83 p2) (S 83 p1) else S 83 p2) (if p2 = p2 then sm_lor (S 84 p2) (S 84 p1) else S 84 p2) (if p2 = p2 then sm_lor (S 85 p2) (S 85 p1) else S 85 p2) (sm_lor (S 86 p2) (S 86 p1))) (if_pos la_joinLabel_2)
          have e264_ : sm_rl 1 (if p2 = p2 then 1 else S 82 p2) (if p2 = p2 then sm_lor (S 83 p2) (S 83 p1) else S 83 p2) (if p2 = p2 then sm_lor (S 84 p2) (S 84 p1) else S 84 p2) (if p2 = p2 then sm_lor (S 85 p2) (S 85 p1) else S 85 p2) (sm_lor (S 86 p2) (S 86 p1)) = sm_rl 1 1 (if p2 = p2 then sm_lor (S 83 p2) (S 83 p1) else S 83 p2) (if p2 = p2 then sm_lor (S 84 p2) (S 84 p1) else S 84 p2) (if p2 = p2 then sm_lor (S 85 p2) (S 85 p1) else S 85 p2) (sm_lor (S 86 p2) (S 86 p1)) := congrArg (fun z_ : Int => sm_rl 1 z_ (if p2 = p2 then sm_lor (S 83 p2) (S 83 p1) else S 83 p2) (if p2 = p2 then sm_lor (S 84 p2) (S 84 p1) else S 84 p2) (if p2 = p2 then sm_lor (S 85 p2) (S 85 p1) else S 85 p2) (sm_lor (S 86 p2) (S 86 p1))) (if_pos la_joinLabel_2)
          have e265_ : sm_rl 1 1 (if p2 = p2 then sm_lor (S 83 p2) (S 83 p1) else S 83 p2) (if p2 = p2 then sm_lor (S 84 p2) (S 84 p1) else S 84 p2) (if p2 = p2 then sm_lor (S 85 p2) (S 85 p1) else S 85 p2) (sm_lor (S 86 p2) (S 86 p1)) = sm_rl 1 1 (sm_lor (S 83 p2) (S 83 p1)) (if p2 = p2 then sm_lor (S 84 p2) (S 84 p1) else S 84 p2) (if p2 = p2 then sm_lor (S 85 p2) (S 85 p1) else S 85 p2) (sm_lor (S 86 p2) (S 86 p1)) := congrArg (fun z_ : Int => sm_rl 1 1 z_ (if p2 = p2 then sm_lor (S 84 p2) (S 84 p1) else S 84 p2) (if p2 = p2 then sm_lor (S 85 p2) (S 85 p1) else S 85 p2) (sm_lor (S 86 p2) (S 86 p1))) (if_pos la_joinLabel_2)
          have e266_ : sm_rl 1 1 (sm_lor (S 83 p2) (S 83 p1)) (if p2 = p2 then sm_lor (S 84 p2) (S 84 p1) else S 84 p2) (if p2 = p2 then sm_lor (S 85 p2) (S 85 p1) else S 85 p2) (sm_lor (S 86 p2) (S 86 p1)) = sm_rl 1 1 (sm_lor (S 83 p2) (S 83 p1)) (sm_lor (S 84 p2) (S 84 p1)) (if p2 = p2 then sm_lor (S 85 p2) (S 85 p1) else S 85 p2) (sm_lor (S 86 p2) (S 86 p1)) := congrArg (fun z_ : Int => sm_rl 1 1 (sm_lor (S 83 p2) (S 83 p1)) z_ (if p2 = p2 then sm_lor (S 85 p2) (S 85 p1) else S 85 p2) (sm_lor (S 86 p2) (S 86 p1))) (if_pos la_joinLabel_2)
          have e267_ : sm_rl 1 1 (sm_lor (S 83 p2) (S 83 p1)) (sm_lor (S 84 p2) (S 84 p1)) (if p2 = p2 then sm_lor (S 85 p2) (S 85 p1) else S 85 p2) (sm_lor (S 86 p2) (S 86 p1)) = sm_rl 1 1 (sm_lor (S 83 p2) (S 83 p1)) (sm_lor (S 84 p2) (S 84 p1)) (sm_lor (S 85 p2) (S 85 p1)) (sm_lor (S 86 p2) (S 86 p1)) := congrArg (fun z_ : Int => sm_rl 1 1 (sm_lor (S 83 p2) (S 83 p1)) (sm_lor (S 84 p2) (S 84 p1)) z_ (sm_lor (S 86 p2) (S 86 p1))) (if_pos la_joinLabel_2)
          have e268_ : sm_rl (if p2 = p2 then 1 else S 81 p2) (if p2 = p2 then 1 else S 82 p2) (if p2 = p2 then sm_lor (S 83 p2) (S 83 p1) else S 83 p2) (if p2 = p2 then sm_lor (S 84 p2) (S 84 p1) else S 84 p2) (if p2 = p2 then sm_lor (S 85 p2) (S 85 p1) else S 85 p2) (S 86 p2) = sm_rl 1 (if p2 = p2 then 1 else S 82 p2) (if p2 = p2 then sm_lor (S 83 p2) (S 83 p1) else S 83 p2) (if p2 = p2 then sm_lor (S 84 p2) (S 84 p1) else S 84 p2) (if p2 = p2 then sm_lor (S 85 p2) (S 85 p1) else S 85 p2) (S 86 p2) := congrArg (fun z_ : Int => sm_rl z_ (if p2 = p2 then 1 else S 82 p2) (if p2 = p2 then sm_lor (S 83 p2) (S 83 p1) else S 83 p2) (if p2 = p2 then sm_lor (S 84 p2) (S 84 p1) else S 84 p2) (if p2 = p2 then sm_lor (S 85 p2) (S 85 p1) else S 85 p2) (S 86 p2)) (if_pos la_joinLabel_2)
          have e269_ : sm_rl 1 (if p2 = p2 then 1 else S 82 p2) (if p2 = p2 then sm_lor (S 83 p2) (S 83 p1) else S 83 p2) (if p2 = p2 then sm_lor (S 84 p2) (S 84 p1) else S 84 p2) (if p2 = p2 then sm_lor (S 85 p2) (S 85 p1) else S 85 p2) (S 86 p2) = sm_rl 1 1 (if p2 = p2 then sm_lor (S 83 p2) (S 83 p1) else S 83 p2) (if p2 = p2 then sm_lor (S 84 p2) (S 84 p1) else S 84 p2) (if p2 = p2 then sm_lor (S 85 p2) (S 85 p1) else S 85 p2) (S 86 p2) := congrArg (fun z_ : Int => sm_rl 1 z_ (if p2 = p2 then sm_lor (S 83 p2) (S 83 p1) else S 83 p2) (if p2 = p2 then sm_lor (S 84 p2) (S 84 p1) else S 84 p2) (if p2 = p2 then sm_lor (S 85 p2) (S 85 p1) else S 85 p2) (S 86 p2)) (if_pos la_joinLabel_2)
          have e270_ : sm_rl 1 1 (if p2 = p2 then sm_lor (S 83 p2) (S 83 p1) else S 83 p2) (if p2 = p2 then sm_lor (S 84 p2) (S 84 p1) else S 84 p2) (if p2 = p2 then sm_lor (S 85 p2) (S 85 p1) else S 85 p2) (S 86 p2) = sm_rl 1 1 (sm_lor (S 83 p2) (S 83 p1)) (if p2 = p2 then sm_lor (S 84 p2) (S 84 p1) else S 84 p2) (if p2 = p2 then sm_lor (S 85 p2) (S 85 p1) else S 85 p2) (S 86 p2) := congrArg (fun z_ : Int => sm_rl 1 1 z_ (if p2 = p2 then sm_lor (S 84 p2) (S 84 p1) else S 84 p2) (if p2 = p2 then sm_lor (S 85 p2) (S 85 p1) else S 85 p2) (S 86 p2)) (if_pos la_joinLabel_2)
          have e271_ : sm_rl 1 1 (sm_lor (S 83 p2) (S 83 p1)) (if p2 = p2 then sm_lor (S 84 p2) (S 84 p1) else S 84 p2) (if p2 = p2 then sm_lor (S 85 p2) (S 85 p1) else S 85 p2) (S 86 p2) = sm_rl 1 1 (sm_lor (S 83 p2) (S 83 p1)) (sm_lor (S 84 p2) (S 84 p1)) (if p2 = p2 then sm_lor (S 85 p2) (S 85 p1) else S 85 p2) (S 86 p2) := congrArg (fun z_ : Int => sm_rl 1 1 (sm_lor (S 83 p2) (S 83 p1)) z_ (if p2 = p2 then sm_lor (S 85 p2) (S 85 p1) else S 85 p2) (S 86 p2)) (if_pos la_joinLabel_2)
          have e272_ : sm_rl 1 1 (sm_lor (S 83 p2) (S 83 p1)) (sm_lor (S 84 p2) (S 84 p1)) (if p2 = p2 then sm_lor (S 85 p2) (S 85 p1) else S 85 p2) (S 86 p2) = sm_rl 1 1 (sm_lor (S 83 p2) (S 83 p1)) (sm_lor (S 84 p2) (S 84 p1)) (sm_lor (S 85 p2) (S 85 p1)) (S 86 p2) := congrArg (fun z_ : Int => sm_rl 1 1 (sm_lor (S 83 p2) (S 83 p1)) (sm_lor (S 84 p2) (S 84 p1)) z_ (S 86 p2)) (if_pos la_joinLabel_2)
          have e273_ : sm_rl (if p2 = p2 then 1 else S 81 p2) (if p2 = p2 then 1 else S 82 p2) (sm_lor (S 83 p2) (S 83 p1)) (sm_lor (S 84 p2) (S 84 p1)) (sm_lor (S 85 p2) (S 85 p1)) (sm_lor (S 86 p2) (S 86 p1)) = sm_rl 1 (if p2 = p2 then 1 else S 82 p2) (sm_lor (S 83 p2) (S 83 p1)) (sm_lor (S 84 p2) (S 84 p1)) (sm_lor (S 85 p2) (S 85 p1)) (sm_lor (S 86 p2) (S 86 p1)) := congrArg (fun z_ : Int => sm_rl z_ (if p2 = p2 then 1 else S 82 p2) (sm_lor (S 83 p2) (S 83 p1)) (sm_lor (S 84 p2) (S 84 p1)) (sm_lor (S 85 p2) (S 85 p1)) (sm_lor (S 86 p2) (S 86 p1))) (if_pos la_joinLabel_2)
          have e274_ : sm_rl 1 (if p2 = p2 then 1 else S 82 p2) (sm_lor (S 83 p2) (S 83 p1)) (sm_lor (S 84 p2) (S 84 p1)) (sm_lor (S 85 p2) (S 85 p1)) (sm_lor (S 86 p2) (S 86 p1)) = sm_rl 1 1 (sm_lor (S 83 p2) (S 83 p1)) (sm_lor (S 84 p2) (S 84 p1)) (sm_lor (S 85 p2) (S 85 p1)) (sm_lor (S 86 p2) (S 86 p1)) := congrArg (fun z_ : Int => sm_rl 1 z_ (sm_lor (S 83 p2) (S 83 p1)) (sm_lor (S 84 p2) (S 84 p1)) (sm_lor (S 85 p2) (S 85 p1)) (sm_lor (S 86 p2) (S 86 p1))) (if_pos la_joinLabel_2)
          have e275_ : (if p2 = p2 then sm_lor (S 84 p2) (S 84 p1) else S 84 p2 : Int) = sm_lor (S 84 p2) (S 84 p1) := if_pos la_joinLabel_2
          have e276_ : (if p2 = p2 then sm_lor (S 83 p2) (S 83 p1) else S 83 p2 : Int) = sm_lor (S 83 p2) (S 83 p1) := if_pos la_joinLabel_2
          have e277_ : (if p2 = p2 then sm_lor (S 85 p2) (S 85 p1) else S 85 p2 : Int) = sm_lor (S 85 p2) (S 85 p1) := if_pos la_joinLabel_2
          exact (la_joinLabel_12 h224_ e237_ e238_ e239_ e240_ e241_ e242_ e243_ e244_ e245_ e246_ e247_ e248_ e249_ e250_ e251_ e252_ e253_ e254_ e255_ e256_ e257_ e258_ e259_ e260_ e261_ e262_ e263_ e264_ e265_ e266_ e267_ e268_ e269_ e270_ e271_ e272_ e273_ e274_)
        intro h278_
        refine ⟨(la_joinLabel_0 h4_ h5_), ?_⟩
        rintro ⟨h279_, h280_⟩
        refine ⟨?_, ?_⟩
        · skip
          intro h281_
          rintro ⟨h282_, h283_⟩
          refine ⟨?_, ?_⟩
          · skip
            intro h284_
            intro h285_
            intro h286_
            intro h287_
            intro h288_
            intro h289_
            intro h290_
            intro h291_
            intro h292_
            intro h293_
            intro h294_
            intro h295_
            intro h296_
            intro h297_
            have h298_ := (h297_ h285_)
            intro h299_
            have h300_ := (h299_ h288_)
            intro h301_
            have h302_ := (h301_ h291_)
            intro h303_
            have h304_ := (h303_ h294_)
            intro h305_
            have e306_ : (if p2 = p2 then 1 else S 82 p2 : Int) = 1 := if_pos la_joinLabel_2
            have e307_ : (if p2 = p2 then 0 else S 81 p2 : Int) = 0 := if_pos la_joinLabel_2
            have h308_ := (h305_ (la_joinLabel_8 h278_ e307_))
            have h309_ := (h308_ (la_joinLabel_3 h283_ e306_))
            have h310_ := (h309_ h285_)
            have h311_ := (h310_ h288_)
            have h312_ := (h311_ h291_)
            have h313_ := (h312_ h294_)
            have h314_ := (h313_ h15_)
            refine ⟨?_, ?_⟩
            · skip
              refine ⟨?_, ?_⟩
              · skip
                have e315_ : sm_rl (if p2 = p2 then 0 else S 81 p2) (if p2 = p2 then 1 else S 82 p2) (sm_lor (S 83 p2) (S 83 p1)) (sm_lor (S 84 p2) (S 84 p1)) (sm_lor (S 85 p2) (S 85 p1)) (sm_lor (S 86 p2) (S 86 p1)) = sm_rl 0 (if p2 = p2 then 1 else S 82 p2) (sm_lor (S 83 p2) (S 83 p1)) (sm_lor (S 84 p2) (S 84 p1)) (sm_lor (S 85 p2) (S 85 p1)) (sm_lor (S 86 p2) (S 86 p1)) := congrArg (fun z_ : Int => sm_rl z_ (if p2 = p2 then 1 else S 82 p2) (sm_lor (S 83 p2) (S 83 p1)) (sm_lor (S 84 p2) (S 84 p1)) (sm_lor (S 85 p2) (S 85 p1)) (sm_lor (S 86 p2) (S 86 p1))) (if_pos la_joinLabel_2)
                have e316_ : sm_rl 0 (if p2 = p2 then 1 else S 82 p2) (sm_lor (S 83 p2) (S 83 p1)) (sm_lor (S 84 p2) (S 84 p1)) (sm_lor (S 85 p2) (S 85 p1)) (sm_lor (S 86 p2) (S 86 p1)) = sm_rl 0 1 (sm_lor (S 83 p2) (S 83 p1)) (sm_lor (S 84 p2) (S 84 p1)) (sm_lor (S 85 p2) (S 85 p1)) (sm_lor (S 86 p2) (S 86 p1)) := congrArg (fun z_ : Int => sm_rl 0 z_ (sm_lor (S 83 p2) (S 83 p1)) (sm_lor (S 84 p2) (S 84 p1)) (sm_lor (S 85 p2) (S 85 p1)) (sm_lor (S 86 p2) (S 86 p1))) (if_pos la_joinLabel_2)
                exact (la_joinLabel_4 h15_)
              have e317_ : sm_rl (if p2 = p2 then 0 else S 81 p2) (if p2 = p2 then 1 else S 82 p2) (sm_lor (S 83 p2) (S 83 p1)) (sm_lor (S 84 p2) (S 84 p1)) (sm_lor (S 85 p2) (S 85 p1)) (sm_lor (S 86 p2) (S 86 p1)) = sm_rl 0 (if p2 = p2 then 1 else S 82 p2) (sm_lor (S 83 p2) (S 83 p1)) (sm_lor (S 84 p2) (S 84 p1)) (sm_lor (S 85 p2) (S 85 p1)) (sm_lor (S 86 p2) (S 86 p1)) := congrArg (fun z_ : Int => sm_rl z_ (if p2 = p2 then 1 else S 82 p2) (sm_lor (S 83 p2) (S 83 p1)) (sm_lor (S 84 p2) (S 84 p1)) (sm_lor (S 85 p2) (S 85 p1)) (sm_lor (S 86 p2) (S 86 p1))) (if_pos la_joinLabel_2)
              have e318_ : sm_rl 0 (if p2 = p2 then 1 else S 82 p2) (sm_lor (S 83 p2) (S 83 p1)) (sm_lor (S 84 p2) (S 84 p1)) (sm_lor (S 85 p2) (S 85 p1)) (sm_lor (S 86 p2) (S 86 p1)) = sm_rl 0 1 (sm_lor (S 83 p2) (S 83 p1)) (sm_lor (S 84 p2) (S 84 p1)) (sm_lor (S 85 p2) (S 85 p1)) (sm_lor (S 86 p2) (S 86 p1)) := congrArg (fun z_ : Int => sm_rl 0 z_ (sm_lor (S 83 p2) (S 83 p1)) (sm_lor (S 84 p2) (S 84 p1)) (sm_lor (S 85 p2) (S 85 p1)) (sm_lor (S 86 p2) (S 86 p1))) (if_pos la_joinLabel_2)
              exact (la_joinLabel_5 h15_)
            refine ⟨?_, ?_⟩
            · skip
              intro h319_
              have e320_ : sm_pl (fun i' : Int => (if i' = p2 then 0 else (S 81) i')) (fun i' : Int => (if i' = p2 then 1 else (S 82) i')) (fun i' : Int => (if i' = p2 then sm_lor (S 83 p2) (S 83 p1) else (S 83) i')) (fun i' : Int => (if i' = p2 then sm_lor (S 84 p2) (S 84 p1) else (S 84) i')) (fun i' : Int => (if i' = p2 then sm_lor (S 85 p2) (S 85 p1) else (S 85) i')) (fun i' : Int => (if i' = p2 then sm_lor (S 86 p2) (S 86 p1) else (S 86) i')) = sm_pl (fun i' : Int => (if i' = p2 then 0 else (S 81) i')) (fun i' : Int => (if i' = p2 then 1 else (S 82) i')) (fun i' : Int => (if i' = p2 then sm_lor (S 83 p2) (S 83 p1) else (S 83) i')) (fun i' : Int => (if i' = p2 then sm_lor (S 84 p2) (S 84 p1) else (S 84) i')) (fun i' : Int => (if i' = p2 then sm_lor (S 85 p2) (S 85 p1) else (S 85) i')) (S 86) := sm_pl_D h319_
              have e321_ : sm_pl (fun i' : Int => (if i' = p2 then 0 else (S 81) i')) (fun i' : Int => (if i' = p2 then 1 else (S 82) i')) (fun i' : Int => (if i' = p2 then sm_lor (S 83 p2) (S 83 p1) else (S 83) i')) (fun i' : Int => (if i' = p2 then sm_lor (S 84 p2) (S 84 p1) else (S 84) i')) (fun i' : Int => (if i' = p2 then sm_lor (S 85 p2) (S 85 p1) else (S 85) i')) (S 86) = sm_pl (fun i' : Int => (if i' = p2 then 0 else (S 81) i')) (fun i' : Int => (if i' = p2 then 1 else (S 82) i')) (fun i' : Int => (if i' = p2 then sm_lor (S 83 p2) (S 83 p1) else (S 83) i')) (fun i' : Int => (if i' = p2 then sm_lor (S 84 p2) (S 84 p1) else (S 84) i')) (S 85) (S 86) := sm_pl_C h319_
              have e322_ : sm_pl (fun i' : Int => (if i' = p2 then 0 else (S 81) i')) (fun i' : Int => (if i' = p2 then 1 else (S 82) i')) (fun i' : Int => (if i' = p2 then sm_lor (S 83 p2) (S 83 p1) else (S 83) i')) (fun i' : Int => (if i' = p2 then sm_lor (S 84 p2) (S 84 p1) else (S 84) i')) (S 85) (S 86) = sm_pl (fun i' : Int => (if i' = p2 then 0 else (S 81) i')) (fun i' : Int => (if i' = p2 then 1 else (S 82) i')) (fun i' : Int => (if i' = p2 then sm_lor (S 83 p2) (S 83 p1) else (S 83) i')) (S 84) (S 85) (S 86) := sm_pl_B h319_
              have e323_ : sm_pl (fun i' : Int => (if i' = p2 then 0 else (S 81) i')) (fun i' : Int => (if i' = p2 then 1 else (S 82) i')) (fun i' : Int => (if i' = p2 then sm_lor (S 83 p2) (S 83 p1) else (S 83) i')) (S 84) (S 85) (S 86) = sm_pl (fun i' : Int => (if i' = p2 then 0 else (S 81) i')) (fun i' : Int => (if i' = p2 then 1 else (S 82) i')) (S 83) (S 84) (S 85) (S 86) := sm_pl_A h319_
              have e324_ : sm_pl (fun i' : Int => (if i' = p2 then 0 else (S 81) i')) (fun i' : Int => (if i' = p2 then 1 else (S 82) i')) (S 83) (S 84) (S 85) (S 86) = sm_pl (fun i' : Int => (if i' = p2 then 0 else (S 81) i')) (S 82) (S 83) (S 84) (S 85) (S 86) := sm_pl_N h319_
              have e325_ : sm_pl (fun i' : Int => (if i' = p2 then 0 else (S 81) i')) (S 82) (S 83) (S 84) (S 85) (S 86) = sm_pl (S 81) (S 82) (S 83) (S 84) (S 85) (S 86) := sm_pl_T h319_
              exact (la_joinLabel_6 e320_ e321_ e322_ e323_ e324_ e325_)
            refine ⟨h15_, ?_⟩
            intro h326_
            have e327_ : sm_pl (fun i' : Int => (if i' = p2 then 0 else (S 81) i')) (fun i' : Int => (if i' = p2 then 1 else (S 82) i')) (fun i' : Int => (if i' = p2 then sm_lor (S 83 p2) (S 83 p1) else (S 83) i')) (fun i' : Int => (if i' = p2 then sm_lor (S 84 p2) (S 84 p1) else (S 84) i')) (fun i' : Int => (if i' = p2 then sm_lor (S 85 p2) (S 85 p1) else (S 85) i')) (fun i' : Int => (if i' = p2 then sm_lor (S 86 p2) (S 86 p1) else (S 86) i')) = sm_pl (fun i' : Int => (if i' = p2 then 0 else (S 81) i')) (fun i' : Int => (if i' = p2 then 1 else (S 82) i')) (fun i' : Int => (if i' = p2 then sm_lor (S 83 p2) (S 83 p1) else (S 83) i')) (fun i' : Int => (if i' = p2 then sm_lor (S 84 p2) (S 84 p1) else (S 84) i')) (fun i' : Int => (if i' = p2 then sm_lor (S 85 p2) (S 85 p1) else (S 85) i')) (S 86) + sm_rl (if p2 = p2 then 0 else S 81 p2) (if p2 = p2 then 1 else S 82 p2) (if p2 = p2 then sm_lor (S 83 p2) (S 83 p1) else S 83 p2) (if p2 = p2 then sm_lor (S 84 p2) (S 84 p1) else S 84 p2) (if p2 = p2 then sm_lor (S 85 p2) (S 85 p1) else S 85 p2) (S 86 p2) - sm_rl (if p2 = p2 then 0 else S 81 p2) (if p2 = p2 then 1 else S 82 p2) (if p2 = p2 then sm_lor (S 83 p2) (S 83 p1) else S 83 p2) (if p2 = p2 then sm_lor (S 84 p2) (S 84 p1) else S 84 p2) (if p2 = p2 then sm_lor (S 85 p2) (S 85 p1) else S 85 p2) (sm_lor (S 86 p2) (S 86 p1)) := sm_pl_D' h6_ h326_
            have e328_ : sm_pl (fun i' : Int => (if i' = p2 then 0 else (S 81) i')) (fun i' : Int => (if i' = p2 then 1 else (S 82) i')) (fun i' : Int => (if i' = p2 then sm_lor (S 83 p2) (S 83 p1) else (S 83) i')) (fun i' : Int => (if i' = p2 then sm_lor (S 84 p2) (S 84 p1) else (S 84) i')) (fun i' : Int => (if i' = p2 then sm_lor (S 85 p2) (S 85 p1) else (S 85) i')) (S 86) = sm_pl (fun i' : Int => (if i' = p2 then 0 else (S 81) i')) (fun i' : Int => (if i' = p2 then 1 else (S 82) i')) (fun i' : Int => (if i' = p2 then sm_lor (S 83 p2) (S 83 p1) else (S 83) i')) (fun i' : Int => (if i' = p2 then sm_lor (S 84 p2) (S 84 p1) else (S 84) i')) (S 85) (S 86) + sm_rl (if p2 = p2 then 0 else S 81 p2) (if p2 = p2 then 1 else S 82 p2) (if p2 = p2 then sm_lor (S 83 p2) (S 83 p1) else S 83 p2) (if p2 = p2 then sm_lor (S 84 p2) (S 84 p1) else S 84 p2) (S 85 p2) (S 86 p2) - sm_rl (if p2 = p2 then 0 else S 81 p2) (if p2 = p2 then 1 else S 82 p2) (if p2 = p2 then sm_lor (S 83 p2) (S 83 p1) else S 83 p2) (if p2 = p2 then sm_lor (S 84 p2) (S 84 p1) else S 84 p2) (sm_lor (S 85 p2) (S 85 p1)) (S 86 p2) := sm_pl_C' h6_ h326_
            have e329_ : sm_pl (fun i' : Int => (if i' = p2 then 0 else (S 81) i')) (fun i' : Int => (if i' = p2 then 1 else (S 82) i')) (fun i' : Int => (if i' = p2 then sm_lor (S 83 p2) (S 83 p1) else (S 83) i')) (fun i' : Int => (if i' = p2 then sm_lor (S 84 p2) (S 84 p1) else (S 84) i')) (S 85) (S 86) = sm_pl (fun i' : Int => (if i' = p2 then 0 else (S 81) i')) (fun i' : Int => (if i' = p2 then 1 else (S 82) i')) (fun i' : Int => (if i' = p2 then sm_lor (S 83 p2) (S 83 p1) else (S 83) i')) (S 84) (S 85) (S 86) + sm_rl (if p2 = p2 then 0 else S 81 p2) (if p2 = p2 then 1 else S 82 p2) (if p2 = p2 then sm_lor (S 83 p2) (S 83 p1) else S 83 p2) (S 84 p2) (S 85 p2) (S 86 p2) - sm_rl (if p2 = p2 then 0 else S 81 p2) (if p2 = p2 then 1 else S 82 p2) (if p2 = p2 then sm_lor (S 83 p2) (S 83 p1) else S 83 p2) (sm_lor (S 84 p2) (S 84 p1)) (S 85 p2) (S 86 p2) := sm_pl_B' h6_ h326_
            have e330_ : sm_pl (fun i' : Int => (if i' = p2 then 0 else (S 81) i')) (fun i' : Int => (if i' = p2 then 1 else (S 82) i')) (fun i' : Int => (if i' = p2 then sm_lor (S 83 p2) (S 83 p1) else (S 83) i')) (S 84) (S 85) (S 86) = sm_pl (fun i' : Int => (if i' = p2 then 0 else (S 81) i')) (fun i' : Int => (if i' = p2 then 1 else (S 82) i')) (S 83) (S 84) (S 85) (S 86) + sm_rl (if p2 = p2 then 0 else S 81 p2) (if p2 = p2 then 1 else S 82 p2) (S 83 p2) (S 84 p2) (S 85 p2) (S 86 p2) - sm_rl (if p2 = p2 then 0 else S 81 p2) (if p2 = p2 then 1 else S 82 p2) (sm_lor (S 83 p2) (S 83 p1)) (S 84 p2) (S 85 p2) (S 86 p2) := sm_pl_A' h6_ h326_
            have e331_ : sm_pl (fun i' : Int => (if i' = p2 then 0 else (S 81) i')) (fun i' : Int => (if i' = p2 then 1 else (S 82) i')) (S 83) (S 84) (S 85) (S 86) = sm_pl (fun i' : Int => (if i' = p2 then 0 else (S 81) i')) (S 82) (S 83) (S 84) (S 85) (S 86) + sm_rl (if p2 = p2 then 0 else S 81 p2) (S 82 p2) (S 83 p2) (S 84 p2) (S 85 p2) (S 86 p2) - sm_rl (if p2 = p2 then 0 else S 81 p2) 1 (S 83 p2) (S 84 p2) (S 85 p2) (S 86 p2) := sm_pl_N' h6_ h326_
            have e332_ : sm_pl (fun i' : Int => (if i' = p2 then 0 else (S 81) i')) (S 82) (S 83) (S 84) (S 85) (S 86) = sm_pl (S 81) (S 82) (S 83) (S 84) (S 85) (S 86) + sm_rl (S 81 p2) (S 82 p2) (S 83 p2) (S 84 p2) (S 85 p2) (S 86 p2) - sm_rl 0 (S 82 p2) (S 83 p2) (S 84 p2) (S 85 p2) (S 86 p2) := sm_pl_T' h6_ h326_
            have e333_ : sm_rl (if p2 = p2 then 0 else S 81 p2) 1 (S 83 p2) (S 84 p2) (S 85 p2) (S 86 p2) = sm_rl 0 1 (S 83 p2) (S 84 p2) (S 85 p2) (S 86 p2) := congrArg (fun z_ : Int => sm_rl z_ 1 (S 83 p2) (S 84 p2) (S 85 p2) (S 86 p2)) (if_pos la_joinLabel_2)
            have e334_ : sm_rl (if p2 = p2 then 0 else S 81 p2) (S 82 p2) (S 83 p2) (S 84 p2) (S 85 p2) (S 86 p2) = sm_rl 0 (S 82 p2) (S 83 p2) (S 84 p2) (S 85 p2) (S 86 p2) := congrArg (fun z_ : Int => sm_rl z_ (S 82 p2) (S 83 p2) (S 84 p2) (S 85 p2) (S 86 p2)) (if_pos la_joinLabel_2)
            have e335_ : sm_rl (if p2 = p2 then 0 else S 81 p2) (if p2 = p2 then 1 else S 82 p2) (sm_lor (S 83 p2) (S 83 p1)) (S 84 p2) (S 85 p2) (S 86 p2) = sm_rl 0 (if p2 = p2 then 1 else S 82 p2) (sm_lor (S 83 p2) (S 83 p1)) (S 84 p2) (S 85 p2) (S 86 p2) := congrArg (fun z_ : Int => sm_rl z_ (if p2 = p2 then 1 else S 82 p2) (sm_lor (S 83 p2) (S 83 p1)) (S 84 p2) (S 85 p2) (S 86 p2)) (if_pos la_joinLabel_2)
            have e336_ : sm_rl 0 (if p2 = p2 then 1 else S 82 p2) (sm_lor (S 83 p2) (S 83 p1)) (S 84 p2) (S 85 p2) (S 86 p2) = sm_rl 0 1 (sm_lor (S 83 p2) (S 83 p1)) (S 84 p2) (S 85 p2) (S 86 p2) := congrArg (fun z_ : Int => sm_rl 0 z_ (sm_lor (S 83 p2) (S 83 p1)) (S 84 p2) (S 85 p2) (S 86 p2)) (if_pos la_joinLabel_2)
            have e337_ : sm_rl (if p2 = p2 then 0 else S 81 p2) (if p2 = p2 then 1 else S 82 p2) (S 83 p2) (S 84 p2) (S 85 p2) (S 86 p2) = sm_rl 0 (if p2 = p2 then 1 else S 82 p2) (S 83 p2) (S 84 p2) (S 85 p2) (S 86 p2) := congrArg (fun z_ : Int => sm_rl z_ (if p2 = p2 then 1 else S 82 p2) (S 83 p2) (S 84 p2) (S 85 p2) (S 86 p2)) (if_pos la_joinLabel_2)
            have e338_ : sm_rl 0 (if p2 = p2 then 1 else S 82 p2) (S 83 p2) (S 84 p2) (S 85 p2) (S 86 p2) = sm_rl 0 1 (S 83 p2) (S 84 p2) (S 85 p2) (S 86 p2) := congrArg (fun z_ : Int => sm_rl 0 z_ (S 83 p2) (S 84 p2) (S 85 p2) (S 86 p2)) (if_pos la_joinLabel_2)
            have e339_ : sm_rl (if p2 = p2 then 0 else S 81 p2) (if p2 = p2 then 1 else S 82 p2) (if p2 = p2 then sm_lor (S 83 p2) (S 83 p1) else S 83 p2) (sm_lor (S 84 p2) (S 84 p1)) (S 85 p2) (S 86 p2) = sm_rl 0 (if p2 = p2 then 1 else S 82 p2) (if p2 = p2 then sm_lor (S 83 p2) (S 83 p1) else S 83 p2) (sm_lor (S 84 p2) (S 84 p1)) (S 85 p2) (S 86 p2) := congrArg (fun z_ : Int => sm_rl z_ (if p2 = p2 then 1 else S 82 p2) (if p2 = p2 then sm_lor (S 83 p2) (S 83 p1) else S 83 p2) (sm_lor (S 84 p2) (S 84 p1)) (S 85 p2) (S 86 p2)) (if_pos la_joinLabel_2)
            have e340_ : sm_rl 0 (if p2 = p2 then 1 else S 82 p2) (if p2 = p2 then sm_lor (S 83 p2) (S 83 p1) else S 83 p2) (sm_lor (S 84 p2) (S 84 p1)) (S 85 p2) (S 86 p2) = sm_rl 0 1 (if p2 = p2 then sm_lor (S 83 p2) (S 83 p1) else S 83 p2) (sm_lor (S 84 p2) (S 84 p1)) (S 85 p2) (S 86 p2) := congrArg (fun z_ : Int => sm_rl 0 z_ (if p2 = p2 then sm_lor (S 83 p2) (S 83 p1) else S 83 p2) (sm_lor (S 84 p2) (S 84 p1)) (S 85 p2) (S 86 p2)) (if_pos la_joinLabel_2)
            have e341_ : sm_rl 0 1 (if p2 = p2 then sm_lor (S 83 p2) (S 83 p1) else S 83 p2) (sm_lor (S 84 p2) (S 84 p1)) (S 85 p2) (S 86 p2) = sm_rl 0 1 (sm_lor (S 83 p2) (S 83 p1)) (sm_lor (S 84 p2) (S 84 p1)) (S 85 p2) (S 86 p2) := congrArg (fun z_ : Int => sm_rl 0 1 z_ (sm_lor (S 84 p2) (S 84 p1)) (S 85 p2) (S 86 p2)) (if_pos la_joinLabel_2)
            have e342_ : sm_rl (if p2 = p2 then 0 else S 81 p2) (if p2 = p2 then 1 else S 82 p2) (if p2 = p2 then sm_lor (S 83 p2) (S 83 p1) else S 83 p2) (S 84 p2) (S 85 p2) (S 86 p2) = sm_rl 0 (if p2 = p2 then 1 else S 82 p2) (if p2 = p2 then sm_lor (S 83 p2) (S 83 p1) else S 83 p2) (S 84 p2) (S 85 p2) (S 86 p2) := congrArg (fun z_ : Int => sm_rl z_ (if p2 = p2 then 1 else S 82 p2) (if p2 = p2 then sm_lor (S 83 p2) (S 83 p1) else S 83 p2) (S 84 p2) (S 85 p2) (S 86 p2)) (if_pos la_joinLabel_2)
            have e343_ : sm_rl 0 (if p2 = p2 then 1 else S 82 p2) (if p2 = p2 then sm_lor (S 83 p2) (S 83 p1) else S 83 p2) (S 84 p2) (S 85 p2) (S 86 p2) = sm_rl 0 1 (if p2 = p2 then sm_lor (S 83 p2) (S 83 p1) else S 83 p2) (S 84 p2) (S 85 p2) (S 86 p2) := congrArg (fun z_ : Int => sm_rl 0 z_ (if p2 = p2 then sm_lor (S 83 p2) (S 83 p1) else S 83 p2) (S 84 p2) (S 85 p2) (S 86 p2)) (if_pos la_joinLabel_2)
            have e344_ : sm_rl 0 1 (if p2 = p2 then sm_lor (S 83 p2) (S 83 p1) else S 83 p2) (S 84 p2) (S 85 p2) (S 86 p2) = sm_rl 0 1 (sm_lor (S 83 p2) (S 83 p1)) (S 84 p2) (S 85 p2) (S 86 p2) := congrArg (fun z_ : Int => sm_rl 0 1 z_ (S 84 p2) (S 85 p2) (S 86 p2)) (if_pos la_joinLabel_2)
            have e345_ : sm_rl (if p2 = p2 then 0 else S 81 p2) (if p2 = p2 then 1 else S 82 p2) (if p2 = p2 then sm_lor (S 83 p2) (S 83 p1) else S 83 p2) (if p2 = p2 then sm_lor (S 84 p2) (S 84 p1) else S 84 p2) (sm_lor (S 85 p2) (S 85 p1)) (S 86 p2) = sm_rl 0 (if p2 = p2 then 1 else S 82 p2) (if p2 = p2 then sm_lor (S 83 p2) (S 83 p1) else S 83 p2) (if p2 = p2 then sm_lor (S 84 p2) (S 84 p1) else S 84 p2) (sm_lor (S 85 p2) (S 85 p1)) (S 86 p2) := congrArg (fun z_ : Int => sm_rl z_ (if p2 = p2 then 1 else S 82 p2) (if p2 = p2 then sm_lor (S 83 p2) (S 83 p1) else S 83 p2) (if p2 = p2 then sm_lor (S 84 p2) (S 84 p1) else S 84 p2) (sm_lor (S 85 p2) (S 85 p1)) (S 86 p2)) (if_pos la_joinLabel_2)
            have e346_ : sm_rl 0 (if p2 = p2 then 1 else S 82 p2) (if p2 = p2 then sm_lor (S 83 p2) (S 83 p1) else S 83 p2) (if p2 = p2 then sm_lor (S 84 p2) (S 84 p1) else S 84 p2) (sm_lor (S 85 p2) (S 85 p1)) (S 86 p2) = sm_rl 0 1 (if p2 = p2 then sm_lor (S 83 p2) (S 83 p1) else S 83 p2) (if p2 = p2 then sm_lor (S 84 p2) (S 84 p1) else S 84 p2) (sm_lor (S 85 p2) (S 85 p1)) (S 86 p2) := congrArg (fun z_ : Int => sm_rl 0 z_ (if p2 = p2 then sm_lor (S 83 p2) (S 83 p1) else S 83 p2) (if p2 = p2 then sm_lor (S 84 p2) (S 84 p1) else S 84 p2) (sm_lor (S 85 p2) (S 85 p1)) (S 86 p2)) (if_pos la_joinLabel_2)
            have e347_ : sm_rl 0 1 (if p2 = p2 then sm_lor (S 83 p2) (S 83 p1) else S 83 p2) (if p2 = p2 then sm_lor (S 84 p2) (S 84 p1) else S 84 p2) (sm_lor (S 85 p2) (S 85 p1)) (S 86 p2) = sm_rl 0 1 (sm_lor (S 83 p2) (S 83 p1)) (if p2 = p2 then sm_lor (S 84 p2) (S 84 p1) else S 84 p2) (sm_lor (S 85 p2) (S 85 p1)) (S 86 p2) := congrArg (fun z_ : Int => sm_rl 0 1 z_ (if p2 = p2 then sm_lor (S 84 p2) (S 84 p1) else S 84 p2) (sm_lor (S 85 p2) (S 85 p1)) (S 86 p2)) (if_pos la_joinLabel_2)
            have e348_ : sm_rl 0 1 (sm_lor (S 83 p2) (S 83 p1)) (if p2 = p2 then sm_lor (S 84 p2) (S 84 p1) else S 84 p2) (sm_lor (S 85 p2) (S 85 p1)) (S 86 p2) = sm_rl 0 1 (sm_lor (S 83 p2) (S 83 p1)) (sm_lor (S 84 p2) (S 84 p1)) (sm_lor (S 85 p2) (S 85 p1)) (S 86 p2) := congrArg (fun z_ : Int => sm_rl 0 1 (sm_lor (S 83 p2) (S 83 p1)) z_ (sm_lor (S 85 p2) (S 85 p1)) (S 86 p2)) (if_pos la_joinLabel_2)
            have e349_ : sm_rl (if p2 = p2 then 0 else S 81 p2) (if p2 = p2 then 1 else S 82 p2) (if p2 = p2 then sm_lor (S 83 p2) (S 83 p1) else S 83 p2) (if p2 = p2 then sm_lor (S 84 p2) (S 84 p1) else S 84 p2) (S 85 p2) (S 86 p2) = sm_rl 0 (if p2 = p2 then 1 else S 82 p2) (if p2 = p2 then sm_lor (S 83 p2) (S 83 p1) else S 83 p2) (if p2 = p2 then sm_lor (S 84 p2) (S 84 p1) else S 84 p2) (S 85 p2) (S 86 p2) := congrArg (fun z_ : Int => sm_rl z_ (if p2 = p2 then 1 else S 82 p2) (if p2 = p2 then sm_lor (S 83 p2) (S 83 p1) else S 83 p2) (if p2 = p2 then sm_lor (S 84 p2) (S 84 p1) else S 84 p2) (S 85 p2) (S 86 p2)) (if_pos la_joinLabel_2)
            have e350_ : sm_rl 0 (if p2 = p2 then 1 else S 82 p2) (if p2 = p2 then sm_lor (S 83 p2) (S 83 p1) else S 83 p2) (if p2 = p2 then sm_lor (S 84 p2) (S 84 p1) else S 84 p2) (S 85 p2) (S 86 p2) = sm_rl 0 1 (if p2 = p2 then sm_lor (S 83 p2) (S 83 p1) else S 83 p2) (if p2 = p2 then sm_lor (S 84 p2) (S 84 p1) else S 84 p2) (S 85 p2) (S 86 p2) := congrArg (fun z_ : Int => sm_rl 0 z_ (if p2 = p2 then sm_lor (S 83 p2) (S 83 p1) else S 83 p2) (if p2 = p2 then sm_lor (S 84 p2) (S 84 p1) else S 84 p2) (S 85 p2) (S 86 p2)) (if_pos la_joinLabel_2)
            have e351_ : sm_rl 0 1 (if p2 = p2 then sm_lor (S 83 p2) (S 83 p1) else S 83 p2) (if p2 = p2 then sm_lor (S 84 p2) (S 84 p1) else S 84 p2) (S 85 p2) (S 86 p2) = sm_rl 0 1 (sm_lor (S 83 p2) (S 83 p1)) (if p2 = p2 then sm_lor (S 84 p2) (S 84 p1) else S 84 p2) (S 85 p2) (S 86 p2) := congrArg (fun z_ : Int => sm_rl 0 1 z_ (if p2 = p2 then sm_lor (S 84 p2) (S 84 p1) else S 84 p2) (S 85 p2) (S 86 p2)) (if_pos la_joinLabel_2)
            have e352_ : sm_rl 0 1 (sm_lor (S 83 p2) (S 83 p1)) (if p2 = p2 then sm_lor (S 84 p2) (S 84 p1) else S 84 p2) (S 85 p2) (S 86 p2) = sm_rl 0 1 (sm_lor (S 83 p2) (S 83 p1)) (sm_lor (S 84 p2) (S 84 p1)) (S 85 p2) (S 86 p2) := congrArg (fun z_ : Int => sm_rl 0 1 (sm_lor (S 83 p2) (S 83 p1)) z_ (S 85 p2) (S 86 p2)) (if_pos la_joinLabel_2)
            have e353_ : sm_rl (if p2 = p2 then 0 else S 81 p2) (if p2 = p2 then 1 else S 82 p2) (if p2 = p2 then sm_lor (S 83 p2) (S 83 p1) else S 83 p2) (if p2 = p2 then sm_lor (S 84 p2) (S 84 p1) else S 84 p2) (if p2 = p2 then sm_lor (S 85 p2) (S 85 p1) else S 85 p2) (sm_lor (S 86 p2) (S 86 p1)) = sm_rl 0 (if p2 = p2 then 1 else S 82 p2) (if p2 = p2 then sm_lor (S 83 p2) (S 83 p1) else S 83 p2) (if p2 = p2 then sm_lor (S 84 p2) (S 84 p1) else S 84 p2) (if p2 = p2 then sm_lor (S 85 p2) (S 85 p1) else S 85 p2) (sm_lor (S 86 p2) (S 86 p1)) := congrArg (fun z_ : Int => sm_rl z_ (if p2 = p2 then 1 else S 82 p2) (if p2 = p2 then sm_lor (S 83 p2) (S 83 p1) else S 83 p2) (if p2 = p2 then sm_lor (S 84 p2) (S 84 p1) else S 84 p2) (if p2 = p2 then sm_lor (S 85 p2) (S 85 p1) else S 85 p2) (sm_lor (S 86 p2) (S 86 p1))) (if_pos la_joinLabel_2)
            have e354_ : sm_rl 0 (if p2 = p2 then 1 else S 82 p2) (if p2 = p2 then sm_lor (S 83 p2) (S 83 p1) else S 83 p2) (if p2 = p2 then sm_lor (S 84 p2) (S 84 p1) else S 84 p2) (if p2 = p2 then sm_lor (S 85 p2) (S 85 p1) else S 85 p2) (sm_lor (S 86 p2) (S 86 p1)) = sm_rl 0 1 (if p2 = p2 then sm_lor (S 83 p2) (S 83 p1) else S 83 p2) (if p2 = p2 then sm_lor (S 84 p2) (S 84 p1) else S 84 p2) (if p2 = p2 then sm_lor (S 85 p2) (S 85 p1) else S 85 p2) (sm_lor (S 86 p2) (S 86 p1)) := congrArg (fun z_ : Int => sm_rl 0 z_ (if p2 = p2 then sm_lor (S 83 p2) (S 83 p1) else S 83 p2) (if p2 = p2 then sm_lor (S 84 p2) (S 84 p1) else S 84 p2) (if p2 = p2 then sm_lor (S 85 p2) (S 85 p1) else S 85 p2) (sm_lor (S 86 p2) (S 86 p1))) (if_pos la_joinLabel_2)
            have e355_ : sm_rl 0 1 (if p2 = p2 then sm_lor (S 83 p2) (S 83 p1) else S 83 p2) (if p2 = p2 then sm_lor (S 84 p2) (S 84 p1) else S 84 p2) (if p2 = p2 then sm_lor (S 85 p2) (S 85 p1) else S 85 p2) (sm_lor (S 86 p2) (S 86 p1)) = sm_rl 0 1 (sm_lor (S 83 p2) (S 83 p1)) (if p2 = p2 then sm_lor (S 84 p2) (S 84 p1) else S 84 p2) (if p2 = p2 then sm_lor (S 85 p2) (S 85 p1) else S 85 p2) (sm_lor (S 86 p2) (S 86 p1)) := congrArg (fun z_ : Int => sm_rl 0 1 z_ (if p2 = p2 then sm_lor (S 84 p2) (S 84 p1) else S 84 p2) (if p2 = p2 then sm_lor (S 85 p2) (S 85 p1) else S 85 p2) (sm_lor (S 86 p2) (S 86 p1))) (if_pos la_joinLabel_2)
            have e356_ : sm_rl 0 1 (sm_lor (S 83 p2) (S 83 p1)) (if p2 = p2 then sm_lor (S 84 p2) (S 84 p1) else S 84 p2) (if p2 = p2 then sm_lor (S 85 p2) (S 85 p1) else S 85 p2) (sm_lor (S 86 p2) (S 86 p1)) = sm_rl 0 1 (sm_lor (S 83 p2) (S 83 p1)) (sm_lor (S 84 p2) (S 84 p1)) (if p2 = p2 then sm_lor (S 85 p2) (S 85 p1) else S 85 p2) (sm_lor (S 86 p2) (S 86 p1)) := congrArg (fun z_ : Int => sm_rl 0 1 (sm_lor (S 83 p2) (S 83 p1)) z_ (if p2 = p2 then sm_lor (S 85 p2) (S 85 p1) else S 85 p2) (sm_lor (S 86 p2) (S 86 p1))) (if_pos la_joinLabel_2)
            have e357_ : sm_rl 0 1 (sm_lor (S 83 p2) (S 83 p1)) (sm_lor (S 84 p2) (S 84 p1)) (if p2 = p2 then sm_lor (S 85 p2) (S 85 p1) else S 85 p2) (sm_lor (S 86 p2) (S 86 p1)) = sm_rl 0 1 (sm_lor (S 83 p2) (S 83 p1)) (sm_lor (S 84 p2) (S 84 p1)) (sm_lor (S 85 p2) (S 85 p1)) (sm_lor (S 86 p2) (S 86 p1)) := congrArg (fun z_ : Int => sm_rl 0 1 (sm_lor (S 83 p2) (S 83 p1)) (sm_lor (S 84 p2) (S 84 p1)) z_ (sm_lor (S 86 p2) (S 86 p1))) (if_pos la_joinLabel_2)
            have e358_ : sm_rl (if p2 = p2 then 0 else S 81 p2) (if p2 = p2 then 1 else S 82 p2) (if p2 = p2 then sm_lor (S 83 p2) (S 83 p1) else S 83 p2) (if p2 = p2 then sm_lor (S 84 p2) (S 84 p1) else S 84 p2) (if p2 = p2 then sm_lor (S 85 p2) (S 85 p1) else S 85 p2) (S 86 p2) = sm_rl 0 (if p2 = p2 then 1 else S 82 p2) (if p2 = p2 then sm_lor (S 83 p2) (S 83 p1) else S 83 p2) (if p2 = p2 then sm_lor (S 84 p2) (S 84 p1) else S 84 p2) (if p2 = p2 then sm_lor (S 85 p2) (S 85 p1) else S 85 p2) (S 86 p2) := congrArg (fun z_ : Int => sm_rl z_ (if p2 = p2 then 1 else S 82 p2) (if p2 = p2 then sm_lor (S 83 p2) (S 83 p1) else S 83 p2) (if p2 = p2 then sm_lor (S 84 p2) (S 84 p1) else S 84 p2) (if p2 = p2 then sm_lor (S 85 p2) (S 85 p1) else S 85 p2) (S 86 p2)) (if_pos la_joinLabel_2)
            have e359_ : sm_rl 0 (if p2 = p2 then 1 else S 82 p2) (if p2 = p2 then sm_lor (S 83 p2) (S 83 p1) else S 83 p2) (if p2 = p2 then sm_lor (S 84 p2) (S 84 p1) else S 84 p2) (if p2 = p2 then sm_lor (S 85 p2) (S 85 p1) else S 85 p2) (S 86 p2) = sm_rl 0 1 (if p2 = p2 then sm_lor (S 83 p2) (S 83 p1) else S 83 p2) (if p2 = p2 then sm_lor (S 84 p2) (S 84 p1) else S 84 p2) (if p2 = p2 then sm_lor (S 85 p2) (S 85 p1) else S 85 p2) (S 86 p2) := congrArg (fun z_ : Int => sm_rl 0 z_ (if p2 = p2 then sm_lor (S 83 p2) (S 83 p1) else S 83 p2) (if p2 = p2 then sm_lor (S 84 p2) (S 84 p1) else S 84 p2) (if p2 = p2 then sm_lor (S 85 p2) (S 85 p1) else S 85 p2) (S 86 p2)) (if_pos la_joinLabel_2)
            have e360_ : sm_rl 0 1 (if p2 = p2 then sm_lor (S 83 p2) (S 83 p1) else S 83 p2) (if p2 = p2 then sm_lor (S 84 p2) (S 84 p1) else S 84 p2) (if p2 = p2 then sm_lor (S 85 p2) (S 85 p1) else S 85 p2) (S 86 p2) = sm_rl 0 1 (sm_lor (S 83 p2) (S 83 p1)) (if p2 = p2 then sm_lor (S 84 p2) (S 84 p1) else S 84 p2) (if p2 = p2 then sm_lor (S 85 p2) (S 85 p1) else S 85 p2) (S 86 p2) := congrArg (fun z_ : Int => sm_rl 0 1 z_ (if p2 = p2 then sm_lor (S 84 p2) (S 84 p1) else S 84 p2) (if p2 = p2 then sm_lor (S 85 p2) (S 85 p1) else S 85 p2) (S 86 p2)) (if_pos la_joinLabel_2)
            have e361_ : sm_rl 0 1 (sm_lor (S 83 p2) (S 83 p1)) (if p2 = p2 then sm_lor (S 84 p2) (S 84 p1) else S 84 p2) (if p2 = p2 then sm_lor (S 85 p2) (S 85 p1) else S 85 p2) (S 86 p2) = sm_rl 0 1 (sm_lor (S 83 p2) (S 83 p1)) (sm_lor (S 84 p2) (S 84 p1)) (if p2 = p2 then sm_lor (S 85 p2) (S 85 p1) else S 85 p2) (S 86 p2) := congrArg (fun z_ : Int => sm_rl 0 1 (sm_lor (S 83 p2) (S 83 p1)) z_ (if p2 = p2 then sm_lor (S 85 p2) (S 85 p1) else S 85 p2) (S 86 p2)) (if_pos la_joinLabel_2)
            have e362_ : sm_rl 0 1 (sm_lor (S 83 p2) (S 83 p1)) (sm_lor (S 84 p2) (S 84 p1)) (if p2 = p2 then sm_lor (S 85 p2) (S 85 p1) else S 85 p2) (S 86 p2) = sm_rl 0 1 (sm_lor (S 83 p2) (S 83 p1)) (sm_lor (S 84 p2) (S 84 p1)) (sm_lor (S 85 p2) (S 85 p1)) (S 86 p2) := congrArg (fun z_ : Int => sm_rl 0 1 (sm_lor (S 83 p2) (S 83 p1)) (sm_lor (S 84 p2) (S 84 p1)) z_ (S 86 p2)) (if_pos la_joinLabel_2)
            have e363_ : sm_rl (if p2 = p2 then 0 else S 81 p2) (if p2 = p2 then 1 else S 82 p2) (sm_lor (S 83 p2) (S 83 p1)) (sm_lor (S 84 p2) (S 84 p1)) (sm_lor (S 85 p2) (S 85 p1)) (sm_lor (S 86 p2) (S 86 p1)) = sm_rl 0 (if p2 = p2 then 1 else S 82 p2) (sm_lor (S 83 p2) (S 83 p1)) (sm_lor (S 84 p2) (S 84 p1)) (sm_lor (S 85 p2) (S 85 p1)) (sm_lor (S 86 p2) (S 86 p1)) := congrArg (fun z_ : Int => sm_rl z_ (if p2 = p2 then 1 else S 82 p2) (sm_lor (S 83 p2) (S 83 p1)) (sm_lor (S 84 p2) (S 84 p1)) (sm_lor (S 85 p2) (S 85 p1)) (sm_lor (S 86 p2) (S 86 p1))) (if_pos la_joinLabel_2)
            have e364_ : sm_rl 0 (if p2 = p2 then 1 else S 82 p2) (sm_lor (S 83 p2) (S 83 p1)) (sm_lor (S 84 p2) (S 84 p1)) (sm_lor (S 85 p2) (S 85 p1)) (sm_lor (S 86 p2) (S 86 p1)) = sm_rl 0 1 (sm_lor (S 83 p2) (S 83 p1)) (sm_lor (S 84 p2) (S 84 p1)) (sm_lor (S 85 p2) (S 85 p1)) (sm_lor (S 86 p2) (S 86 p1)) := congrArg (fun z_ : Int => sm_rl 0 z_ (sm_lor (S 83 p2) (S 83 p1)) (sm_lor (S 84 p2) (S 84 p1)) (sm_lor (S 85 p2) (S 85 p1)) (sm_lor (S 86 p2) (S 86 p1))) (if_pos la_joinLabel_2)
            have e365_ : (if p2 = p2 then sm_lor (S 84 p2) (S 84 p1) else S 84 p2 : Int) = sm_lor (S 84 p2) (S 84 p1) := if_pos la_joinLabel_2
            have e366_ : (if p2 = p2 then sm_lor (S 83 p2) (S 83 p1) else S 83 p2 : Int) = sm_lor (S 83 p2) (S 83 p1) := if_pos la_joinLabel_2
            have e367_ : (if p2 = p2 then sm_lor (S 85 p2) (S 85 p1) else S 85 p2 : Int) = sm_lor (S 85 p2) (S 85 p1) := if_pos la_joinLabel_2
            exact (la_joinLabel_13 h10_ h13_ h15_ h16_ h281_ (la_joinLabel_1 h282_ h284_) h298_ h300_ h302_ h304_ h314_ e327_ e328_ e329_ e330_ e331_ e332_ e333_ e334_ e335_ e336_ e337_ e338_ e339_ e340_ e341_ e342_ e343_ e344_ e345_ e346_ e347_ e348_ e349_ e350_ e351_ e352_ e353_ e354_ e355_ e356_ e357_ e358_ e359_ e360_ e361_ e362_ e363_ e364_)
          intro h368_
          rintro ⟨h369_, h370_⟩
          refine ⟨?_, ?_⟩
          · skip
            intro h371_
            intro h372_
            intro h373_
            intro h374_
            intro h375_
            intro h376_
            intro h377_
            intro h378_
            intro h379_
            intro h380_
            intro h381_
            intro h382_
            intro h383_
            intro h384_
            have h385_ := (h384_ h372_)
            intro h386_
            have h387_ := (h386_ h375_)
            intro h388_
            have h389_ := (h388_ h378_)
            intro h390_
            have h391_ := (h390_ h381_)
            intro h392_
            have e393_ : (if p2 = p2 then 0 else S 82 p2 : Int) = 0 := if_pos la_joinLabel_2
            have e394_ : (if p2 = p2 then 0 else S 81 p2 : Int) = 0 := if_pos la_joinLabel_2
            have h395_ := (h392_ (la_joinLabel_8 h278_ e394_))
            have h396_ := (h395_ (la_joinLabel_8 h368_ e393_))
            have h397_ := (h396_ h372_)
            have h398_ := (h397_ h375_)
            have h399_ := (h398_ h378_)
            have h400_ := (h399_ h381_)
            have h401_ := (h400_ h15_)
            refine ⟨?_, ?_⟩
            · skip
              refine ⟨?_, ?_⟩
              · skip
                have e402_ : sm_rl (if p2 = p2 then 0 else S 81 p2) (if p2 = p2 then 0 else S 82 p2) (sm_lor (S 83 p2) (S 83 p1)) (sm_lor (S 84 p2) (S 84 p1)) (sm_lor (S 85 p2) (S 85 p1)) (sm_lor (S 86 p2) (S 86 p1)) = sm_rl 0 (if p2 = p2 then 0 else S 82 p2) (sm_lor (S 83 p2) (S 83 p1)) (sm_lor (S 84 p2) (S 84 p1)) (sm_lor (S 85 p2) (S 85 p1)) (sm_lor (S 86 p2) (S 86 p1)) := congrArg (fun z_ : Int => sm_rl z_ (if p2 = p2 then 0 else S 82 p2) (sm_lor (S 83 p2) (S 83 p1)) (sm_lor (S 84 p2) (S 84 p1)) (sm_lor (S 85 p2) (S 85 p1)) (sm_lor (S 86 p2) (S 86 p1))) (if_pos la_joinLabel_2)
                have e403_ : sm_rl 0 (if p2 = p2 then 0 else S 82 p2) (sm_lor (S 83 p2) (S 83 p1)) (sm_lor (S 84 p2) (S 84 p1)) (sm_lor (S 85 p2) (S 85 p1)) (sm_lor (S 86 p2) (S 86 p1)) = sm_rl 0 0 (sm_lor (S 83 p2) (S 83 p1)) (sm_lor (S 84 p2) (S 84 p1)) (sm_lor (S 85 p2) (S 85 p1)) (sm_lor (S 86 p2) (S 86 p1)) := congrArg (fun z_ : Int => sm_rl 0 z_ (sm_lor (S 83 p2) (S 83 p1)) (sm_lor (S 84 p2) (S 84 p1)) (sm_lor (S 85 p2) (S 85 p1)) (sm_lor (S 86 p2) (S 86 p1))) (if_pos la_joinLabel_2)
                exact (la_joinLabel_4 h15_)
              have e404_ : sm_rl (if p2 = p2 then 0 else S 81 p2) (if p2 = p2 then 0 else S 82 p2) (sm_lor (S 83 p2) (S 83 p1)) (sm_lor (S 84 p2) (S 84 p1)) (sm_lor (S 85 p2) (S 85 p1)) (sm_lor (S 86 p2) (S 86 p1)) = sm_rl 0 (if p2 = p2 then 0 else S 82 p2) (sm_lor (S 83 p2) (S 83 p1)) (sm_lor (S 84 p2) (S 84 p1)) (sm_lor (S 85 p2) (S 85 p1)) (sm_lor (S 86 p2) (S 86 p1)) := congrArg (fun z_ : Int => sm_rl z_ (if p2 = p2 then 0 else S 82 p2) (sm_lor (S 83 p2) (S 83 p1)) (sm_lor (S 84 p2) (S 84 p1)) (sm_lor (S 85 p2) (S 85 p1)) (sm_lor (S 86 p2) (S 86 p1))) (if_pos la_joinLabel_2)
              have e405_ : sm_rl 0 (if p2 = p2 then 0 else S 82 p2) (sm_lor (S 83 p2) (S 83 p1)) (sm_lor (S 84 p2) (S 84 p1)) (sm_lor (S 85 p2) (S 85 p1)) (sm_lor (S 86 p2) (S 86 p1)) = sm_rl 0 0 (sm_lor (S 83 p2) (S 83 p1)) (sm_lor (S 84 p2) (S 84 p1)) (sm_lor (S 85 p2) (S 85 p1)) (sm_lor (S 86 p2) (S 86 p1)) := congrArg (fun z_ : Int => sm_rl 0 z_ (sm_lor (S 83 p2) (S 83 p1)) (sm_lor (S 84 p2) (S 84 p1)) (sm_lor (S 85 p2) (S 85 p1)) (sm_lor (S 86 p2) (S 86 p1))) (if_pos la_joinLabel_2)
              exact (la_joinLabel_5 h15_)
            refine ⟨?_, ?_⟩
            · skip
              intro h406_
              have e407_ : sm_pl (fun i' : Int => (if i' = p2 then 0 else (S 81) i')) (fun i' : Int => (if i' = p2 then 0 else (S 82) i')) (fun i' : Int => (if i' = p2 then sm_lor (S 83 p2) (S 83 p1) else (S 83) i')) (fun i' : Int => (if i' = p2 then sm_lor (S 84 p2) (S 84 p1) else (S 84) i')) (fun i' : Int => (if i' = p2 then sm_lor (S 85 p2) (S 85 p1) else (S 85) i')) (fun i' : Int => (if i' = p2 then sm_lor (S 86 p2) (S 86 p1) else (S 86) i')) = sm_pl (fun i' : Int => (if i' = p2 then 0 else (S 81) i')) (fun i' : Int => (if i' = p2 then 0 else (S 82) i')) (fun i' : Int => (if i' = p2 then sm_lor (S 83 p2) (S 83 p1) else (S 83) i')) (fun i' : Int => (if i' = p2 then sm_lor (S 84 p2) (S 84 p1) else (S 84) i')) (fun i' : Int => (if i' = p2 then sm_lor (S 85 p2) (S 85 p1) else (S 85) i')) (S 86) := sm_pl_D h406_
              have e408_ : sm_pl (fun i' : Int => (if i' = p2 then 0 else (S 81) i')) (fun i' : Int => (if i' = p2 then 0 else (S 82) i')) (fun i' : Int => (if i' = p2 then sm_lor (S 83 p2) (S 83 p1) else (S 83) i')) (fun i' : Int => (if i' = p2 then sm_lor (S 84 p2) (S 84 p1) else (S 84) i')) (fun i' : Int => (if i' = p2 then sm_lor (S 85 p2) (S 85 p1) else (S 85) i')) (S 86) = sm_pl (fun i' : Int => (if i' = p2 then 0 else (S 81) i')) (fun i' : Int => (if i' = p2 then 0 else (S 82) i')) (fun i' : Int => (if i' = p2 then sm_lor (S 83 p2) (S 83 p1) else (S 83) i')) (fun i' : Int => (if i' = p2 then sm_lor (S 84 p2) (S 84 p1) else (S 84) i')) (S 85) (S 86) := sm_pl_C h406_
              have e409_ : sm_pl (fun i' : Int => (if i' = p2 then 0 else (S 81) i')) (fun i' : Int => (if i' = p2 then 0 else (S 82) i')) (fun i' : Int => (if i' = p2 then sm_lor (S 83 p2) (S 83 p1) else (S 83) i')) (fun i' : Int => (if i' = p2 then sm_lor (S 84 p2) (S 84 p1) else (S 84) i')) (S 85) (S 86) = sm_pl (fun i' : Int => (if i' = p2 then 0 else (S 81) i')) (fun i' : Int => (if i' = p2 then 0 else (S 82) i')) (fun i' : Int => (if i' = p2 then sm_lor (S 83 p2) (S 83 p1) else (S 83) i')) (S 84) (S 85) (S 86) := sm_pl_B h406_
              have e410_ : sm_pl (fun i' : Int => (if i' = p2 then 0 else (S 81) i')) (fun i' : Int => (if i' = p2 then 0 else (S 82) i')) (fun i' : Int => (if i' = p2 then sm_lor (S 83 p2) (S 83 p1) else (S 83) i')) (S 84) (S 85) (S 86) = sm_pl (fun i' : Int => (if i' = p2 then 0 else (S 81) i')) (fun i' : Int => (if i' = p2 then 0 else (S 82) i')) (S 83) (S 84) (S 85) (S 86) := sm_pl_A h406_
              have e411_ : sm_pl (fun i' : Int => (if i' = p2 then 0 else (S 81) i')) (fun i' : Int => (if i' = p2 then 0 else (S 82) i')) (S 83) (S 84) (S 85) (S 86) = sm_pl (fun i' : Int => (if i' = p2 then 0 else (S 81) i')) (S 82) (S 83) (S 84) (S 85) (S 86) := sm_pl_N h406_
              have e412_ : sm_pl (fun i' : Int => (if i' = p2 then 0 else (S 81) i')) (S 82) (S 83) (S 84) (S 85) (S 86) = sm_pl (S 81) (S 82) (S 83) (S 84) (S 85) (S 86) := sm_pl_T h406_
              exact (la_joinLabel_6 e407_ e408_ e409_ e410_ e411_ e412_)
            refine ⟨h15_, ?_⟩
            intro h413_
            have e414_ : sm_pl (fun i' : Int => (if i' = p2 then 0 else (S 81) i')) (fun i' : Int => (if i' = p2 then 0 else (S 82) i')) (fun i' : Int => (if i' = p2 then sm_lor (S 83 p2) (S 83 p1) else (S 83) i')) (fun i' : Int => (if i' = p2 then sm_lor (S 84 p2) (S 84 p1) else (S 84) i')) (fun i' : Int => (if i' = p2 then sm_lor (S 85 p2) (S 85 p1) else (S 85) i')) (fun i' : Int => (if i' = p2 then sm_lor (S 86 p2) (S 86 p1) else (S 86) i')) = sm_pl (fun i' : Int => (if i' = p2 then 0 else (S 81) i')) (fun i' : Int => (if i' = p2 then 0 else (S 82) i')) (fun i' : Int => (if i' = p2 then sm_lor (S 83 p2) (S 83 p1) else (S 83) i')) (fun i' : Int => (if i' = p2 then sm_lor (S 84 p2) (S 84 p1) else (S 84) i')) (fun i' : Int => (if i' = p2 then sm_lor (S 85 p2) (S 85 p1) else (S 85) i')) (S 86) + sm_rl (if p2 = p2 then 0 else S 81 p2) (if p2 = p2 then 0 else S 82 p2) (if p2 = p2 then sm_lor (S 83 p2) (S 83 p1) else S 83 p2) (if p2 = p2 then sm_lor (S 84 p2) (S 84 p1) else S 84 p2) (if p2 = p2 then sm_lor (S 85 p2) (S 85 p1) else S 85 p2) (S 86 p2) - sm_rl (if p2 = p2 then 0 else S 81 p2) (if p2 = p2 then 0 else S 82 p2) (if p2 = p2 then sm_lor (S 83 p2) (S 83 p1) else S 83 p2) (if p2 = p2 then sm_lor (S 84 p2) (S 84 p1) else S 84 p2) (if p2 = p2 then sm_lor (S 85 p2) (S 85 p1) else S 85 p2) (sm_lor (S 86 p2) (S 86 p1)) := sm_pl_D' h6_ h413_
            have e415_ : sm_pl (fun i' : Int => (if i' = p2 then 0 else (S 81) i')) (fun i' : Int => (if i' = p2 then 0 else (S 82) i')) (fun i' : Int => (if i' = p2 then sm_lor (S 83 p2) (S 83 p1) else (S 83) i')) (fun i' : Int => (if i' = p2 then sm_lor (S 84 p2) (S 84 p1) else (S 84) i')) (fun i' : Int => (if i' = p2 then sm_lor (S 85 p2) (S 85 p1) else (S 85) i')) (S 86) = sm_pl (fun i' : Int => (if i' = p2 then 0 else (S 81) i')) (fun i' : Int => (if i' = p2 then 0 else (S 82) i')) (fun i' : Int => (if i' = p2 then sm_lor (S 83 p2) (S 83 p1) else (S 83) i')) (fun i' : Int => (if i' = p2 then sm_lor (S 84 p2) (S 84 p1) else (S 84) i')) (S 85) (S 86) + sm_rl (if p2 = p2 then 0 else S 81 p2) (if p2 = p2 then 0 else S 82 p2) (if p2 = p2 then sm_lor (S 83 p2) (S 83 p1) else S 83 p2) (if p2 = p2 then sm_lor (S 84 p2) (S 84 p1) else S 84 p2) (S 85 p2) (S 86 p2) - sm_rl (if p2 = p2 then 0 else S 81 p2) (if p2 = p2 then 0 else S 82 p2) (if p2 = p2 then sm_lor (S 83 p2) (S 83 p1) else S 83 p2) (if p2 = p2 then sm_lor (S 84 p2) (S 84 p1) else S 84 p2) (sm_lor (S 85 p2) (S 85 p1)) (S 86 p2) := sm_pl_C' h6_ h413_
            have e416_ : sm_pl (fun i' : Int => (if i' = p2 then 0 else (S 81) i')) (fun i' : Int => (if i' = p2 then 0 else (S 82) i')) (fun i' : Int => (if i' = p2 then sm_lor (S 83 p2) (S 83 p1) else (S 83) i')) (fun i' : Int => (if i' = p2 then sm_lor (S 84 p2) (S 84 p1) else (S 84) i')) (S 85) (S 86) = sm_pl (fun i' : Int => (if i' = p2 then 0 else (S 81) i')) (fun i' : Int => (if i' = p2 then 0 else (S 82) i')) (fun i' : Int => (if i' = p2 then sm_lor (S 83 p2) (S 83 p1) else (S 83) i')) (S 84) (S 85) (S 86) + sm_rl (if p2 = p2 then 0 else S 81 p2) (if p2 = p2 then 0 else S 82 p2) (if p2 = p2 then sm_lor (S 83 p2) (S 83 p1) else S 83 p2) (S 84 p2) (S 85 p2) (S 86 p2) - sm_rl (if p2 = p2 then 0 else S 81 p2) (if p2 = p2 then 0 else S 82 p2) (if p2 = p2 then sm_lor (S 83 p2) (S 83 p1) else S 83 p2) (sm_lor (S 84 p2) (S 84 p1)) (S 85 p2) (S 86 p2) := sm_pl_B' h6_ h413_
            have e417_ : sm_pl (fun i' : Int => (if i' = p2 then 0 else (S 81) i')) (fun i' : Int => (if i' = p2 then 0 else (S 82) i')) (fun i' : Int => (if i' = p2 then sm_lor (S 83 p2) (S 83 p1) else (S 83) i')) (S 84) (S 85) (S 86) = sm_pl (fun i' : Int => (if i' = p2 then 0 else (S 81) i')) (fun i' : Int => (if i' = p2 then 0 else (S 82) i')) (S 83) (S 84) (S 85) (S 86) + sm_rl (if p2 = p2 then 0 else S 81 p2) (if p2 = p2 then 0 else S 82 p2) (S 83 p2) (S 84 p2) (S 85 p2) (S 86 p2) - sm_rl (if p2 = p2 then 0 else S 81 p2) (if p2 = p2 then 0 else S 82 p2) (sm_lor (S 83 p2) (S 83 p1)) (S 84 p2) (S 85 p2) (S 86 p2) := sm_pl_A' h6_ h413_
            have e418_ : sm_pl (fun i' : Int => (if i' = p2 then 0 else (S 81) i')) (fun i' : Int => (if i' = p2 then 0 else (S 82) i')) (S 83) (S 84) (S 85) (S 86) = sm_pl (fun i' : Int => (if i' = p2 then 0 else (S 81) i')) (S 82) (S 83) (S 84) (S 85) (S 86) + sm_rl (if p2 = p2 then 0 else S 81 p2) (S 82 p2) (S 83 p2) (S 84 p2) (S 85 p2) (S 86 p2) - sm_rl (if p2 = p2 then 0 else S 81 p2) 0 (S 83 p2) (S 84 p2) (S 85 p2) (S 86 p2) := sm_pl_N' h6_ h413_
            have e419_ : sm_pl (fun i' : Int => (if i' = p2 then 0 else (S 81) i')) (S 82) (S 83) (S 84) (S 85) (S 86) = sm_pl (S 81) (S 82) (S 83) (S 84) (S 85) (S 86) + sm_rl (S 81 p2) (S 82 p2) (S 83 p2) (S 84 p2) (S 85 p2) (S 86 p2) - sm_rl 0 (S 82 p2) (S 83 p2) (S 84 p2) (S 85 p2) (S 86 p2) := sm_pl_T' h6_ h413_
            have e420_ : sm_rl (if p2 = p2 then 0 else S 81 p2) 0 (S 83 p2) (S 84 p2) (S 85 p2) (S 86 p2) = sm_rl 0 0 (S 83 p2) (S 84 p2) (S 85 p2) (S 86 p2) := congrArg (fun z_ : Int => sm_rl z_ 0 (S 83 p2) (S 84 p2) (S 85 p2) (S 86 p2)) (if_pos la_joinLabel_2)
            have e421_ : sm_rl (if p2 = p2 then 0 else S 81 p2) (S 82 p2) (S 83 p2) (S 84 p2) (S 85 p2) (S 86 p2) = sm_rl 0 (S 82 p2) (S 83 p2) (S 84 p2) (S 85 p2) (S 86 p2) := congrArg (fun z_ : Int => sm_rl z_ (S 82 p2) (S 83 p2) (S 84 p2) (S 85 p2) (S 86 p2)) (if_pos la_joinLabel_2)
            have e422_ : sm_rl (if p2 = p2 then 0 else S 81 p2) (if p2 = p2 then 0 else S 82 p2) (sm_lor (S 83 p2) (S 83 p1)) (S 84 p2) (S 85 p2) (S 86 p2) = sm_rl 0 (if p2 = p2 then 0 else S 82 p2) (sm_lor (S 83 p2) (S 83 p1)) (S 84 p2) (S 85 p2) (S 86 p2) := congrArg (fun z_ : Int => sm_rl z_ (if p2 = p2 then 0 else S 82 p2) (sm_lor (S 83 p2) (S 83 p1)) (S 84 p2) (S 85 p2) (S 86 p2)) (if_pos la_joinLabel_2)
            have e423_ : sm_rl 0 (if p2 = p2 then 0 else S 82 p2) (sm_lor (S 83 p2) (S 83 p1)) (S 84 p2) (S 85 p2) (S 86 p2) = sm_rl 0 0 (sm_lor (S 83 p2) (S 83 p1)) (S 84 p2) (S 85 p2) (S 86 p2) := congrArg (fun z_ : Int => sm_rl 0 z_ (sm_lor (S 83 p2) (S 83 p1)) (S 84 p2) (S 85 p2) (S 86 p2)) (if_pos la_joinLabel_2)
            have e424_ : sm_rl (if p2 = p2 then 0 else S 81 p2) (if p2 = p2 then 0 else S 82 p2) (S 83 p2) (S 84 p2) (S 85 p2) (S 86 p2) = sm_rl 0 (if p2 = p2 then 0 else S 82 p2) (S 83 p2) (S 84 p2) (S 85 p2) (S 86 p2) := congrArg (fun z_ : Int => sm_rl z_ (if p2 = p2 then 0 else S 82 p2) (S 83 p2) (S 84 p2) (S 85 p2) (S 86 p2)) (if_pos la_joinLabel_2)
            have e425_ : sm_rl 0 (if p2 = p2 then 0 else S 82 p2) (S 83 p2) (S 84 p2) (S 85 p2) (S 86 p2) = sm_rl 0 0 (S 83 p2) (S 84 p2) (S 85 p2) (S 86 p2) := congrArg (fun z_ : Int => sm_rl 0 z_ (S 83 p2) (S 84 p2) (S 85 p2) (S 86 p2)) (if_pos la_joinLabel_2)
            have e426_ : sm_rl (if p2 = p2 then 0 else S 81 p2) (if p2 = p2 then 0 else S 82 p2) (if p2 = p2 then sm_lor (S 83 p2) (S 83 p1) else S 83 p2) (sm_lor (S 84 p2) (S 84 p1)) (S 85 p2) (S 86 p2) = sm_rl 0 (if p2 = p2 then 0 else S 82 p2) (if p2 = p2 then sm_lor (S 83 p2) (S 83 p1) else S 83 p2) (sm_lor (S 84 p2) (S 84 p1)) (S 85 p2) (S 86 p2) := congrArg (fun z_ : Int => sm_rl z_ (if p2 = p2 then 0 else S 82 p2) (if p2 = p2 then sm_lor (S 83 p2) (S 83 p1) else S 83 p2) (sm_lor (S 84 p2) (S 84 p1)) (S 85 p2) (S 86 p2)) (if_pos la_joinLabel_2)
            have e427_ : sm_rl 0 (if p2 = p2 then 0 else S 82 p2) (if p2 = p2 then sm_lor (S 83 p2) (S 83 p1) else S 83 p2) (sm_lor (S 84 p2) (S 84 p1)) (S 85 p2) (S 86 p2) = sm_rl 0 0 (if p2 = p2 then sm_lor (S 83 p2) (S 83 p1) else S 83 p2) (sm_lor (S 84 p2) (S 84 p1)) (S 85 p2) (S 86 p2) := congrArg (fun z_ : Int => sm_rl 0 z_ (if p2 = p2 then sm_lor (S 83 p2) (S 83 p1) else S 83 p2) (sm_lor (S 84 p2) (S 84 p1)) (S 85 p2) (S 86 p2)) (if_pos la_joinLabel_2)
            have e428_ : sm_rl 0 0 (if p2 = p2 then sm_lor (S 83 p2) (S 83 p1) else S 83 p2) (sm_lor (S 84 p2) (S 84 p1)) (S 85 p2) (S 86 p2) = sm_rl 0 0 (sm_lor (S 83 p2) (S 83 p1)) (sm_lor (S 84 p2) (S 84 p1)) (S 85 p2) (S 86 p2) := congrArg (fun z_ : Int => sm_rl 0 0 z_ (sm_lor (S 84 p2) (S 84 p1)) (S 85 p2) (S 86 p2)) (if_pos la_joinLabel_2)
            have e429_ : sm_rl (if p2 = p2 then 0 else S 81 p2) (if p2 = p2 then 0 else S 82 p2) (if p2 = p2 then sm_lor (S 83 p2) (S 83 p1) else S 83 p2) (S 84 p2) (S 85 p2) (S 86 p2) = sm_rl 0 (if p2 = p2 then 0 else S 82 p2) (if p2 = p2 then sm_lor (S 83 p2) (S 83 p1) else S 83 p2) (S 84 p2) (S 85 p2) (S 86 p2) := congrArg (fun z_ : Int => sm_rl z_ (if p2 = p2 then 0 else S 82 p2) (if p2 = p2 then sm_lor (S 83 p2) (S 83 p1) else S 83 p2) (S 84 p2) (S 85 p2) (S 86 p2)) (if_pos la_joinLabel_2)
            have e430_ : sm_rl 0 (if p2 = p2 then 0 else S 82 p2) (if p2 = p2 then sm_lor (S 83 p2) (S 83 p1) else S 83 p2) (S 84 p2) (S 85 p2) (S 86 p2) = sm_rl 0 0 (if p2 = p2 then sm_lor (S 83 p2) (S 83 p1) else S 83 p2) (S 84 p2) (S 85 p2) (S 86 p2) := congrArg (fun z_ : Int => sm_rl 0 z_ (if p2 = p2 then sm_lor (S 83 p2) (S 83 p1) else S 83 p2) (S 84 p2) (S 85 p2) (S 86 p2)) (if_pos la_joinLabel_2)
            have e431_ : sm_rl 0 0 (if p2 = p2 then sm_lor (S 83 p2) (S 83 p1) else S 83 p2) (S 84 p2) (S 85 p2) (S 86 p2) = sm_rl 0 0 (sm_lor (S 83 p2) (S 83 p1)) (S 84 p2) (S 85 p2) (S 86 p2) := congrArg (fun z_ : Int => sm_rl 0 0 z_ (S 84 p2) (S 85 p2) (S 86 p2)) (if_pos la_joinLabel_2)
            have e432_ : sm_rl (if p2 = p2 then 0 else S 81 p2) (if p2 = p2 then 0 else S 82 p2) (if p2 = p2 then sm_lor (S 83 p2) (S 83 p1) else S 83 p2) (if p2 = p2 then sm_lor (S 84 p2) (S 84 p1) else S 84 p2) (sm_lor (S 85 p2) (S 85 p1)) (S 86 p2) = sm_rl 0 (if p2 = p2 then 0 else S 82 p2) (if p2 = p2 then sm_lor (S 83 p2) (S 83 p1) else S 83 p2) (if p2 = p2 then sm_lor (S 84 p2) (S 84 p1) else S 84 p2) (sm_lor (S 85 p2) (S 85 p1)) (S 86 p2) := congrArg (fun z_ : Int => sm_rl z_ (if p2 = p2 then 0 else S 82 p2) (if p2 = p2 then sm_lor (S 83 p2) (S 83 p1) else S 83 p2) (if p2 = p2 then sm_lor (S 84 p2) (S 84 p1) else S 84 p2) (sm_lor (S 85 p2) (S 85 p1)) (S 86 p2)) (if_pos la_joinLabel_2)
            have e433_ : sm_rl 0 (if p2 = p2 then 0 else S 82 p2) (if p2 = p2 then sm_lor (S 83 p2) (S 83 p1) else S 83 p2) (if p2 = p2 then sm_lor (S 84 p2) (S 84 p1) else S 84 p2) (sm_lor (S 85 p2) (S 85 p1)) (S 86 p2) = sm_rl 0 0 (if p2 = p2 then sm_lor (S 83 p2) (S 83 p1) else S 83 p2) (if p2 = p2 then sm_lor (S 84 p2) (S 84 p1) else S 84 p2) (sm_lor (S 85 p2) (S 85 p1)) (S 86 p2) := congrArg (fun z_ : Int => sm_rl 0 z_ (if p2 = p2 then sm_lor (S 83 p2) (S 83 p1) else S 83 p2) (if p2 = p2 then sm_lor (S 84 p2) (S 84 p1) else S 84 p2) (sm_lor (S 85 p2) (S 85 p1)) (S 86 p2)) (if_pos la_joinLabel_2)
            have e434_ : sm_rl 0 0 (if p2 = p2 then sm_lor (S 83 p2) (S 83 p1) else S 83 p2) (if p2 = p2 then sm_lor (S 84 p2) (S 84 p1) else S 84 p2) (sm_lor (S 85 p2) (S 85 p1)) (S 86 p2) = sm_rl 0 0 (sm_lor (S 83 p2) (S 83 p1)) (if p2 = p2 then sm_lor (S 84 p2) (S 84 p1) else S 84 p2) (sm_lor (S 85 p2) (S 85 p1)) (S 86 p2) := congrArg (fun z_ : Int => sm_rl 0 0 z_ (if p2 = p2 then sm_lor (S 84 p2) (S 84 p1) else S 84 p2) (sm_lor (S 85 p2) (S 85 p1)) (S 86 p2)) (if_pos la_joinLabel_2)
            have e435_ : sm_rl 0 0 (sm_lor (S 83 p2) (S 83 p1)) (if p2 = p2 then sm_lor (S 84 p2) (S 84 p1) else S 84 p2) (sm_lor (S 85 p2) (S 85 p1)) (S 86 p2) = sm_rl 0 0 (sm_lor (S 83 p2) (S 83 p1)) (sm_lor (S 84 p2) (S 84 p1)) (sm_lor (S 85 p2) (S 85 p1)) (S 86 p2) := congrArg (fun z_ : Int => sm_rl 0 0 (sm_lor (S 83 p2) (S 83 p1)) z_ (sm_lor (S 85 p2) (S 85 p1)) (S 86 p2)) (if_pos la_joinLabel_2)
            have e436_ : sm_rl (if p2 = p2 then 0 else S 81 p2) (if p2 = p2 then 0 else S 82 p2) (if p2 = p2 then sm_lor (S 83 p2) (S 83 p1) else S 83 p2) (if p2 = p2 then sm_lor (S 84 p2) (S 84 p1) else S 84 p2) (S 85 p2) (S 86 p2) = sm_rl 0 (if p2 = p2 then 0 else S 82 p2) (if p2 = p2 then sm_lor (S 83 p2) (S 83 p1) else S 83 p2) (if p2 = p2 then sm_lor (S 84 p2) (S 84 p1) else S 84 p2) (S 85 p2) (S 86 p2) := congrArg (fun z_ : Int => sm_rl z_ (if p2 = p2 then 0 else S 82 p2) (if p2 = p2 then sm_lor (S 83 p2) (S 83 p1) else S 83 p2) (if p2 = p2 then sm_lor (S 84 p2) (S 84 p1) else S 84 p2) (S 85 p2) (S 86 p2)) (if_pos la_joinLabel_2)
            have e437_ : sm_rl 0 (if p2 = p2 then 0 else S 82 p2) (if p2 = p2 then sm_lor (S 83 p2) (S 83 p1) else S 83 p2) (if p2 = p2 then sm_lor (S 84 p2) (S 84 p1) else S 84 p2) (S 85 p2) (S 86 p2) = sm_rl 0 0 (if p2 = p2 then sm_lor (S 83 p2) (S 83 p1) else S 83 p2) (if p2 = p2 then sm_lor (S 84 p2) (S 84 p1) else S 84 p2) (S 85 p2) (S 86 p2) := congrArg (fun z_ : Int => sm_rl 0 z_ (if p2 = p2 then sm_lor (S 83 p2) (S 83 p1) else S 83 p2) (if p2 = p2 then sm_lor (S 84 p2) (S 84 p1) else S 84 p2) (S 85 p2) (S 86 p2)) (if_pos la_joinLabel_2)
            have e438_ : sm_rl 0 0 (if p2 = p2 then sm_lor (S 83 p2) (S 83 p1) else S 83 p2) (if p2 = p2 then sm_lor (S 84 p2) (S 84 p1) else S 84 p2) (S 85 p2) (S 86 p2) = sm_rl 0 0 (sm_lor (S 83 p2) (S 83 p1)) (if p2 = p2 then sm_lor (S 84 p2) (S 84 p1) else S 84 p2) (S 85 p2) (S 86 p2) := congrArg (fun z_ : Int => sm_rl 0 0 z_ (if p2 = p2 then sm_lor (S 84 p2) (S 84 p1) else S 84 p2) (S 85 p2) (S 86 p2)) (if_pos la_joinLabel_2)
            have e439_ : sm_rl 0 0 (sm_lor (S 83 p2) (S 83 p1)) (if p2 = p2 then sm_lor (S 84 p2) (S 84 p1) else S 84 p2) (S 85 p2) (S 86 p2) = sm_rl 0 0 (sm_lor (S 83 p2) (S 83 p1)) (sm_lor (S 84 p2) (S 84 p1)) (S 85 p2) (S 86 p2) := congrArg (fun z_ : Int => sm_rl 0 0 (sm_lor (S 83 p2) (S 83 p1)) z_ (S 85 p2) (S 86 p2)) (if_pos la_joinLabel_2)
            have e440_ : sm_rl (if p2 = p2 then 0 else S 81 p2) (if p2 = p2 then 0 else S 82 p2) (if p2 = p2 then sm_lor (S 83 p2) (S 83 p1) else S 83 p2) (if p2 = p2 then sm_lor (S 84 p2) (S 84 p1) else S 84 p2) (if p2 = p2 then sm_lor (S 85 p2) (S 85 p1) else S 85 p2) (sm_lor (S 86 p2) (S 86 p1)) = sm_rl 0 (if p2 = p2 then 0 else S 82 p2) (if p2 = p2 then sm_lor (S 83 p2) (S 83 p1) else S 83 p2) (if p2 = p2 then sm_lor (S 84 p2) (S 84 p1) else S 84 p2) (if p2 = p2 then sm_lor (S 85 p2) (S 85 p1) else S 85 p2) (sm_lor (S 86 p2) (S 86 p1)) := congrArg (fun z_ : Int => sm_rl z_ (if p2 = p2 then 0 else S 82 p2) (if p2 = p2 then sm_lor (S 83 p2) (S 83 p1) else S 83 p2) (if p2 = p2 then sm_lor (S 84 p2) (S 84 p1) else S 84 p2) (if p2 = p2 then sm_lor (S 85 p2) (S 85 p1) else S 85 p2) (sm_lor (S 86 p2) (S 86 p1))) (if_pos la_joinLabel_2)
            have e441_ : sm_rl 0 (if p2 = p2 then 0 else S 82 p2) (if p2 = p2 then sm_lor (S 83 p2) (S 83 p1) else S 83 p2) (if p2 = p2 then sm_lor (S 84 p2) (S 84 p1) else S 84 p2) (if p2 = p2 then sm_lor (S 85 p2) (S 85 p1) else S 85 p2) (sm_lor (S 86 p2) (S 86 p1)) = sm_rl 0 0 (if p2 = p2 then sm_lor (S 83 p2) (S 83 p1) else S 83 p2) (if p2 = p2 then sm_lor (S 84 p2) (S 84 p1) else S 84 p2) (if p2 = p2 then sm_lor (S 85 p2) (S 85 p1) else S 85 p2) (sm_lor (S 86 p2) (S 86 p1)) := congrArg (fun z_ : Int => sm_rl 0 z_ (if p2 = p2 then sm_lor (S 83 p2) (S 83 p1) else S 83 p2) (if p2 = p2 then sm_lor (S 84 p2) (S 84 p1) else S 84 p2) (if p2 = p2 then sm_lor (S 85 p2) (S 85 p1) else S 85 p2) (sm_lor (S 86 p2) (S 86 p1))) (if_pos la_joinLabel_2)
            have e442_ : sm_rl 0 0 (if p2 = p2 then sm_lor (S 83 p2) (S 83 p1) else S 83 p2) (if p2 = p2 then sm_lor (S 84 p2) (S 84 p1) else S 84 p2) (if p2 = p2 then sm_lor (S 85 p2) (S 85 p1) else S 85 p2) (sm_lor (S 86 p2) (S 86 p1)) = sm_rl 0 0 (sm_lor (S 83 p2) (S 83 p1)) (if p2 = p2 then sm_lor (S 84 p2) (S 84 p1) else S 84 p2) (if p2 = p2 then sm_lor (S 85 p2) (S 85 p1) else S 85 p2) (sm_lor (S 86 p2) (S 86 p1)) := congrArg (fun z_ : Int => sm_rl 0 0 z_ (if p2 = p2 then sm_lor (S 84 p2) (S 84 p1) else S 84 p2) (if p2 = p2 then sm_lor (S 85 p2) (S 85 p1) else S 85 p2) (sm_lor (S 86 p2) (S 86 p1))) (if_pos la_joinLabel_2)
            have e443_ : sm_rl 0 0 (sm_lor (S 83 p2) (S 83 p1)) (if p2 = p2 then sm_lor (S 84 p2) (S 84 p1) else S 84 p2) (if p2 = p2 then sm_lor (S 85 p2) (S 85 p1) else S 85 p2) (sm_lor (S 86 p2) (S 86 p1)) = sm_rl 0 0 (sm_lor (S 83 p2) (S 83 p1)) (sm_lor (S 84 p2) (S 84 p1)) (if p2 = p2 then sm_lor (S 85 p2) (S 85 p1) else S 85 p2) (sm_lor (S 86 p2) (S 86 p1)) := congrArg (fun z_ : Int => sm_rl 0 0 (sm_lor (S 83 p2) (S 83 p1)) z_ (if p2 = p2 then sm_lor (S 85 p2) (S 85 p1) else S 85 p2) (sm_lor (S 86 p2) (S 86 p1))) (if_pos la_joinLabel_2)
            have e444_ : sm_rl 0 0 (sm_lor (S 83 p2) (S 83 p1)) (sm_lor (S 84 p2) (S 84 p1)) (if p2 = p2 then sm_lor (S 85 p2) (S 85 p1) else S 85 p2) (sm_lor (S 86 p2) (S 86 p1)) = sm_rl 0 0 (sm_lor (S 83 p2) (S 83 p1)) (sm_lor (S 84 p2) (S 84 p1)) (sm_lor (S 85 p2) (S 85 p1)) (sm_lor (S 86 p2) (S 86 p1)) := congrArg (fun z_ : Int => sm_rl 0 0 (sm_lor (S 83 p2) (S 83 p1)) (sm_lor (S 84 p2) (S 84 p1)) z_ (sm_lor (S 86 p2) (S 86 p1))) (if_pos la_joinLabel_2)
            have e445_ : sm_rl (if p2 = p2 then 0 else S 81 p2) (if p2 = p2 then 0 else S 82 p2) (if p2 = p2 then sm_lor (S 83 p2) (S 83 p1) else S 83 p2) (if p2 = p2 then sm_lor (S 84 p2) (S 84 p1) else S 84 p2) (if p2 = p2 then sm_lor (S 85 p2) (S 85 p1) else S 85 p2) (S 86 p2) = sm_rl 0 (if p2 = p2 then 0 else S 82 p2) (if p2 = p2 then sm_lor (S 83 p2) (S 83 p1) else S 83 p2) (if p2 = p2 then sm_lor (S 84 p2) (S 84 p1) else S 84 p2) (if p2 = p2 then sm_lor (S 85 p2) (S 85 p1) else S 85 p2) (S 86 p2) := congrArg (fun z_ : Int => sm_rl z_ (if p2 = p2 then 0 else S 82 p2) (if p2 = p2 then sm_lor (S 83 p2) (S 83 p1) else S 83 p2) (if p2 = p2 then sm_lor (S 84 p2) (S 84 p1) else S 84 p2) (if p2 = p2 then sm_lor (S 85 p2) (S 85 p1) else S 85 p2) (S 86 p2)) (if_pos la_joinLabel_2)
            have e446_ : sm_rl 0 (if p2 = p2 then 0 else S 82 p2) (if p2 = p2 then sm_lor (S 83 p2) (S 83 p1) else S 83 p2) (if p2 = p2 then sm_lor (S 84 p2) (S 84 p1) else S 84 p2) (if p2 = p2 then sm_lor (S 85 p2) (S 85 p1) else S 85 p2) (S 86 p2) = sm_rl 0 0 (if p2 = p2 then sm_lor (S 83 p2) (S 83 p1) else S 83 p2) (if p2 = p2 then sm_lor (S 84 p2) (S 84 p1) else S 84 p2) (if p2 = p2 then sm_lor (S 85 p2) (S 85 p1) else S 85 p2) (S 86 p2) := congrArg (fun z_ : Int => sm_rl 0 z_ (if p2 = p2 then sm_lor (S 83 p2) (S 83 p1) else S 83 p2) (if p2 = p2 then sm_lor (S 84 p2) (S 84 p1) else S 84 p2) (if p2 = p2 then sm_lor (S 85 p2) (S 85 p1) else S 85 p2) (S 86 p2)) (if_pos la_joinLabel_2)
            have e447_ : sm_rl 0 0 (if p2 = p2 then sm_lor (S 83 p2) (S 83 p1) else S 83 p2) (if p2 = p2 then sm_lor (S 84 p2) (S 84 p1) else S 84 p2) (if p2 = p2 then sm_lor (S 85 p2) (S 85 p1) else S 85 p2) (S 86 p2) = sm_rl 0 0 (sm_lor (S 83 p2) (S 83 p1)) (if p2 = p2 then sm_lor (S 84 p2) (S 84 p1) else S 84 p2) (if p2 = p2 then sm_lor (S 85 p2) (S 85 p1) else S 85 p2) (S 86 p2) := congrArg (fun z_ : Int => sm_rl 0 0 z_ (if p2 = p2 then sm_lor (S 84 p2) (S 84 p1) else S 84 p2) (if p2 = p2 then sm_lor (S 85 p2) (S 85 p1) else S 85 p2) (S 86 p2)) (if_pos la_joinLabel_2)
            have e448_ : sm_rl 0 0 (sm_lor (S 83 p2) (S 83 p1)) (if p2 = p2 then sm_lor (S 84 p2) (S 84 p1) else S 84 p2) (if p2 = p2 then sm_lor (S 85 p2) (S 85 p1) else S 85 p2) (S 86 p2) = sm_rl 0 0 (sm_lor (S 83 p2) (S 83 p1)) (sm_lor (S 84 p2) (S 84 p1)) (if p2 = p2 then sm_lor (S 85 p2) (S 85 p1) else S 85 p2) (S 86 p2) := congrArg (fun z_ : Int => sm_rl 0 0 (sm_lor (S 83 p2) (S 83 p1)) z_ (if p2 = p2 then sm_lor (S 85 p2) (S 85 p1) else S 85 p2) (S 86 p2)) (if_pos la_joinLabel_2)
            have e449_ : sm_rl 0 0 (sm_lor (S 83 p2) (S 83 p1)) (sm_lor (S 84 p2) (S 84 p1)) (if p2 = p2 then sm_lor (S 85 p2) (S 85 p1) else S 85 p2) (S 86 p2) = sm_rl 0 0 (sm_lor (S 83 p2) (S 83 p1)) (sm_lor (S 84 p2) (S 84 p1)) (sm_lor (S 85 p2) (S 85 p1)) (S 86 p2) := congrArg (fun z_ : Int => sm_rl 0 0 (sm_lor (S 83 p2) (S 83 p1)) (sm_lor (S 84 p2) (S 84 p1)) z_ (S 86 p2)) (if_pos la_joinLabel_2)
            have e450_ : sm_rl (if p2 = p2 then 0 else S 81 p2) (if p2 = p2 then 0 else S 82 p2) (sm_lor (S 83 p2) (S 83 p1)) (sm_lor (S 84 p2) (S 84 p1)) (sm_lor (S 85 p2) (S 85 p1)) (sm_lor (S 86 p2) (S 86 p1)) = sm_rl 0 (if p2 = p2 then 0 else S 82 p2) (sm_lor (S 83 p2) (S 83 p1)) (sm_lor (S 84 p2) (S 84 p1)) (sm_lor (S 85 p2) (S 85 p1)) (sm_lor (S 86 p2) (S 86 p1)) := congrArg (fun z_ : Int => sm_rl z_ (if p2 = p2 then 0 else S 82 p2) (sm_lor (S 83 p2) (S 83 p1)) (sm_lor (S 84 p2) (S 84 p1)) (sm_lor (S 85 p2) (S 85 p1)) (sm_lor (S 86 p2) (S 86 p1))) (if_pos la_joinLabel_2)
            have e451_ : sm_rl 0 (if p2 = p2 then 0 else S 82 p2) (sm_lor (S 83 p2) (S 83 p1)) (sm_lor (S 84 p2) (S 84 p1)) (sm_lor (S 85 p2) (S 85 p1)) (sm_lor (S 86 p2) (S 86 p1)) = sm_rl 0 0 (sm_lor (S 83 p2) (S 83 p1)) (sm_lor (S 84 p2) (S 84 p1)) (sm_lor (S 85 p2) (S 85 p1)) (sm_lor (S 86 p2) (S 86 p1)) := congrArg (fun z_ : Int => sm_rl 0 z_ (sm_lor (S 83 p2) (S 83 p1)) (sm_lor (S 84 p2) (S 84 p1)) (sm_lor (S 85 p2) (S 85 p1)) (sm_lor (S 86 p2) (S 86 p1))) (if_pos la_joinLabel_2)
            have e452_ : (if p2 = p2 then sm_lor (S 84 p2) (S 84 p1) else S 84 p2 : Int) = sm_lor (S 84 p2) (S 84 p1) := if_pos la_joinLabel_2
            have e453_ : (if p2 = p2 then sm_lor (S 83 p2) (S 83 p1) else S 83 p2 : Int) = sm_lor (S 83 p2) (S 83 p1) := if_pos la_joinLabel_2
            have e454_ : (if p2 = p2 then sm_lor (S 85 p2) (S 85 p1) else S 85 p2 : Int) = sm_lor (S 85 p2) (S 85 p1) := if_pos la_joinLabel_2
            exact (la_joinLabel_14 h10_ h12_ h13_ h15_ h16_ h281_ h371_ h385_ h387_ h389_ h391_ h401_ e414_ e415_ e416_ e417_ e418_ e419_ e420_ e421_ e422_ e423_ e424_ e425_ e426_ e427_ e428_ e429_ e430_ e431_ e432_ e433_ e434_ e435_ e436_ e437_ e438_ e439_ e440_ e441_ e442_ e443_ e444_ e445_ e446_ e447_ e448_ e449_ e450_ e451_)
          intro h455_
          intro h456_
          intro h457_
          intro h458_
          intro h459_
          intro h460_
          intro h461_
          intro h462_
          intro h463_
          intro h464_
          intro h465_
          intro h466_
          intro h467_
          intro h468_
          have h469_ := (h468_ h456_)
          intro h470_
          have h471_ := (h470_ h459_)
          intro h472_
          have h473_ := (h472_ h462_)
          intro h474_
          have h475_ := (h474_ h465_)
          intro h476_
          have e477_ : (if p2 = p2 then 1 else S 82 p2 : Int) = 1 := if_pos la_joinLabel_2
          have e478_ : (if p2 = p2 then 0 else S 81 p2 : Int) = 0 := if_pos la_joinLabel_2
          have h479_ := (h476_ (la_joinLabel_8 h278_ e478_))
          have h480_ := (h479_ (la_joinLabel_10 h368_ e477_))
          have h481_ := (h480_ h456_)
          have h482_ := (h481_ h459_)
          have h483_ := (h482_ h462_)
          have h484_ := (h483_ h465_)
          have h485_ := (h484_ h15_)
          have h486_ := (h485_ (la_joinLabel_11 h368_ e477_))
          refine ⟨?_, ?_⟩
          · skip
            refine ⟨?_, ?_⟩
            · skip
              have e487_ : sm_rl (if p2 = p2 then 0 else S 81 p2) (if p2 = p2 then 1 else S 82 p2) (sm_lor (S 83 p2) (S 83 p1)) (sm_lor (S 84 p2) (S 84 p1)) (sm_lor (S 85 p2) (S 85 p1)) (sm_lor (S 86 p2) (S 86 p1)) = sm_rl 0 (if p2 = p2 then 1 else S 82 p2) (sm_lor (S 83 p2) (S 83 p1)) (sm_lor (S 84 p2) (S 84 p1)) (sm_lor (S 85 p2) (S 85 p1)) (sm_lor (S 86 p2) (S 86 p1)) := congrArg (fun z_ : Int => sm_rl z_ (if p2 = p2 then 1 else S 82 p2) (sm_lor (S 83 p2) (S 83 p1)) (sm_lor (S 84 p2) (S 84 p1)) (sm_lor (S 85 p2) (S 85 p1)) (sm_lor (S 86 p2) (S 86 p1))) (if_pos la_joinLabel_2)
              have e488_ : sm_rl 0 (if p2 = p2 then 1 else S 82 p2) (sm_lor (S 83 p2) (S 83 p1)) (sm_lor (S 84 p2) (S 84 p1)) (sm_lor (S 85 p2) (S 85 p1)) (sm_lor (S 86 p2) (S 86 p1)) = sm_rl 0 1 (sm_lor (S 83 p2) (S 83 p1)) (sm_lor (S 84 p2) (S 84 p1)) (sm_lor (S 85 p2) (S 85 p1)) (sm_lor (S 86 p2) (S 86 p1)) := congrArg (fun z_ : Int => sm_rl 0 z_ (sm_lor (S 83 p2) (S 83 p1)) (sm_lor (S 84 p2) (S 84 p1)) (sm_lor (S 85 p2) (S 85 p1)) (sm_lor (S 86 p2) (S 86 p1))) (if_pos la_joinLabel_2)
              exact (la_joinLabel_4 h15_)
            have e489_ : sm_rl (if p2 = p2 then 0 else S 81 p2) (if p2 = p2 then 1 else S 82 p2) (sm_lor (S 83 p2) (S 83 p1)) (sm_lor (S 84 p2) (S 84 p1)) (sm_lor (S 85 p2) (S 85 p1)) (sm_lor (S 86 p2) (S 86 p1)) = sm_rl 0 (if p2 = p2 then 1 else S 82 p2) (sm_lor (S 83 p2) (S 83 p1)) (sm_lor (S 84 p2) (S 84 p1)) (sm_lor (S 85 p2) (S 85 p1)) (sm_lor (S 86 p2) (S 86 p1)) := congrArg (fun z_ : Int => sm_rl z_ (if p2 = p2 then 1 else S 82 p2) (sm_lor (S 83 p2) (S 83 p1)) (sm_lor (S 84 p2) (S 84 p1)) (sm_lor (S 85 p2) (S 85 p1)) (sm_lor (S 86 p2) (S 86 p1))) (if_pos la_joinLabel_2)
            have e490_ : sm_rl 0 (if p2 = p2 then 1 else S 82 p2) (sm_lor (S 83 p2) (S 83 p1)) (sm_lor (S 84 p2) (S 84 p1)) (sm_lor (S 85 p2) (S 85 p1)) (sm_lor (S 86 p2) (S 86 p1)) = sm_rl 0 1 (sm_lor (S 83 p2) (S 83 p1)) (sm_lor (S 84 p2) (S 84 p1)) (sm_lor (S 85 p2) (S 85 p1)) (sm_lor (S 86 p2) (S 86 p1)) := congrArg (fun z_ : Int => sm_rl 0 z_ (sm_lor (S 83 p2) (S 83 p1)) (sm_lor (S 84 p2) (S 84 p1)) (sm_lor (S 85 p2) (S 85 p1)) (sm_lor (S 86 p2) (S 86 p1))) (if_pos la_joinLabel_2)
            exact (la_joinLabel_5 h15_)
          refine ⟨?_, ?_⟩
          · skip
            intro h491_
            have e492_ : sm_pl (fun i' : Int => (if i' = p2 then 0 else (S 81) i')) (fun i' : Int => (if i' = p2 then 1 else (S 82) i')) (fun i' : Int => (if i' = p2 then sm_lor (S 83 p2) (S 83 p1) else (S 83) i')) (fun i' : Int => (if i' = p2 then sm_lor (S 84 p2) (S 84 p1) else (S 84) i')) (fun i' : Int => (if i' = p2 then sm_lor (S 85 p2) (S 85 p1) else (S 85) i')) (fun i' : Int => (if i' = p2 then sm_lor (S 86 p2) (S 86 p1) else (S 86) i')) = sm_pl (fun i' : Int => (if i' = p2 then 0 else (S 81) i')) (fun i' : Int => (if i' = p2 then 1 else (S 82) i')) (fun i' : Int => (if i' = p2 then sm_lor (S 83 p2) (S 83 p1) else (S 83) i')) (fun i' : Int => (if i' = p2 then sm_lor (S 84 p2) (S 84 p1) else (S 84) i')) (fun i' : Int => (if i' = p2 then sm_lor (S 85 p2) (S 85 p1) else (S 85) i')) (S 86) := sm_pl_D h491_
            have e493_ : sm_pl (fun i' : Int => (if i' = p2 then 0 else (S 81) i')) (fun i' : Int => (if i' = p2 then 1 else (S 82) i')) (fun i' : Int => (if i' = p2 then sm_lor (S 83 p2) (S 83 p1) else (S 83) i')) (fun i' : Int => (if i' = p2 then sm_lor (S 84 p2) (S 84 p1) else (S 84) i')) (fun i' : Int => (if i' = p2 then sm_lor (S 85 p2) (S 85 p1) else (S 85) i')) (S 86) = sm_pl (fun i' : Int => (if i' = p2 then 0 else (S 81) i')) (fun i' : Int => (if i' = p2 then 1 else (S 82) i')) (fun i' : Int => (if i' = p2 then sm_lor (S 83 p2) (S 83 p1) else (S 83) i')) (fun i' : Int => (if i' = p2 then sm_lor (S 84 p2) (S 84 p1) else (S 84) i')) (S 85) (S 86) := sm_pl_C h491_
            have e494_ : sm_pl (fun i' : Int => (if i' = p2 then 0 else (S 81) i')) (fun i' : Int => (if i' = p2 then 1 else (S 82) i')) (fun i' : Int => (if i' = p2 then sm_lor (S 83 p2) (S 83 p1) else (S 83) i')) (fun i' : Int => (if i' = p2 then sm_lor (S 84 p2) (S 84 p1) else (S 84) i')) (S 85) (S 86) = sm_pl (fun i' : Int => (if i' = p2 then 0 else (S 81) i')) (fun i' : Int => (if i' = p2 then 1 else (S 82) i')) (fun i' : Int => (if i' = p2 then sm_lor (S 83 p2) (S 83 p1) else (S 83) i')) (S 84) (S 85) (S 86) := sm_pl_B h491_
            have e495_ : sm_pl (fun i' : Int => (if i' = p2 then 0 else (S 81) i')) (fun i' : Int => (if i' = p2 then 1 else (S 82) i')) (fun i' : Int => (if i' = p2 then sm_lor (S 83 p2) (S 83 p1) else (S 83) i')) (S 84) (S 85) (S 86) = sm_pl (fun i' : Int => (if i' = p2 then 0 else (S 81) i')) (fun i' : Int => (if i' = p2 then 1 else (S 82) i')) (S 83) (S 84) (S 85) (S 86) := sm_pl_A h491_
            have e496_ : sm_pl (fun i' : Int => (if i' = p2 then 0 else (S 81) i')) (fun i' : Int => (if i' = p2 then 1 else (S 82) i')) (S 83) (S 84) (S 85) (S 86) = sm_pl (fun i' : Int => (if i' = p2 then 0 else (S 81) i')) (S 82) (S 83) (S 84) (S 85) (S 86) := sm_pl_N h491_
            have e497_ : sm_pl (fun i' : Int => (if i' = p2 then 0 else (S 81) i')) (S 82) (S 83) (S 84) (S 85) (S 86) = sm_pl (S 81) (S 82) (S 83) (S 84) (S 85) (S 86) := sm_pl_T h491_
            exact (la_joinLabel_6 e492_ e493_ e494_ e495_ e496_ e497_)
          refine ⟨h15_, ?_⟩
          intro h498_
          have e499_ : sm_pl (fun i' : Int => (if i' = p2 then 0 else (S 81) i')) (fun i' : Int => (if i' = p2 then 1 else (S 82) i')) (fun i' : Int => (if i' = p2 then sm_lor (S 83 p2) (S 83 p1) else (S 83) i')) (fun i' : Int => (if i' = p2 then sm_lor (S 84 p2) (S 84 p1) else (S 84) i')) (fun i' : Int => (if i' = p2 then sm_lor (S 85 p2) (S 85 p1) else (S 85) i')) (fun i' : Int => (if i' = p2 then sm_lor (S 86 p2) (S 86 p1) else (S 86) i')) = sm_pl (fun i' : Int => (if i' = p2 then 0 else (S 81) i')) (fun i' : Int => (if i' = p2 then 1 else (S 82) i')) (fun i' : Int => (if i' = p2 then sm_lor (S 83 p2) (S 83 p1) else (S 83) i')) (fun i' : Int => (if i' = p2 then sm_lor (S 84 p2) (S 84 p1) else (S 84) i')) (fun i' : Int => (if i' = p2 then sm_lor (S 85 p2) (S 85 p1) else (S 85) i')) (S 86) + sm_rl (if p2 = p2 then 0 else S 81 p2) (if p2 = p2 then 1 else S 82 p2) (if p2 = p2 then sm_lor (S 83 p2) (S 83 p1) else S 83 p2) (if p2 = p2 then sm_lor (S 84 p2) (S 84 p1) else S 84 p2) (if p2 = p2 then sm_lor (S 85 p2) (S 85 p1) else S 85 p2) (S 86 p2) - sm_rl (if p2 = p2 then 0 else S 81 p2) (if p2 = p2 then 1 else S 82 p2) (if p2 = p2 then sm_lor (S 83 p2) (S 83 p1) else S 83 p2) (if p2 = p2 then sm_lor (S 84 p2) (S 84 p1) else S 84 p2) (if p2 = p2 then sm_lor (S 85 p2) (S 85 p1) else S 85 p2) (sm_lor (S 86 p2) (S 86 p1)) := sm_pl_D' h6_ h498_
          have e500_ : sm_pl (fun i' : Int => (if i' = p2 then 0 else (S 81) i')) (fun i' : Int => (if i' = p2 then 1 else (S 82) i')) (fun i' : Int => (if i' = p2 then sm_lor (S 83 p2) (S 83 p1) else (S 83) i')) (fun i' : Int => (if i' = p2 then sm_lor (S 84 p2) (S 84 p1) else (S 84) i')) (fun i' : Int => (if i' = p2 then sm_lor (S 85 p2) (S 85 p1) else (S 85) i')) (S 86) = sm_pl (fun i' : Int => (if i' = p2 then 0 else (S 81) i')) (fun i' : Int => (if i' = p2 then 1 else (S 82) i')) (fun i' : Int => (if i' = p2 then sm_lor (S 83 p2) (S 83 p1) else (S 83) i')) (fun i' : Int => (if i' = p2 then sm_lor (S 84 p2) (S 84 p1) else (S 84) i')) (S 85) (S 86) + sm_rl (if p2 = p2 then 0 else S 81 p2) (if p2 = p2 then 1 else S 82 p2) (if p2 = p2 then sm_lor (S 83 p2) (S 83 p1) else S 83 p2) (if p2 = p2 then sm_lor (S 84 p2) (S 84 p1) else S 84 p2) (S 85 p2) (S 86 p2) - sm_rl (if p2 = p2 then 0 else S 81 p2) (if p2 = p2 then 1 else S 82 p2) (if p2 = p2 then sm_lor (S 83 p2) (S 83 p1) else S 83 p2) (if p2 = p2 then sm_lor (S 84 p2) (S 84 p1) else S 84 p2) (sm_lor (S 85 p2) (S 85 p1)) (S 86 p2) := sm_pl_C' h6_ h498_
          have e501_ : sm_pl (fun i' : Int => (if i' = p2 then 0 else (S 81) i')) (fun i' : Int => (if i' = p2 then 1 else (S 82) i')) (fun i' : Int => (if i' = p2 then sm_lor (S 83 p2) (S 83 p1) else (S 83) i')) (fun i' : Int => (if i' = p2 then sm_lor (S 84 p2) (S 84 p1) else (S 84) i')) (S 85) (S 86) = sm_pl (fun i' : Int => (if i' = p2 then 0 else (S 81) i')) (fun i' : Int => (if i' = p2 then 1 else (S 82) i')) (fun i' : Int => (if i' = p2 then sm_lor (S 83 p2) (S 83 p1) else (S 83) i')) (S 84) (S 85) (S 86) + sm_rl (if p2 = p2 then 0 else S 81 p2) (if p2 = p2 then 1 else S 82 p2) (if p2 = p2 then sm_lor (S 83 p2) (S 83 p1) else S 83 p2) (S 84 p2) (S 85 p2) (S 86 p2) - sm_rl (if p2 = p2 then 0 else S 81 p2) (if p2 = p2 then 1 else S 82 p2) (if p2 = p2 then sm_lor (S 83 p2) (S 83 p1) else S 83 p2) (sm_lor (S 84 p2) (S 84 p1)) (S 85 p2) (S 86 p2) := sm_pl_B' h6_ h498_
          have e502_ : sm_pl (fun i' : Int => (if i' = p2 then 0 else (S 81) i')) (fun i' : Int => (if i' = p2 then 1 else (S 82) i')) (fun i' : Int => (if i' = p2 then sm_lor (S 83 p2) (S 83 p1) else (S 83) i')) (S 84) (S 85) (S 86) = sm_pl (fun i' : Int => (if i' = p2 then 0 else (S 81) i')) (fun i' : Int => (if i' = p2 then 1 else (S 82) i')) (S 83) (S 84) (S 85) (S 86) + sm_rl (if p2 = p2 then 0 else S 81 p2) (if p2 = p2 then 1 else S 82 p2) (S 83 p2) (S 84 p2) (S 85 p2) (S 86 p2) - sm_rl (if p2 = p2 then 0 else S 81 p2) (if p2 = p2 then 1 else S 82 p2) (sm_lor (S 83 p2) (S 83 p1)) (S 84 p2) (S 85 p2) (S 86 p2) := sm_pl_A' h6_ h498_
          have e503_ : sm_pl (fun i' : Int => (if i' = p2 then 0 else (S 81) i')) (fun i' : Int => (if i' = p2 then 1 else (S 82) i')) (S 83) (S 84) (S 85) (S 86) = sm_pl (fun i' : Int => (if i' = p2 then 0 else (S 81) i')) (S 82) (S 83) (S 84) (S 85) (S 86) + sm_rl (if p2 = p2 then 0 else S 81 p2) (S 82 p2) (S 83 p2) (S 84 p2) (S 85 p2) (S 86 p2) - sm_rl (if p2 = p2 then 0 else S 81 p2) 1 (S 83 p2) (S 84 p2) (S 85 p2) (S 86 p2) := sm_pl_N' h6_ h498_
          have e504_ : sm_pl (fun i' : Int => (if i' = p2 then 0 else (S 81) i')) (S 82) (S 83) (S 84) (S 85) (S 86) = sm_pl (S 81) (S 82) (S 83) (S 84) (S 85) (S 86) + sm_rl (S 81 p2) (S 82 p2) (S 83 p2) (S 84 p2) (S 85 p2) (S 86 p2) - sm_rl 0 (S 82 p2) (S 83 p2) (S 84 p2) (S 85 p2) (S 86 p2) := sm_pl_T' h6_ h498_
          have e505_ : sm_rl (if p2 = p2 then 0 else S 81 p2) 1 (S 83 p2) (S 84 p2) (S 85 p2) (S 86 p2) = sm_rl 0 1 (S 83 p2) (S 84 p2) (S 85 p2) (S 86 p2) := congrArg (fun z_ : Int => sm_rl z_ 1 (S 83 p2) (S 84 p2) (S 85 p2) (S 86 p2)) (if_pos la_joinLabel_2)
          have e506_ : sm_rl (if p2 = p2 then 0 else S 81 p2) (S 82 p2) (S 83 p2) (S 84 p2) (S 85 p2) (S 86 p2) = sm_rl 0 (S 82 p2) (S 83 p2) (S 84 p2) (S 85 p2) (S 86 p2) := congrArg (fun z_ : Int => sm_rl z_ (S 82 p2) (S 83 p2) (S 84 p2) (S 85 p2) (S 86 p2)) (if_pos la_joinLabel_2)
          have e507_ : sm_rl (if p2 = p2 then 0 else S 81 p2) (if p2 = p2 then 1 else S 82 p2) (sm_lor (S 83 p2) (S 83 p1)) (S 84 p2) (S 85 p2) (S 86 p2) = sm_rl 0 (if p2 = p2 then 1 else S 82 p2) (sm_lor (S 83 p2) (S 83 p1)) (S 84 p2) (S 85 p2) (S 86 p2) := congrArg (fun z_ : Int => sm_rl z_ (if p2 = p2 then 1 else S 82 p2) (sm_lor (S 83 p2) (S 83 p1)) (S 84 p2) (S 85 p2) (S 86 p2)) (if_pos la_joinLabel_2)
          have e508_ : sm_rl 0 (if p2 = p2 then 1 else S 82 p2) (sm_lor (S 83 p2) (S 83 p1)) (S 84 p2) (S 85 p2) (S 86 p2) = sm_rl 0 1 (sm_lor (S 83 p2) (S 83 p1)) (S 84 p2) (S 85 p2) (S 86 p2) := congrArg (fun z_ : Int => sm_rl 0 z_ (sm_lor (S 83 p2) (S 83 p1)) (S 84 p2) (S 85 p2) (S 86 p2)) (if_pos la_joinLabel_2)
          have e509_ : sm_rl (if p2 = p2 then 0 else S 81 p2) (if p2 = p2 then 1 else S 82 p2) (S 83 p2) (S 84 p2) (S 85 p2) (S 86 p2) = sm_rl 0 (if p2 = p2 then 1 else S 82 p2) (S 83 p2) (S 84 p2) (S 85 p2) (S 86 p2) := congrArg (fun z_ : Int => sm_rl z_ (if p2 = p2 then 1 else S 82 p2) (S 83 p2) (S 84 p2) (S 85 p2) (S 86 p2)) (if_pos la_joinLabel_2)
          have e510_ : sm_rl 0 (if p2 = p2 then 1 else S 82 p2) (S 83 p2) (S 84 p2) (S 85 p2) (S 86 p2) = sm_rl 0 1 (S 83 p2) (S 84 p2) (S 85 p2) (S 86 p2) := congrArg (fun z_ : Int => sm_rl 0 z_ (S 83 p2) (S 84 p2) (S 85 p2) (S 86 p2)) (if_pos la_joinLabel_2)
          have e511_ : sm_rl (if p2 = p2 then 0 else S 81 p2) (if p2 = p2 then 1 else S 82 p2) (if p2 = p2 then sm_lor (S 83 p2) (S 83 p1) else S 83 p2) (sm_lor (S 84 p2) (S 84 p1)) (S 85 p2) (S 86 p2) = sm_rl 0 (if p2 = p2 then 1 else S 82 p2) (if p2 = p2 then sm_lor (S 83 p2) (S 83 p1) else S 83 p2) (sm_lor (S 84 p2) (S 84 p1)) (S 85 p2) (S 86 p2) := congrArg (fun z_ : Int => sm_rl z_ (if p2 = p2 then 1 else S 82 p2) (if p2 = p2 then sm_lor (S 83 p2) (S 83 p1) else S 83 p2) (sm_lor (S 84 p2) (S 84 p1)) (S 85 p2) (S 86 p2)) (if_pos la_joinLabel_2)
          have e512_ : sm_rl 0 (if p2 = p2 then 1 else S 82 p2) (if p2 = p2 then sm_lor (S 83 p2) (S 83 p1) else S 83 p2) (sm_lor (S 84 p2) (S 84 p1)) (S 85 p2) (S 86 p2) = sm_rl 0 1 (if p2 = p2 then sm_lor (S 83 p2) (S 83 p1) else S 83 p2) (sm_lor (S 84 p2) (S 84 p1)) (S 85 p2) (S 86 p2) := congrArg (fun z_ : Int => sm_rl 0 z_ (if p2 = p2 then sm_lor (S 83 p2) (S 83 p1) else S 83 p2) (sm_lor (S 84 p2) (S 84 p1)) (S 85 p2) (S 86 p2)) (if_pos la_joinLabel_2)
          have e513_ : sm_rl 0 1 (if p2 = p2 then sm_lor (S 83 p2) (S 83 p1) else S 83 p2) (sm_lor (S 84 p2) (S 84 p1)) (S 85 p2) (S 86 p2) = sm_rl 0 1 (sm_lor (S 83 p2) (S 83 p1)) (sm_lor (S 84 p2) (S 84 p1)) (S 85 p2) (S 86 p2) := congrArg (fun z_ : Int => sm_rl 0 1 z_ (sm_lor (S 84 p2) (S 84 p1)) (S 85 p2) (S 86 p2)) (if_pos la_joinLabel_2)
          have e514_ : sm_rl (if p2 = p2 then 0 else S 81 p2) (if p2 = p2 then 1 else S 82 p2) (if p2 = p2 then sm_lor (S 83 p2) (S 83 p1) else S 83 p2) (S 84 p2) (S 85 p2) (S 86 p2) = sm_rl 0 (if p2 = p2 then 1 else S 82 p2) (if p2 = p2 then sm_lor (S 83 p2) (S 83 p1) else S 83 p2) (S 84 p2) (S 85 p2) (S 86 p2) := congrArg (fun z_ : Int => sm_rl z_ (if p2 = p2 then 1 else S 82 p2) (if p2 = p2 then sm_lor (S 83 p2) (S 83 p1) else S 83 p2) (S 84 p2) (S 85 p2) (S 86 p2)) (if_pos la_joinLabel_2)
          have e515_ : sm_rl 0 (if p2 = p2 then 1 else S 82 p2) (if p2 = p2 then sm_lor (S 83 p2) (S 83 p1) else S 83 p2) (S 84 p2) (S 85 p2) (S 86 p2) = sm_rl 0 1 (if p2 = p2 then sm_lor (S 83 p2) (S 83 p1) else S 83 p2) (S 84 p2) (S 85 p2) (S 86 p2) := congrArg (fun z_ : Int => sm_rl 0 z_ (if p2 = p2 then sm_lor (S 83 p2) (S 83 p1) else S 83 p2) (S 84 p2) (S 85 p2) (S 86 p2)) (if_pos la_joinLabel_2)
          have e516_ : sm_rl 0 1 (if p2 = p2 then sm_lor (S 83 p2) (S 83 p1) else S 83 p2) (S 84 p2) (S 85 p2) (S 86 p2) = sm_rl 0 1 (sm_lor (S 83 p2) (S 83 p1)) (S 84 p2) (S 85 p2) (S 86 p2) := congrArg (fun z_ : Int => sm_rl 0 1 z_ (S 84 p2) (S 85 p2) (S 86 p2)) (if_pos la_joinLabel_2)
          have e517_ : sm_rl (if p2 = p2 then 0 else S 81 p2) (if p2 = p2 then 1 else S 82 p2) (if p2 = p2 then sm_lor (S 83 p2) (S 83 p1) else S 83 p2) (if p2 = p2 then sm_lor (S 84 p2) (S 84 p1) else S 84 p2) (sm_lor (S 85 p2) (S 85 p1)) (S 86 p2) = sm_rl 0 (if p2 = p2 then 1 else S 82 p2) (if p2 = p2 then sm_lor (S 83 p2) (S 83 p1) else S 83 p2) (if p2 = p2 then sm_lor (S 84 p2) (S 84 p1) else S 84 p2) (sm_lor (S 85 p2) (S 85 p1)) (S 86 p2) := congrArg (fun z_ : Int => sm_rl z_ (if p2 = p2 then 1 else S 82 p2) (if p2 = p2 then sm_lor (S 83 p2) (S 83 p1) else S 83 p2) (if p2 = p2 then sm_lor (S 84 p2) (S 84 p1) else S 84 p2) (sm_lor (S 85 p2) (S 85 p1)) (S 86 p2)) (if_pos la_joinLabel_2)
          have e518_ : sm_rl 0 (if p2 = p2 then 1 else S 82 p2) (if p2 = p2 then sm_lor (S 83 p2) (S 83 p1) else S 83 p2) (if p2 = p2 then sm_lor (S 84 p2) (S 84 p1) else S 84 p2) (sm_lor (S 85 p2) (S 85 p1)) (S 86 p2) = sm_rl 0 1 (if p2 = p2 then sm_lor (S 83 p2) (S 83 p1) else S 83 p2) (if p2 = p2 then sm_lor (S 84 p2) (S 84 p1) else S 84 p2) (sm_lor (S 85 p2) (S 85 p1)) (S 86 p2) := congrArg (fun z_ : Int => sm_rl 0 z_ (if p2 = p2 then sm_lor (S 83 p2) (S 83 p1) else S 83 p2) (if p2 = p2 then sm_lor (S 84 p2) (S 84 p1) else S 84 p2) (sm_lor (S 85 p2) (S 85 p1)) (S 86 p2)) (if_pos la_joinLabel_2)
          have e519_ : sm_rl 0 1 (if p2 = p2 then sm_lor (S 83 p2) (S 83 p1) else S 83 p2) (if p2 = p2 then sm_lor (S 84 p2) (S 84 p1) else S 84 p2) (sm_lor (S 85 p2) (S 85 p1)) (S 86 p2) = sm_rl 0 1 (sm_lor (S 83 p2) (S 83 p1)) (if p2 = p2 then sm_lor (S 84 p2) (S 84 p1) else S 84 p2) (sm_lor (S 85 p2) (S 85 p1)) (S 86 p2) := congrArg (fun z_ : Int => sm_rl 0 1 z_ (if p2 = p2 then sm_lor (S 84 p2) (S 84 p1) else S 84 p2) (sm_lor (S 85 p2) (S 85 p1)) (S 86 p2)) (if_pos la_joinLabel_2)
          have e520_ : sm_rl 0 1 (sm_lor (S 83 p2) (S 83 p1)) (if p2 = p2 then sm_lor (S 84 p2) (S 84 p1) else S 84 p2) (sm_lor (S 85 p2) (S 85 p1)) (S 86 p2) = sm_rl 0 1 (sm_lor (S 83 p2) (S 83 p1)) (sm_lor (S 84 p2) (S 84 p1)) (sm_lor (S 85 p2) (S 85 p1)) (S 86 p2) := congrArg (fun z_ : Int => sm_rl 0 1 (sm_lor (S 83 p2) (S 83 p1)) z_ (sm_lor (S 85 p2) (S 85 p1)) (S 86 p2)) (if_pos la_joinLabel_2)
          have e521_ : sm_rl (if p2 = p2 then 0 else S 81 p2) (if p2 = p2 then 1 else S 82 p2) (if p2 = p2 then sm_lor (S 83 p2) (S 83 p1) else S 83 p2) (if p2 = p2 then sm_lor (S 84 p2) (S 84 p1) else S 84 p2) (S 85 p2) (S 86 p2) = sm_rl 0 (if p2 = p2 then 1 else S 82 p2) (if p2 = p2 then sm_lor (S 83 p2) (S 83 p1) else S 83 p2) (if p2 = p2 then sm_lor (S 84 p2) (S 84 p1) else S 84 p2) (S 85 p2) (S 86 p2) := congrArg (fun z_ : Int => sm_rl z_ (if p2 = p2 then 1 else S 82 p2) (if p2 = p2 then sm_lor (S 83 p2) (S 83 p1) else S 83 p2) (if p2 = p2 then sm_lor (S 84 p2) (S 84 p1) else S 84 p2) (S 85 p2) (S 86 p2)) (if_pos la_joinLabel_2)
          have e522_ : sm_rl 0 (if p2 = p2 then 1 else S 82 p2) (if p2 = p2 then sm_lor (S 83 p2) (S 83 p1) else S 83 p2) (if p2 = p2 then sm_lor (S 84 p2) (S 84 p1) else S 84 p2) (S 85 p2) (S 86 p2) = sm_rl 0 1 (if p2 = p2 then sm_lor (S 83 p2) (S 83 p1) else S 83 p2) (if p2 = p2 then sm_lor (S 84 p2) (S 84 p1) else S 84 p2) (S 85 p2) (S 86 p2) := congrArg (fun z_ : Int => sm_rl 0 z_ (if p2 = p2 then sm_lor (S 83 p2) (S 83 p1) else S 83 p2) (if p2 = p2 then sm_lor (S 84 p2) (S 84 p1) else S 84 p2) (S 85 p2) (S 86 p2)) (if_pos la_joinLabel_2)
          have e523_ : sm_rl 0 1 (if p2 = p2 then sm_lor (S 83 p2) (S 83 p1) else S 83 p2) (if p2 = p2 then sm_lor (S 84 p2) (S 84 p1) else S 84 p2) (S 85 p2) (S 86 p2) = sm_rl 0 1 (sm_lor (S 83 p2) (S 83 p1)) (if p2 = p2 then sm_lor (S 84 p2) (S 84 p1) else S 84 p2) (S 85 p2) (S 86 p2) := congrArg (fun z_ : Int => sm_rl 0 1 z_ (if p2 = p2 then sm_lor (S 84 p2) (S 84 p1) else S 84 p2) (S 85 p2) (S 86 p2)) (if_pos la_joinLabel_2)
          have e524_ : sm_rl 0 1 (sm_lor (S 83 p2) (S 83 p1)) (if p2 = p2 then sm_lor (S 84 p2) (S 84 p1) else S 84 p2) (S 85 p2) (S 86 p2) = sm_rl 0 1 (sm_lor (S 83 p2) (S 83 p1)) (sm_lor (S 84 p2) (S 84 p1)) (S 85 p2) (S 86 p2) := congrArg (fun z_ : Int => sm_rl 0 1 (sm_lor (S 83 p2) (S 83 p1)) z_ (S 85 p2) (S 86 p2)) (if_pos la_joinLabel_2)
          have e525_ : sm_rl (if p2 = p2 then 0 else S 81 p2) (if p2 = p2 then 1 else S 82 p2) (if p2 = p2 then sm_lor (S 83 p2) (S 83 p1) else S 83 p2) (if p2 = p2 then sm_lor (S 84 p2) (S 84 p1) else S 84 p2) (if p2 = p2 then sm_lor (S 85 p2) (S 85 p1) else S 85 p2) (sm_lor (S 86 p2) (S 86 p1)) = sm_rl 0 (if p2 = p2 then 1 else S 82 p2) (if p2 = p2 then sm_lor (S 83 p2) (S 83 p1) else S 83 p2) (if p2 = p2 then sm_lor (S 84 p2) (S 84 p1) else S 84 p2) (if p2 = p2 then sm_lor (S 85 p2) (S 85 p1) else S 85 p2) (sm_lor (S 86 p2) (S 86 p1)) := congrArg (fun z_ : Int => sm_rl z_ (if p2 = p2 then 1 else S 82 p2) (if p2 = p2 then sm_lor (S 83 p2) (S 83 p1) else S 83 p2) (if p2 = p2 then sm_lor (S 84 p2) (S 84 p1) else S 84 p2) (if p2 = p2 then sm_lor (S 85 p2) (S 85 p1) else S 85 p2) (sm_lor (S 86 p2) (S 86 p1))) (if_pos la_joinLabel_2)
          have e526_ : sm_rl 0 (if p2 = p2 then 1 else S 82 p2) (if p2 = p2 then sm_lor (S 83 p2) (S 83 p1) else S 83 p2) (if p2 = p2 then sm_lor (S 84 p2) (S 84 p1) else S 84 p2) (if p2 = p2 then sm_lor (S 85 p2) (S 85 p1) else S 85 p2) (sm_lor (S 86 p2) (S 86 p1)) = sm_rl 0 1 (if p2 = p2 then sm_lor (S 83 p2) (S 83 p1) else S 83 p2) (if p2 = p2 then sm_lor (S 84 p2) (S 84 p1) else S 84 p2) (if p2 = p2 then sm_lor (S 85 p2) (S 85 p1) else S 85 p2) (sm_lor (S 86 p2) (S 86 p1)) := congrArg (fun z_ : Int => sm_rl 0 z_ (if p2 = p2 then sm_lor (S 83 p2) (S 83 p1) else S 83 p2) (if p2 = p2 then sm_lor (S 84 p2) (S 84 p1) else S 84 p2) (if p2 = p2 then sm_lor (S 85 p2) (S 85 p1) else S 85 p2) (sm_lor (S 86 p2) (S 86 p1))) (if_pos la_joinLabel_2)
          have e527_ : sm_rl 0 1 (if p2 = p2 then sm_lor (S 83 p2) (S 83 p1) else S 83 p2) (if p2 = p2 then sm_lor (S 84 p2) (S 84 p1) else S 84 p2) (if p2 = p2 then sm_lor (S 85 p2) (S 85 p1) else S 85 p2) (sm_lor (S 86 p2) (S 86 p1)) = sm_rl 0 1 (sm_lor (S 83 p2) (S 83 p1)) (if p2 = p2 then sm_lor (S 84 p2) (S 84 p1) else S 84 p2) (if p2 = p2 then sm_lor (S 85 p2) (S 85 p1) else S 85 p2) (sm_lor (S 86 p2) (S 86 p1)) := congrArg (fun z_ : Int => sm_rl 0 1 z_ (if p2 = p2 then sm_lor (S 84 p2) (S 84 p1) else S 84 p2) (if p2 = p2 then sm_lor (S 85 p2) (S 85 p1) else S 85 p2) (sm_lor (S 86 p2) (S 86 p1))) (if_pos la_joinLabel_2)
          have e528_ : sm_rl 0 1 (sm_lor (S 83 p2) (S 83 p1)) (if p2 = p2 then sm_lor (S 84 p2) (S 84 p1) else S 84 p2) (if p2 = p2 then sm_lor (S 85 p2) (S 85 p1) else S 85 p2) (sm_lor (S 86 p2) (S 86 p1)) = sm_rl 0 1 (sm_lor (S 83 p2) (S 83 p1)) (sm_lor (S 84 p2) (S 84 p1)) (if p2 = p2 then sm_lor (S 85 p2) (S 85 p1) else S 85 p2) (sm_lor (S 86 p2) (S 86 p1)) := congrArg (fun z_ : Int => sm_rl 0 1 (sm_lor (S 83 p2) (S 83 p1)) z_ (if p2 = p2 then sm_lor (S 85 p2) (S 85 p1) else S 85 p2) (sm_lor (S 86 p2) (S 86 p1))) (if_pos la_joinLabel_2)
          have e529_ : sm_rl 0 1 (sm_lor (S 83 p2) (S 83 p1)) (sm_lor (S 84 p2) (S 84 p1)) (if p2 = p2 then sm_lor (S 85 p2) (S 85 p1) else S 85 p2) (sm_lor (S 86 p2) (S 86 p1)) = sm_rl 0 1 (sm_lor (S 83 p2) (S 83 p1)) (sm_lor (S 84 p2) (S 84 p1)) (sm_lor (S 85 p2) (S 85 p1)) (sm_lor (S 86 p2) (S 86 p1)) := congrArg (fun z_ : Int => sm_rl 0 1 (sm_lor (S 83 p2) (S 83 p1)) (sm_lor (S 84 p2) (S 84 p1)) z_ (sm_lor (S 86 p2) (S 86 p1))) (if_pos la_joinLabel_2)
          have e530_ : sm_rl (if p2 = p2 then 0 else S 81 p2) (if p2 = p2 then 1 else S 82 p2) (if p2 = p2 then sm_lor (S 83 p2) (S 83 p1) else S 83 p2) (if p2 = p2 then sm_lor (S 84 p2) (S 84 p1) else S 84 p2) (if p2 = p2 then sm_lor (S 85 p2) (S 85 p1) else S 85 p2) (S 86 p2) = sm_rl 0 (if p2 = p2 then 1 else S 82 p2) (if p2 = p2 then sm_lor (S 83 p2) (S 83 p1) else S 83 p2) (if p2 = p2 then sm_lor (S 84 p2) (S 84 p1) else S 84 p2) (if p2 = p2 then sm_lor (S 85 p2) (S 85 p1) else S 85 p2) (S 86 p2) := congrArg (fun z_ : Int => sm_rl z_ (if p2 = p2 then 1 else S 82 p2) (if p2 = p2 then sm_lor (S 83 p2) (S 83 p1) else S 83 p2) (if p2 = p2 then sm_lor (S 84 p2) (S 84 p1) else S 84 p2) (if p2 = p2 then sm_lor (S 85 p2) (S 85 p1) else S 85 p2) (S 86 p2)) (if_pos la_joinLabel_2)
          have e531_ : sm_rl 0 (if p2 = p2 then 1 else S 82 p2) (if p2 = p2 then sm_lor (S 83 p2) (S 83 p1) else S 83 p2) (if p2 = p2 then sm_lor (S 84 p2) (S 84 p1) else S 84 p2) (if p2 = p2 then sm_lor (S 85 p2) (S 85 p1) else S 85 p2) (S 86 p2) = sm_rl 0 1 (if p2 = p2 then sm_lor (S 83 p2) (S 83 p1) else S 83 p2) (if p2 = p2 then sm_lor (S 84 p2) (S 84 p1) else S 84 p2) (if p2 = p2 then sm_lor (S 85 p2) (S 85 p1) else S 85 p2) (S 86 p2) := congrArg (fun z_ : Int => sm_rl 0 z_ (if p2 = p2 then sm_lor (S 83 p2) (S 83 p1) else S 83 p2) (if p2 = p2 then sm_lor (S 84 p2) (S 84 p1) else S 84 p2) (if p2 = p2 then sm_lor (S 85 p2) (S 85 p1) else S 85 p2) (S 86 p2)) (if_pos la_joinLabel_2)
          have e532_ : sm_rl 0 1 (if p2 = p2 then sm_lor (S 83 p2) (S 83 p1) else S 83 p2) (if p2 = p2 then sm_lor (S 84 p2) (S 84 p1) else S 84 p2) (if p2 = p2 then sm_lor (S 85 p2) (S 85 p1) else S 85 p2) (S 86 p2) = sm_rl 0 1 (sm_lor (S 83 p2) (S 83 p1)) (if p2 = p2 then sm_lor (S 84 p2) (S 84 p1) else S 84 p2) (if p2 = p2 then sm_lor (S 85 p2) (S 85 p1) else S 85 p2) (S 86 p2) := congrArg (fun z_ : Int => sm_rl 0 1 z_ (if p2 = p2 then sm_lor (S 84 p2) (S 84 p1) else S 84 p2) (if p2 = p2 then sm_lor (S 85 p2) (S 85 p1) else S 85 p2) (S 86 p2)) (if_pos la_joinLabel_2)
          have e533_ : sm_rl 0 1 (sm_lor (S 83 p2) (S 83 p1)) (if p2 = p2 then sm_lor (S 84 p2) (S 84 p1) else S 84 p2) (if p2 = p2 then sm_lor (S 85 p2) (S 85 p1) else S 85 p2) (S 86 p2) = sm_rl 0 1 (sm_lor (S 83 p2) (S 83 p1)) (sm_lor (S 84 p2) (S 84 p1)) (if p2 = p2 then sm_lor (S 85 p2) (S 85 p1) else S 85 p2) (S 86 p2) := congrArg (fun z_ : Int => sm_rl 0 1 (sm_lor (S 83 p2) (S 83 p1)) z_ (if p2 = p2 then sm_lor (S 85 p2) (S 85 p1) else S 85 p2) (S 86 p2)) (if_pos la_joinLabel_2)
          have e534_ : sm_rl 0 1 (sm_lor (S 83 p2) (S 83 p1)) (sm_lor (S 84 p2) (S 84 p1)) (if p2 = p2 then sm_lor (S 85 p2) (S 85 p1) else S 85 p2) (S 86 p2) = sm_rl 0 1 (sm_lor (S 83 p2) (S 83 p1)) (sm_lor (S 84 p2) (S 84 p1)) (sm_lor (S 85 p2) (S 85 p1)) (S 86 p2) := congrArg (fun z_ : Int => sm_rl 0 1 (sm_lor (S 83 p2) (S 83 p1)) (sm_lor (S 84 p2) (S 84 p1)) z_ (S 86 p2)) (if_pos la_joinLabel_2)
          have e535_ : sm_rl (if p2 = p2 then 0 else S 81 p2) (if p2 = p2 then 1 else S 82 p2) (sm_lor (S 83 p2) (S 83 p1)) (sm_lor (S 84 p2) (S 84 p1)) (sm_lor (S 85 p2) (S 85 p1)) (sm_lor (S 86 p2) (S 86 p1)) = sm_rl 0 (if p2 = p2 then 1 else S 82 p2) (sm_lor (S 83 p2) (S 83 p1)) (sm_lor (S 84 p2) (S 84 p1)) (sm_lor (S 85 p2) (S 85 p1)) (sm_lor (S 86 p2) (S 86 p1)) := congrArg (fun z_ : Int => sm_rl z_ (if p2 = p2 then 1 else S 82 p2) (sm_lor (S 83 p2) (S 83 p1)) (sm_lor (S 84 p2) (S 84 p1)) (sm_lor (S 85 p2) (S 85 p1)) (sm_lor (S 86 p2) (S 86 p1))) (if_pos la_joinLabel_2)
          have e536_ : sm_rl 0 (if p2 = p2 then 1 else S 82 p2) (sm_lor (S 83 p2) (S 83 p1)) (sm_lor (S 84 p2) (S 84 p1)) (sm_lor (S 85 p2) (S 85 p1)) (sm_lor (S 86 p2) (S 86 p1)) = sm_rl 0 1 (sm_lor (S 83 p2) (S 83 p1)) (sm_lor (S 84 p2) (S 84 p1)) (sm_lor (S 85 p2) (S 85 p1)) (sm_lor (S 86 p2) (S 86 p1)) := congrArg (fun z_ : Int => sm_rl 0 z_ (sm_lor (S 83 p2) (S 83 p1)) (sm_lor (S 84 p2) (S 84 p1)) (sm_lor (S 85 p2) (S 85 p1)) (sm_lor (S 86 p2) (S 86 p1))) (if_pos la_joinLabel_2)
          have e537_ : (if p2 = p2 then sm_lor (S 84 p2) (S 84 p1) else S 84 p2 : Int) = sm_lor (S 84 p2) (S 84 p1) := if_pos la_joinLabel_2
          have e538_ : (if p2 = p2 then sm_lor (S 83 p2) (S 83 p1) else S 83 p2 : Int) = sm_lor (S 83 p2) (S 83 p1) := if_pos la_joinLabel_2
          have e539_ : (if p2 = p2 then sm_lor (S 85 p2) (S 85 p1) else S 85 p2 : Int) = sm_lor (S 85 p2) (S 85 p1) := if_pos la_joinLabel_2
          exact (la_joinLabel_12 h486_ e499_ e500_ e501_ e502_ e503_ e504_ e505_ e506_ e507_ e508_ e509_ e510_ e511_ e512_ e513_ e514_ e515_ e516_ e517_ e518_ e519_ e520_ e521_ e522_ e523_ e524_ e525_ e526_ e527_ e528_ e529_ e530_ e531_ e532_ e533_ e534_ e535_ e536_)
        intro h540_
        rintro ⟨h541_, h542_⟩
        refine ⟨?_, ?_⟩
        · skip
          intro h543_
          intro h544_
          intro h545_
          intro h546_
          intro h547_
          intro h548_
          intro h549_
          intro h550_
          intro h551_
          intro h552_
          intro h553_
          intro h554_
          intro h555_
          intro h556_
          have h557_ := (h556_ h544_)
          intro h558_
          have h559_ := (h558_ h547_)
          intro h560_
          have h561_ := (h560_ h550_)
          intro h562_
          have h563_ := (h562_ h553_)
          intro h564_
          have e565_ : (if p2 = p2 then 1 else S 82 p2 : Int) = 1 := if_pos la_joinLabel_2
          have e566_ : (if p2 = p2 then 1 else S 81 p2 : Int) = 1 := if_pos la_joinLabel_2
          have h567_ := (h564_ (la_joinLabel_10 h278_ e566_))
          have h568_ := (h567_ (la_joinLabel_3 h542_ e565_))
          have h569_ := (h568_ h544_)
          have h570_ := (h569_ h547_)
          have h571_ := (h570_ h550_)
          have h572_ := (h571_ h553_)
          have h573_ := (h572_ h15_)
          have h574_ := (h573_ (la_joinLabel_15 h278_ e566_))
          refine ⟨?_, ?_⟩
          · skip
            refine ⟨?_, ?_⟩
            · skip
              have e575_ : sm_rl (if p2 = p2 then 1 else S 81 p2) (if p2 = p2 then 1 else S 82 p2) (sm_lor (S 83 p2) (S 83 p1)) (sm_lor (S 84 p2) (S 84 p1)) (sm_lor (S 85 p2) (S 85 p1)) (sm_lor (S 86 p2) (S 86 p1)) = sm_rl 1 (if p2 = p2 then 1 else S 82 p2) (sm_lor (S 83 p2) (S 83 p1)) (sm_lor (S 84 p2) (S 84 p1)) (sm_lor (S 85 p2) (S 85 p1)) (sm_lor (S 86 p2) (S 86 p1)) := congrArg (fun z_ : Int => sm_rl z_ (if p2 = p2 then 1 else S 82 p2) (sm_lor (S 83 p2) (S 83 p1)) (sm_lor (S 84 p2) (S 84 p1)) (sm_lor (S 85 p2) (S 85 p1)) (sm_lor (S 86 p2) (S 86 p1))) (if_pos la_joinLabel_2)
              have e576_ : sm_rl 1 (if p2 = p2 then 1 else S 82 p2) (sm_lor (S 83 p2) (S 83 p1)) (sm_lor (S 84 p2) (S 84 p1)) (sm_lor (S 85 p2) (S 85 p1)) (sm_lor (S 86 p2) (S 86 p1)) = sm_rl 1 1 (sm_lor (S 83 p2) (S 83 p1)) (sm_lor (S 84 p2) (S 84 p1)) (sm_lor (S 85 p2) (S 85 p1)) (sm_lor (S 86 p2) (S 86 p1)) := congrArg (fun z_ : Int => sm_rl 1 z_ (sm_lor (S 83 p2) (S 83 p1)) (sm_lor (S 84 p2) (S 84 p1)) (sm_lor (S 85 p2) (S 85 p1)) (sm_lor (S 86 p2) (S 86 p1))) (if_pos la_joinLabel_2)
              exact (la_joinLabel_4 h15_)
            have e577_ : sm_rl (if p2 = p2 then 1 else S 81 p2) (if p2 = p2 then 1 else S 82 p2) (sm_lor (S 83 p2) (S 83 p1)) (sm_lor (S 84 p2) (S 84 p1)) (sm_lor (S 85 p2) (S 85 p1)) (sm_lor (S 86 p2) (S 86 p1)) = sm_rl 1 (if p2 = p2 then 1 else S 82 p2) (sm_lor (S 83 p2) (S 83 p1)) (sm_lor (S 84 p2) (S 84 p1)) (sm_lor (S 85 p2) (S 85 p1)) (sm_lor (S 86 p2) (S 86 p1)) := congrArg (fun z_ : Int => sm_rl z_ (if p2 = p2 then 1 else S 82 p2) (sm_lor (S 83 p2) (S 83 p1)) (sm_lor (S 84 p2) (S 84 p1)) (sm_lor (S 85 p2) (S 85 p1)) (sm_lor (S 86 p2) (S 86 p1))) (if_pos la_joinLabel_2)
            have e578_ : sm_rl 1 (if p2 = p2 then 1 else S 82 p2) (sm_lor (S 83 p2) (S 83 p1)) (sm_lor (S 84 p2) (S 84 p1)) (sm_lor (S 85 p2) (S 85 p1)) (sm_lor (S 86 p2) (S 86 p1)) = sm_rl 1 1 (sm_lor (S 83 p2) (S 83 p1)) (sm_lor (S 84 p2) (S 84 p1)) (sm_lor (S 85 p2) (S 85 p1)) (sm_lor (S 86 p2) (S 86 p1)) := congrArg (fun z_ : Int => sm_rl 1 z_ (sm_lor (S 83 p2) (S 83 p1)) (sm_lor (S 84 p2) (S 84 p1)) (sm_lor (S 85 p2) (S 85 p1)) (sm_lor (S 86 p2) (S 86 p1))) (if_pos la_joinLabel_2)
            exact (la_joinLabel_5 h15_)
          refine ⟨?_, ?_⟩
          · skip
            intro h579_
            have e580_ : sm_pl (fun i' : Int => (if i' = p2 then 1 else (S 81) i')) (fun i' : Int => (if i' = p2 then 1 else (S 82) i')) (fun i' : Int => (if i' = p2 then sm_lor (S 83 p2) (S 83 p1) else (S 83) i')) (fun i' : Int => (if i' = p2 then sm_lor (S 84 p2) (S 84 p1) else (S 84) i')) (fun i' : Int => (if i' = p2 then sm_lor (S 85 p2) (S 85 p1) else (S 85) i')) (fun i' : Int => (if i' = p2 then sm_lor (S 86 p2) (S 86 p1) else (S 86) i')) = sm_pl (fun i' : Int => (if i' = p2 then 1 else (S 81) i')) (fun i' : Int => (if i' = p2 then 1 else (S 82) i')) (fun i' : Int => (if i' = p2 then sm_lor (S 83 p2) (S 83 p1) else (S 83) i')) (fun i' : Int => (if i' = p2 then sm_lor (S 84 p2) (S 84 p1) else (S 84) i')) (fun i' : Int => (if i' = p2 then sm_lor (S 85 p2) (S 85 p1) else (S 85) i')) (S 86) := sm_pl_D h579_
            have e581_ : sm_pl (fun i' : Int => (if i' = p2 then 1 else (S 81) i')) (fun i' : Int => (if i' = p2 then 1 else (S 82) i')) (fun i' : Int => (if i' = p2 then sm_lor (S 83 p2) (S 83 p1) else (S 83) i')) (fun i' : Int => (if i' = p2 then sm_lor (S 84 p2) (S 84 p1) else (S 84) i')) (fun i' : Int => (if i' = p2 then sm_lor (S 85 p2) (S 85 p1) else (S 85) i')) (S 86) = sm_pl (fun i' : Int => (if i' = p2 then 1 else (S 81) i')) (fun i' : Int => (if i' = p2 then 1 else (S 82) i')) (fun i' : Int => (if i' = p2 then sm_lor (S 83 p2) (S 83 p1) else (S 83) i')) (fun i' : Int => (if i' = p2 then sm_lor (S 84 p2) (S 84 p1) else (S 84) i')) (S 85) (S 86) := sm_pl_C h579_
            have e582_ : sm_pl (fun i' : Int => (if i' = p2 then 1 else (S 81) i')) (fun i' : Int => (if i' = p2 then 1 else (S 82) i')) (fun i' : Int => (if i' = p2 then sm_lor (S 83 p2) (S 83 p1) else (S 83) i')) (fun i' : Int => (if i' = p2 then sm_lor (S 84 p2) (S 84 p1) else (S 84) i')) (S 85) (S 86) = sm_pl (fun i' : Int => (if i' = p2 then 1 else (S 81) i')) (fun i' : Int => (if i' = p2 then 1 else (S 82) i')) (fun i' : Int => (if i' = p2 then sm_lor (S 83 p2) (S 83 p1) else (S 83) i')) (S 84) (S 85) (S 86) := sm_pl_B h579_
            have e583_ : sm_pl (fun i' : Int => (if i' = p2 then 1 else (S 81) i')) (fun i' : Int => (if i' = p2 then 1 else (S 82) i')) (fun i' : Int => (if i' = p2 then sm_lor (S 83 p2) (S 83 p1) else (S 83) i')) (S 84) (S 85) (S 86) = sm_pl (fun i' : Int => (if i' = p2 then 1 else (S 81) i')) (fun i' : Int => (if i' = p2 then 1 else (S 82) i')) (S 83) (S 84) (S 85) (S 86) := sm_pl_A h579_
            have e584_ : sm_pl (fun i' : Int => (if i' = p2 then 1 else (S 81) i')) (fun i' : Int => (if i' = p2 then 1 else (S 82) i')) (S 83) (S 84) (S 85) (S 86) = sm_pl (fun i' : Int => (if i' = p2 then 1 else (S 81) i')) (S 82) (S 83) (S 84) (S 85) (S 86) := sm_pl_N h579_
            have e585_ : sm_pl (fun i' : Int => (if i' = p2 then 1 else (S 81) i')) (S 82) (S 83) (S 84) (S 85) (S 86) = sm_pl (S 81) (S 82) (S 83) (S 84) (S 85) (S 86) := sm_pl_T h579_
            exact (la_joinLabel_6 e580_ e581_ e582_ e583_ e584_ e585_)
          refine ⟨h15_, ?_⟩
          intro h586_
          have e587_ : sm_pl (fun i' : Int => (if i' = p2 then 1 else (S 81) i')) (fun i' : Int => (if i' = p2 then 1 else (S 82) i')) (fun i' : Int => (if i' = p2 then sm_lor (S 83 p2) (S 83 p1) else (S 83) i')) (fun i' : Int => (if i' = p2 then sm_lor (S 84 p2) (S 84 p1) else (S 84) i')) (fun i' : Int => (if i' = p2 then sm_lor (S 85 p2) (S 85 p1) else (S 85) i')) (fun i' : Int => (if i' = p2 then sm_lor (S 86 p2) (S 86 p1) else (S 86) i')) = sm_pl (fun i' : Int => (if i' = p2 then 1 else (S 81) i')) (fun i' : Int => (if i' = p2 then 1 else (S 82) i')) (fun i' : Int => (if i' = p2 then sm_lor (S 83 p2) (S 83 p1) else (S 83) i')) (fun i' : Int => (if i' = p2 then sm_lor (S 84 p2) (S 84 p1) else (S 84) i')) (fun i' : Int => (if i' = p2 then sm_lor (S 85 p2) (S 85 p1) else (S 85) i')) (S 86) + sm_rl (if p2 = p2 then 1 else S 81 p2) (if p2 = p2 then 1 else S 82 p2) (if p2 = p2 then sm_lor (S 83 p2) (S 83 p1) else S 83 p2) (if p2 = p2 then sm_lor (S 84 p2) (S 84 p1) else S 84 p2) (if p2 = p2 then sm_lor (S 85 p2) (S 85 p1) else S 85 p2) (S 86 p2) - sm_rl (if p2 = p2 then 1 else S 81 p2) (if p2 = p2 then 1 else S 82 p2) (if p2 = p2 then sm_lor (S 83 p2) (S 83 p1) else S 83 p2) (if p2 = p2 then sm_lor (S 84 p2) (S 84 p1) else S 84 p2) (if p2 = p2 then sm_lor (S 85 p2) (S 85 p1) else S 85 p2) (sm_lor (S 86 p2) (S 86 p1)) := sm_pl_D' h6_ h586_
          have e588_ : sm_pl (fun i' : Int => (if i' = p2 then 1 else (S 81) i')) (fun i' : Int => (if i' = p2 then 1 else (S 82) i')) (fun i' : Int => (if i' = p2 then sm_lor (S 83 p2) (S 83 p1) else (S 83) i')) (fun i' : Int => (if i' = p2 then sm_lor (S 84 p2) (S 84 p1) else (S 84) i')) (fun i' : Int => (if i' = p2 then sm_lor (S 85 p2) (S 85 p1) else (S 85) i')) (S 86) = sm_pl (fun i' : Int => (if i' = p2 then 1 else (S 81) i')) (fun i' : Int => (if i' = p2 then 1 else (S 82) i')) (fun i' : Int => (if i' = p2 then sm_lor (S 83 p2) (S 83 p1) else (S 83) i')) (fun i' : Int => (if i' = p2 then sm_lor (S 84 p2) (S 84 p1) else (S 84) i')) (S 85) (S 86) + sm_rl (if p2 = p2 then 1 else S 81 p2) (if p2 = p2 then 1 else S 82 p2) (if p2 = p2 then sm_lor (S 83 p2) (S 83 p1) else S 83 p2) (if p2 = p2 then sm_lor (S 84 p2) (S 84 p1) else S 84 p2) (S 85 p2) (S 86 p2) - sm_rl (if p2 = p2 then 1 else S 81 p2) (if p2 = p2 then 1 else S 82 p2) (if p2 = p2 then sm_lor (S 83 p2) (S 83 p1) else S 83 p2) (if p2 = p2 then sm_lor (S 84 p2) (S 84 p1) else S 84 p2) (sm_lor (S 85 p2) (S 85 p1)) (S 86 p2) := sm_pl_C' h6_ h586_
          have e589_ : sm_pl (fun i' : Int => (if i' = p2 then 1 else (S 81) i')) (fun i' : Int => (if i' = p2 then 1 else (S 82) i')) (fun i' : Int => (if i' = p2 then sm_lor (S 83 p2) (S 83 p1) else (S 83) i')) (fun i' : Int => (if i' = p2 then sm_lor (S 84 p2) (S 84 p1) else (S 84) i')) (S 85) (S 86) = sm_pl (fun i' : Int => (if i' = p2 then 1 else (S 81) i')) (fun i' : Int => (if i' = p2 then 1 else (S 82) i')) (fun i' : Int => (if i' = p2 then sm_lor (S 83 p2) (S 83 p1) else (S 83) i')) (S 84) (S 85) (S 86) + sm_rl (if p2 = p2 then 1 else S 81 p2) (if p2 = p2 then 1 else S 82 p2) (if p2 = p2 then sm_lor (S 83 p2) (S 83 p1) else S 83 p2) (S 84 p2) (S 85 p2) (S 86 p2) - sm_rl (if p2 = p2 then 1 else S 81 p2) (if p2 = p2 then 1 else S 82 p2) (if p2 = p2 then sm_lor (S 83 p2) (S 83 p1) else S 83 p2) (sm_lor (S 84 p2) (S 84 p1)) (S 85 p2) (S 86 p2) := sm_pl_B' h6_ h586_
          have e590_ : sm_pl (fun i' : Int => (if i' = p2 then 1 else (S 81) i')) (fun i' : Int => (if i' = p2 then 1 else (S 82) i')) (fun i' : Int => (if i' = p2 then sm_lor (S 83 p2) (S 83 p1) else (S 83) i')) (S 84) (S 85) (S 86) = sm_pl (fun i' : Int => (if i' = p2 then 1 else (S 81) i')) (fun i' : Int => (if i' = p2 then 1 else (S 82) i')) (S 83) (S 84) (S 85) (S 86) + sm_rl (if p2 = p2 then 1 else S 81 p2) (if p2 = p2 then 1 else S 82 p2) (S 83 p2) (S 84 p2) (S 85 p2) (S 86 p2) - sm_rl (if p2 = p2 then 1 else S 81 p2) (if p2 = p2 then 1 else S 82 p2) (sm_lor (S 83 p2) (S 83 p1)) (S 84 p2) (S 85 p2) (S 86 p2) := sm_pl_A' h6_ h586_
          have e591_ : sm_pl (fun i' : Int => (if i' = p2 then 1 else (S 81) i')) (fun i' : Int => (if i' = p2 then 1 else (S 82) i')) (S 83) (S 84) (S 85) (S 86) = sm_pl (fun i' : Int => (if i' = p2 then 1 else (S 81) i')) (S 82) (S 83) (S 84) (S 85) (S 86) + sm_rl (if p2 = p2 then 1 else S 81 p2) (S 82 p2) (S 83 p2) (S 84 p2) (S 85 p2) (S 86 p2) - sm_rl (if p2 = p2 then 1 else S 81 p2) 1 (S 83 p2) (S 84 p2) (S 85 p2) (S 86 p2) := sm_pl_N' h6_ h586_
          have e592_ : sm_pl (fun i' : Int => (if i' = p2 then 1 else (S 81) i')) (S 82) (S 83) (S 84) (S 85) (S 86) = sm_pl (S 81) (S 82) (S 83) (S 84) (S 85) (S 86) + sm_rl (S 81 p2) (S 82 p2) (S 83 p2) (S 84 p2) (S 85 p2) (S 86 p2) - sm_rl 1 (S 82 p2) (S 83 p2) (S 84 p2) (S 85 p2) (S 86 p2) := sm_pl_T' h6_ h586_
          have e593_ : sm_rl (if p2 = p2 then 1 else S 81 p2) 1 (S 83 p2) (S 84 p2) (S 85 p2) (S 86 p2) = sm_rl 1 1 (S 83 p2) (S 84 p2) (S 85 p2) (S 86 p2) := congrArg (fun z_ : Int => sm_rl z_ 1 (S 83 p2) (S 84 p2) (S 85 p2) (S 86 p2)) (if_pos la_joinLabel_2)
          have e594_ : sm_rl (if p2 = p2 then 1 else S 81 p2) (S 82 p2) (S 83 p2) (S 84 p2) (S 85 p2) (S 86 p2) = sm_rl 1 (S 82 p2) (S 83 p2) (S 84 p2) (S 85 p2) (S 86 p2) := congrArg (fun z_ : Int => sm_rl z_ (S 82 p2) (S 83 p2) (S 84 p2) (S 85 p2) (S 86 p2)) (if_pos la_joinLabel_2)
          have e595_ : sm_rl (if p2 = p2 then 1 else S 81 p2) (if p2 = p2 then 1 else S 82 p2) (sm_lor (S 83 p2) (S 83 p1)) (S 84 p2) (S 85 p2) (S 86 p2) = sm_rl 1 (if p2 = p2 then 1 else S 82 p2) (sm_lor (S 83 p2) (S 83 p1)) (S 84 p2) (S 85 p2) (S 86 p2) := congrArg (fun z_ : Int => sm_rl z_ (if p2 = p2 then 1 else S 82 p2) (sm_lor (S 83 p2) (S 83 p1)) (S 84 p2) (S 85 p2) (S 86 p2)) (if_pos la_joinLabel_2)
          have e596_ : sm_rl 1 (if p2 = p2 then 1 else S 82 p2) (sm_lor (S 83 p2) (S 83 p1)) (S 84 p2) (S 85 p2) (S 86 p2) = sm_rl 1 1 (sm_lor (S 83 p2) (S 83 p1)) (S 84 p2) (S 85 p2) (S 86 p2) := congrArg (fun z_ : Int => sm_rl 1 z_ (sm_lor (S 83 p2) (S 83 p1)) (S 84 p2) (S 85 p2) (S 86 p2)) (if_pos la_joinLabel_2)
          have e597_ : sm_rl (if p2 = p2 then 1 else S 81 p2) (if p2 = p2 then 1 else S 82 p2) (S 83 p2) (S 84 p2) (S 85 p2) (S 86 p2) = sm_rl 1 (if p2 = p2 then 1 else S 82 p2) (S 83 p2) (S 84 p2) (S 85 p2) (S 86 p2) := congrArg (fun z_ : Int => sm_rl z_ (if p2 = p2 then 1 else S 82 p2) (S 83 p2) (S 84 p2) (S 85 p2) (S 86 p2)) (if_pos la_joinLabel_2)
          have e598_ : sm_rl 1 (if p2 = p2 then 1 else S 82 p2) (S 83 p2) (S 84 p2) (S 85 p2) (S 86 p2) = sm_rl 1 1 (S 83 p2) (S 84 p2) (S 85 p2) (S 86 p2) := congrArg (fun z_ : Int => sm_rl 1 z_ (S 83 p2) (S 84 p2) (S 85 p2) (S 86 p2)) (if_pos la_joinLabel_2)
          have e599_ : sm_rl (if p2 = p2 then 1 else S 81 p2) (if p2 = p2 then 1 else S 82 p2) (if p2 = p2 then sm_lor (S 83 p2) (S 83 p1) else S 83 p2) (sm_lor (S 84 p2) (S 84 p1)) (S 85 p2) (S 86 p2) = sm_rl 1 (if p2 = p2 then 1 else S 82 p2) (if p2 = p2 then sm_lor (S 83 p2) (S 83 p1) else S 83 p2) (sm_lor (S 84 p2) (S 84 p1)) (S 85 p2) (S 86 p2) := congrArg (fun z_ : Int => sm_rl z_ (if p2 = p2 then 1 else S 82 p2) (if p2 = p2 then sm_lor (S 83 p2) (S 83 p1) else S 83 p2) (sm_lor (S 84 p2) (S 84 p1)) (S 85 p2) (S 86 p2)) (if_pos la_joinLabel_2)
          have e600_ : sm_rl 1 (if p2 = p2 then 1 else S 82 p2) (if p2 = p2 then sm_lor (S 83 p2) (S 83 p1) else S 83 p2) (sm_lor (S 84 p2) (S 84 p1)) (S 85 p2) (S 86 p2) = sm_rl 1 1 (if p2 = p2 then sm_lor (S 83 p2) (S 83 p1) else S 83 p2) (sm_lor (S 84 p2) (S 84 p1)) (S 85 p2) (S 86 p2) := congrArg (fun z_ : Int => sm_rl 1 z_ (if p2 = p2 then sm_lor (S 83 p2) (S 83 p1) else S 83 p2) (sm_lor (S 84 p2) (S 84 p1)) (S 85 p2) (S 86 p2)) (if_pos la_joinLabel_2)
          have e601_ : sm_rl 1 1 (if p2 = p2 then sm_lor (S 83 p2) (S 83 p1) else S 83 p2) (sm_lor (S 84 p2) (S 84 p1)) (S 85 p2) (S 86 p2) = sm_rl 1 1 (sm_lor (S 83 p2) (S 83 p1)) (sm_lor (S 84 p2) (S 84 p1)) (S 85 p2) (S 86 p2) := congrArg (fun z_ : Int => sm_rl 1 1 z_ (sm_lor (S 84 p2) (S 84 p1)) (S 85 p2) (S 86 p2)) (if_pos la_joinLabel_2)
          have e602_ : sm_rl (if p2 = p2 then 1 else S 81 p2) (if p2 = p2 then 1 else S 82 p2) (if p2 = p2 then sm_lor (S 83 p2) (S 83 p1) else S 83 p2) (S 84 p2) (S 85 p2) (S 86 p2) = sm_rl 1 (if p2 = p2 then 1 else S 82 p2) (if p2 = p2 then sm_lor (S 83 p2) (S 83 p1) else S 83 p2) (S 84 p2) (S 85 p2) (S 86 p2) := congrArg (fun z_ : Int => sm_rl z_ (if p2 = p2 then 1 else S 82 p2) (if p2 = p2 then sm_lor (S 83 p2) (S 83 p1) else S 83 p2) (S 84 p2) (S 85 p2) (S 86 p2)) (if_pos la_joinLabel_2)
          have e603_ : sm_rl 1 (if p2 = p2 then 1 else S 82 p2) (if p2 = p2 then sm_lor (S 83 p2) (S 83 p1) else S 83 p2) (S 84 p2) (S 85 p2) (S 86 p2) = sm_rl 1 1 (if p2 = p2 then sm_lor (S 83 p2) (S 83 p1) else S 83 p2) (S 84 p2) (S 85 p2) (S 86 p2) := congrArg (fun z_ : Int => sm_rl 1 z_ (if p2 = p2 then sm_lor (S 83 p2) (S 83 p1) else S 83 p2) (S 84 p2) (S 85 p2) (S 86 p2)) (if_pos la_joinLabel_2)
          have e604_ : sm_rl 1 1 (if p2 = p2 then sm_lor (S 83 p2) (S 83 p1) else S 83 p2) (S 84 p2) (S 85 p2) (S 86 p2) = sm_rl 1 1 (sm_lor (S 83 p2) (S 83 p1)) (S 84 p2) (S 85 p2) (S 86 p2) := congrArg (fun z_ : Int => sm_rl 1 1 z_ (S 84 p2) (S 85 p2) (S 86 p2)) (if_pos la_joinLabel_2)
          have e605_ : sm_rl (if p2 = p2 then 1 else S 81 p2) (if p2 = p2 then 1 else S 82 p2) (if p2 = p2 then sm_lor (S 83 p2) (S 83 p1) else S 83 p2) (if p2 = p2 then sm_lor (S 84 p2) (S 84 p1) else S 84 p2) (sm_lor (S 85 p2) (S 85 p1)) (S 86 p2) = sm_rl 1 (if p2 = p2 then 1 else S 82 p2) (if p2 = p2 then sm_lor (S 83 p2) (S 83 p1) else S 83 p2) (if p2 = p2 then sm_lor (S 84 p2) (S 84 p1) else S 84 p2) (sm_lor (S 85 p2) (S 85 p1)) (S 86 p2) := congrArg (fun z_ : Int => sm_rl z_ (if p2 = p2 then 1 else S 82 p2) (if p2 = p2 then sm_lor (S 83 p2) (S 83 p1) else S 83 p2) (if p2 = p2 then sm_lor (S 84 p2) (S 84 p1) else S 84 p2) (sm_lor (S 85 p2) (S 85 p1)) (S 86 p2)) (if_pos la_joinLabel_2)
          have e606_ : sm_rl 1 (if p2 = p2 then 1 else S 82 p2) (if p2 = p2 then sm_lor (S 83 p2) (S 83 p1) else S 83 p2) (if p2 = p2 then sm_lor (S 84 p2) (S 84 p1) else S 84 p2) (sm_lor (S 85 p2) (S 85 p1)) (S 86 p2) = sm_rl 1 1 (if p2 = p2 then sm_lor (S 83 p2) (S 83 p1) else S 83 p2) (if p2 = p2 then sm_lor (S 84 p2) (S 84 p1) else S 84 p2) (sm_lor (S 85 p2) (S 85 p1)) (S 86 p2) := congrArg (fun z_ : Int => sm_rl 1 z_ (if p2 = p2 then sm_lor (S 83 p2) (S 83 p1) else S 83 p2) (if p2 = p2 then sm_lor (S 84 p2) (S 84 p1) else S 84 p2) (sm_lor (S 85 p2) (S 85 p1)) (S 86 p2)) (if_pos la_joinLabel_2)
          have e607_ : sm_rl 1 1 (if p2 = p2 then sm_lor (S 83 p2) (S 83 p1) else S 83 p2) (if p2 = p2 then sm_lor (S 84 p2) (S 84 p1) else S 84 p2) (sm_lor (S 85 p2) (S 85 p1)) (S 86 p2) = sm_rl 1 1 (sm_lor (S 83 p2) (S 83 p1)) (if p2 = p2 then sm_lor (S 84 p2) (S 84 p1) else S 84 p2) (sm_lor (S 85 p2) (S 85 p1)) (S 86 p2) := congrArg (fun z_ : Int => sm_rl 1 1 z_ (if p2 = p2 then sm_lor (S 84 p2) (S 84 p1) else S 84 p2) (sm_lor (S 85 p2) (S 85 p1)) (S 86 p2)) (if_pos la_joinLabel_2)
          have e608_ : sm_rl 1 1 (sm_lor (S 83 p2) (S 83 p1)) (if p2 = p2 then sm_lor (S 84 p2) (S 84 p1) else S 84 p2) (sm_lor (S 85 p2) (S 85 p1)) (S 86 p2) = sm_rl 1 1 (sm_lor (S 83 p2) (S 83 p1)) (sm_lor (S 84 p2) (S 84 p1)) (sm_lor (S 85 p2) (S 85 p1)) (S 86 p2) := congrArg (fun z_ : Int => sm_rl 1 1 (sm_lor (S 83 p2) (S 83 p1)) z_ (sm_lor (S 85 p2) (S 85 p1)) (S 86 p2)) (if_pos la_joinLabel_2)
          have e609_ : sm_rl (if p2 = p2 then 1 else S 81 p2) (if p2 = p2 then 1 else S 82 p2) (if p2 = p2 then sm_lor (S 83 p2) (S 83 p1) else S 83 p2) (if p2 = p2 then sm_lor (S 84 p2) (S 84 p1) else S 84 p2) (S 85 p2) (S 86 p2) = sm_rl 1 (if p2 = p2 then 1 else S 82 p2) (if p2 = p2 then sm_lor (S 83 p2) (S 83 p1) else S 83 p2) (if p2 = p2 then sm_lor (S 84 p2) (S 84 p1) else S 84 p2) (S 85 p2) (S 86 p2) := congrArg (fun z_ : Int => sm_rl z_ (if p2 = p2 then 1 else S 82 p2) (if p2 = p2 then sm_lor (S 83 p2) (S 83 p1) else S 83 p2) (if p2 = p2 then sm_lor (S 84 p2) (S 84 p1) else S 84 p2) (S 85 p2) (S 86 p2)) (if_pos la_joinLabel_2)
          have e610_ : sm_rl 1 (if p2 = p2 then 1 else S 82 p2) (if p2 = p2 then sm_lor (S 83 p2) (S 83 p1) else S 83 p2) (if p2 = p2 then sm_lor (S 84 p2) (S 84 p1) else S 84 p2) (S 85 p2) (S 86 p2) = sm_rl 1 1 (if p2 = p2 then sm_lor (S 83 p2) (S 83 p1) else S 83 p2) (if p2 = p2 then sm_lor (S 84 p2) (S 84 p1) else S 84 p2) (S 85 p2) (S 86 p2) := congrArg (fun z_ : Int => sm_rl 1 z_ (if p2 = p2 then sm_lor (S 83 p2) (S 83 p1) else S 83 p2) (if p2 = p2 then sm_lor (S 84 p2) (S 84 p1) else S 84 p2) (S 85 p2) (S 86 p2)) (if_pos la_joinLabel_2)
          have e611_ : sm_rl 1 1 (if p2 = p2 then sm_lor (S 83 p2) (S 83 p1) else S 83 p2) (if p2 = p2 then sm_lor (S 84 p2) (S 84 p1) else S 84 p2) (S 85 p2) (S 86 p2) = sm_rl 1 1 (sm_lor (S 83 p2) (S 83 p1)) (if p2 = p2 then sm_lor (S 84 p2) (S 84 p1) else S 84 p2) (S 85 p2) (S 86 p2) := congrArg (fun z_ : Int => sm_rl 1 1 z_ (if p2 = p2 then sm_lor (S 84 p2) (S 84 p1) else S 84 p2) (S 85 p2) (S 86 p2)) (if_pos la_joinLabel_2)
          have e612_ : sm_rl 1 1 (sm_lor (S 83 p2) (S 83 p1)) (if p2 = p2 then sm_lor (S 84 p2) (S 84 p1) else S 84 p2) (S 85 p2) (S 86 p2) = sm_rl 1 1 (sm_lor (S 83 p2) (S 83 p1)) (sm_lor (S 84 p2) (S 84 p1)) (S 85 p2) (S 86 p2) := congrArg (fun z_ : Int => sm_rl 1 1 (sm_lor (S 83 p2) (S 83 p1)) z_ (S 85 p2) (S 86 p2)) (if_pos la_joinLabel_2)
          have e613_ : sm_rl (if p2 = p2 then 1 else S 81 p2) (if p2 = p2 then 1 else S 82 p2) (if p2 = p2 then sm_lor (S 83 p2) (S 83 p1) else S 83 p2) (if p2 = p2 then sm_lor (S 84 p2) (S 84 p1) else S 84 p2) (if p2 = p2 then sm_lor (S 85 p2) (S 85 p1) else S 85 p2) (sm_lor (S 86 p2) (S 86 p1)) = sm_rl 1 (if p2 = p2 then 1 else S 82 p2) (if p2 = p2 then sm_lor (S 83 p2) (S 83 p1) else S 83 p2) (if p2 = p2 then sm_lor (S 84 p2) (S 84 p1) else S 84 p2) (if p2 = p2 then sm_lor (S 85 p2) (S 85 p1) else S 85 p2) (sm_lor (S 86 p2) (S 86 p1)) := congrArg (fun z_ : Int => sm_rl z_ (if p2 = p2 then 1 else S 82 p2) (if p2 = p2 then sm_lor (S 83 p2) (S 83 p1) else S 83 p2) (if p2 = p2 then sm_lor (S 84 p2) (S 84 p1) else S 84 p2) (if p2 = p2 then sm_lor (S 85 p2) (S 85 p1) else S 85 p2) (sm_lor (S 86 p2) (S 86 p1))) (if_pos la_joinLabel_2)
          have e614_ : sm_rl 1 (if p2 = p2 then 1 else S 82 p2) (if p2 = p2 then sm_lor (S 83 p2) (S 83 p1) else S 83 p2) (if p2 = p2 then sm_lor (S 84 p2) (S 84 p1) else S 84 p2) (if p2 = p2 then sm_lor (S 85 p2) (S 85 p1) else S 85 p2) (sm_lor (S 86 p2) (S 86 p1)) = sm_rl 1 1 (if p2 = p2 then sm_lor (S 83 p2) (S 83 p1) else S 83 p2) (if p2 = p2 then sm_lor (S 84 p2) (S 84 p1) else S 84 p2) (if p2 = p2 then sm_lor (S 85 p2) (S 85 p1) else S 85 p2) (sm_lor (S 86 p2) (S 86 p1)) := congrArg (fun z_ : Int => sm_rl 1 z_ (if p2 = p2 then sm_lor (S 83 p2) (S 83 p1) else S 83 p2) (if p2 = p2 then sm_lor (S 84 p2) (S 84 p1) else S 84 p2) (if p2 = p2 then sm_lor (S 85 p2) (S 85 p1) else S 85 p2) (sm_lor (S 86 p2) (S 86 p1))) (if_pos la_joinLabel_2)
          have e615_ : sm_rl 1 1 (if p2 = p2 then sm_lor (S 83 p2) (S 83 p1) else S 83 p2) (if p2 = p2 then sm_lor (S 84 p2) (S 84 p1) else S 84 p2) (if p2 = p2 then sm_lor (S 85 p2) (S 85 p1) else S 85 p2) (sm_lor (S 86 p2) (S 86 p1)) = sm_rl 1 1 (sm_lor (S 83 p2) (S 83 p1)) (if p2 = p2 then sm_lor (S 84 p2) (S 84 p1) else S 84 p2) (if p2 = p2 then sm_lor (S 85 p2) (S 85 p1) else S 85 p2) (sm_lor (S 86 p2) (S 86 p1)) := congrArg (fun z_ : Int => sm_rl 1 1 z_ (if p2 = p2 then sm_lor (S 84 p2) (S 84 p1) else S 84 p2) (if p2 = p2 then sm_lor (S 85 p2) (S 85 p1) else S 85 p2) (sm_lor (S 86 p2) (S 86 p1))) (if_pos la_joinLabel_2)
          have e616_ : sm_rl 1 1 (sm_lor (S 83 p2) (S 83 p1)) (if p2 = p2 then sm_lor (S 84 p2) (S 84 p1) else S 84 p2) (if p2 = p2 then sm_lor (S 85 p2) (S 85 p1) else S 85 p2) (sm_lor (S 86 p2) (S 86 p1)) = sm_rl 1 1 (sm_lor (S 83 p2) (S 83 p1)) (sm_lor (S 84 p2) (S 84 p1)) (if p2 = p2 then sm_lor (S 85 p2) (S 85 p1) else S 85 p2) (sm_lor (S 86 p2) (S 86 p1)) := congrArg (fun z_ : Int => sm_rl 1 1 (sm_lor (S 83 p2) (S 83 p1)) z_ (if p2 = p2 then sm_lor (S 85 p2) (S 85 p1) else S 85 p2) (sm_lor (S 86 p2) (S 86 p1))) (if_pos la_joinLabel_2)
          have e617_ : sm_rl 1 1 (sm_lor (S 83 p2) (S 83 p1)) (sm_lor (S 84 p2) (S 84 p1)) (if p2 = p2 then sm_lor (S 85 p2) (S 85 p1) else S 85 p2) (sm_lor (S 86 p2) (S 86 p1)) = sm_rl 1 1 (sm_lor (S 83 p2) (S 83 p1)) (sm_lor (S 84 p2) (S 84 p1)) (sm_lor (S 85 p2) (S 85 p1)) (sm_lor (S 86 p2) (S 86 p1)) := congrArg (fun z_ : Int => sm_rl 1 1 (sm_lor (S 83 p2) (S 83 p1)) (sm_lor (S 84 p2) (S 84 p1)) z_ (sm_lor (S 86 p2) (S 86 p1))) (if_pos la_joinLabel_2)
          have e618_ : sm_rl (if p2 = p2 then 1 else S 81 p2) (if p2 = p2 then 1 else S 82 p2) (if p2 = p2 then sm_lor (S 83 p2) (S 83 p1) else S 83 p2) (if p2 = p2 then sm_lor (S 84 p2) (S 84 p1) else S 84 p2) (if p2 = p2 then sm_lor (S 85 p2) (S 85 p1) else S 85 p2) (S 86 p2) = sm_rl 1 (if p2 = p2 then 1 else S 82 p2) (if p2 = p2 then sm_lor (S 83 p2) (S 83 p1) else S 83 p2) (if p2 = p2 then sm_lor (S 84 p2) (S 84 p1) else S 84 p2) (if p2 = p2 then sm_lor (S 85 p2) (S 85 p1) else S 85 p2) (S 86 p2) := congrArg (fun z_ : Int => sm_rl z_ (if p2 = p2 then 1 else S 82 p2) (if p2 = p2 then sm_lor (S 83 p2) (S 83 p1) else S 83 p2) (if p2 = p2 then sm_lor (S 84 p2) (S 84 p1) else S 84 p2) (if p2 = p2 then sm_lor (S 85 p2) (S 85 p1) else S 85 p2) (S 86 p2)) (if_pos la_joinLabel_2)
          have e619_ : sm_rl 1 (if p2 = p2 then 1 else S 82 p2) (if p2 = p2 then sm_lor (S 83 p2) (S 83 p1) else S 83 p2) (if p2 = p2 then sm_lor (S 84 p2) (S 84 p1) else S 84 p2) (if p2 = p2 then sm_lor (S 85 p2) (S 85 p1) else S 85 p2) (S 86 p2) = sm_rl 1 1 (if p2 = p2 then sm_lor (S 83 p2) (S 83 p1) else S 83 p2) (if p2 = p2 then sm_lor (S 84 p2) (S 84 p1) else S 84 p2) (if p2 = p2 then sm_lor (S 85 p2) (S 85 p1) else S 85 p2) (S 86 p2) := congrArg (fun z_ : Int => sm_rl 1 z_ (if p2 = p2 then sm_lor (S 83 p2) (S 83 p1) else S 83 p2) (if p2 = p2 then sm_lor (S 84 p2) (S 84 p1) else S 84 p2) (if p2 = p2 then sm_lor (S 85 p2) (S 85 p1) else S 85 p2) (S 86 p2)) (if_pos la_joinLabel_2)
          have e620_ : sm_rl 1 1 (if p2 = p2 then sm_lor (S 83 p2) (S 83 p1) else S 83 p2) (if p2 = p2 then sm_lor (S 84 p2) (S 84 p1) else S 84 p2) (if p2 = p2 then sm_lor (S 85 p2) (S 85 p1) else S 85 p2) (S 86 p2) = sm_rl 1 1 (sm_lor (S 83 p2) (S 83 p1)) (if p2 = p2 then sm_lor (S 84 p2) (S 84 p1) else S 84 p2) (if p2 = p2 then sm_lor (S 85 p2) (S 85 p1) else S 85 p2) (S 86 p2) := congrArg (fun z_ : Int => sm_rl 1 1 z_ (if p2 = p2 then sm_lor (S 84 p2) (S 84 p1) else S 84 p2) (if p2 = p2 then sm_lor (S 85 p2) (S 85 p1) else S 85 p2) (S 86 p2)) (if_pos la_joinLabel_2)
          have e621_ : sm_rl 1 1 (sm_lor (S 83 p2) (S 83 p1)) (if p2 = p2 then sm_lor (S 84 p2) (S 84 p1) else S 84 p2) (if p2 = p2 then sm_lor (S 85 p2) (S 85 p1) else S 85 p2) (S 86 p2) = sm_rl 1 1 (sm_lor (S 83 p2) (S 83 p1)) (sm_lor (S 84 p2) (S 84 p1)) (if p2 = p2 then sm_lor (S 85 p2) (S 85 p1) else S 85 p2) (S 86 p2) := congrArg (fun z_ : Int => sm_rl 1 1 (sm_lor (S 83 p2) (S 83 p1)) z_ (if p2 = p2 then sm_lor (S 85 p2) (S 85 p1) else S 85 p2) (S 86 p2)) (if_pos la_joinLabel_2)
          have e622_ : sm_rl 1 1 (sm_lor (S 83 p2) (S 83 p1)) (sm_lor (S 84 p2) (S 84 p1)) (if p2 = p2 then sm_lor (S 85 p2) (S 85 p1) else S 85 p2) (S 86 p2) = sm_rl 1 1 (sm_lor (S 83 p2) (S 83 p1)) (sm_lor (S 84 p2) (S 84 p1)) (sm_lor (S 85 p2) (S 85 p1)) (S 86 p2) := congrArg (fun z_ : Int => sm_rl 1 1 (sm_lor (S 83 p2) (S 83 p1)) (sm_lor (S 84 p2) (S 84 p1)) z_ (S 86 p2)) (if_pos la_joinLabel_2)
          have e623_ : sm_rl (if p2 = p2 then 1 else S 81 p2) (if p2 = p2 then 1 else S 82 p2) (sm_lor (S 83 p2) (S 83 p1)) (sm_lor (S 84 p2) (S 84 p1)) (sm_lor (S 85 p2) (S 85 p1)) (sm_lor (S 86 p2) (S 86 p1)) = sm_rl 1 (if p2 = p2 then 1 else S 82 p2) (sm_lor (S 83 p2) (S 83 p1)) (sm_lor (S 84 p2) (S 84 p1)) (sm_lor (S 85 p2) (S 85 p1)) (sm_lor (S 86 p2) (S 86 p1)) := congrArg (fun z_ : Int => sm_rl z_ (if p2 = p2 then 1 else S 82 p2) (sm_lor (S 83 p2) (S 83 p1)) (sm_lor (S 84 p2) (S 84 p1)) (sm_lor (S 85 p2) (S 85 p1)) (sm_lor (S 86 p2) (S 86 p1))) (if_pos la_joinLabel_2)
          have e624_ : sm_rl 1 (if p2 = p2 then 1 else S 82 p2) (sm_lor (S 83 p2) (S 83 p1)) (sm_lor (S 84 p2) (S 84 p1)) (sm_lor (S 85 p2) (S 85 p1)) (sm_lor (S 86 p2) (S 86 p1)) = sm_rl 1 1 (sm_lor (S 83 p2) (S 83 p1)) (sm_lor (S 84 p2) (S 84 p1)) (sm_lor (S 85 p2) (S 85 p1)) (sm_lor (S 86 p2) (S 86 p1)) := congrArg (fun z_ : Int => sm_rl 1 z_ (sm_lor (S 83 p2) (S 83 p1)) (sm_lor (S 84 p2) (S 84 p1)) (sm_lor (S 85 p2) (S 85 p1)) (sm_lor (S 86 p2) (S 86 p1))) (if_pos la_joinLabel_2)
          have e625_ : (if p2 = p2 then sm_lor (S 84 p2) (S 84 p1) else S 84 p2 : Int) = sm_lor (S 84 p2) (S 84 p1) := if_pos la_joinLabel_2
          have e626_ : (if p2 = p2 then sm_lor (S 83 p2) (S 83 p1) else S 83 p2 : Int) = sm_lor (S 83 p2) (S 83 p1) := if_pos la_joinLabel_2
          have e627_ : (if p2 = p2 then sm_lor (S 85 p2) (S 85 p1) else S 85 p2 : Int) = sm_lor (S 85 p2) (S 85 p1) := if_pos la_joinLabel_2
          exact (la_joinLabel_12 h574_ e587_ e588_ e589_ e590_ e591_ e592_ e593_ e594_ e595_ e596_ e597_ e598_ e599_ e600_ e601_ e602_ e603_ e604_ e605_ e606_ e607_ e608_ e609_ e610_ e611_ e612_ e613_ e614_ e615_ e616_ e617_ e618_ e619_ e620_ e621_ e622_ e623_ e624_)
        intro h628_
        rintro ⟨h629_, h630_⟩
        refine ⟨?_, ?_⟩
        · skip
          intro h631_
          intro h632_
          intro h633_
          intro h634_
          intro h635_
          intro h636_
          intro h637_
          intro h638_
          intro h639_
          intro h640_
          intro h641_
          intro h642_
          intro h643_
          intro h644_
          have h645_ := (h644_ h632_)
          intro h646_
          have h647_ := (h646_ h635_)
          intro h648_
          have h649_ := (h648_ h638_)
          intro h650_
          have h651_ := (h650_ h641_)
          intro h652_
          have e653_ : (if p2 = p2 then 0 else S 82 p2 : Int) = 0 := if_pos la_joinLabel_2
          have e654_ : (if p2 = p2 then 1 else S 81 p2 : Int) = 1 := if_pos la_joinLabel_2
          have h655_ := (h652_ (la_joinLabel_10 h278_ e654_))
          have h656_ := (h655_ (la_joinLabel_8 h628_ e653_))
          have h657_ := (h656_ h632_)
          have h658_ := (h657_ h635_)
          have h659_ := (h658_ h638_)
          have h660_ := (h659_ h641_)
          have h661_ := (h660_ h15_)
          have h662_ := (h661_ (la_joinLabel_15 h278_ e654_))
          refine ⟨?_, ?_⟩
          · skip
            refine ⟨?_, ?_⟩
            · skip
              have e663_ : sm_rl (if p2 = p2 then 1 else S 81 p2) (if p2 = p2 then 0 else S 82 p2) (sm_lor (S 83 p2) (S 83 p1)) (sm_lor (S 84 p2) (S 84 p1)) (sm_lor (S 85 p2) (S 85 p1)) (sm_lor (S 86 p2) (S 86 p1)) = sm_rl 1 (if p2 = p2 then 0 else S 82 p2) (sm_lor (S 83 p2) (S 83 p1)) (sm_lor (S 84 p2) (S 84 p1)) (sm_lor (S 85 p2) (S 85 p1)) (sm_lor (S 86 p2) (S 86 p1)) := congrArg (fun z_ : Int => sm_rl z_ (if p2 = p2 then 0 else S 82 p2) (sm_lor (S 83 p2) (S 83 p1)) (sm_lor (S 84 p2) (S 84 p1)) (sm_lor (S 85 p2) (S 85 p1)) (sm_lor (S 86 p2) (S 86 p1))) (if_pos la_joinLabel_2)
              have e664_ : sm_rl 1 (if p2 = p2 then 0 else S 82 p2) (sm_lor (S 83 p2) (S 83 p1)) (sm_lor (S 84 p2) (S 84 p1)) (sm_lor (S 85 p2) (S 85 p1)) (sm_lor (S 86 p2) (S 86 p1)) = sm_rl 1 0 (sm_lor (S 83 p2) (S 83 p1)) (sm_lor (S 84 p2) (S 84 p1)) (sm_lor (S 85 p2) (S 85 p1)) (sm_lor (S 86 p2) (S 86 p1)) := congrArg (fun z_ : Int => sm_rl 1 z_ (sm_lor (S 83 p2) (S 83 p1)) (sm_lor (S 84 p2) (S 84 p1)) (sm_lor (S 85 p2) (S 85 p1)) (sm_lor (S 86 p2) (S 86 p1))) (if_pos la_joinLabel_2)
              exact (la_joinLabel_4 h15_)
            have e665_ : sm_rl (if p2 = p2 then 1 else S 81 p2) (if p2 = p2 then 0 else S 82 p2) (sm_lor (S 83 p2) (S 83 p1)) (sm_lor (S 84 p2) (S 84 p1)) (sm_lor (S 85 p2) (S 85 p1)) (sm_lor (S 86 p2) (S 86 p1)) = sm_rl 1 (if p2 = p2 then 0 else S 82 p2) (sm_lor (S 83 p2) (S 83 p1)) (sm_lor (S 84 p2) (S 84 p1)) (sm_lor (S 85 p2) (S 85 p1)) (sm_lor (S 86 p2) (S 86 p1)) := congrArg (fun z_ : Int => sm_rl z_ (if p2 = p2 then 0 else S 82 p2) (sm_lor (S 83 p2) (S 83 p1)) (sm_lor (S 84 p2) (S 84 p1)) (sm_lor (S 85 p2) (S 85 p1)) (sm_lor (S 86 p2) (S 86 p1))) (if_pos la_joinLabel_2)
            have e666_ : sm_rl 1 (if p2 = p2 then 0 else S 82 p2) (sm_lor (S 83 p2) (S 83 p1)) (sm_lor (S 84 p2) (S 84 p1)) (sm_lor (S 85 p2) (S 85 p1)) (sm_lor (S 86 p2) (S 86 p1)) = sm_rl 1 0 (sm_lor (S 83 p2) (S 83 p1)) (sm_lor (S 84 p2) (S 84 p1)) (sm_lor (S 85 p2) (S 85 p1)) (sm_lor (S 86 p2) (S 86 p1)) := congrArg (fun z_ : Int => sm_rl 1 z_ (sm_lor (S 83 p2) (S 83 p1)) (sm_lor (S 84 p2) (S 84 p1)) (sm_lor (S 85 p2) (S 85 p1)) (sm_lor (S 86 p2) (S 86 p1))) (if_pos la_joinLabel_2)
            exact (la_joinLabel_5 h15_)
          refine ⟨?_, ?_⟩
          · skip
            intro h667_
            have e668_ : sm_pl (fun i' : Int => (if i' = p2 then 1 else (S 81) i')) (fun i' : Int => (if i' = p2 then 0 else (S 82) i')) (fun i' : Int => (if i' = p2 then sm_lor (S 83 p2) (S 83 p1) else (S 83) i')) (fun i' : Int => (if i' = p2 then sm_lor (S 84 p2) (S 84 p1) else (S 84) i')) (fun i' : Int => (if i' = p2 then sm_lor (S 85 p2) (S 85 p1) else (S 85) i')) (fun i' : Int => (if i' = p2 then sm_lor (S 86 p2) (S 86 p1) else (S 86) i')) = sm_pl (fun i' : Int => (if i' = p2 then 1 else (S 81) i')) (fun i' : Int => (if i' = p2 then 0 else (S 82) i')) (fun i' : Int => (if i' = p2 then sm_lor (S 83 p2) (S 83 p1) else (S 83) i')) (fun i' : Int => (if i' = p2 then sm_lor (S 84 p2) (S 84 p1) else (S 84) i')) (fun i' : Int => (if i' = p2 then sm_lor (S 85 p2) (S 85 p1) else (S 85) i')) (S 86) := sm_pl_D h667_
            have e669_ : sm_pl (fun i' : Int => (if i' = p2 then 1 else (S 81) i')) (fun i' : Int => (if i' = p2 then 0 else (S 82) i')) (fun i' : Int => (if i' = p2 then sm_lor (S 83 p2) (S 83 p1) else (S 83) i')) (fun i' : Int => (if i' = p2 then sm_lor (S 84 p2) (S 84 p1) else (S 84) i')) (fun i' : Int => (if i' = p2 then sm_lor (S 85 p2) (S 85 p1) else (S 85) i')) (S 86) = sm_pl (fun i' : Int => (if i' = p2 then 1 else (S 81) i')) (fun i' : Int => (if i' = p2 then 0 else (S 82) i')) (fun i' : Int => (if i' = p2 then sm_lor (S 83 p2) (S 83 p1) else (S 83) i')) (fun i' : Int => (if i' = p2 then sm_lor (S 84 p2) (S 84 p1) else (S 84) i')) (S 85) (S 86) := sm_pl_C h667_
            have e670_ : sm_pl (fun i' : Int => (if i' = p2 then 1 else (S 81) i')) (fun i' : Int => (if i' = p2 then 0 else (S 82) i')) (fun i' : Int => (if i' = p2 then sm_lor (S 83 p2) (S 83 p1) else (S 83) i')) (fun i' : Int => (if i' = p2 then sm_lor (S 84 p2) (S 84 p1) else (S 84) i')) (S 85) (S 86) = sm_pl (fun i' : Int => (if i' = p2 then 1 else (S 81) i')) (fun i' : Int => (if i' = p2 then 0 else (S 82) i')) (fun i' : Int => (if i' = p2 then sm_lor (S 83 p2) (S 83 p1) else (S 83) i')) (S 84) (S 85) (S 86) := sm_pl_B h667_
            have e671_ : sm_pl (fun i' : Int => (if i' = p2 then 1 else (S 81) i')) (fun i' : Int => (if i' = p2 then 0 else (S 82) i')) (fun i' : Int => (if i' = p2 then sm_lor (S 83 p2) (S 83 p1) else (S 83) i')) (S 84) (S 85) (S 86) = sm_pl (fun i' : Int => (if i' = p2 then 1 else (S 81) i')) (fun i' : Int => (if i' = p2 then 0 else (S 82) i')) (S 83) (S 84) (S 85) (S 86) := sm_pl_A h667_
            have e672_ : sm_pl (fun i' : Int => (if i' = p2 then 1 else (S 81) i')) (fun i' : Int => (if i' = p2 then 0 else (S 82) i')) (S 83) (S 84) (S 85) (S 86) = sm_pl (fun i' : Int => (if i' = p2 then 1 else (S 81) i')) (S 82) (S 83) (S 84) (S 85) (S 86) := sm_pl_N h667_
            have e673_ : sm_pl (fun i' : Int => (if i' = p2 then 1 else (S 81) i')) (S 82) (S 83) (S 84) (S 85) (S 86) = sm_pl (S 81) (S 82) (S 83) (S 84) (S 85) (S 86) := sm_pl_T h667_
            exact (la_joinLabel_6 e668_ e669_ e670_ e671_ e672_ e673_)
          refine ⟨h15_, ?_⟩
          intro h674_
          have e675_ : sm_pl (fun i' : Int => (if i' = p2 then 1 else (S 81) i')) (fun i' : Int => (if i' = p2 then 0 else (S 82) i')) (fun i' : Int => (if i' = p2 then sm_lor (S 83 p2) (S 83 p1) else (S 83) i')) (fun i' : Int => (if i' = p2 then sm_lor (S 84 p2) (S 84 p1) else (S 84) i')) (fun i' : Int => (if i' = p2 then sm_lor (S 85 p2) (S 85 p1) else (S 85) i')) (fun i' : Int => (if i' = p2 then sm_lor (S 86 p2) (S 86 p1) else (S 86) i')) = sm_pl (fun i' : Int => (if i' = p2 then 1 else (S 81) i')) (fun i' : Int => (if i' = p2 then 0 else (S 82) i')) (fun i' : Int => (if i' = p2 then sm_lor (S 83 p2) (S 83 p1) else (S 83) i')) (fun i' : Int => (if i' = p2 then sm_lor (S 84 p2) (S 84 p1) else (S 84) i')) (fun i' : Int => (if i' = p2 then sm_lor (S 85 p2) (S 85 p1) else (S 85) i')) (S 86) + sm_rl (if p2 = p2 then 1 else S 81 p2) (if p2 = p2 then 0 else S 82 p2) (if p2 = p2 then sm_lor (S 83 p2) (S 83 p1) else S 83 p2) (if p2 = p2 then sm_lor (S 84 p2) (S 84 p1) else S 84 p2) (if p2 = p2 then sm_lor (S 85 p2) (S 85 p1) else S 85 p2) (S 86 p2) - sm_rl (if p2 = p2 then 1 else S 81 p2) (if p2 = p2 then 0 else S 82 p2) (if p2 = p2 then sm_lor (S 83 p2) (S 83 p1) else S 83 p2) (if p2 = p2 then sm_lor (S 84 p2) (S 84 p1) else S 84 p2) (if p2 = p2 then sm_lor (S 85 p2) (S 85 p1) else S 85 p2) (sm_lor (S 86 p2) (S 86 p1)) := sm_pl_D' h6_ h674_
          have e676_ : sm_pl (fun i' : Int => (if i' = p2 then 1 else (S 81) i')) (fun i' : Int => (if i' = p2 then 0 else (S 82) i')) (fun i' : Int => (if i' = p2 then sm_lor (S 83 p2) (S 83 p1) else (S 83) i')) (fun i' : Int => (if i' = p2 then sm_lor (S 84 p2) (S 84 p1) else (S 84) i')) (fun i' : Int => (if i' = p2 then sm_lor (S 85 p2) (S 85 p1) else (S 85) i')) (S 86) = sm_pl (fun i' : Int => (if i' = p2 then 1 else (S 81) i')) (fun i' : Int => (if i' = p2 then 0 else (S 82) i')) (fun i' : Int => (if i' = p2 then sm_lor (S 83 p2) (S 83 p1) else (S 83) i')) (fun i' : Int => (if i' = p2 then sm_lor (S 84 p2) (S 84 p1) else (S 84) i')) (S 85) (S 86) + sm_rl (if p2 = p2 then 1 else S 81 p2) (if p2 = p2 then 0 else S 82 p2) (if p2 = p2 then sm_lor (S 83 p2) (S 83 p1) else S 83 p2) (if p2 = p2 then sm_lor (S 84 p2) (S 84 p1) else S 84 p2) (S 85 p2) (S 86 p2) - sm_rl (if p2 = p2 then 1 else S 81 p2) (if p2 = p2 then 0 else S 82 p2) (if p2 = p2 then sm_lor (S 83 p2) (S 83 p1) else S 83 p2) (if p2 = p2 then sm_lor (S 84 p2) (S 84 p1) else S 84 p2) (sm_lor (S 85 p2) (S 85 p1)) (S 86 p2) := sm_pl_C' h6_ h674_
          have e677_ : sm_pl (fun i' : Int => (if i' = p2 then 1 else (S 81) i')) (fun i' : Int => (if i' = p2 then 0 else (S 82) i')) (fun i' : Int => (if i' = p2 then sm_lor (S 83 p2) (S 83 p1) else (S 83) i')) (fun i' : Int => (if i' = p2 then sm_lor (S 84 p2) (S 84 p1) else (S 84) i')) (S 85) (S 86) = sm_pl (fun i' : Int => (if i' = p2 then 1 else (S 81) i')) (fun i' : Int => (if i' = p2 then 0 else (S 82) i')) (fun i' : Int => (if i' = p2 then sm_lor (S 83 p2) (S 83 p1) else (S 83) i')) (S 84) (S 85) (S 86) + sm_rl (if p2 = p2 then 1 else S 81 p2) (if p2 = p2 then 0 else S 82 p2) (if p2 = p2 then sm_lor (S 83 p2) (S 83 p1) else S 83 p2) (S 84 p2) (S 85 p2) (S 86 p2) - sm_rl (if p2 = p2 then 1 else S 81 p2) (if p2 = p2 then 0 else S 82 p2) (if p2 = p2 then sm_lor (S 83 p2) (S 83 p1) else S 83 p2) (sm_lor (S 84 p2) (S 84 p1)) (S 85 p2) (S 86 p2) := sm_pl_B' h6_ h674_
          have e678_ : sm_pl (fun i' : Int => (if i' = p2 then 1 else (S 81) i')) (fun i' : Int => (if i' = p2 then 0 else (S 82) i')) (fun i' : Int => (if i' = p2 then sm_lor (S 83 p2) (S 83 p1) else (S 83) i')) (S 84) (S 85) (S 86) = sm_pl (fun i' : Int => (if i' = p2 then 1 else (S 81) i')) (fun i' : Int => (if i' = p2 then 0 else (S 82) i')) (S 83) (S 84) (S 85) (S 86) + sm_rl (if p2 = p2 then 1 else S 81 p2) (if p2 = p2 then 0 else S 82 p2) (S 83 p2) (S 84 p2) (S 85 p2) (S 86 p2) - sm_rl (if p2 = p2 then 1 else S 81 p2) (if p2 = p2 then 0 else S 82 p2) (sm_lor (S 83 p2) (S 83 p1)) (S 84 p2) (S 85 p2) (S 86 p2) := sm_pl_A' h6_ h674_
          have e679_ : sm_pl (fun i' : Int => (if i' = p2 then 1 else (S 81) i')) (fun i' : Int => (if i' = p2 then 0 else (S 82) i')) (S 83) (S 84) (S 85) (S 86) = sm_pl (fun i' : Int => (if i' = p2 then 1 else (S 81) i')) (S 82) (S 83) (S 84) (S 85) (S 86) + sm_rl (if p2 = p2 then 1 else S 81 p2) (S 82 p2) (S 83 p2) (S 84 p2) (S 85 p2) (S 86 p2) - sm_rl (if p2 = p2 then 1 else S 81 p2) 0 (S 83 p2) (S 84 p2) (S 85 p2) (S 86 p2) := sm_pl_N' h6_ h674_
          have e680_ : sm_pl (fun i' : Int => (if i' = p2 then 1 else (S 81) i')) (S 82) (S 83) (S 84) (S 85) (S 86) = sm_pl (S 81) (S 82) (S 83) (S 84) (S 85) (S 86) + sm_rl (S 81 p2) (S 82 p2) (S 83 p2) (S 84 p2) (S 85 p2) (S 86 p2) - sm_rl 1 (S 82 p2) (S 83 p2) (S 84 p2) (S 85 p2) (S 86 p2) := sm_pl_T' h6_ h674_
          have e681_ : sm_rl (if p2 = p2 then 1 else S 81 p2) 0 (S 83 p2) (S 84 p2) (S 85 p2) (S 86 p2) = sm_rl 1 0 (S 83 p2) (S 84 p2) (S 85 p2) (S 86 p2) := congrArg (fun z_ : Int => sm_rl z_ 0 (S 83 p2) (S 84 p2) (S 85 p2) (S 86 p2)) (if_pos la_joinLabel_2)
          have e682_ : sm_rl (if p2 = p2 then 1 else S 81 p2) (S 82 p2) (S 83 p2) (S 84 p2) (S 85 p2) (S 86 p2) = sm_rl 1 (S 82 p2) (S 83 p2) (S 84 p2) (S 85 p2) (S 86 p2) := congrArg (fun z_ : Int => sm_rl z_ (S 82 p2) (S 83 p2) (S 84 p2) (S 85 p2) (S 86 p2)) (if_pos la_joinLabel_2)
          have e683_ : sm_rl (if p2 = p2 then 1 else S 81 p2) (if p2 = p2 then 0 else S 82 p2) (sm_lor (S 83 p2) (S 83 p1)) (S 84 p2) (S 85 p2) (S 86 p2) = sm_rl 1 (if p2 = p2 then 0 else S 82 p2) (sm_lor (S 83 p2) (S 83 p1)) (S 84 p2) (S 85 p2) (S 86 p2) := congrArg (fun z_ : Int => sm_rl z_ (if p2 = p2 then 0 else S 82 p2) (sm_lor (S 83 p2) (S 83 p1)) (S 84 p2) (S 85 p2) (S 86 p2)) (if_pos la_joinLabel_2)
          have e684_ : sm_rl 1 (if p2 = p2 then 0 else S 82 p2) (sm_lor (S 83 p2) (S 83 p1)) (S 84 p2) (S 85 p2) (S 86 p2) = sm_rl 1 0 (sm_lor (S 83 p2) (S 83 p1)) (S 84 p2) (S 85 p2) (S 86 p2) := congrArg (fun z_ : Int => sm_rl 1 z_ (sm_lor (S 83 p2) (S 83 p1)) (S 84 p2) (S 85 p2) (S 86 p2)) (if_pos la_joinLabel_2)
          have e685_ : sm_rl (if p2 = p2 then 1 else S 81 p2) (if p2 = p2 then 0 else S 82 p2) (S 83 p2) (S 84 p2) (S 85 p2) (S 86 p2) = sm_rl 1 (if p2 = p2 then 0 else S 82 p2) (S 83 p2) (S 84 p2) (S 85 p2) (S 86 p2) := congrArg (fun z_ : Int => sm_rl z_ (if p2 = p2 then 0 else S 82 p2) (S 83 p2) (S 84 p2) (S 85 p2) (S 86 p2)) (if_pos la_joinLabel_2)
          have e686_ : sm_rl 1 (if p2 = p2 then 0 else S 82 p2) (S 83 p2) (S 84 p2) (S 85 p2) (S 86 p2) = sm_rl 1 0 (S 83 p2) (S 84 p2) (S 85 p2) (S 86 p2) := congrArg (fun z_ : Int => sm_rl 1 z_ (S 83 p2) (S 84 p2) (S 85 p2) (S 86 p2)) (if_pos la_joinLabel_2)
          have e687_ : sm_rl (if p2 = p2 then 1 else S 81 p2) (if p2 = p2 then 0 else S 82 p2) (if p2 = p2 then sm_lor (S 83 p2) (S 83 p1) else S 83 p2) (sm_lor (S 84 p2) (S 84 p1)) (S 85 p2) (S 86 p2) = sm_rl 1 (if p2 = p2 then 0 else S 82 p2) (if p2 = p2 then sm_lor (S 83 p2) (S 83 p1) else S 83 p2) (sm_lor (S 84 p2) (S 84 p1)) (S 85 p2) (S 86 p2) := congrArg (fun z_ : Int => sm_rl z_ (if p2 = p2 then 0 else S 82 p2) (if p2 = p2 then sm_lor (S 83 p2) (S 83 p1) else S 83 p2) (sm_lor (S 84 p2) (S 84 p1)) (S 85 p2) (S 86 p2)) (if_pos la_joinLabel_2)
          have e688_ : sm_rl 1 (if p2 = p2 then 0 else S 82 p2) (if p2 = p2 then sm_lor (S 83 p2) (S 83 p1) else S 83 p2) (sm_lor (S 84 p2) (S 84 p1)) (S 85 p2) (S 86 p2) = sm_rl 1 0 (if p2 = p2 then sm_lor (S 83 p2) (S 83 p1) else S 83 p2) (sm_lor (S 84 p2) (S 84 p1)) (S 85 p2) (S 86 p2) := congrArg (fun z_ : Int => sm_rl 1 z_ (if p2 = p2 then sm_lor (S 83 p2) (S 83 p1) else S 83 p2) (sm_lor (S 84 p2) (S 84 p1)) (S 85 p2) (S 86 p2)) (if_pos la_joinLabel_2)
          have e689_ : sm_rl 1 0 (if p2 = p2 then sm_lor (S 83 p2) (S 83 p1) else S 83 p2) (sm_lor (S 84 p2) (S 84 p1)) (S 85 p2) (S 86 p2) = sm_rl 1 0 (sm_lor (S 83 p2) (S 83 p1)) (sm_lor (S 84 p2) (S 84 p1)) (S 85 p2) (S 86 p2) := congrArg (fun z_ : Int => sm_rl 1 0 z_ (sm_lor (S 84 p2) (S 84 p1)) (S 85 p2) (S 86 p2)) (if_pos la_joinLabel_2)
          have e690_ : sm_rl (if p2 = p2 then 1 else S 81 p2) (if p2 = p2 then 0 else S 82 p2) (if p2 = p2 then sm_lor (S 83 p2) (S 83 p1) else S 83 p2) (S 84 p2) (S 85 p2) (S 86 p2) = sm_rl 1 (if p2 = p2 then 0 else S 82 p2) (if p2 = p2 then sm_lor (S 83 p2) (S 83 p1) else S 83 p2) (S 84 p2) (S 85 p2) (S 86 p2) := congrArg (fun z_ : Int => sm_rl z_ (if p2 = p2 then 0 else S 82 p2) (if p2 = p2 then sm_lor (S 83 p2) (S 83 p1) else S 83 p2) (S 84 p2) (S 85 p2) (S 86 p2)) (if_pos la_joinLabel_2)
          have e691_ : sm_rl 1 (if p2 = p2 then 0 else S 82 p2) (if p2 = p2 then sm_lor (S 83 p2) (S 83 p1) else S 83 p2) (S 84 p2) (S 85 p2) (S 86 p2) = sm_rl 1 0 (if p2 = p2 then sm_lor (S 83 p2) (S 83 p1) else S 83 p2) (S 84 p2) (S 85 p2) (S 86 p2) := congrArg (fun z_ : Int => sm_rl 1 z_ (if p2 = p2 then sm_lor (S 83 p2) (S 83 p1) else S 83 p2) (S 84 p2) (S 85 p2) (S 86 p2)) (if_pos la_joinLabel_2)
          have e692_ : sm_rl 1 0 (if p2 = p2 then sm_lor (S 83 p2) (S 83 p1) else S 83 p2) (S 84 p2) (S 85 p2) (S 86 p2) = sm_rl 1 0 (sm_lor (S 83 p2) (S 83 p1)) (S 84 p2) (S 85 p2) (S 86 p2) := congrArg (fun z_ : Int => sm_rl 1 0 z_ (S 84 p2) (S 85 p2) (S 86 p2)) (if_pos la_joinLabel_2)
          have e693_ : sm_rl (if p2 = p2 then 1 else S 81 p2) (if p2 = p2 then 0 else S 82 p2) (if p2 = p2 then sm_lor (S 83 p2) (S 83 p1) else S 83 p2) (if p2 = p2 then sm_lor (S 84 p2) (S 84 p1) else S 84 p2) (sm_lor (S 85 p2) (S 85 p1)) (S 86 p2) = sm_rl 1 (if p2 = p2 then 0 else S 82 p2) (if p2 = p2 then sm_lor (S 83 p2) (S 83 p1) else S 83 p2) (if p2 = p2 then sm_lor (S 84 p2) (S 84 p1) else S 84 p2) (sm_lor (S 85 p2) (S 85 p1)) (S 86 p2) := congrArg (fun z_ : Int => sm_rl z_ (if p2 = p2 then 0 else S 82 p2) (if p2 = p2 then sm_lor (S 83 p2) (S 83 p1) else S 83 p2) (if p2 = p2 then sm_lor (S 84 p2) (S 84 p1) else S 84 p2) (sm_lor (S 85 p2) (S 85 p1)) (S 86 p2)) (if_pos la_joinLabel_2)
          have e694_ : sm_rl 1 (if p2 = p2 then 0 else S 82 p2) (if p2 = p2 then sm_lor (S 83 p2) (S 83 p1) else S 83 p2) (if p2 = p2 then sm_lor (S 84 p2) (S 84 p1) else S 84 p2) (sm_lor (S 85 p2) (S 85 p1)) (S 86 p2) = sm_rl 1 0 (if p2 = p2 then sm_lor (S 83 p2) (S 83 p1) else S 83 p2) (if p2 = p2 then sm_lor (S 84 p2) (S 84 p1) else S 84 p2) (sm_lor (S 85 p2) (S 85 p1)) (S 86 p2) := congrArg (fun z_ : Int => sm_rl 1 z_ (if p2 = p2 then sm_lor (S 83 p2) (S 83 p1) else S 83 p2) (if p2 = p2 then sm_lor (S 84 p2) (S 84 p1) else S 84 p2) (sm_lor (S 85 p2) (S 85 p1)) (S 86 p2)) (if_pos la_joinLabel_2)
          have e695_ : sm_rl 1 0 (if p2 = p2 then sm_lor (S 83 p2) (S 83 p1) else S 83 p2) (if p2 = p2 then sm_lor (S 84 p2) (S 84 p1) else S 84 p2) (sm_lor (S 85 p2) (S 85 p1)) (S 86 p2) = sm_rl 1 0 (sm_lor (S 83 p2) (S 83 p1)) (if p2 = p2 then sm_lor (S 84 p2) (S 84 p1) else S 84 p2) (sm_lor (S 85 p2) (S 85 p1)) (S 86 p2) := congrArg (fun z_ : Int => sm_rl 1 0 z_ (if p2 = p2 then sm_lor (S 84 p2) (S 84 p1) else S 84 p2) (sm_lor (S 85 p2) (S 85 p1)) (S 86 p2)) (if_pos la_joinLabel_2)
          have e696_ : sm_rl 1 0 (sm_lor (S 83 p2) (S 83 p1)) (if p2 = p2 then sm_lor (S 84 p2) (S 84 p1) else S 84 p2) (sm_lor (S 85 p2) (S 85 p1)) (S 86 p2) = sm_rl 1 0 (sm_lor (S 83 p2) (S 83 p1)) (sm_lor (S 84 p2) (S 84 p1)) (sm_lor (S 85 p2) (S 85 p1)) (S 86 p2) := congrArg (fun z_ : Int => sm_rl 1 0 (sm_lor (S 83 p2) (S 83 p1)) z_ (sm_lor (S 85 p2) (S 85 p1)) (S 86 p2)) (if_pos la_joinLabel_2)
          have e697_ : sm_rl (if p2 = p2 then 1 else S 81 p2) (if p2 = p2 then 0 else S 82 p2) (if p2 = p2 then sm_lor (S 83 p2) (S 83 p1) else S 83 p2) (if p2 = p2 then sm_lor (S 84 p2) (S 84 p1) else S 84 p2) (S 85 p2) (S 86 p2) = sm_rl 1 (if p2 = p2 then 0 else S 82 p2) (if p2 = p2 then sm_lor (S 83 p2) (S 83 p1) else S 83 p2) (if p2 = p2 then sm_lor (S 84 p2) (S 84 p1) else S 84 p2) (S 85 p2) (S 86 p2) := congrArg (fun z_ : Int => sm_rl z_ (if p2 = p2 then 0 else S 82 p2) (if p2 = p2 then sm_lor (S 83 p2) (S 83 p1) else S 83 p2) (if p2 = p2 then sm_lor (S 84 p2) (S 84 p1) else S 84 p2) (S 85 p2) (S 86 p2)) (if_pos la_joinLabel_2)
          have e698_ : sm_rl 1 (if p2 = p2 then 0 else S 82 p2) (if p2 = p2 then sm_lor (S 83 p2) (S 83 p1) else S 83 p2) (if p2 = p2 then sm_lor (S 84 p2) (S 84 p1) else S 84 p2) (S 85 p2) (S 86 p2) = sm_rl 1 0 (if p2 = p2 then sm_lor (S 83 p2) (S 83 p1) else S 83 p2) (if p2 = p2 then sm_lor (S 84 p2) (S 84 p1) else S 84 p2) (S 85 p2) (S 86 p2) := congrArg (fun z_ : Int => sm_rl 1 z_ (if p2 = p2 then sm_lor (S 83 p2) (S 83 p1) else S 83 p2) (if p2 = p2 then sm_lor (S 84 p2) (S 84 p1) else S 84 p2) (S 85 p2) (S 86 p2)) (if_pos la_joinLabel_2)
          have e699_ : sm_rl 1 0 (if p2 = p2 then sm_lor (S 83 p2) (S 83 p1) else S 83 p2) (if p2 = p2 then sm_lor (S 84 p2) (S 84 p1) else S 84 p2) (S 85 p2) (S 86 p2) = sm_rl 1 0 (sm_lor (S 83 p2) (S 83 p1)) (if p2 = p2 then sm_lor (S 84 p2) (S 84 p1) else S 84 p2) (S 85 p2) (S 86 p2) := congrArg (fun z_ : Int => sm_rl 1 0 z_ (if p2 = p2 then sm_lor (S 84 p2) (S 84 p1) else S 84 p2) (S 85 p2) (S 86 p2)) (if_pos la_joinLabel_2)
          have e700_ : sm_rl 1 0 (sm_lor (S 83 p2) (S 83 p1)) (if p2 = p2 then sm_lor (S 84 p2) (S 84 p1) else S 84 p2) (S 85 p2) (S 86 p2) = sm_rl 1 0 (sm_lor (S 83 p2) (S 83 p1)) (sm_lor (S 84 p2) (S 84 p1)) (S 85 p2) (S 86 p2) := congrArg (fun z_ : Int => sm_rl 1 0 (sm_lor (S 83 p2) (S 83 p1)) z_ (S 85 p2) (S 86 p2)) (if_pos la_joinLabel_2)
          have e701_ : sm_rl (if p2 = p2 then 1 else S 81 p2) (if p2 = p2 then 0 else S 82 p2) (if p2 = p2 then sm_lor (S 83 p2) (S 83 p1) else S 83 p2) (if p2 = p2 then sm_lor (S 84 p2) (S 84 p1) else S 84 p2) (if p2 = p2 then sm_lor (S 85 p2) (S 85 p1) else S 85 p2) (sm_lor (S 86 p2) (S 86 p1)) = sm_rl 1 (if p2 = p2 then 0 else S 82 p2) (if p2 = p2 then sm_lor (S 83 p2) (S 83 p1) else S 83 p2) (if p2 = p2 then sm_lor (S 84 p2) (S 84 p1) else S 84 p2) (if p2 = p2 then sm_lor (S 85 p2) (S 85 p1) else S 85 p2) (sm_lor (S 86 p2) (S 86 p1)) := congrArg (fun z_ : Int => sm_rl z_ (if p2 = p2 then 0 else S 82 p2) (if p2 = p2 then sm_lor (S 83 p2) (S 83 p1) else S 83 p2) (if p2 = p2 then sm_lor (S 84 p2) (S 84 p1) else S 84 p2) (if p2 = p2 then sm_lor (S 85 p2) (S 85 p1) else S 85 p2) (sm_lor (S 86 p2) (S 86 p1))) (if_pos la_joinLabel_2)
          have e702_ : sm_rl 1 (if p2 = p2 then 0 else S 82 p2) (if p2 = p2 then sm_lor (S 83 p2) (S 83 p1) else S 83 p2) (if p2 = p2 then sm_lor (S 84 p2) (S 84 p1) else S 84 p2) (if p2 = p2 then sm_lor (S 85 p2) (S 85 p1) else S 85 p2) (sm_lor (S 86 p2) (S 86 p1)) = sm_rl 1 0 (if p2 = p2 then sm_lor (S 83 p2) (S 83 p1) else S 83 p2) (if p2 = p2 then sm_lor (S 84 p2) (S 84 p1) else S 84 p2) (if p2 = p2 then sm_lor (S 85 p2) (S 85 p1) else S 85 p2) (sm_lor (S 86 p2) (S 86 p1)) := congrArg (fun z_ : Int => sm_rl 1 z_ (if p2 = p2 then sm_lor (S 83 p2) (S 83 p1) else S 83 p2) (if p2 = p2 then sm_lor (S 84 p2) (S 84 p1) else S 84 p2) (if p2 = p2 then sm_lor (S 85 p2) (S 85 p1) else S 85 p2) (sm_lor (S 86 p2) (S 86 p1))) (if_pos la_joinLabel_2)
          have e703_ : sm_rl 1 0 (if p2 = p2 then sm_lor (S 83 p2) (S 83 p1) else S 83 p2) (if p2 = p2 then sm_lor (S 84 p2) (S 84 p1) else S 84 p2) (if p2 = p2 then sm_lor (S 85 p2) (S 85 p1) else S 85 p2) (sm_lor (S 86 p2) (S 86 p1)) = sm_rl 1 0 (sm_lor (S 83 p2) (S 83 p1)) (if p2 = p2 then sm_lor (S 84 p2) (S 84 p1) else S 84 p2) (if p2 = p2 then sm_lor (S 85 p2) (S 85 p1) else S 85 p2) (sm_lor (S 86 p2) (S 86 p1)) := congrArg (fun z_ : Int => sm_rl 1 0 z_ (if p2 = p2 then sm_lor (S 84 p2) (S 84 p1) else S 84 p2) (if p2 = p2 then sm_lor (S 85 p2) (S 85 p1) else S 85 p2) (sm_lor (S 86 p2) (S 86 p1))) (if_pos la_joinLabel_2)
          have e704_ : sm_rl 1 0 (sm_lor (S 83 p2) (S 83 p1)) (if p2 = p2 then sm_lor (S 84 p2) (S 84 p1) else S 84 p2) (if p2 = p2 then sm_lor (S 85 p2) (S 85 p1) else S 85 p2) (sm_lor (S 86 p2) (S 86 p1)) = sm_rl 1 0 (sm_lor (S 83 p2) (S 83 p1)) (sm_lor (S 84 p2) (S 84 p1)) (if p2 = p2 then sm_lor (S 85 p2) (S 85 p1) else S 85 p2) (sm_lor (S 86 p2) (S 86 p1)) := congrArg (fun z_ : Int => sm_rl 1 0 (sm_lor (S 83 p2) (S 83 p1)) z_ (if p2 = p2 then sm_lor (S 85 p2) (S 85 p1) else S 85 p2) (sm_lor (S 86 p2) (S 86 p1))) (if_pos la_joinLabel_2)
          have e705_ : sm_rl 1 0 (sm_lor (S 83 p2) (S 83 p1)) (sm_lor (S 84 p2) (S 84 p1)) (if p2 = p2 then sm_lor (S 85 p2) (S 85 p1) else S 85 p2) (sm_lor (S 86 p2) (S 86 p1)) = sm_rl 1 0 (sm_lor (S 83 p2) (S 83 p1)) (sm_lor (S 84 p2) (S 84 p1)) (sm_lor (S 85 p2) (S 85 p1)) (sm_lor (S 86 p2) (S 86 p1)) := congrArg (fun z_ : Int => sm_rl 1 0 (sm_lor (S 83 p2) (S 83 p1)) (sm_lor (S 84 p2) (S 84 p1)) z_ (sm_lor (S 86 p2) (S 86 p1))) (if_pos la_joinLabel_2)
          have e706_ : sm_rl (if p2 = p2 then 1 else S 81 p2) (if p2 = p2 then 0 else S 82 p2) (if p2 = p2 then sm_lor (S 83 p2) (S 83 p1) else S 83 p2) (if p2 = p2 then sm_lor (S 84 p2) (S 84 p1) else S 84 p2) (if p2 = p2 then sm_lor (S 85 p2) (S 85 p1) else S 85 p2) (S 86 p2) = sm_rl 1 (if p2 = p2 then 0 else S 82 p2) (if p2 = p2 then sm_lor (S 83 p2) (S 83 p1) else S 83 p2) (if p2 = p2 then sm_lor (S 84 p2) (S 84 p1) else S 84 p2) (if p2 = p2 then sm_lor (S 85 p2) (S 85 p1) else S 85 p2) (S 86 p2) := congrArg (fun z_ : Int => sm_rl z_ (if p2 = p2 then 0 else S 82 p2) (if p2 = p2 then sm_lor (S 83 p2) (S 83 p1) else S 83 p2) (if p2 = p2 then sm_lor (S 84 p2) (S 84 p1) else S 84 p2) (if p2 = p2 then sm_lor (S 85 p2) (S 85 p1) else S 85 p2) (S 86 p2)) (if_pos la_joinLabel_2)
          have e707_ : sm_rl 1 (if p2 = p2 then 0 else S 82 p2) (if p2 = p2 then sm_lor (S 83 p2) (S 83 p1) else S 83 p2) (if p2 = p2 then sm_lor (S 84 p2) (S 84 p1) else S 84 p2) (if p2 = p2 then sm_lor (S 85 p2) (S 85 p1) else S 85 p2) (S 86 p2) = sm_rl 1 0 (if p2 = p2 then sm_lor (S 83 p2) (S 83 p1) else S 83 p2) (if p2 = p2 then sm_lor (S 84 p2) (S 84 p1) else S 84 p2) (if p2 = p2 then sm_lor (S 85 p2) (S 85 p1) else S 85 p2) (S 86 p2) := congrArg (fun z_ : Int => sm_rl 1 z_ (if p2 = p2 then sm_lor (S 83 p2) (S 83 p1) else S 83 p2) (if p2 = p2 then sm_lor (S 84 p2) (S 84 p1) else S 84 p2) (if p2 = p2 then sm_lor (S 85 p2) (S 85 p1) else S 85 p2) (S 86 p2)) (if_pos la_joinLabel_2)
          have e708_ : sm_rl 1 0 (if p2 = p2 then sm_lor (S 83 p2) (S 83 p1) else S 83 p2) (if p2 = p2 then sm_lor (S 84 p2) (S 84 p1) else S 84 p2) (if p2 = p2 then sm_lor (S 85 p2) (S 85 p1) else S 85 p2) (S 86 p2) = sm_rl 1 0 (sm_lor (S 83 p2) (S 83 p1)) (if p2 = p2 then sm_lor (S 84 p2) (S 84 p1) else S 84 p2) (if p2 = p2 then sm_lor (S 85 p2) (S 85 p1) else S 85 p2) (S 86 p2) := congrArg (fun z_ : Int => sm_rl 1 0 z_ (if p2 = p2 then sm_lor (S 84 p2) (S 84 p1) else S 84 p2) (if p2 = p2 then sm_lor (S 85 p2) (S 85 p1) else S 85 p2) (S 86 p2)) (if_pos la_joinLabel_2)
          have e709_ : sm_rl 1 0 (sm_lor (S 83 p2) (S 83 p1)) (if p2 = p2 then sm_lor (S 84 p2) (S 84 p1) else S 84 p2) (if p2 = p2 then sm_lor (S 85 p2) (S 85 p1) else S 85 p2) (S 86 p2) = sm_rl 1 0 (sm_lor (S 83 p2) (S 83 p1)) (sm_lor (S 84 p2) (S 84 p1)) (if p2 = p2 then sm_lor (S 85 p2) (S 85 p1) else S 85 p2) (S 86 p2) := congrArg (fun z_ : Int => sm_rl 1 0 (sm_lor (S 83 p2) (S 83 p1)) z_ (if p2 = p2 then sm_lor (S 85 p2) (S 85 p1) else S 85 p2) (S 86 p2)) (if_pos la_joinLabel_2)
          have e710_ : sm_rl 1 0 (sm_lor (S 83 p2) (S 83 p1)) (sm_lor (S 84 p2) (S 84 p1)) (if p2 = p2 then sm_lor (S 85 p2) (S 85 p1) else S 85 p2) (S 86 p2) = sm_rl 1 0 (sm_lor (S 83 p2) (S 83 p1)) (sm_lor (S 84 p2) (S 84 p1)) (sm_lor (S 85 p2) (S 85 p1)) (S 86 p2) := congrArg (fun z_ : Int => sm_rl 1 0 (sm_lor (S 83 p2) (S 83 p1)) (sm_lor (S 84 p2) (S 84 p1)) z_ (S 86 p2)) (if_pos la_joinLabel_2)
          have e711_ : sm_rl (if p2 = p2 then 1 else S 81 p2) (if p2 = p2 then 0 else S 82 p2) (sm_lor (S 83 p2) (S 83 p1)) (sm_lor (S 84 p2) (S 84 p1)) (sm_lor (S 85 p2) (S 85 p1)) (sm_lor (S 86 p2) (S 86 p1)) = sm_rl 1 (if p2 = p2 then 0 else S 82 p2) (sm_lor (S 83 p2) (S 83 p1)) (sm_lor (S 84 p2) (S 84 p1)) (sm_lor (S 85 p2) (S 85 p1)) (sm_lor (S 86 p2) (S 86 p1)) := congrArg (fun z_ : Int => sm_rl z_ (if p2 = p2 then 0 else S 82 p2) (sm_lor (S 83 p2) (S 83 p1)) (sm_lor (S 84 p2) (S 84 p1)) (sm_lor (S 85 p2) (S 85 p1)) (sm_lor (S 86 p2) (S 86 p1))) (if_pos la_joinLabel_2)
          have e712_ : sm_rl 1 (if p2 = p2 then 0 else S 82 p2) (sm_lor (S 83 p2) (S 83 p1)) (sm_lor (S 84 p2) (S 84 p1)) (sm_lor (S 85 p2) (S 85 p1)) (sm_lor (S 86 p2) (S 86 p1)) = sm_rl 1 0 (sm_lor (S 83 p2) (S 83 p1)) (sm_lor (S 84 p2) (S 84 p1)) (sm_lor (S 85 p2) (S 85 p1)) (sm_lor (S 86 p2) (S 86 p1)) := congrArg (fun z_ : Int => sm_rl 1 z_ (sm_lor (S 83 p2) (S 83 p1)) (sm_lor (S 84 p2) (S 84 p1)) (sm_lor (S 85 p2) (S 85 p1)) (sm_lor (S 86 p2) (S 86 p1))) (if_pos la_joinLabel_2)
          have e713_ : (if p2 = p2 then sm_lor (S 84 p2) (S 84 p1) else S 84 p2 : Int) = sm_lor (S 84 p2) (S 84 p1) := if_pos la_joinLabel_2
          have e714_ : (if p2 = p2 then sm_lor (S 83 p2) (S 83 p1) else S 83 p2 : Int) = sm_lor (S 83 p2) (S 83 p1) := if_pos la_joinLabel_2
          have e715_ : (if p2 = p2 then sm_lor (S 85 p2) (S 85 p1) else S 85 p2 : Int) = sm_lor (S 85 p2) (S 85 p1) := if_pos la_joinLabel_2
          exact (la_joinLabel_12 h662_ e675_ e676_ e677_ e678_ e679_ e680_ e681_ e682_ e683_ e684_ e685_ e686_ e687_ e688_ e689_ e690_ e691_ e692_ e693_ e694_ e695_ e696_ e697_ e698_ e699_ e700_ e701_ e702_ e703_ e704_ e705_ e706_ e707_ e708_ e709_ e710_ e711_ e712_)
        intro h716_
        intro h717_
        intro h718_
        intro h719_
        intro h720_
        intro h721_
        intro h722_
        intro h723_
        intro h724_
        intro h725_
        intro h726_
        intro h727_
        intro h728_
        intro h729_
        have h730_ := (h729_ h717_)
        intro h731_
        have h732_ := (h731_ h720_)
        intro h733_
        have h734_ := (h733_ h723_)
        intro h735_
        have h736_ := (h735_ h726_)
        intro h737_
        have e738_ : (if p2 = p2 then 1 else S 82 p2 : Int) = 1 := if_pos la_joinLabel_2
        have e739_ : (if p2 = p2 then 1 else S 81 p2 : Int) = 1 := if_pos la_joinLabel_2
        have h740_ := (h737_ (la_joinLabel_10 h278_ e739_))
        have h741_ := (h740_ (la_joinLabel_10 h628_ e738_))
        have h742_ := (h741_ h717_)
        have h743_ := (h742_ h720_)
        have h744_ := (h743_ h723_)
        have h745_ := (h744_ h726_)
        have h746_ := (h745_ h15_)
        have h747_ := (h746_ (la_joinLabel_11 h628_ e738_))
        refine ⟨?_, ?_⟩
        · skip
          refine ⟨?_, ?_⟩
          · skip
            have e748_ : sm_rl (if p2 = p2 then 1 else S 81 p2) (if p2 = p2 then 1 else S 82 p2) (sm_lor (S 83 p2) (S 83 p1)) (sm_lor (S 84 p2) (S 84 p1)) (sm_lor (S 85 p2) (S 85 p1)) (sm_lor (S 86 p2) (S 86 p1)) = sm_rl 1 (if p2 = p2 then 1 else S 82 p2) (sm_lor (S 83 p2) (S 83 p1)) (sm_lor (S 84 p2) (S 84 p1)) (sm_lor (S 85 p2) (S 85 p1)) (sm_lor (S 86 p2) (S 86 p1)) := congrArg (fun z_ : Int => sm_rl z_ (if p2 = p2 then 1 else S 82 p2) (sm_lor (S 83 p2) (S 83 p1)) (sm_lor (S 84 p2) (S 84 p1)) (sm_lor (S 85 p2) (S 85 p1)) (sm_lor (S 86 p2) (S 86 p1))) (if_pos la_joinLabel_2)
            have e749_ : sm_rl 1 (if p2 = p2 then 1 else S 82 p2) (sm_lor (S 83 p2) (S 83 p1)) (sm_lor (S 84 p2) (S 84 p1)) (sm_lor (S 85 p2) (S 85 p1)) (sm_lor (S 86 p2) (S 86 p1)) = sm_rl 1 1 (sm_lor (S 83 p2) (S 83 p1)) (sm_lor (S 84 p2) (S 84 p1)) (sm_lor (S 85 p2) (S 85 p1)) (sm_lor (S 86 p2) (S 86 p1)) := congrArg (fun z_ : Int => sm_rl 1 z_ (sm_lor (S 83 p2) (S 83 p1)) (sm_lor (S 84 p2) (S 84 p1)) (sm_lor (S 85 p2) (S 85 p1)) (sm_lor (S 86 p2) (S 86 p1))) (if_pos la_joinLabel_2)
            exact (la_joinLabel_4 h15_)
          have e750_ : sm_rl (if p2 = p2 then 1 else S 81 p2) (if p2 = p2 then 1 else S 82 p2) (sm_lor (S 83 p2) (S 83 p1)) (sm_lor (S 84 p2) (S 84 p1)) (sm_lor (S 85 p2) (S 85 p1)) (sm_lor (S 86 p2) (S 86 p1)) = sm_rl 1 (if p2 = p2 then 1 else S 82 p2) (sm_lor (S 83 p2) (S 83 p1)) (sm_lor (S 84 p2) (S 84 p1)) (sm_lor (S 85 p2) (S 85 p1)) (sm_lor (S 86 p2) (S 86 p1)) := congrArg (fun z_ : Int => sm_rl z_ (if p2 = p2 then 1 else S 82 p2) (sm_lor (S 83 p2) (S 83 p1)) (sm_lor (S 84 p2) (S 84 p1)) (sm_lor (S 85 p2) (S 85 p1)) (sm_lor (S 86 p2) (S 86 p1))) (if_pos la_joinLabel_2)
          have e751_ : sm_rl 1 (if p2 = p2 then 1 else S 82 p2) (sm_lor (S 83 p2) (S 83 p1)) (sm_lor (S 84 p2) (S 84 p1)) (sm_lor (S 85 p2) (S 85 p1)) (sm_lor (S 86 p2) (S 86 p1)) = sm_rl 1 1 (sm_lor (S 83 p2) (S 83 p1)) (sm_lor (S 84 p2) (S 84 p1)) (sm_lor (S 85 p2) (S 85 p1)) (sm_lor (S 86 p2) (S 86 p1)) := congrArg (fun z_ : Int => sm_rl 1 z_ (sm_lor (S 83 p2) (S 83 p1)) (sm_lor (S 84 p2) (S 84 p1)) (sm_lor (S 85 p2) (S 85 p1)) (sm_lor (S 86 p2) (S 86 p1))) (if_pos la_joinLabel_2)
          exact (la_joinLabel_5 h15_)
        refine ⟨?_, ?_⟩
        · skip
          intro h752_
          have e753_ : sm_pl (fun i' : Int => (if i' = p2 then 1 else (S 81) i')) (fun i' : Int => (if i' = p2 then 1 else (S 82) i')) (fun i' : Int => (if i' = p2 then sm_lor (S 83 p2) (S 83 p1) else (S 83) i')) (fun i' : Int => (if i' = p2 then sm_lor (S 84 p2) (S 84 p1) else (S 84) i')) (fun i' : Int => (if i' = p2 then sm_lor (S 85 p2) (S 85 p1) else (S 85) i')) (fun i' : Int => (if i' = p2 then sm_lor (S 86 p2) (S 86 p1) else (S 86) i')) = sm_pl (fun i' : Int => (if i' = p2 then 1 else (S 81) i')) (fun i' : Int => (if i' = p2 then 1 else (S 82) i')) (fun i' : Int => (if i' = p2 then sm_lor (S 83 p2) (S 83 p1) else (S 83) i')) (fun i' : Int => (if i' = p2 then sm_lor (S 84 p2) (S 84 p1) else (S 84) i')) (fun i' : Int => (if i' = p2 then sm_lor (S 85 p2) (S 85 p1) else (S 85) i')) (S 86) := sm_pl_D h752_
          have e754_ : sm_pl (fun i' : Int => (if i' = p2 then 1 else (S 81) i')) (fun i' : Int => (if i' = p2 then 1 else (S 82) i')) (fun i' : Int => (if i' = p2 then sm_lor (S 83 p2) (S 83 p1) else (S 83) i')) (fun i' : Int => (if i' = p2 then sm_lor (S 84 p2) (S 84 p1) else (S 84) i')) (fun i' : Int => (if i' = p2 then sm_lor (S 85 p2) (S 85 p1) else (S 85) i')) (S 86) = sm_pl (fun i' : Int => (if i' = p2 then 1 else (S 81) i')) (fun i' : Int => (if i' = p2 then 1 else (S 82) i')) (fun i' : Int => (if i' = p2 then sm_lor (S 83 p2) (S 83 p1) else (S 83) i')) (fun i' : Int => (if i' = p2 then sm_lor (S 84 p2) (S 84 p1) else (S 84) i')) (S 85) (S 86) := sm_pl_C h752_
          have e755_ : sm_pl (fun i' : Int => (if i' = p2 then 1 else (S 81) i')) (fun i' : Int => (if i' = p2 then 1 else (S 82) i')) (fun i' : Int => (if i' = p2 then sm_lor (S 83 p2) (S 83 p1) else (S 83) i')) (fun i' : Int => (if i' = p2 then sm_lor (S 84 p2) (S 84 p1) else (S 84) i')) (S 85) (S 86) = sm_pl (fun i' : Int => (if i' = p2 then 1 else (S 81) i')) (fun i' : Int => (if i' = p2 then 1 else (S 82) i')) (fun i' : Int => (if i' = p2 then sm_lor (S 83 p2) (S 83 p1) else (S 83) i')) (S 84) (S 85) (S 86) := sm_pl_B h752_
          have e756_ : sm_pl (fun i' : Int => (if i' = p2 then 1 else (S 81) i')) (fun i' : Int => (if i' = p2 then 1 else (S 82) i')) (fun i' : Int => (if i' = p2 then sm_lor (S 83 p2) (S 83 p1) else (S 83) i')) (S 84) (S 85) (S 86) = sm_pl (fun i' : Int => (if i' = p2 then 1 else (S 81) i')) (fun i' : Int => (if i' = p2 then 1 else (S 82) i')) (S 83) (S 84) (S 85) (S 86) := sm_pl_A h752_
          have e757_ : sm_pl (fun i' : Int => (if i' = p2 then 1 else (S 81) i')) (fun i' : Int => (if i' = p2 then 1 else (S 82) i')) (S 83) (S 84) (S 85) (S 86) = sm_pl (fun i' : Int => (if i' = p2 then 1 else (S 81) i')) (S 82) (S 83) (S 84) (S 85) (S 86) := sm_pl_N h752_
          have e758_ : sm_pl (fun i' : Int => (if i' = p2 then 1 else (S 81) i')) (S 82) (S 83) (S 84) (S 85) (S 86) = sm_pl (S 81) (S 82) (S 83) (S 84) (S 85) (S 86) := sm_pl_T h752_
          exact (la_joinLabel_6 e753_ e754_ e755_ e756_ e757_ e758_)
        refine ⟨h15_, ?_⟩
        intro h759_
        have e760_ : sm_pl (fun i' : Int => (if i' = p2 then 1 else (S 81) i')) (fun i' : Int => (if i' = p2 then 1 else (S 82) i')) (fun i' : Int => (if i' = p2 then sm_lor (S 83 p2) (S 83 p1) else (S 83) i')) (fun i' : Int => (if i' = p2 then sm_lor (S 84 p2) (S 84 p1) else (S 84) i')) (fun i' : Int => (if i' = p2 then sm_lor (S 85 p2) (S 85 p1) else (S 85) i')) (fun i' : Int => (if i' = p2 then sm_lor (S 86 p2) (S 86 p1) else (S 86) i')) = sm_pl (fun i' : Int => (if i' = p2 then 1 else (S 81) i')) (fun i' : Int => (if i' = p2 then 1 else (S 82) i')) (fun i' : Int => (if i' = p2 then sm_lor (S 83 p2) (S 83 p1) else (S 83) i')) (fun i' : Int => (if i' = p2 then sm_lor (S 84 p2) (S 84 p1) else (S 84) i')) (fun i' : Int => (if i' = p2 then sm_lor (S 85 p2) (S 85 p1) else (S 85) i')) (S 86) + sm_rl (if p2 = p2 then 1 else S 81 p2) (if p2 = p2 then 1 else S 82 p2) (if p2 = p2 then sm_lor (S 83 p2) (S 83 p1) else S 83 p2) (if p2 = p2 then sm_lor (S 84 p2) (S 84 p1) else S 84 p2) (if p2 = p2 then sm_lor (S 85 p2) (S 85 p1) else S 85 p2) (S 86 p2) - sm_rl (if p2 = p2 then 1 else S 81 p2) (if p2 = p2 then 1 else S 82 p2) (if p2 = p2 then sm_lor (S 83 p2) (S 83 p1) else S 83 p2) (if p2 = p2 then sm_lor (S 84 p2) (S 84 p1) else S 84 p2) (if p2 = p2 then sm_lor (S 85 p2) (S 85 p1) else S 85 p2) (sm_lor (S 86 p2) (S 86 p1)) := sm_pl_D' h6_ h759_
        have e761_ : sm_pl (fun i' : Int => (if i' = p2 then 1 else (S 81) i')) (fun i' : Int => (if i' = p2 then 1 else (S 82) i')) (fun i' : Int => (if i' = p2 then sm_lor (S 83 p2) (S 83 p1) else (S 83) i')) (fun i' : Int => (if i' = p2 then sm_lor (S 84 p2) (S 84 p1) else (S 84) i')) (fun i' : Int => (if i' = p2 then sm_lor (S 85 p2) (S 85 p1) else (S 85) i')) (S 86) = sm_pl (fun i' : Int => (if i' = p2 then 1 else (S 81) i')) (fun i' : Int => (if i' = p2 then 1 else (S 82) i')) (fun i' : Int => (if i' = p2 then sm_lor (S 83 p2) (S 83 p1) else (S 83) i')) (fun i' : Int => (if i' = p2 then sm_lor (S 84 p2) (S 84 p1) else (S 84) i')) (S 85) (S 86) + sm_rl (if p2 = p2 then 1 else S 81 p2) (if p2 = p2 then 1 else S 82 p2) (if p2 = p2 then sm_lor (S 83 p2) (S 83 p1) else S 83 p2) (if p2 = p2 then sm_lor (S 84 p2) (S 84 p1) else S 84 p2) (S 85 p2) (S 86 p2) - sm_rl (if p2 = p2 then 1 else S 81 p2) (if p2 = p2 then 1 else S 82 p2) (if p2 = p2 then sm_lor (S 83 p2) (S 83 p1) else S 83 p2) (if p2 = p2 then sm_lor (S 84 p2) (S 84 p1) else S 84 p2) (sm_lor (S 85 p2) (S 85 p1)) (S 86 p2) := sm_pl_C' h6_ h759_
        have e762_ : sm_pl (fun i' : Int => (if i' = p2 then 1 else (S 81) i')) (fun i' : Int => (if i' = p2 then 1 else (S 82) i')) (fun i' : Int => (if i' = p2 then sm_lor (S 83 p2) (S 83 p1) else (S 83) i')) (fun i' : Int => (if i' = p2 then sm_lor (S 84 p2) (S 84 p1) else (S 84) i')) (S 85) (S 86) = sm_pl (fun i' : Int => (if i' = p2 then 1 else (S 81) i')) (fun i' : Int => (if i' = p2 then 1 else (S 82) i')) (fun i' : Int => (if i' = p2 then sm_lor (S 83 p2) (S 83 p1) else (S 83) i')) (S 84) (S 85) (S 86) + sm_rl (if p2 = p2 then 1 else S 81 p2) (if p2 = p2 then 1 else S 82 p2) (if p2 = p2 then sm_lor (S 83 p2) (S 83 p1) else S 83 p2) (S 84 p2) (S 85 p2) (S 86 p2) - sm_rl (if p2 = p2 then 1 else S 81 p2) (if p2 = p2 then 1 else S 82 p2) (if p2 = p2 then sm_lor (S 83 p2) (S 83 p1) else S 83 p2) (sm_lor (S 84 p2) (S 84 p1)) (S 85 p2) (S 86 p2) := sm_pl_B' h6_ h759_
        have e763_ : sm_pl (fun i' : Int => (if i' = p2 then 1 else (S 81) i')) (fun i' : Int => (if i' = p2 then 1 else (S 82) i')) (fun i' : Int => (if i' = p2 then sm_lor (S 83 p2) (S 83 p1) else (S 83) i')) (S 84) (S 85) (S 86) = sm_pl (fun i' : Int => (if i' = p2 then 1 else (S 81) i')) (fun i' : Int => (if i' = p2 then 1 else (S 82) i')) (S 83) (S 84) (S 85) (S 86) + sm_rl (if p2 = p2 then 1 else S 81 p2) (if p2 = p2 then 1 else S 82 p2) (S 83 p2) (S 84 p2) (S 85 p2) (S 86 p2) - sm_rl (if p2 = p2 then 1 else S 81 p2) (if p2 = p2 then 1 else S 82 p2) (sm_lor (S 83 p2) (S 83 p1)) (S 84 p2) (S 85 p2) (S 86 p2) := sm_pl_A' h6_ h759_
        have e764_ : sm_pl (fun i' : Int => (if i' = p2 then 1 else (S 81) i')) (fun i' : Int => (if i' = p2 then 1 else (S 82) i')) (S 83) (S 84) (S 85) (S 86) = sm_pl (fun i' : Int => (if i' = p2 then 1 else (S 81) i')) (S 82) (S 83) (S 84) (S 85) (S 86) + sm_rl (if p2 = p2 then 1 else S 81 p2) (S 82 p2) (S 83 p2) (S 84 p2) (S 85 p2) (S 86 p2) - sm_rl (if p2 = p2 then 1 else S 81 p2) 1 (S 83 p2) (S 84 p2) (S 85 p2) (S 86 p2) := sm_pl_N' h6_ h759_
        have e765_ : sm_pl (fun i' : Int => (if i' = p2 then 1 else (S 81) i')) (S 82) (S 83) (S 84) (S 85) (S 86) = sm_pl (S 81) (S 82) (S 83) (S 84) (S 85) (S 86) + sm_rl (S 81 p2) (S 82 p2) (S 83 p2) (S 84 p2) (S 85 p2) (S 86 p2) - sm_rl 1 (S 82 p2) (S 83 p2) (S 84 p2) (S 85 p2) (S 86 p2) := sm_pl_T' h6_ h759_
        have e766_ : sm_rl (if p2 = p2 then 1 else S 81 p2) 1 (S 83 p2) (S 84 p2) (S 85 p2) (S 86 p2) = sm_rl 1 1 (S 83 p2) (S 84 p2) (S 85 p2) (S 86 p2) := congrArg (fun z_ : Int => sm_rl z_ 1 (S 83 p2) (S 84 p2) (S 85 p2) (S 86 p2)) (if_pos la_joinLabel_2)
        have e767_ : sm_rl (if p2 = p2 then 1 else S 81 p2) (S 82 p2) (S 83 p2) (S 84 p2) (S 85 p2) (S 86 p2) = sm_rl 1 (S 82 p2) (S 83 p2) (S 84 p2) (S 85 p2) (S 86 p2) := congrArg (fun z_ : Int => sm_rl z_ (S 82 p2) (S 83 p2) (S 84 p2) (S 85 p2) (S 86 p2)) (if_pos la_joinLabel_2)
        have e768_ : sm_rl (if p2 = p2 then 1 else S 81 p2) (if p2 = p2 then 1 else S 82 p2) (sm_lor (S 83 p2) (S 83 p1)) (S 84 p2) (S 85 p2) (S 86 p2) = sm_rl 1 (if p2 = p2 then 1 else S 82 p2) (sm_lor (S 83 p2) (S 83 p1)) (S 84 p2) (S 85 p2) (S 86 p2) := congrArg (fun z_ : Int => sm_rl z_ (if p2 = p2 then 1 else S 82 p2) (sm_lor (S 83 p2) (S 83 p1)) (S 84 p2) (S 85 p2) (S 86 p2)) (if_pos la_joinLabel_2)
        have e769_ : sm_rl 1 (if p2 = p2 then 1 else S 82 p2) (sm_lor (S 83 p2) (S 83 p1)) (S 84 p2) (S 85 p2) (S 86 p2) = sm_rl 1 1 (sm_lor (S 83 p2) (S 83 p1)) (S 84 p2) (S 85 p2) (S 86 p2) := congrArg (fun z_ : Int => sm_rl 1 z_ (sm_lor (S 83 p2) (S 83 p1)) (S 84 p2) (S 85 p2) (S 86 p2)) (if_pos la_joinLabel_2)
        have e770_ : sm_rl (if p2 = p2 then 1 else S 81 p2) (if p2 = p2 then 1 else S 82 p2) (S 83 p2) (S 84 p2) (S 85 p2) (S 86 p2) = sm_rl 1 (if p2 = p2 then 1 else S 82 p2) (S 83 p2) (S 84 p2) (S 85 p2) (S 86 p2) := congrArg (fun z_ : Int => sm_rl z_ (if p2 = p2 then 1 else S 82 p2) (S 83 p2) (S 84 p2) (S 85 p2) (S 86 p2)) (if_pos la_joinLabel_2)
        have e771_ : sm_rl 1 (if p2 = p2 then 1 else S 82 p2) (S 83 p2) (S 84 p2) (S 85 p2) (S 86 p2) = sm_rl 1 1 (S 83 p2) (S 84 p2) (S 85 p2) (S 86 p2) := congrArg (fun z_ : Int => sm_rl 1 z_ (S 83 p2) (S 84 p2) (S 85 p2) (S 86 p2)) (if_pos la_joinLabel_2)
        have e772_ : sm_rl (if p2 = p2 then 1 else S 81 p2) (if p2 = p2 then 1 else S 82 p2) (if p2 = p2 then sm_lor (S 83 p2) (S 83 p1) else S 83 p2) (sm_lor (S 84 p2) (S 84 p1)) (S 85 p2) (S 86 p2) = sm_rl 1 (if p2 = p2 then 1 else S 82 p2) (if p2 = p2 then sm_lor (S 83 p2) (S 83 p1) else S 83 p2) (sm_lor (S 84 p2) (S 84 p1)) (S 85 p2) (S 86 p2) := congrArg (fun z_ : Int => sm_rl z_ (if p2 = p2 then 1 else S 82 p2) (if p2 = p2 then sm_lor (S 83 p2) (S 83 p1) else S 83 p2) (sm_lor (S 84 p2) (S 84 p1)) (S 85 p2) (S 86 p2)) (if_pos la_joinLabel_2)
        have e773_ : sm_rl 1 (if p2 = p2 then 1 else S 82 p2) (if p2 = p2 then sm_lor (S 83 p2) (S 83 p1) else S 83 p2) (sm_lor (S 84 p2) (S 84 p1)) (S 85 p2) (S 86 p2) = sm_rl 1 1 (if p2 = p2 then sm_lor (S 83 p2) (S 83 p1) else S 83 p2) (sm_lor (S 84 p2) (S 84 p1)) (S 85 p2) (S 86 p2) := congrArg (fun z_ : Int => sm_rl 1 z_ (if p2 = p2 then sm_lor (S 83 p2) (S 83 p1) else S 83 p2) (sm_lor (S 84 p2) (S 84 p1)) (S 85 p2) (S 86 p2)) (if_pos la_joinLabel_2)
        have e774_ : sm_rl 1 1 (if p2 = p2 then sm_lor (S 83 p2) (S 83 p1) else S 83 p2) (sm_lor (S 84 p2) (S 84 p1)) (S 85 p2) (S 86 p2) = sm_rl 1 1 (sm_lor (S 83 p2) (S 83 p1)) (sm_lor (S 84 p2) (S 84 p1)) (S 85 p2) (S 86 p2) := congrArg (fun z_ : Int => sm_rl 1 1 z_ (sm_lor (S 84 p2) (S 84 p1)) (S 85 p2) (S 86 p2)) (if_pos la_joinLabel_2)
        have e775_ : sm_rl (if p2 = p2 then 1 else S 81 p2) (if p2 = p2 then 1 else S 82 p2) (if p2 = p2 then sm_lor (S 83 p2) (S 83 p1) else S 83 p2) (S 84 p2) (S 85 p2) (S 86 p2) = sm_rl 1 (if p2 = p2 then 1 else S 82 p2) (if p2 = p2 then sm_lor (S 83 p2) (S 83 p1) else S 83 p2) (S 84 p2) (S 85 p2) (S 86 p2) := congrArg (fun z_ : Int => sm_rl z_ (if p2 = p2 then 1 else S 82 p2) (if p2 = p2 then sm_lor (S 83 p2) (S 83 p1) else S 83 p2) (S 84 p2) (S 85 p2) (S 86 p2)) (if_pos la_joinLabel_2)
        have e776_ : sm_rl 1 (if p2 = p2 then 1 else S 82 p2) (if p2 = p2 then sm_lor (S 83 p2) (S 83 p1) else S 83 p2) (S 84 p2) (S 85 p2) (S 86 p2) = sm_rl 1 1 (if p2 = p2 then sm_lor (S 83 p2) (S 83 p1) else S 83 p2) (S 84 p2) (S 85 p2) (S 86 p2) := congrArg (fun z_ : Int => sm_rl 1 z_ (if p2 = p2 then sm_lor (S 83 p2) (S 83 p1) else S 83 p2) (S 84 p2) (S 85 p2) (S 86 p2)) (if_pos la_joinLabel_2)
        have e777_ : sm_rl 1 1 (if p2 = p2 then sm_lor (S 83 p2) (S 83 p1) else S 83 p2) (S 84 p2) (S 85 p2) (S 86 p2) = sm_rl 1 1 (sm_lor (S 83 p2) (S 83 p1)) (S 84 p2) (S 85 p2) (S 86 p2) := congrArg (fun z_ : Int => sm_rl 1 1 z_ (S 84 p2) (S 85 p2) (S 86 p2)) (if_pos la_joinLabel_2)
        have e778_ : sm_rl (if p2 = p2 then 1 else S 81 p2) (if p2 = p2 then 1 else S 82 p2) (if p2 = p2 then sm_lor (S 83 p2) (S 83 p1) else S 83 p2) (if p2 = p2 then sm_lor (S 84 p2) (S 84 p1) else S 84 p2) (sm_lor (S 85 p2) (S 85 p1)) (S 86 p2) = sm_rl 1 (if p2 = p2 then 1 else S 82 p2) (if p2 = p2 then sm_lor (S 83 p2) (S 83 p1) else S 83 p2) (if p2 = p2 then sm_lor (S 84 p2) (S 84 p1) else S 84 p2) (sm_lor (S 85 p2) (S 85 p1)) (S 86 p2) := congrArg (fun z_ : Int => sm_rl z_ (if p2 = p2 then 1 else S 82 p2) (if p2 = p2 then sm_lor (S 83 p2) (S 83 p1) else S 83 p2) (if p2 = p2 then sm_lor (S 84 p2) (S 84 p1) else S 84 p2) (sm_lor (S 85 p2) (S 85 p1)) (S 86 p2)) (if_pos la_joinLabel_2)
        have e779_ : sm_rl 1 (if p2 = p2 then 1 else S 82 p2) (if p2 = p2 then sm_lor (S 83 p2) (S 83 p1) else S 83 p2) (if p2 = p2 then sm_lor (S 84 p2) (S 84 p1) else S 84 p2) (sm_lor (S 85 p2) (S 85 p1)) (S 86 p2) = sm_rl 1 1 (if p2 = p2 then sm_lor (S 83 p2) (S 83 p1) else S 83 p2) (if p2 = p2 then sm_lor (S 84 p2) (S 84 p1) else S 84 p2) (sm_lor (S 85 p2) (S 85 p1)) (S 86 p2) := congrArg (fun z_ : Int => sm_rl 1 z_ (if p2 = p2 then sm_lor (S 83 p2) (S 83 p1) else S 83 p2) (if p2 = p2 then sm_lor (S 84 p2) (S 84 p1) else S 84 p2) (sm_lor (S 85 p2) (S 85 p1)) (S 86 p2)) (if_pos la_joinLabel_2)
        have e780_ : sm_rl 1 1 (if p2 = p2 then sm_lor (S 83 p2) (S 83 p1) else S 83 p2) (if p2 = p2 then sm_lor (S 84 p2) (S 84 p1) else S 84 p2) (sm_lor (S 85 p2) (S 85 p1)) (S 86 p2) = sm_rl 1 1 (sm_lor (S 83 p2) (S 83 p1)) (if p2 = p2 then sm_lor (S 84 p2) (S 84 p1) else S 84 p2) (sm_lor (S 85 p2) (S 85 p1)) (S 86 p2) := congrArg (fun z_ : Int => sm_rl 1 1 z_ (if p2 = p2 then sm_lor (S 84 p2) (S 84 p1) else S 84 p2) (sm_lor (S 85 p2) (S 85 p1)) (S 86 p2)) (if_pos la_joinLabel_2)
        have e781_ : sm_rl 1 1 (sm_lor (S 83 p2) (S 83 p1)) (if p2 = p2 then sm_lor (S 84 p2) (S 84 p1) else S 84 p2) (sm_lor (S 85 p2) (S 85 p1)) (S 86 p2) = sm_rl 1 1 (sm_lor (S 83 p2) (S 83 p1)) (sm_lor (S 84 p2) (S 84 p1)) (sm_lor (S 85 p2) (S 85 p1)) (S 86 p2) := congrArg (fun z_ : Int => sm_rl 1 1 (sm_lor (S 83 p2) (S 83 p1)) z_ (sm_lor (S 85 p2) (S 85 p1)) (S 86 p2)) (if_pos la_joinLabel_2)
        have e782_ : sm_rl (if p2 = p2 then 1 else S 81 p2) (if p2 = p2 then 1 else S 82 p2) (if p2 = p2 then sm_lor (S 83 p2) (S 83 p1) else S 83 p2) (if p2 = p2 then sm_lor (S 84 p2) (S 84 p1) else S 84 p2) (S 85 p2) (S 86 p2) = sm_rl 1 (if p2 = p2 then 1 else S 82 p2) (if p2 = p2 then sm_lor (S 83 p2) (S 83 p1) else S 83 p2) (if p2 = p2 then sm_lor (S 84 p2) (S 84 p1) else S 84 p2) (S 85 p2) (S 86 p2) := congrArg (fun z_ : Int => sm_rl z_ (if p2 = p2 then 1 else S 82 p2) (if p2 = p2 then sm_lor (S 83 p2) (S 83 p1) else S 83 p2) (if p2 = p2 then sm_lor (S 84 p2) (S 84 p1) else S 84 p2) (S 85 p2) (S 86 p2)) (if_pos la_joinLabel_2)
        have e783_ : sm_rl 1 (if p2 = p2 then 1 else S 82 p2) (if p2 = p2 then sm_lor (S 83 p2) (S 83 p1) else S 83 p2) (if p2 = p2 then sm_lor (S 84 p2) (S 84 p1) else S 84 p2) (S 85 p2) (S 86 p2) = sm_rl 1 1 (if p2 = p2 then sm_lor (S 83 p2) (S 83 p1) else S 83 p2) (if p2 = p2 then sm_lor (S 84 p2) (S 84 p1) else S 84 p2) (S 85 p2) (S 86 p2) := congrArg (fun z_ : Int => sm_rl 1 z_ (if p2 = p2 then sm_lor (S 83 p2) (S 83 p1) else S 83 p2) (if p2 = p2 then sm_lor (S 84 p2) (S 84 p1) else S 84 p2) (S 85 p2) (S 86 p2)) (if_pos la_joinLabel_2)
        have e784_ : sm_rl 1 1 (if p2 = p2 then sm_lor (S 83 p2) (S 83 p1) else S 83 p2) (if p2 = p2 then sm_lor (S 84 p2) (S 84 p1) else S 84 p2) (S 85 p2) (S 86 p2) = sm_rl 1 1 (sm_lor (S 83 p2) (S 83 p1)) (if p2 = p2 then sm_lor (S 84 p2) (S 84 p1) else S 84 p2) (S 85 p2) (S 86 p2) := congrArg (fun z_ : Int => sm_rl 1 1 z_ (if p2 = p2 then sm_lor (S 84 p2) (S 84 p1) else S 84 p2) (S 85 p2) (S 86 p2)) (if_pos la_joinLabel_2)
        have e785_ : sm_rl 1 1 (sm_lor (S 83 p2) (S 83 p1)) (if p2 = p2 then sm_lor (S 84 p2) (S 84 p1) else S 84 p2) (S 85 p2) (S 86 p2) = sm_rl 1 1 (sm_lor (S 83 p2) (S 83 p1)) (sm_lor (S 84 p2) (S 84 p1)) (S 85 p2) (S 86 p2) := congrArg (fun z_ : Int => sm_rl 1 1 (sm_lor (S 83 p2) (S 83 p1)) z_ (S 85 p2) (S 86 p2)) (if_pos la_joinLabel_2)
        have e786_ : sm_rl (if p2 = p2 then 1 else S 81 p2) (if p2 = p2 then 1 else S 82 p2) (if p2 = p2 then sm_lor (S 83 p2) (S 83 p1) else S 83 p2) (if p2 = p2 then sm_lor (S 84 p2) (S 84 p1) else S 84 p2) (if p2 = p2 then sm_lor (S 85 p2) (S 85 p1) else S 85 p2) (sm_lor (S 86 p2) (S 86 p1)) = sm_rl 1 (if p2 = p2 then 1 else S 82 p2) (if p2 = p2 then sm_lor (S 83 p2) (S 83 p1) else S 83 p2) (if p2 = p2 then sm_lor (S 84 p2) (S 84 p1) else S 84 p2) (if p2 = p2 then sm_lor (S 85 p2) (S 85 p1) else S 85 p2) (sm_lor (S 86 p2) (S 86 p1)) := congrArg (fun z_ : Int => sm_rl z_ (if p2 = p2 then 1 else S 82 p2) (if p2 = p2 then sm_lor (S 83 p2) (S 83 p1) else S 83 p2) (if p2 = p2 then sm_lor (S 84 p2) (S 84 p1) else S 84 p2) (if p2 = p2 then sm_lor (S 85 p2) (S 85 p1) else S 85 p2) (sm_lor (S 86 p2) (S 86 p1))) (if_pos la_joinLabel_2)
        have e787_ : sm_rl 1 (if p2 = p2 then 1 else S 82 p2) (if p2 = p2 then sm_lor (S 83 p2) (S 83 p1) else S 83 p2) (if p2 = p2 then sm_lor (S 84 p2) (S 84 p1) else S 84 p2) (if p2 = p2 then sm_lor (S 85 p2) (S 85 p1) else S 85 p2) (sm_lor (S 86 p2) (S 86 p1)) = sm_rl 1 1 (if p2 = p2 then sm_lor (S 83 p2) (S 83 p1) else S 83 p2) (if p2 = p2 then sm_lor (S 84 p2) (S 84 p1) else S 84 p2) (if p2 = p2 then sm_lor (S 85 p2) (S 85 p1) else S 85 p2) (sm_lor (S 86 p2) (S 86 p1)) := congrArg (fun z_ : Int => sm_rl 1 z_ (if p2 = p2 then sm_lor (S 83 p2) (S 83 p1) else S 83 p2) (if p2 = p2 then sm_lor (S 84 p2) (S 84 p1) else S 84 p2) (if p2 = p2 then sm_lor (S 85 p2) (S 85 p1) else S 85 p2) (sm_lor (S 86 p2) (S 86 p1))) (if_pos la_joinLabel_2)
        have e788_ : sm_rl 1 1 (if p2 = p2 then sm_lor (S 83 p2) (S 83 p1) else S 83 p2) (if p2 = p2 then sm_lor (S 84 p2) (S 84 p1) else S 84 p2) (if p2 = p2 then sm_lor (S 85 p2) (S 85 p1) else S 85 p2) (sm_lor (S 86 p2) (S 86 p1)) = sm_rl 1 1 (sm_lor (S 83 p2) (S 83 p1)) (if p2 = p2 then sm_lor (S 84 p2) (S 84 p1) else S 84 p2) (if p2 = p2 then sm_lor (S 85 p2) (S 85 p1) else S 85 p2) (sm_lor (S 86 p2) (S 86 p1)) := congrArg (fun z_ : Int => sm_rl 1 1 z_ (if p2 = p2 then sm_lor (S 84 p2) (S 84 p1) else S 84 p2) (if p2 = p2 then sm_lor (S 85 p2) (S 85 p1) else S 85 p2) (sm_lor (S 86 p2) (S 86 p1))) (if_pos la_joinLabel_2)
        have e789_ : sm_rl 1 1 (sm_lor (S 83 p2) (S 83 p1)) (if p2 = p2 then sm_lor (S 84 p2) (S 84 p1) else S 84 p2) (if p2 = p2 then sm_lor (S 85 p2) (S 85 p1) else S 85 p2) (sm_lor (S 86 p2) (S 86 p1)) = sm_rl 1 1 (sm_lor (S 83 p2) (S 83 p1)) (sm_lor (S 84 p2) (S 84 p1)) (if p2 = p2 then sm_lor (S 85 p2) (S 85 p1) else S 85 p2) (sm_lor (S 86 p2) (S 86 p1)) := congrArg (fun z_ : Int => sm_rl 1 1 (sm_lor (S 83 p2) (S 83 p1)) z_ (if p2 = p2 then sm_lor (S 85 p2) (S 85 p1) else S 85 p2) (sm_lor (S 86 p2) (S 86 p1))) (if_pos la_joinLabel_2)
        have e790_ : sm_rl 1 1 (sm_lor (S 83 p2) (S 83 p1)) (sm_lor (S 84 p2) (S 84 p1)) (if p2 = p2 then sm_lor (S 85 p2) (S 85 p1) else S 85 p2) (sm_lor (S 86 p2) (S 86 p1)) = sm_rl 1 1 (sm_lor (S 83 p2) (S 83 p1)) (sm_lor (S 84 p2) (S 84 p1)) (sm_lor (S 85 p2) (S 85 p1)) (sm_lor (S 86 p2) (S 86 p1)) := congrArg (fun z_ : Int => sm_rl 1 1 (sm_lor (S 83 p2) (S 83 p1)) (sm_lor (S 84 p2) (S 84 p1)) z_ (sm_lor (S 86 p2) (S 86 p1))) (if_pos la_joinLabel_2)
        have e791_ : sm_rl (if p2 = p2 then 1 else S 81 p2) (if p2 = p2 then 1 else S 82 p2) (if p2 = p2 then sm_lor (S 83 p2) (S 83 p1) else S 83 p2) (if p2 = p2 then sm_lor (S 84 p2) (S 84 p1) else S 84 p2) (if p2 = p2 then sm_lor (S 85 p2) (S 85 p1) else S 85 p2) (S 86 p2) = sm_rl 1 (if p2 = p2 then 1 else S 82 p2) (if p2 = p2 then sm_lor (S 83 p2) (S 83 p1) else S 83 p2) (if p2 = p2 then sm_lor (S 84 p2) (S 84 p1) else S 84 p2) (if p2 = p2 then sm_lor (S 85 p2) (S 85 p1) else S 85 p2) (S 86 p2) := congrArg (fun z_ : Int => sm_rl z_ (if p2 = p2 then 1 else S 82 p2) (if p2 = p2 then sm_lor (S 83 p2) (S 83 p1) else S 83 p2) (if p2 = p2 then sm_lor (S 84 p2) (S 84 p1) else S 84 p2) (if p2 = p2 then sm_lor (S 85 p2) (S 85 p1) else S 85 p2) (S 86 p2)) (if_pos la_joinLabel_2)
        have e792_ : sm_rl 1 (if p2 = p2 then 1 else S 82 p2) (if p2 = p2 then sm_lor (S 83 p2) (S 83 p1) else S 83 p2) (if p2 = p2 then sm_lor (S 84 p2) (S 84 p1) else S 84 p2) (if p2 = p2 then sm_lor (S 85 p2) (S 85 p1) else S 85 p2) (S 86 p2) = sm_rl 1 1 (if p2 = p2 then sm_lor (S 83 p2) (S 83 p1) else S 83 p2) (if p2 = p2 then sm_lor (S 84 p2) (S 84 p1) else S 84 p2) (if p2 = p2 then sm_lor (S 85 p2) (S 85 p1) else S 85 p2) (S 86 p2) := congrArg (fun z_ : Int => sm_rl 1 z_ (if p2 = p2 then sm_lor (S 83 p2) (S 83 p1) else S 83 p2) (if p2 = p2 then sm_lor (S 84 p2) (S 84 p1) else S 84 p2) (if p2 = p2 then sm_lor (S 85 p2) (S 85 p1) else S 85 p2) (S 86 p2)) (if_pos la_joinLabel_2)
        have e793_ : sm_rl 1 1 (if p2 = p2 then sm_lor (S 83 p2) (S 83 p1) else S 83 p2) (if p2 = p2 then sm_lor (S 84 p2) (S 84 p1) else S 84 p2) (if p2 = p2 then sm_lor (S 85 p2) (S 85 p1) else S 85 p2) (S 86 p2) = sm_rl 1 1 (sm_lor (S 83 p2) (S 83 p1)) (if p2 = p2 then sm_lor (S 84 p2) (S 84 p1) else S 84 p2) (if p2 = p2 then sm_lor (S 85 p2) (S 85 p1) else S 85 p2) (S 86 p2) := congrArg (fun z_ : Int => sm_rl 1 1 z_ (if p2 = p2 then sm_lor (S 84 p2) (S 84 p1) else S 84 p2) (if p2 = p2 then sm_lor (S 85 p2) (S 85 p1) else S 85 p2) (S 86 p2)) (if_pos la_joinLabel_2)
        have e794_ : sm_rl 1 1 (sm_lor (S 83 p2) (S 83 p1)) (if p2 = p2 then sm_lor (S 84 p2) (S 84 p1) else S 84 p2) (if p2 = p2 then sm_lor (S 85 p2) (S 85 p1) else S 85 p2) (S 86 p2) = sm_rl 1 1 (sm_lor (S 83 p2) (S 83 p1)) (sm_lor (S 84 p2) (S 84 p1)) (if p2 = p2 then sm_lor (S 85 p2) (S 85 p1) else S 85 p2) (S 86 p2) := congrArg (fun z_ : Int => sm_rl 1 1 (sm_lor (S 83 p2) (S 83 p1)) z_ (if p2 = p2 then sm_lor (S 85 p2) (S 85 p1) else S 85 p2) (S 86 p2)) (if_pos la_joinLabel_2)
        have e795_ : sm_rl 1 1 (sm_lor (S 83 p2) (S 83 p1)) (sm_lor (S 84 p2) (S 84 p1)) (if p2 = p2 then sm_lor (S 85 p2) (S 85 p1) else S 85 p2) (S 86 p2) = sm_rl 1 1 (sm_lor (S 83 p2) (S 83 p1)) (sm_lor (S 84 p2) (S 84 p1)) (sm_lor (S 85 p2) (S 85 p1)) (S 86 p2) := congrArg (fun z_ : Int => sm_rl 1 1 (sm_lor (S 83 p2) (S 83 p1)) (sm_lor (S 84 p2) (S 84 p1)) z_ (S 86 p2)) (if_pos la_joinLabel_2)
        have e796_ : sm_rl (if p2 = p2 then 1 else S 81 p2) (if p2 = p2 then 1 else S 82 p2) (sm_lor (S 83 p2) (S 83 p1)) (sm_lor (S 84 p2) (S 84 p1)) (sm_lor (S 85 p2) (S 85 p1)) (sm_lor (S 86 p2) (S 86 p1)) = sm_rl 1 (if p2 = p2 then 1 else S 82 p2) (sm_lor (S 83 p2) (S 83 p1)) (sm_lor (S 84 p2) (S 84 p1)) (sm_lor (S 85 p2) (S 85 p1)) (sm_lor (S 86 p2) (S 86 p1)) := congrArg (fun z_ : Int => sm_rl z_ (if p2 = p2 then 1 else S 82 p2) (sm_lor (S 83 p2) (S 83 p1)) (sm_lor (S 84 p2) (S 84 p1)) (sm_lor (S 85 p2) (S 85 p1)) (sm_lor (S 86 p2) (S 86 p1))) (if_pos la_joinLabel_2)
        have e797_ : sm_rl 1 (if p2 = p2 then 1 else S 82 p2) (sm_lor (S 83 p2) (S 83 p1)) (sm_lor (S 84 p2) (S 84 p1)) (sm_lor (S 85 p2) (S 85 p1)) (sm_lor (S 86 p2) (S 86 p1)) = sm_rl 1 1 (sm_lor (S 83 p2) (S 83 p1)) (sm_lor (S 84 p2) (S 84 p1)) (sm_lor (S 85 p2) (S 85 p1)) (sm_lor (S 86 p2) (S 86 p1)) := congrArg (fun z_ : Int => sm_rl 1 z_ (sm_lor (S 83 p2) (S 83 p1)) (sm_lor (S 84 p2) (S 84 p1)) (sm_lor (S 85 p2) (S 85 p1)) (sm_lor (S 86 p2) (S 86 p1))) (if_pos la_joinLabel_2)
        have e798_ : (if p2 = p2 then sm_lor (S 84 p2) (S 84 p1) else S 84 p2 : Int) = sm_lor (S 84 p2) (S 84 p1) := if_pos la_joinLabel_2
        have e799_ : (if p2 = p2 then sm_lor (S 83 p2) (S 83 p1) else S 83 p2 : Int) = sm_lor (S 83 p2) (S 83 p1) := if_pos la_joinLabel_2
        have e800_ : (if p2 = p2 then sm_lor (S 85 p2) (S 85 p1) else S 85 p2 : Int) = sm_lor (S 85 p2) (S 85 p1) := if_pos la_joinLabel_2
        exact (la_joinLabel_12 h747_ e760_ e761_ e762_ e763_ e764_ e765_ e766_ e767_ e768_ e769_ e770_ e771_ e772_ e773_ e774_ e775_ e776_ e777_ e778_ e779_ e780_ e781_ e782_ e783_ e784_ e785_ e786_ e787_ e788_ e789_ e790_ e791_ e792_ e793_ e794_ e795_ e796_ e797_)
      refine ⟨(la_joinLabel_16 h12_), ?_⟩
      intro h801_
      have h802_ := (h12_.resolve_right (la_joinLabel_17 h801_))
      refine ⟨(la_joinLabel_0 h4_ h5_), ?_⟩
      intro h803_
      refine ⟨(la_joinLabel_0 h6_ h7_), ?_⟩
      intro h804_
      intro h805_
      intro h806_
      refine ⟨(la_joinLabel_18 h801_), ?_⟩
      intro h807_
      intro h808_
      intro h809_
      intro h810_
      intro h811_
      refine ⟨la_joinLabel_19, ?_⟩
      intro h812_
      refine ⟨la_joinLabel_20, ?_⟩
      intro h813_
      exact (la_joinLabel_21 h801_ h812_)
    refine ⟨(la_joinLabel_16 h9_), ?_⟩
    intro h814_
    have h815_ := (h9_.resolve_right (la_joinLabel_17 h814_))
    refine ⟨(la_joinLabel_0 h4_ h5_), ?_⟩
    intro h816_
    refine ⟨(la_joinLabel_0 h6_ h7_), ?_⟩
    intro h817_
    intro h818_
    intro h819_
    refine ⟨(la_joinLabel_18 h814_), ?_⟩
    intro h820_
    intro h821_
    intro h822_
    intro h823_
    intro h824_
    refine ⟨la_joinLabel_19, ?_⟩
    intro h825_
    refine ⟨la_joinLabel_20, ?_⟩
    intro h826_
    exact (la_joinLabel_21 h814_ h825_)
  refine ⟨(la_joinLabel_0 h4_ h5_), ?_⟩
  rintro ⟨h827_, h828_⟩
  refine ⟨?_, ?_⟩
  · skip
    intro h829_
    rintro ⟨h830_, h831_⟩
    refine ⟨la_joinLabel_22, ?_⟩
    intro h832_
    refine ⟨(la_joinLabel_0 h6_ h7_), ?_⟩
    rintro ⟨h833_, h834_⟩
    refine ⟨la_joinLabel_23, ?_⟩
    intro h835_
    refine ⟨la_joinLabel_20, ?_⟩
    intro h836_
    exact (la_joinLabel_24 h829_ h831_ (la_joinLabel_1 h830_ h832_) h833_ h835_)
  intro h837_
  refine ⟨(la_joinLabel_0 h6_ h7_), ?_⟩
  rintro ⟨h838_, h839_⟩
  refine ⟨(la_joinLabel_25 h828_ (la_joinLabel_1 h827_ h837_) h838_), ?_⟩
  intro h840_
  rintro ⟨h841_, h842_⟩
  refine ⟨la_joinLabel_22, ?_⟩
  intro h843_
  rintro ⟨h844_, h845_⟩
  refine ⟨la_joinLabel_23, ?_⟩
  intro h846_
  refine ⟨la_joinLabel_20, ?_⟩
  intro h847_
  exact (la_joinLabel_26 h828_ (la_joinLabel_1 h827_ h837_) (la_joinLabel_1 h838_ h840_) h842_ (la_joinLabel_1 h841_ h843_) h844_ h846_)
set_option maxRecDepth 8000 in
set_option maxHeartbeats 2000000 in
theorem t_joinLabel : ∀ (p1 : Int) (p2 : Int) (S : sv_S), sm_ok S → sv_R p1 → sv_R p2 → (0 ≤ p1 ∧ p1 < 15128 ∧ 0 ≤ p2 ∧ p2 < 15128) → sv_T sm_XS sm_cs sm_L sm_sh 0 (q_joinLabel p1 p2 S) 236 0 (lv_args 0 [.ref 0, sv_I p1, sv_I p2]) [] S := by
  intro p1 p2 S hok hp1 hp2 hpre
  have h := f_joinLabel p1 p2 S hok hp1 hp2 hpre
  have hM := sm_h236
  show sv_T sm_XS sm_cs sm_L sm_sh 0 (q_joinLabel p1 p2 S) 236 0 [(0, .ref 0), (1, sv_I p1), (2, sv_I p2)] [] S
  have J343 : ∀ s1 : Int, sv_R s1 → ((s1 = 0 ∨ s1 = 1) ∧ (s1 = 1 → ((S 81 p1) = 1 ∧ (S 81 p2) = 0) ∨ ((S 82 p1) = 1 ∧ (S 82 p2) = 0))) → sv_T sm_XS sm_cs sm_L sm_sh 0 (q_joinLabel p1 p2 S) 236 41 [(0, .ref 0), (1, sv_I p1), (2, sv_I p2)] [sv_I s1] S := by
    intro s1 hs1 hin2
    have h := h.1 s1 hs1 hin2
    refine sv_istore_n hM dX12_joinLabel_41 (by decide) rfl ?_
    show sv_T sm_XS sm_cs sm_L sm_sh 0 (q_joinLabel p1 p2 S) 236 42 [(0, .ref 0), (1, sv_I p1), (2, sv_I p2), (3, sv_I s1)] [] S
    have J328 : ∀ s3 : Int, sv_R s3 → ((s3 = 0 ∨ s3 = 1) ∧ (s3 = 1 → s1 = 1 ∨ ¬ sm_land (S 83 p1) (sm_lxor (S 83 p2) (-1)) = 0 ∨ ¬ sm_land (S 84 p1) (sm_lxor (S 84 p2) (-1)) = 0)) → sv_T sm_XS sm_cs sm_L sm_sh 0 (q_joinLabel p1 p2 S) 236 95 [(0, .ref 0), (1, sv_I p1), (2, sv_I p2), (3, sv_I s1)] [sv_I s3] S := by
      intro s3 hs3 hin4
      have h := h.1 s3 hs3 hin4
      refine sv_istore_n hM dX12_joinLabel_95 (by decide) rfl ?_
      show sv_T sm_XS sm_cs sm_L sm_sh 0 (q_joinLabel p1 p2 S) 236 96 [(0, .ref 0), (1, sv_I p1), (2, sv_I p2), (3, sv_I s3)] [] S
      have J313 : ∀ s5 : Int, sv_R s5 → ((s5 = 0 ∨ s5 = 1) ∧ (s5 = 1 → s3 = 1 ∨ ¬ sm_land (S 85 p1) (sm_lxor (S 85 p2) (-1)) = 0 ∨ ¬ sm_land (S 86 p1) (sm_lxor (S 86 p2) (-1)) = 0)) → sv_T sm_XS sm_cs sm_L sm_sh 0 (q_joinLabel p1 p2 S) 236 149 [(0, .ref 0), (1, sv_I p1), (2, sv_I p2), (3, sv_I s3)] [sv_I s5] S := by
        intro s5 hs5 hin6
        have h := h.1 s5 hs5 hin6
        refine sv_istore_n hM dX12_joinLabel_149 (by decide) rfl ?_
        show sv_T sm_XS sm_cs sm_L sm_sh 0 (q_joinLabel p1 p2 S) 236 150 [(0, .ref 0), (1, sv_I p1), (2, sv_I p2), (3, sv_I s5)] [] S
        refine sv_aload_n hM dX12_joinLabel_150 rfl rfl ?_
        refine sv_getA hM dX12_joinLabel_151 sm_fl_256 (sm_a0 _) sm_k133 rfl ?_
        refine sv_iload_n hM dX12_joinLabel_154 rfl rfl ?_
        refine sv_aload_n hM dX12_joinLabel_155 rfl rfl ?_
        refine sv_getA hM dX12_joinLabel_156 sm_fl_256 (sm_a0 _) sm_k133 rfl ?_
        refine sv_iload_n hM dX12_joinLabel_159 rfl rfl ?_
        obtain ⟨o7, h⟩ := h
        have k8 : (0 ≤ (S 81 p2) ∧ (S 81 p2) ≤ 1) := sm_okZ hok sm_r81 p2
        have h := h k8
        refine sv_zald hM dX12_joinLabel_160 (sm_a81 _) (by decide) o7.1 o7.2 rfl (x := (S 81 p2)) rfl ?_
        refine sv_cond_ne hM dX12_joinLabel_161 (sv_R01 k8) (t := 173) rfl rfl (fun hc => ?_) (fun hc => ?_)
        · have h := h.1 (hc)
          refine sv_iconst (d := (1 : Int)) hM dX12_joinLabel_173 rfl rfl ?_
          refine sv_goto hM dX12_joinLabel_174 (pc' := 178) rfl ?_
          refine sv_zast sm_X hM dX12_joinLabel_178 (sm_a81 _) (by decide) o7.1 o7.2 (sv_nnZ (⟨by decide, by decide⟩ : 0 ≤ (1 : Int) ∧ (1 : Int) ≤ 1)) rfl ?_
          have ok9 : sm_ok (sv_up S 81 p2 (1 : Int)) := sm_upZ hok sm_r81 (⟨by decide, by decide⟩ : 0 ≤ (1 : Int) ∧ (1 : Int) ≤ 1)
          have md10 : sv_mod [81, 82, 83, 84, 85, 86] S (sv_up S 81 p2 (1 : Int)) := sv_mod.up sv_mod.rf (by decide)
          refine sv_aload_n hM dX12_joinLabel_179 rfl rfl ?_
          refine sv_getA hM dX12_joinLabel_180 sm_fl_259 (sm_a0 _) sm_k134 rfl ?_
          refine sv_iload_n hM dX12_joinLabel_183 rfl rfl ?_
          refine sv_aload_n hM dX12_joinLabel_184 rfl rfl ?_
          refine sv_getA hM dX12_joinLabel_185 sm_fl_259 (sm_a0 _) sm_k134 rfl ?_
          refine sv_iload_n hM dX12_joinLabel_188 rfl rfl ?_
          have k11 : (0 ≤ (S 82 p2) ∧ (S 82 p2) ≤ 1) := sm_okZ ok9 sm_r82 p2
          have h := h k11
          refine sv_zald hM dX12_joinLabel_189 (sm_a82 _) (by decide) o7.1 o7.2 rfl (x := (S 82 p2)) rfl ?_
          refine sv_cond_ne hM dX12_joinLabel_190 (sv_R01 k11) (t := 202) rfl rfl (fun hc => ?_) (fun hc => ?_)
          · have h := h.1 (hc)
            refine sv_iconst (d := (1 : Int)) hM dX12_joinLabel_202 rfl rfl ?_
            refine sv_goto hM dX12_joinLabel_203 (pc' := 207) rfl ?_
            refine sv_zast sm_X hM dX12_joinLabel_207 (sm_a82 _) (by decide) o7.1 o7.2 (sv_nnZ (⟨by decide, by decide⟩ : 0 ≤ (1 : Int) ∧ (1 : Int) ≤ 1)) rfl ?_
            have ok12 : sm_ok (sv_up (sv_up S 81 p2 (1 : Int)) 82 p2 (1 : Int)) := sm_upZ ok9 sm_r82 (⟨by decide, by decide⟩ : 0 ≤ (1 : Int) ∧ (1 : Int) ≤ 1)
            have md13 : sv_mod [81, 82, 83, 84, 85, 86] S (sv_up (sv_up S 81 p2 (1 : Int)) 82 p2 (1 : Int)) := sv_mod.up md10 (by decide)
            refine sv_aload_n hM dX12_joinLabel_208 rfl rfl ?_
            refine sv_getA hM dX12_joinLabel_209 sm_fl_262 (sm_a0 _) sm_k135 rfl ?_
            refine sv_iload_n hM dX12_joinLabel_212 rfl rfl ?_
            refine sv_aload_n hM dX12_joinLabel_213 rfl rfl ?_
            refine sv_getA hM dX12_joinLabel_214 sm_fl_262 (sm_a0 _) sm_k135 rfl ?_
            refine sv_iload_n hM dX12_joinLabel_217 rfl rfl ?_
            have k14 : sv_RL (S 83 p2) := sm_okJ ok12 sm_r83 p2
            have h := h k14
            refine sv_lald hM dX12_joinLabel_218 (sm_a83 _) (by decide) o7.1 o7.2 rfl (x := (S 83 p2)) rfl ?_
            refine sv_aload_n hM dX12_joinLabel_219 rfl rfl ?_
            refine sv_getA hM dX12_joinLabel_220 sm_fl_262 (sm_a0 _) sm_k135 rfl ?_
            refine sv_iload_n hM dX12_joinLabel_223 rfl rfl ?_
            obtain ⟨o15, h⟩ := h
            have k16 : sv_RL (S 83 p1) := sm_okJ ok12 sm_r83 p1
            have h := h k16
            refine sv_lald hM dX12_joinLabel_224 (sm_a83 _) (by decide) o15.1 o15.2 rfl (x := (S 83 p1)) rfl ?_
            refine sv_anyL hM dX12_joinLabel_225 rfl rfl (fun r17 hr17 er17 => ?_)
            have er17v : (sm_lor (S 83 p2) (S 83 p1)) = r17 := er17
            have k18 : sv_RL (sm_lor (S 83 p2) (S 83 p1)) := er17v.symm ▸ hr17
            rw [← er17v]
            have h := h k18
            refine sv_last sm_X hM dX12_joinLabel_226 (sm_a83 _) (by decide) o7.1 o7.2 rfl ?_
            have ok19 : sm_ok (sv_up (sv_up (sv_up S 81 p2 (1 : Int)) 82 p2 (1 : Int)) 83 p2 (sm_lor (S 83 p2) (S 83 p1))) := sm_upJ ok12 sm_r83 k18
            have md20 : sv_mod [81, 82, 83, 84, 85, 86] S (sv_up (sv_up (sv_up S 81 p2 (1 : Int)) 82 p2 (1 : Int)) 83 p2 (sm_lor (S 83 p2) (S 83 p1))) := sv_mod.up md13 (by decide)
            refine sv_aload_n hM dX12_joinLabel_227 rfl rfl ?_
            refine sv_getA hM dX12_joinLabel_228 sm_fl_265 (sm_a0 _) sm_k136 rfl ?_
            refine sv_iload_n hM dX12_joinLabel_231 rfl rfl ?_
            refine sv_aload_n hM dX12_joinLabel_232 rfl rfl ?_
            refine sv_getA hM dX12_joinLabel_233 sm_fl_265 (sm_a0 _) sm_k136 rfl ?_
            refine sv_iload_n hM dX12_joinLabel_236 rfl rfl ?_
            have k21 : sv_RL (S 84 p2) := sm_okJ ok19 sm_r84 p2
            have h := h k21
            refine sv_lald hM dX12_joinLabel_237 (sm_a84 _) (by decide) o7.1 o7.2 rfl (x := (S 84 p2)) rfl ?_
            refine sv_aload_n hM dX12_joinLabel_238 rfl rfl ?_
            refine sv_getA hM dX12_joinLabel_239 sm_fl_265 (sm_a0 _) sm_k136 rfl ?_
            refine sv_iload_n hM dX12_joinLabel_242 rfl rfl ?_
            have k22 : sv_RL (S 84 p1) := sm_okJ ok19 sm_r84 p1
            have h := h k22
            refine sv_lald hM dX12_joinLabel_243 (sm_a84 _) (by decide) o15.1 o15.2 rfl (x := (S 84 p1)) rfl ?_
            refine sv_anyL hM dX12_joinLabel_244 rfl rfl (fun r23 hr23 er23 => ?_)
            have er23v : (sm_lor (S 84 p2) (S 84 p1)) = r23 := er23
            have k24 : sv_RL (sm_lor (S 84 p2) (S 84 p1)) := er23v.symm ▸ hr23
            rw [← er23v]
            have h := h k24
            refine sv_last sm_X hM dX12_joinLabel_245 (sm_a84 _) (by decide) o7.1 o7.2 rfl ?_
            have ok25 : sm_ok (sv_up (sv_up (sv_up (sv_up S 81 p2 (1 : Int)) 82 p2 (1 : Int)) 83 p2 (sm_lor (S 83 p2) (S 83 p1))) 84 p2 (sm_lor (S 84 p2) (S 84 p1))) := sm_upJ ok19 sm_r84 k24
            have md26 : sv_mod [81, 82, 83, 84, 85, 86] S (sv_up (sv_up (sv_up (sv_up S 81 p2 (1 : Int)) 82 p2 (1 : Int)) 83 p2 (sm_lor (S 83 p2) (S 83 p1))) 84 p2 (sm_lor (S 84 p2) (S 84 p1))) := sv_mod.up md20 (by decide)
            refine sv_aload_n hM dX12_joinLabel_246 rfl rfl ?_
            refine sv_getA hM dX12_joinLabel_247 sm_fl_268 (sm_a0 _) sm_k137 rfl ?_
            refine sv_iload_n hM dX12_joinLabel_250 rfl rfl ?_
            refine sv_aload_n hM dX12_joinLabel_251 rfl rfl ?_
            refine sv_getA hM dX12_joinLabel_252 sm_fl_268 (sm_a0 _) sm_k137 rfl ?_
            refine sv_iload_n hM dX12_joinLabel_255 rfl rfl ?_
            have k27 : sv_RL (S 85 p2) := sm_okJ ok25 sm_r85 p2
            have h := h k27
            refine sv_lald hM dX12_joinLabel_256 (sm_a85 _) (by decide) o7.1 o7.2 rfl (x := (S 85 p2)) rfl ?_
            refine sv_aload_n hM dX12_joinLabel_257 rfl rfl ?_
            refine sv_getA hM dX12_joinLabel_258 sm_fl_268 (sm_a0 _) sm_k137 rfl ?_
            refine sv_iload_n hM dX12_joinLabel_261 rfl rfl ?_
            have k28 : sv_RL (S 85 p1) := sm_okJ ok25 sm_r85 p1
            have h := h k28
            refine sv_lald hM dX12_joinLabel_262 (sm_a85 _) (by decide) o15.1 o15.2 rfl (x := (S 85 p1)) rfl ?_
            refine sv_anyL hM dX12_joinLabel_263 rfl rfl (fun r29 hr29 er29 => ?_)
            have er29v : (sm_lor (S 85 p2) (S 85 p1)) = r29 := er29
            have k30 : sv_RL (sm_lor (S 85 p2) (S 85 p1)) := er29v.symm ▸ hr29
            rw [← er29v]
            have h := h k30
            refine sv_last sm_X hM dX12_joinLabel_264 (sm_a85 _) (by decide) o7.1 o7.2 rfl ?_
            have ok31 : sm_ok (sv_up (sv_up (sv_up (sv_up (sv_up S 81 p2 (1 : Int)) 82 p2 (1 : Int)) 83 p2 (sm_lor (S 83 p2) (S 83 p1))) 84 p2 (sm_lor (S 84 p2) (S 84 p1))) 85 p2 (sm_lor (S 85 p2) (S 85 p1))) := sm_upJ ok25 sm_r85 k30
            have md32 : sv_mod [81, 82, 83, 84, 85, 86] S (sv_up (sv_up (sv_up (sv_up (sv_up S 81 p2 (1 : Int)) 82 p2 (1 : Int)) 83 p2 (sm_lor (S 83 p2) (S 83 p1))) 84 p2 (sm_lor (S 84 p2) (S 84 p1))) 85 p2 (sm_lor (S 85 p2) (S 85 p1))) := sv_mod.up md26 (by decide)
            refine sv_aload_n hM dX12_joinLabel_265 rfl rfl ?_
            refine sv_getA hM dX12_joinLabel_266 sm_fl_271 (sm_a0 _) sm_k138 rfl ?_
            refine sv_iload_n hM dX12_joinLabel_269 rfl rfl ?_
            refine sv_aload_n hM dX12_joinLabel_270 rfl rfl ?_
            refine sv_getA hM dX12_joinLabel_271 sm_fl_271 (sm_a0 _) sm_k138 rfl ?_
            refine sv_iload_n hM dX12_joinLabel_274 rfl rfl ?_
            have k33 : sv_RL (S 86 p2) := sm_okJ ok31 sm_r86 p2
            have h := h k33
            refine sv_lald hM dX12_joinLabel_275 (sm_a86 _) (by decide) o7.1 o7.2 rfl (x := (S 86 p2)) rfl ?_
            refine sv_aload_n hM dX12_joinLabel_276 rfl rfl ?_
            refine sv_getA hM dX12_joinLabel_277 sm_fl_271 (sm_a0 _) sm_k138 rfl ?_
            refine sv_iload_n hM dX12_joinLabel_280 rfl rfl ?_
            have k34 : sv_RL (S 86 p1) := sm_okJ ok31 sm_r86 p1
            have h := h k34
            refine sv_lald hM dX12_joinLabel_281 (sm_a86 _) (by decide) o15.1 o15.2 rfl (x := (S 86 p1)) rfl ?_
            refine sv_anyL hM dX12_joinLabel_282 rfl rfl (fun r35 hr35 er35 => ?_)
            have er35v : (sm_lor (S 86 p2) (S 86 p1)) = r35 := er35
            have k36 : sv_RL (sm_lor (S 86 p2) (S 86 p1)) := er35v.symm ▸ hr35
            rw [← er35v]
            have h := h k36
            refine sv_last sm_X hM dX12_joinLabel_283 (sm_a86 _) (by decide) o7.1 o7.2 rfl ?_
            have ok37 : sm_ok (sv_up (sv_up (sv_up (sv_up (sv_up (sv_up S 81 p2 (1 : Int)) 82 p2 (1 : Int)) 83 p2 (sm_lor (S 83 p2) (S 83 p1))) 84 p2 (sm_lor (S 84 p2) (S 84 p1))) 85 p2 (sm_lor (S 85 p2) (S 85 p1))) 86 p2 (sm_lor (S 86 p2) (S 86 p1))) := sm_upJ ok31 sm_r86 k36
            have md38 : sv_mod [81, 82, 83, 84, 85, 86] S (sv_up (sv_up (sv_up (sv_up (sv_up (sv_up S 81 p2 (1 : Int)) 82 p2 (1 : Int)) 83 p2 (sm_lor (S 83 p2) (S 83 p1))) 84 p2 (sm_lor (S 84 p2) (S 84 p1))) 85 p2 (sm_lor (S 85 p2) (S 85 p1))) 86 p2 (sm_lor (S 86 p2) (S 86 p1))) := sv_mod.up md32 (by decide)
            have k39 : (sv_RL (S 83 p2) → ¬ sm_land (S 83 p1) (sm_lxor (S 83 p2) (-1)) = 0 → ¬ sm_lor (S 83 p2) (S 83 p1) = (S 83 p2)) := fun a b => sm_lor_ne a rfl rfl b rfl
            have h := h k39
            have k40 : (sv_RL (S 84 p2) → ¬ sm_land (S 84 p1) (sm_lxor (S 84 p2) (-1)) = 0 → ¬ sm_lor (S 84 p2) (S 84 p1) = (S 84 p2)) := fun a b => sm_lor_ne a rfl rfl b rfl
            have h := h k40
            have k41 : (sv_RL (S 85 p2) → ¬ sm_land (S 85 p1) (sm_lxor (S 85 p2) (-1)) = 0 → ¬ sm_lor (S 85 p2) (S 85 p1) = (S 85 p2)) := fun a b => sm_lor_ne a rfl rfl b rfl
            have h := h k41
            have k42 : (sv_RL (S 86 p2) → ¬ sm_land (S 86 p1) (sm_lxor (S 86 p2) (-1)) = 0 → ¬ sm_lor (S 86 p2) (S 86 p1) = (S 86 p2)) := fun a b => sm_lor_ne a rfl rfl b rfl
            have h := h k42
            have k43 : ((S 81 p2) ≤ (if p2 = p2 then (1 : Int) else (S 81 p2)) → (S 82 p2) ≤ (if p2 = p2 then (1 : Int) else (S 82 p2)) → sv_RL (S 83 p2) → sv_RL (S 84 p2) → sv_RL (S 85 p2) → sv_RL (S 86 p2) → (s5 = 0 ∨ s5 = 1) → (s5 = 1 → (S 81 p2) < (if p2 = p2 then (1 : Int) else (S 81 p2)) ∨ (S 82 p2) < (if p2 = p2 then (1 : Int) else (S 82 p2)) ∨ ¬ sm_lor (S 83 p2) (S 83 p1) = (S 83 p2) ∨ ¬ sm_lor (S 84 p2) (S 84 p1) = (S 84 p2) ∨ ¬ sm_lor (S 85 p2) (S 85 p1) = (S 85 p2) ∨ ¬ sm_lor (S 86 p2) (S 86 p1) = (S 86 p2)) → sm_rl (S 81 p2) (S 82 p2) (S 83 p2) (S 84 p2) (S 85 p2) (S 86 p2) + s5 ≤ sm_rl (if p2 = p2 then (1 : Int) else (S 81 p2)) (if p2 = p2 then (1 : Int) else (S 82 p2)) (sm_lor (S 83 p2) (S 83 p1)) (sm_lor (S 84 p2) (S 84 p1)) (sm_lor (S 85 p2) (S 85 p1)) (sm_lor (S 86 p2) (S 86 p1))) := fun h1 h2 a b c d hr hq => sm_rl_join (na := 0) (nb := 0) (nc := 0) (nd := 0) (ea := 0) (eb := 0) (ec := 0) (ed := 0) h1 h2 a b c d rfl rfl rfl rfl hr hq
            have h := h k43
            refine sv_iload_n hM dX12_joinLabel_284 rfl rfl ?_
            obtain ⟨o44, h⟩ := h
            exact sv_iret hM dX12_joinLabel_285 rfl (sv_nz o44) ⟨s5, rfl, sv_R01 o44, ok37, md38, h⟩
          · have h := h.2 (hc)
            refine sv_aload_n hM dX12_joinLabel_193 rfl rfl ?_
            refine sv_getA hM dX12_joinLabel_194 sm_fl_259 (sm_a0 _) sm_k134 rfl ?_
            refine sv_iload_n hM dX12_joinLabel_197 rfl rfl ?_
            obtain ⟨o45, h⟩ := h
            have k46 : (0 ≤ (S 82 p1) ∧ (S 82 p1) ≤ 1) := sm_okZ ok9 sm_r82 p1
            have h := h k46
            refine sv_zald hM dX12_joinLabel_198 (sm_a82 _) (by decide) o45.1 o45.2 rfl (x := (S 82 p1)) rfl ?_
            refine sv_cond_eq hM dX12_joinLabel_199 (sv_R01 k46) (t := 206) rfl rfl (fun hc => ?_) (fun hc => ?_)
            · have h := h.1 (hc)
              refine sv_iconst (d := (0 : Int)) hM dX12_joinLabel_206 rfl rfl ?_
              refine sv_zast sm_X hM dX12_joinLabel_207 (sm_a82 _) (by decide) o7.1 o7.2 (sv_nnZ (⟨by decide, by decide⟩ : 0 ≤ (0 : Int) ∧ (0 : Int) ≤ 1)) rfl ?_
              have ok47 : sm_ok (sv_up (sv_up S 81 p2 (1 : Int)) 82 p2 (0 : Int)) := sm_upZ ok9 sm_r82 (⟨by decide, by decide⟩ : 0 ≤ (0 : Int) ∧ (0 : Int) ≤ 1)
              have md48 : sv_mod [81, 82, 83, 84, 85, 86] S (sv_up (sv_up S 81 p2 (1 : Int)) 82 p2 (0 : Int)) := sv_mod.up md10 (by decide)
              refine sv_aload_n hM dX12_joinLabel_208 rfl rfl ?_
              refine sv_getA hM dX12_joinLabel_209 sm_fl_262 (sm_a0 _) sm_k135 rfl ?_
              refine sv_iload_n hM dX12_joinLabel_212 rfl rfl ?_
              refine sv_aload_n hM dX12_joinLabel_213 rfl rfl ?_
              refine sv_getA hM dX12_joinLabel_214 sm_fl_262 (sm_a0 _) sm_k135 rfl ?_
              refine sv_iload_n hM dX12_joinLabel_217 rfl rfl ?_
              have k49 : sv_RL (S 83 p2) := sm_okJ ok47 sm_r83 p2
              have h := h k49
              refine sv_lald hM dX12_joinLabel_218 (sm_a83 _) (by decide) o7.1 o7.2 rfl (x := (S 83 p2)) rfl ?_
              refine sv_aload_n hM dX12_joinLabel_219 rfl rfl ?_
              refine sv_getA hM dX12_joinLabel_220 sm_fl_262 (sm_a0 _) sm_k135 rfl ?_
              refine sv_iload_n hM dX12_joinLabel_223 rfl rfl ?_
              have k50 : sv_RL (S 83 p1) := sm_okJ ok47 sm_r83 p1
              have h := h k50
              refine sv_lald hM dX12_joinLabel_224 (sm_a83 _) (by decide) o45.1 o45.2 rfl (x := (S 83 p1)) rfl ?_
              refine sv_anyL hM dX12_joinLabel_225 rfl rfl (fun r51 hr51 er51 => ?_)
              have er51v : (sm_lor (S 83 p2) (S 83 p1)) = r51 := er51
              have k52 : sv_RL (sm_lor (S 83 p2) (S 83 p1)) := er51v.symm ▸ hr51
              rw [← er51v]
              have h := h k52
              refine sv_last sm_X hM dX12_joinLabel_226 (sm_a83 _) (by decide) o7.1 o7.2 rfl ?_
              have ok53 : sm_ok (sv_up (sv_up (sv_up S 81 p2 (1 : Int)) 82 p2 (0 : Int)) 83 p2 (sm_lor (S 83 p2) (S 83 p1))) := sm_upJ ok47 sm_r83 k52
              have md54 : sv_mod [81, 82, 83, 84, 85, 86] S (sv_up (sv_up (sv_up S 81 p2 (1 : Int)) 82 p2 (0 : Int)) 83 p2 (sm_lor (S 83 p2) (S 83 p1))) := sv_mod.up md48 (by decide)
              refine sv_aload_n hM dX12_joinLabel_227 rfl rfl ?_
              refine sv_getA hM dX12_joinLabel_228 sm_fl_265 (sm_a0 _) sm_k136 rfl ?_
              refine sv_iload_n hM dX12_joinLabel_231 rfl rfl ?_
              refine sv_aload_n hM dX12_joinLabel_232 rfl rfl ?_
              refine sv_getA hM dX12_joinLabel_233 sm_fl_265 (sm_a0 _) sm_k136 rfl ?_
              refine sv_iload_n hM dX12_joinLabel_236 rfl rfl ?_
              have k55 : sv_RL (S 84 p2) := sm_okJ ok53 sm_r84 p2
              have h := h k55
              refine sv_lald hM dX12_joinLabel_237 (sm_a84 _) (by decide) o7.1 o7.2 rfl (x := (S 84 p2)) rfl ?_
              refine sv_aload_n hM dX12_joinLabel_238 rfl rfl ?_
              refine sv_getA hM dX12_joinLabel_239 sm_fl_265 (sm_a0 _) sm_k136 rfl ?_
              refine sv_iload_n hM dX12_joinLabel_242 rfl rfl ?_
              have k56 : sv_RL (S 84 p1) := sm_okJ ok53 sm_r84 p1
              have h := h k56
              refine sv_lald hM dX12_joinLabel_243 (sm_a84 _) (by decide) o45.1 o45.2 rfl (x := (S 84 p1)) rfl ?_
              refine sv_anyL hM dX12_joinLabel_244 rfl rfl (fun r57 hr57 er57 => ?_)
              have er57v : (sm_lor (S 84 p2) (S 84 p1)) = r57 := er57
              have k58 : sv_RL (sm_lor (S 84 p2) (S 84 p1)) := er57v.symm ▸ hr57
              rw [← er57v]
              have h := h k58
              refine sv_last sm_X hM dX12_joinLabel_245 (sm_a84 _) (by decide) o7.1 o7.2 rfl ?_
              have ok59 : sm_ok (sv_up (sv_up (sv_up (sv_up S 81 p2 (1 : Int)) 82 p2 (0 : Int)) 83 p2 (sm_lor (S 83 p2) (S 83 p1))) 84 p2 (sm_lor (S 84 p2) (S 84 p1))) := sm_upJ ok53 sm_r84 k58
              have md60 : sv_mod [81, 82, 83, 84, 85, 86] S (sv_up (sv_up (sv_up (sv_up S 81 p2 (1 : Int)) 82 p2 (0 : Int)) 83 p2 (sm_lor (S 83 p2) (S 83 p1))) 84 p2 (sm_lor (S 84 p2) (S 84 p1))) := sv_mod.up md54 (by decide)
              refine sv_aload_n hM dX12_joinLabel_246 rfl rfl ?_
              refine sv_getA hM dX12_joinLabel_247 sm_fl_268 (sm_a0 _) sm_k137 rfl ?_
              refine sv_iload_n hM dX12_joinLabel_250 rfl rfl ?_
              refine sv_aload_n hM dX12_joinLabel_251 rfl rfl ?_
              refine sv_getA hM dX12_joinLabel_252 sm_fl_268 (sm_a0 _) sm_k137 rfl ?_
              refine sv_iload_n hM dX12_joinLabel_255 rfl rfl ?_
              have k61 : sv_RL (S 85 p2) := sm_okJ ok59 sm_r85 p2
              have h := h k61
              refine sv_lald hM dX12_joinLabel_256 (sm_a85 _) (by decide) o7.1 o7.2 rfl (x := (S 85 p2)) rfl ?_
              refine sv_aload_n hM dX12_joinLabel_257 rfl rfl ?_
              refine sv_getA hM dX12_joinLabel_258 sm_fl_268 (sm_a0 _) sm_k137 rfl ?_
              refine sv_iload_n hM dX12_joinLabel_261 rfl rfl ?_
              have k62 : sv_RL (S 85 p1) := sm_okJ ok59 sm_r85 p1
              have h := h k62
              refine sv_lald hM dX12_joinLabel_262 (sm_a85 _) (by decide) o45.1 o45.2 rfl (x := (S 85 p1)) rfl ?_
              refine sv_anyL hM dX12_joinLabel_263 rfl rfl (fun r63 hr63 er63 => ?_)
              have er63v : (sm_lor (S 85 p2) (S 85 p1)) = r63 := er63
              have k64 : sv_RL (sm_lor (S 85 p2) (S 85 p1)) := er63v.symm ▸ hr63
              rw [← er63v]
              have h := h k64
              refine sv_last sm_X hM dX12_joinLabel_264 (sm_a85 _) (by decide) o7.1 o7.2 rfl ?_
              have ok65 : sm_ok (sv_up (sv_up (sv_up (sv_up (sv_up S 81 p2 (1 : Int)) 82 p2 (0 : Int)) 83 p2 (sm_lor (S 83 p2) (S 83 p1))) 84 p2 (sm_lor (S 84 p2) (S 84 p1))) 85 p2 (sm_lor (S 85 p2) (S 85 p1))) := sm_upJ ok59 sm_r85 k64
              have md66 : sv_mod [81, 82, 83, 84, 85, 86] S (sv_up (sv_up (sv_up (sv_up (sv_up S 81 p2 (1 : Int)) 82 p2 (0 : Int)) 83 p2 (sm_lor (S 83 p2) (S 83 p1))) 84 p2 (sm_lor (S 84 p2) (S 84 p1))) 85 p2 (sm_lor (S 85 p2) (S 85 p1))) := sv_mod.up md60 (by decide)
              refine sv_aload_n hM dX12_joinLabel_265 rfl rfl ?_
              refine sv_getA hM dX12_joinLabel_266 sm_fl_271 (sm_a0 _) sm_k138 rfl ?_
              refine sv_iload_n hM dX12_joinLabel_269 rfl rfl ?_
              refine sv_aload_n hM dX12_joinLabel_270 rfl rfl ?_
              refine sv_getA hM dX12_joinLabel_271 sm_fl_271 (sm_a0 _) sm_k138 rfl ?_
              refine sv_iload_n hM dX12_joinLabel_274 rfl rfl ?_
              have k67 : sv_RL (S 86 p2) := sm_okJ ok65 sm_r86 p2
              have h := h k67
              refine sv_lald hM dX12_joinLabel_275 (sm_a86 _) (by decide) o7.1 o7.2 rfl (x := (S 86 p2)) rfl ?_
              refine sv_aload_n hM dX12_joinLabel_276 rfl rfl ?_
              refine sv_getA hM dX12_joinLabel_277 sm_fl_271 (sm_a0 _) sm_k138 rfl ?_
              refine sv_iload_n hM dX12_joinLabel_280 rfl rfl ?_
              have k68 : sv_RL (S 86 p1) := sm_okJ ok65 sm_r86 p1
              have h := h k68
              refine sv_lald hM dX12_joinLabel_281 (sm_a86 _) (by decide) o45.1 o45.2 rfl (x := (S 86 p1)) rfl ?_
              refine sv_anyL hM dX12_joinLabel_282 rfl rfl (fun r69 hr69 er69 => ?_)
              have er69v : (sm_lor (S 86 p2) (S 86 p1)) = r69 := er69
              have k70 : sv_RL (sm_lor (S 86 p2) (S 86 p1)) := er69v.symm ▸ hr69
              rw [← er69v]
              have h := h k70
              refine sv_last sm_X hM dX12_joinLabel_283 (sm_a86 _) (by decide) o7.1 o7.2 rfl ?_
              have ok71 : sm_ok (sv_up (sv_up (sv_up (sv_up (sv_up (sv_up S 81 p2 (1 : Int)) 82 p2 (0 : Int)) 83 p2 (sm_lor (S 83 p2) (S 83 p1))) 84 p2 (sm_lor (S 84 p2) (S 84 p1))) 85 p2 (sm_lor (S 85 p2) (S 85 p1))) 86 p2 (sm_lor (S 86 p2) (S 86 p1))) := sm_upJ ok65 sm_r86 k70
              have md72 : sv_mod [81, 82, 83, 84, 85, 86] S (sv_up (sv_up (sv_up (sv_up (sv_up (sv_up S 81 p2 (1 : Int)) 82 p2 (0 : Int)) 83 p2 (sm_lor (S 83 p2) (S 83 p1))) 84 p2 (sm_lor (S 84 p2) (S 84 p1))) 85 p2 (sm_lor (S 85 p2) (S 85 p1))) 86 p2 (sm_lor (S 86 p2) (S 86 p1))) := sv_mod.up md66 (by decide)
              have k73 : (sv_RL (S 83 p2) → ¬ sm_land (S 83 p1) (sm_lxor (S 83 p2) (-1)) = 0 → ¬ sm_lor (S 83 p2) (S 83 p1) = (S 83 p2)) := fun a b => sm_lor_ne a rfl rfl b rfl
              have h := h k73
              have k74 : (sv_RL (S 84 p2) → ¬ sm_land (S 84 p1) (sm_lxor (S 84 p2) (-1)) = 0 → ¬ sm_lor (S 84 p2) (S 84 p1) = (S 84 p2)) := fun a b => sm_lor_ne a rfl rfl b rfl
              have h := h k74
              have k75 : (sv_RL (S 85 p2) → ¬ sm_land (S 85 p1) (sm_lxor (S 85 p2) (-1)) = 0 → ¬ sm_lor (S 85 p2) (S 85 p1) = (S 85 p2)) := fun a b => sm_lor_ne a rfl rfl b rfl
              have h := h k75
              have k76 : (sv_RL (S 86 p2) → ¬ sm_land (S 86 p1) (sm_lxor (S 86 p2) (-1)) = 0 → ¬ sm_lor (S 86 p2) (S 86 p1) = (S 86 p2)) := fun a b => sm_lor_ne a rfl rfl b rfl
              have h := h k76
              have k77 : ((S 81 p2) ≤ (if p2 = p2 then (1 : Int) else (S 81 p2)) → (S 82 p2) ≤ (if p2 = p2 then (0 : Int) else (S 82 p2)) → sv_RL (S 83 p2) → sv_RL (S 84 p2) → sv_RL (S 85 p2) → sv_RL (S 86 p2) → (s5 = 0 ∨ s5 = 1) → (s5 = 1 → (S 81 p2) < (if p2 = p2 then (1 : Int) else (S 81 p2)) ∨ (S 82 p2) < (if p2 = p2 then (0 : Int) else (S 82 p2)) ∨ ¬ sm_lor (S 83 p2) (S 83 p1) = (S 83 p2) ∨ ¬ sm_lor (S 84 p2) (S 84 p1) = (S 84 p2) ∨ ¬ sm_lor (S 85 p2) (S 85 p1) = (S 85 p2) ∨ ¬ sm_lor (S 86 p2) (S 86 p1) = (S 86 p2)) → sm_rl (S 81 p2) (S 82 p2) (S 83 p2) (S 84 p2) (S 85 p2) (S 86 p2) + s5 ≤ sm_rl (if p2 = p2 then (1 : Int) else (S 81 p2)) (if p2 = p2 then (0 : Int) else (S 82 p2)) (sm_lor (S 83 p2) (S 83 p1)) (sm_lor (S 84 p2) (S 84 p1)) (sm_lor (S 85 p2) (S 85 p1)) (sm_lor (S 86 p2) (S 86 p1))) := fun h1 h2 a b c d hr hq => sm_rl_join (na := 0) (nb := 0) (nc := 0) (nd := 0) (ea := 0) (eb := 0) (ec := 0) (ed := 0) h1 h2 a b c d rfl rfl rfl rfl hr hq
              have h := h k77
              refine sv_iload_n hM dX12_joinLabel_284 rfl rfl ?_
              obtain ⟨o78, h⟩ := h
              exact sv_iret hM dX12_joinLabel_285 rfl (sv_nz o78) ⟨s5, rfl, sv_R01 o78, ok71, md72, h⟩
            · have h := h.2 (hc)
              refine sv_iconst (d := (1 : Int)) hM dX12_joinLabel_202 rfl rfl ?_
              refine sv_goto hM dX12_joinLabel_203 (pc' := 207) rfl ?_
              refine sv_zast sm_X hM dX12_joinLabel_207 (sm_a82 _) (by decide) o7.1 o7.2 (sv_nnZ (⟨by decide, by decide⟩ : 0 ≤ (1 : Int) ∧ (1 : Int) ≤ 1)) rfl ?_
              have ok79 : sm_ok (sv_up (sv_up S 81 p2 (1 : Int)) 82 p2 (1 : Int)) := sm_upZ ok9 sm_r82 (⟨by decide, by decide⟩ : 0 ≤ (1 : Int) ∧ (1 : Int) ≤ 1)
              have md80 : sv_mod [81, 82, 83, 84, 85, 86] S (sv_up (sv_up S 81 p2 (1 : Int)) 82 p2 (1 : Int)) := sv_mod.up md10 (by decide)
              refine sv_aload_n hM dX12_joinLabel_208 rfl rfl ?_
              refine sv_getA hM dX12_joinLabel_209 sm_fl_262 (sm_a0 _) sm_k135 rfl ?_
              refine sv_iload_n hM dX12_joinLabel_212 rfl rfl ?_
              refine sv_aload_n hM dX12_joinLabel_213 rfl rfl ?_
              refine sv_getA hM dX12_joinLabel_214 sm_fl_262 (sm_a0 _) sm_k135 rfl ?_
              refine sv_iload_n hM dX12_joinLabel_217 rfl rfl ?_
              have k81 : sv_RL (S 83 p2) := sm_okJ ok79 sm_r83 p2
              have h := h k81
              refine sv_lald hM dX12_joinLabel_218 (sm_a83 _) (by decide) o7.1 o7.2 rfl (x := (S 83 p2)) rfl ?_
              refine sv_aload_n hM dX12_joinLabel_219 rfl rfl ?_
              refine sv_getA hM dX12_joinLabel_220 sm_fl_262 (sm_a0 _) sm_k135 rfl ?_
              refine sv_iload_n hM dX12_joinLabel_223 rfl rfl ?_
              have k82 : sv_RL (S 83 p1) := sm_okJ ok79 sm_r83 p1
              have h := h k82
              refine sv_lald hM dX12_joinLabel_224 (sm_a83 _) (by decide) o45.1 o45.2 rfl (x := (S 83 p1)) rfl ?_
              refine sv_anyL hM dX12_joinLabel_225 rfl rfl (fun r83 hr83 er83 => ?_)
              have er83v : (sm_lor (S 83 p2) (S 83 p1)) = r83 := er83
              have k84 : sv_RL (sm_lor (S 83 p2) (S 83 p1)) := er83v.symm ▸ hr83
              rw [← er83v]
              have h := h k84
              refine sv_last sm_X hM dX12_joinLabel_226 (sm_a83 _) (by decide) o7.1 o7.2 rfl ?_
              have ok85 : sm_ok (sv_up (sv_up (sv_up S 81 p2 (1 : Int)) 82 p2 (1 : Int)) 83 p2 (sm_lor (S 83 p2) (S 83 p1))) := sm_upJ ok79 sm_r83 k84
              have md86 : sv_mod [81, 82, 83, 84, 85, 86] S (sv_up (sv_up (sv_up S 81 p2 (1 : Int)) 82 p2 (1 : Int)) 83 p2 (sm_lor (S 83 p2) (S 83 p1))) := sv_mod.up md80 (by decide)
              refine sv_aload_n hM dX12_joinLabel_227 rfl rfl ?_
              refine sv_getA hM dX12_joinLabel_228 sm_fl_265 (sm_a0 _) sm_k136 rfl ?_
              refine sv_iload_n hM dX12_joinLabel_231 rfl rfl ?_
              refine sv_aload_n hM dX12_joinLabel_232 rfl rfl ?_
              refine sv_getA hM dX12_joinLabel_233 sm_fl_265 (sm_a0 _) sm_k136 rfl ?_
              refine sv_iload_n hM dX12_joinLabel_236 rfl rfl ?_
              have k87 : sv_RL (S 84 p2) := sm_okJ ok85 sm_r84 p2
              have h := h k87
              refine sv_lald hM dX12_joinLabel_237 (sm_a84 _) (by decide) o7.1 o7.2 rfl (x := (S 84 p2)) rfl ?_
              refine sv_aload_n hM dX12_joinLabel_238 rfl rfl ?_
              refine sv_getA hM dX12_joinLabel_239 sm_fl_265 (sm_a0 _) sm_k136 rfl ?_
              refine sv_iload_n hM dX12_joinLabel_242 rfl rfl ?_
              have k88 : sv_RL (S 84 p1) := sm_okJ ok85 sm_r84 p1
              have h := h k88
              refine sv_lald hM dX12_joinLabel_243 (sm_a84 _) (by decide) o45.1 o45.2 rfl (x := (S 84 p1)) rfl ?_
              refine sv_anyL hM dX12_joinLabel_244 rfl rfl (fun r89 hr89 er89 => ?_)
              have er89v : (sm_lor (S 84 p2) (S 84 p1)) = r89 := er89
              have k90 : sv_RL (sm_lor (S 84 p2) (S 84 p1)) := er89v.symm ▸ hr89
              rw [← er89v]
              have h := h k90
              refine sv_last sm_X hM dX12_joinLabel_245 (sm_a84 _) (by decide) o7.1 o7.2 rfl ?_
              have ok91 : sm_ok (sv_up (sv_up (sv_up (sv_up S 81 p2 (1 : Int)) 82 p2 (1 : Int)) 83 p2 (sm_lor (S 83 p2) (S 83 p1))) 84 p2 (sm_lor (S 84 p2) (S 84 p1))) := sm_upJ ok85 sm_r84 k90
              have md92 : sv_mod [81, 82, 83, 84, 85, 86] S (sv_up (sv_up (sv_up (sv_up S 81 p2 (1 : Int)) 82 p2 (1 : Int)) 83 p2 (sm_lor (S 83 p2) (S 83 p1))) 84 p2 (sm_lor (S 84 p2) (S 84 p1))) := sv_mod.up md86 (by decide)
              refine sv_aload_n hM dX12_joinLabel_246 rfl rfl ?_
              refine sv_getA hM dX12_joinLabel_247 sm_fl_268 (sm_a0 _) sm_k137 rfl ?_
              refine sv_iload_n hM dX12_joinLabel_250 rfl rfl ?_
              refine sv_aload_n hM dX12_joinLabel_251 rfl rfl ?_
              refine sv_getA hM dX12_joinLabel_252 sm_fl_268 (sm_a0 _) sm_k137 rfl ?_
              refine sv_iload_n hM dX12_joinLabel_255 rfl rfl ?_
              have k93 : sv_RL (S 85 p2) := sm_okJ ok91 sm_r85 p2
              have h := h k93
              refine sv_lald hM dX12_joinLabel_256 (sm_a85 _) (by decide) o7.1 o7.2 rfl (x := (S 85 p2)) rfl ?_
              refine sv_aload_n hM dX12_joinLabel_257 rfl rfl ?_
              refine sv_getA hM dX12_joinLabel_258 sm_fl_268 (sm_a0 _) sm_k137 rfl ?_
              refine sv_iload_n hM dX12_joinLabel_261 rfl rfl ?_
              have k94 : sv_RL (S 85 p1) := sm_okJ ok91 sm_r85 p1
              have h := h k94
              refine sv_lald hM dX12_joinLabel_262 (sm_a85 _) (by decide) o45.1 o45.2 rfl (x := (S 85 p1)) rfl ?_
              refine sv_anyL hM dX12_joinLabel_263 rfl rfl (fun r95 hr95 er95 => ?_)
              have er95v : (sm_lor (S 85 p2) (S 85 p1)) = r95 := er95
              have k96 : sv_RL (sm_lor (S 85 p2) (S 85 p1)) := er95v.symm ▸ hr95
              rw [← er95v]
              have h := h k96
              refine sv_last sm_X hM dX12_joinLabel_264 (sm_a85 _) (by decide) o7.1 o7.2 rfl ?_
              have ok97 : sm_ok (sv_up (sv_up (sv_up (sv_up (sv_up S 81 p2 (1 : Int)) 82 p2 (1 : Int)) 83 p2 (sm_lor (S 83 p2) (S 83 p1))) 84 p2 (sm_lor (S 84 p2) (S 84 p1))) 85 p2 (sm_lor (S 85 p2) (S 85 p1))) := sm_upJ ok91 sm_r85 k96
              have md98 : sv_mod [81, 82, 83, 84, 85, 86] S (sv_up (sv_up (sv_up (sv_up (sv_up S 81 p2 (1 : Int)) 82 p2 (1 : Int)) 83 p2 (sm_lor (S 83 p2) (S 83 p1))) 84 p2 (sm_lor (S 84 p2) (S 84 p1))) 85 p2 (sm_lor (S 85 p2) (S 85 p1))) := sv_mod.up md92 (by decide)
              refine sv_aload_n hM dX12_joinLabel_265 rfl rfl ?_
              refine sv_getA hM dX12_joinLabel_266 sm_fl_271 (sm_a0 _) sm_k138 rfl ?_
              refine sv_iload_n hM dX12_joinLabel_269 rfl rfl ?_
              refine sv_aload_n hM dX12_joinLabel_270 rfl rfl ?_
              refine sv_getA hM dX12_joinLabel_271 sm_fl_271 (sm_a0 _) sm_k138 rfl ?_
              refine sv_iload_n hM dX12_joinLabel_274 rfl rfl ?_
              have k99 : sv_RL (S 86 p2) := sm_okJ ok97 sm_r86 p2
              have h := h k99
              refine sv_lald hM dX12_joinLabel_275 (sm_a86 _) (by decide) o7.1 o7.2 rfl (x := (S 86 p2)) rfl ?_
              refine sv_aload_n hM dX12_joinLabel_276 rfl rfl ?_
              refine sv_getA hM dX12_joinLabel_277 sm_fl_271 (sm_a0 _) sm_k138 rfl ?_
              refine sv_iload_n hM dX12_joinLabel_280 rfl rfl ?_
              have k100 : sv_RL (S 86 p1) := sm_okJ ok97 sm_r86 p1
              have h := h k100
              refine sv_lald hM dX12_joinLabel_281 (sm_a86 _) (by decide) o45.1 o45.2 rfl (x := (S 86 p1)) rfl ?_
              refine sv_anyL hM dX12_joinLabel_282 rfl rfl (fun r101 hr101 er101 => ?_)
              have er101v : (sm_lor (S 86 p2) (S 86 p1)) = r101 := er101
              have k102 : sv_RL (sm_lor (S 86 p2) (S 86 p1)) := er101v.symm ▸ hr101
              rw [← er101v]
              have h := h k102
              refine sv_last sm_X hM dX12_joinLabel_283 (sm_a86 _) (by decide) o7.1 o7.2 rfl ?_
              have ok103 : sm_ok (sv_up (sv_up (sv_up (sv_up (sv_up (sv_up S 81 p2 (1 : Int)) 82 p2 (1 : Int)) 83 p2 (sm_lor (S 83 p2) (S 83 p1))) 84 p2 (sm_lor (S 84 p2) (S 84 p1))) 85 p2 (sm_lor (S 85 p2) (S 85 p1))) 86 p2 (sm_lor (S 86 p2) (S 86 p1))) := sm_upJ ok97 sm_r86 k102
              have md104 : sv_mod [81, 82, 83, 84, 85, 86] S (sv_up (sv_up (sv_up (sv_up (sv_up (sv_up S 81 p2 (1 : Int)) 82 p2 (1 : Int)) 83 p2 (sm_lor (S 83 p2) (S 83 p1))) 84 p2 (sm_lor (S 84 p2) (S 84 p1))) 85 p2 (sm_lor (S 85 p2) (S 85 p1))) 86 p2 (sm_lor (S 86 p2) (S 86 p1))) := sv_mod.up md98 (by decide)
              have k105 : (sv_RL (S 83 p2) → ¬ sm_land (S 83 p1) (sm_lxor (S 83 p2) (-1)) = 0 → ¬ sm_lor (S 83 p2) (S 83 p1) = (S 83 p2)) := fun a b => sm_lor_ne a rfl rfl b rfl
              have h := h k105
              have k106 : (sv_RL (S 84 p2) → ¬ sm_land (S 84 p1) (sm_lxor (S 84 p2) (-1)) = 0 → ¬ sm_lor (S 84 p2) (S 84 p1) = (S 84 p2)) := fun a b => sm_lor_ne a rfl rfl b rfl
              have h := h k106
              have k107 : (sv_RL (S 85 p2) → ¬ sm_land (S 85 p1) (sm_lxor (S 85 p2) (-1)) = 0 → ¬ sm_lor (S 85 p2) (S 85 p1) = (S 85 p2)) := fun a b => sm_lor_ne a rfl rfl b rfl
              have h := h k107
              have k108 : (sv_RL (S 86 p2) → ¬ sm_land (S 86 p1) (sm_lxor (S 86 p2) (-1)) = 0 → ¬ sm_lor (S 86 p2) (S 86 p1) = (S 86 p2)) := fun a b => sm_lor_ne a rfl rfl b rfl
              have h := h k108
              have k109 : ((S 81 p2) ≤ (if p2 = p2 then (1 : Int) else (S 81 p2)) → (S 82 p2) ≤ (if p2 = p2 then (1 : Int) else (S 82 p2)) → sv_RL (S 83 p2) → sv_RL (S 84 p2) → sv_RL (S 85 p2) → sv_RL (S 86 p2) → (s5 = 0 ∨ s5 = 1) → (s5 = 1 → (S 81 p2) < (if p2 = p2 then (1 : Int) else (S 81 p2)) ∨ (S 82 p2) < (if p2 = p2 then (1 : Int) else (S 82 p2)) ∨ ¬ sm_lor (S 83 p2) (S 83 p1) = (S 83 p2) ∨ ¬ sm_lor (S 84 p2) (S 84 p1) = (S 84 p2) ∨ ¬ sm_lor (S 85 p2) (S 85 p1) = (S 85 p2) ∨ ¬ sm_lor (S 86 p2) (S 86 p1) = (S 86 p2)) → sm_rl (S 81 p2) (S 82 p2) (S 83 p2) (S 84 p2) (S 85 p2) (S 86 p2) + s5 ≤ sm_rl (if p2 = p2 then (1 : Int) else (S 81 p2)) (if p2 = p2 then (1 : Int) else (S 82 p2)) (sm_lor (S 83 p2) (S 83 p1)) (sm_lor (S 84 p2) (S 84 p1)) (sm_lor (S 85 p2) (S 85 p1)) (sm_lor (S 86 p2) (S 86 p1))) := fun h1 h2 a b c d hr hq => sm_rl_join (na := 0) (nb := 0) (nc := 0) (nd := 0) (ea := 0) (eb := 0) (ec := 0) (ed := 0) h1 h2 a b c d rfl rfl rfl rfl hr hq
              have h := h k109
              refine sv_iload_n hM dX12_joinLabel_284 rfl rfl ?_
              obtain ⟨o110, h⟩ := h
              exact sv_iret hM dX12_joinLabel_285 rfl (sv_nz o110) ⟨s5, rfl, sv_R01 o110, ok103, md104, h⟩
        · have h := h.2 (hc)
          refine sv_aload_n hM dX12_joinLabel_164 rfl rfl ?_
          refine sv_getA hM dX12_joinLabel_165 sm_fl_256 (sm_a0 _) sm_k133 rfl ?_
          refine sv_iload_n hM dX12_joinLabel_168 rfl rfl ?_
          obtain ⟨o111, h⟩ := h
          have k112 : (0 ≤ (S 81 p1) ∧ (S 81 p1) ≤ 1) := sm_okZ hok sm_r81 p1
          have h := h k112
          refine sv_zald hM dX12_joinLabel_169 (sm_a81 _) (by decide) o111.1 o111.2 rfl (x := (S 81 p1)) rfl ?_
          refine sv_cond_eq hM dX12_joinLabel_170 (sv_R01 k112) (t := 177) rfl rfl (fun hc => ?_) (fun hc => ?_)
          · have h := h.1 (hc)
            refine sv_iconst (d := (0 : Int)) hM dX12_joinLabel_177 rfl rfl ?_
            refine sv_zast sm_X hM dX12_joinLabel_178 (sm_a81 _) (by decide) o7.1 o7.2 (sv_nnZ (⟨by decide, by decide⟩ : 0 ≤ (0 : Int) ∧ (0 : Int) ≤ 1)) rfl ?_
            have ok113 : sm_ok (sv_up S 81 p2 (0 : Int)) := sm_upZ hok sm_r81 (⟨by decide, by decide⟩ : 0 ≤ (0 : Int) ∧ (0 : Int) ≤ 1)
            have md114 : sv_mod [81, 82, 83, 84, 85, 86] S (sv_up S 81 p2 (0 : Int)) := sv_mod.up sv_mod.rf (by decide)
            refine sv_aload_n hM dX12_joinLabel_179 rfl rfl ?_
            refine sv_getA hM dX12_joinLabel_180 sm_fl_259 (sm_a0 _) sm_k134 rfl ?_
            refine sv_iload_n hM dX12_joinLabel_183 rfl rfl ?_
            refine sv_aload_n hM dX12_joinLabel_184 rfl rfl ?_
            refine sv_getA hM dX12_joinLabel_185 sm_fl_259 (sm_a0 _) sm_k134 rfl ?_
            refine sv_iload_n hM dX12_joinLabel_188 rfl rfl ?_
            have k115 : (0 ≤ (S 82 p2) ∧ (S 82 p2) ≤ 1) := sm_okZ ok113 sm_r82 p2
            have h := h k115
            refine sv_zald hM dX12_joinLabel_189 (sm_a82 _) (by decide) o7.1 o7.2 rfl (x := (S 82 p2)) rfl ?_
            refine sv_cond_ne hM dX12_joinLabel_190 (sv_R01 k115) (t := 202) rfl rfl (fun hc => ?_) (fun hc => ?_)
            · have h := h.1 (hc)
              refine sv_iconst (d := (1 : Int)) hM dX12_joinLabel_202 rfl rfl ?_
              refine sv_goto hM dX12_joinLabel_203 (pc' := 207) rfl ?_
              refine sv_zast sm_X hM dX12_joinLabel_207 (sm_a82 _) (by decide) o7.1 o7.2 (sv_nnZ (⟨by decide, by decide⟩ : 0 ≤ (1 : Int) ∧ (1 : Int) ≤ 1)) rfl ?_
              have ok116 : sm_ok (sv_up (sv_up S 81 p2 (0 : Int)) 82 p2 (1 : Int)) := sm_upZ ok113 sm_r82 (⟨by decide, by decide⟩ : 0 ≤ (1 : Int) ∧ (1 : Int) ≤ 1)
              have md117 : sv_mod [81, 82, 83, 84, 85, 86] S (sv_up (sv_up S 81 p2 (0 : Int)) 82 p2 (1 : Int)) := sv_mod.up md114 (by decide)
              refine sv_aload_n hM dX12_joinLabel_208 rfl rfl ?_
              refine sv_getA hM dX12_joinLabel_209 sm_fl_262 (sm_a0 _) sm_k135 rfl ?_
              refine sv_iload_n hM dX12_joinLabel_212 rfl rfl ?_
              refine sv_aload_n hM dX12_joinLabel_213 rfl rfl ?_
              refine sv_getA hM dX12_joinLabel_214 sm_fl_262 (sm_a0 _) sm_k135 rfl ?_
              refine sv_iload_n hM dX12_joinLabel_217 rfl rfl ?_
              have k118 : sv_RL (S 83 p2) := sm_okJ ok116 sm_r83 p2
              have h := h k118
              refine sv_lald hM dX12_joinLabel_218 (sm_a83 _) (by decide) o7.1 o7.2 rfl (x := (S 83 p2)) rfl ?_
              refine sv_aload_n hM dX12_joinLabel_219 rfl rfl ?_
              refine sv_getA hM dX12_joinLabel_220 sm_fl_262 (sm_a0 _) sm_k135 rfl ?_
              refine sv_iload_n hM dX12_joinLabel_223 rfl rfl ?_
              have k119 : sv_RL (S 83 p1) := sm_okJ ok116 sm_r83 p1
              have h := h k119
              refine sv_lald hM dX12_joinLabel_224 (sm_a83 _) (by decide) o111.1 o111.2 rfl (x := (S 83 p1)) rfl ?_
              refine sv_anyL hM dX12_joinLabel_225 rfl rfl (fun r120 hr120 er120 => ?_)
              have er120v : (sm_lor (S 83 p2) (S 83 p1)) = r120 := er120
              have k121 : sv_RL (sm_lor (S 83 p2) (S 83 p1)) := er120v.symm ▸ hr120
              rw [← er120v]
              have h := h k121
              refine sv_last sm_X hM dX12_joinLabel_226 (sm_a83 _) (by decide) o7.1 o7.2 rfl ?_
              have ok122 : sm_ok (sv_up (sv_up (sv_up S 81 p2 (0 : Int)) 82 p2 (1 : Int)) 83 p2 (sm_lor (S 83 p2) (S 83 p1))) := sm_upJ ok116 sm_r83 k121
              have md123 : sv_mod [81, 82, 83, 84, 85, 86] S (sv_up (sv_up (sv_up S 81 p2 (0 : Int)) 82 p2 (1 : Int)) 83 p2 (sm_lor (S 83 p2) (S 83 p1))) := sv_mod.up md117 (by decide)
              refine sv_aload_n hM dX12_joinLabel_227 rfl rfl ?_
              refine sv_getA hM dX12_joinLabel_228 sm_fl_265 (sm_a0 _) sm_k136 rfl ?_
              refine sv_iload_n hM dX12_joinLabel_231 rfl rfl ?_
              refine sv_aload_n hM dX12_joinLabel_232 rfl rfl ?_
              refine sv_getA hM dX12_joinLabel_233 sm_fl_265 (sm_a0 _) sm_k136 rfl ?_
              refine sv_iload_n hM dX12_joinLabel_236 rfl rfl ?_
              have k124 : sv_RL (S 84 p2) := sm_okJ ok122 sm_r84 p2
              have h := h k124
              refine sv_lald hM dX12_joinLabel_237 (sm_a84 _) (by decide) o7.1 o7.2 rfl (x := (S 84 p2)) rfl ?_
              refine sv_aload_n hM dX12_joinLabel_238 rfl rfl ?_
              refine sv_getA hM dX12_joinLabel_239 sm_fl_265 (sm_a0 _) sm_k136 rfl ?_
              refine sv_iload_n hM dX12_joinLabel_242 rfl rfl ?_
              have k125 : sv_RL (S 84 p1) := sm_okJ ok122 sm_r84 p1
              have h := h k125
              refine sv_lald hM dX12_joinLabel_243 (sm_a84 _) (by decide) o111.1 o111.2 rfl (x := (S 84 p1)) rfl ?_
              refine sv_anyL hM dX12_joinLabel_244 rfl rfl (fun r126 hr126 er126 => ?_)
              have er126v : (sm_lor (S 84 p2) (S 84 p1)) = r126 := er126
              have k127 : sv_RL (sm_lor (S 84 p2) (S 84 p1)) := er126v.symm ▸ hr126
              rw [← er126v]
              have h := h k127
              refine sv_last sm_X hM dX12_joinLabel_245 (sm_a84 _) (by decide) o7.1 o7.2 rfl ?_
              have ok128 : sm_ok (sv_up (sv_up (sv_up (sv_up S 81 p2 (0 : Int)) 82 p2 (1 : Int)) 83 p2 (sm_lor (S 83 p2) (S 83 p1))) 84 p2 (sm_lor (S 84 p2) (S 84 p1))) := sm_upJ ok122 sm_r84 k127
              have md129 : sv_mod [81, 82, 83, 84, 85, 86] S (sv_up (sv_up (sv_up (sv_up S 81 p2 (0 : Int)) 82 p2 (1 : Int)) 83 p2 (sm_lor (S 83 p2) (S 83 p1))) 84 p2 (sm_lor (S 84 p2) (S 84 p1))) := sv_mod.up md123 (by decide)
              refine sv_aload_n hM dX12_joinLabel_246 rfl rfl ?_
              refine sv_getA hM dX12_joinLabel_247 sm_fl_268 (sm_a0 _) sm_k137 rfl ?_
              refine sv_iload_n hM dX12_joinLabel_250 rfl rfl ?_
              refine sv_aload_n hM dX12_joinLabel_251 rfl rfl ?_
              refine sv_getA hM dX12_joinLabel_252 sm_fl_268 (sm_a0 _) sm_k137 rfl ?_
              refine sv_iload_n hM dX12_joinLabel_255 rfl rfl ?_
              have k130 : sv_RL (S 85 p2) := sm_okJ ok128 sm_r85 p2
              have h := h k130
              refine sv_lald hM dX12_joinLabel_256 (sm_a85 _) (by decide) o7.1 o7.2 rfl (x := (S 85 p2)) rfl ?_
              refine sv_aload_n hM dX12_joinLabel_257 rfl rfl ?_
              refine sv_getA hM dX12_joinLabel_258 sm_fl_268 (sm_a0 _) sm_k137 rfl ?_
              refine sv_iload_n hM dX12_joinLabel_261 rfl rfl ?_
              have k131 : sv_RL (S 85 p1) := sm_okJ ok128 sm_r85 p1
              have h := h k131
              refine sv_lald hM dX12_joinLabel_262 (sm_a85 _) (by decide) o111.1 o111.2 rfl (x := (S 85 p1)) rfl ?_
              refine sv_anyL hM dX12_joinLabel_263 rfl rfl (fun r132 hr132 er132 => ?_)
              have er132v : (sm_lor (S 85 p2) (S 85 p1)) = r132 := er132
              have k133 : sv_RL (sm_lor (S 85 p2) (S 85 p1)) := er132v.symm ▸ hr132
              rw [← er132v]
              have h := h k133
              refine sv_last sm_X hM dX12_joinLabel_264 (sm_a85 _) (by decide) o7.1 o7.2 rfl ?_
              have ok134 : sm_ok (sv_up (sv_up (sv_up (sv_up (sv_up S 81 p2 (0 : Int)) 82 p2 (1 : Int)) 83 p2 (sm_lor (S 83 p2) (S 83 p1))) 84 p2 (sm_lor (S 84 p2) (S 84 p1))) 85 p2 (sm_lor (S 85 p2) (S 85 p1))) := sm_upJ ok128 sm_r85 k133
              have md135 : sv_mod [81, 82, 83, 84, 85, 86] S (sv_up (sv_up (sv_up (sv_up (sv_up S 81 p2 (0 : Int)) 82 p2 (1 : Int)) 83 p2 (sm_lor (S 83 p2) (S 83 p1))) 84 p2 (sm_lor (S 84 p2) (S 84 p1))) 85 p2 (sm_lor (S 85 p2) (S 85 p1))) := sv_mod.up md129 (by decide)
              refine sv_aload_n hM dX12_joinLabel_265 rfl rfl ?_
              refine sv_getA hM dX12_joinLabel_266 sm_fl_271 (sm_a0 _) sm_k138 rfl ?_
              refine sv_iload_n hM dX12_joinLabel_269 rfl rfl ?_
              refine sv_aload_n hM dX12_joinLabel_270 rfl rfl ?_
              refine sv_getA hM dX12_joinLabel_271 sm_fl_271 (sm_a0 _) sm_k138 rfl ?_
              refine sv_iload_n hM dX12_joinLabel_274 rfl rfl ?_
              have k136 : sv_RL (S 86 p2) := sm_okJ ok134 sm_r86 p2
              have h := h k136
              refine sv_lald hM dX12_joinLabel_275 (sm_a86 _) (by decide) o7.1 o7.2 rfl (x := (S 86 p2)) rfl ?_
              refine sv_aload_n hM dX12_joinLabel_276 rfl rfl ?_
              refine sv_getA hM dX12_joinLabel_277 sm_fl_271 (sm_a0 _) sm_k138 rfl ?_
              refine sv_iload_n hM dX12_joinLabel_280 rfl rfl ?_
              have k137 : sv_RL (S 86 p1) := sm_okJ ok134 sm_r86 p1
              have h := h k137
              refine sv_lald hM dX12_joinLabel_281 (sm_a86 _) (by decide) o111.1 o111.2 rfl (x := (S 86 p1)) rfl ?_
              refine sv_anyL hM dX12_joinLabel_282 rfl rfl (fun r138 hr138 er138 => ?_)
              have er138v : (sm_lor (S 86 p2) (S 86 p1)) = r138 := er138
              have k139 : sv_RL (sm_lor (S 86 p2) (S 86 p1)) := er138v.symm ▸ hr138
              rw [← er138v]
              have h := h k139
              refine sv_last sm_X hM dX12_joinLabel_283 (sm_a86 _) (by decide) o7.1 o7.2 rfl ?_
              have ok140 : sm_ok (sv_up (sv_up (sv_up (sv_up (sv_up (sv_up S 81 p2 (0 : Int)) 82 p2 (1 : Int)) 83 p2 (sm_lor (S 83 p2) (S 83 p1))) 84 p2 (sm_lor (S 84 p2) (S 84 p1))) 85 p2 (sm_lor (S 85 p2) (S 85 p1))) 86 p2 (sm_lor (S 86 p2) (S 86 p1))) := sm_upJ ok134 sm_r86 k139
              have md141 : sv_mod [81, 82, 83, 84, 85, 86] S (sv_up (sv_up (sv_up (sv_up (sv_up (sv_up S 81 p2 (0 : Int)) 82 p2 (1 : Int)) 83 p2 (sm_lor (S 83 p2) (S 83 p1))) 84 p2 (sm_lor (S 84 p2) (S 84 p1))) 85 p2 (sm_lor (S 85 p2) (S 85 p1))) 86 p2 (sm_lor (S 86 p2) (S 86 p1))) := sv_mod.up md135 (by decide)
              have k142 : (sv_RL (S 83 p2) → ¬ sm_land (S 83 p1) (sm_lxor (S 83 p2) (-1)) = 0 → ¬ sm_lor (S 83 p2) (S 83 p1) = (S 83 p2)) := fun a b => sm_lor_ne a rfl rfl b rfl
              have h := h k142
              have k143 : (sv_RL (S 84 p2) → ¬ sm_land (S 84 p1) (sm_lxor (S 84 p2) (-1)) = 0 → ¬ sm_lor (S 84 p2) (S 84 p1) = (S 84 p2)) := fun a b => sm_lor_ne a rfl rfl b rfl
              have h := h k143
              have k144 : (sv_RL (S 85 p2) → ¬ sm_land (S 85 p1) (sm_lxor (S 85 p2) (-1)) = 0 → ¬ sm_lor (S 85 p2) (S 85 p1) = (S 85 p2)) := fun a b => sm_lor_ne a rfl rfl b rfl
              have h := h k144
              have k145 : (sv_RL (S 86 p2) → ¬ sm_land (S 86 p1) (sm_lxor (S 86 p2) (-1)) = 0 → ¬ sm_lor (S 86 p2) (S 86 p1) = (S 86 p2)) := fun a b => sm_lor_ne a rfl rfl b rfl
              have h := h k145
              have k146 : ((S 81 p2) ≤ (if p2 = p2 then (0 : Int) else (S 81 p2)) → (S 82 p2) ≤ (if p2 = p2 then (1 : Int) else (S 82 p2)) → sv_RL (S 83 p2) → sv_RL (S 84 p2) → sv_RL (S 85 p2) → sv_RL (S 86 p2) → (s5 = 0 ∨ s5 = 1) → (s5 = 1 → (S 81 p2) < (if p2 = p2 then (0 : Int) else (S 81 p2)) ∨ (S 82 p2) < (if p2 = p2 then (1 : Int) else (S 82 p2)) ∨ ¬ sm_lor (S 83 p2) (S 83 p1) = (S 83 p2) ∨ ¬ sm_lor (S 84 p2) (S 84 p1) = (S 84 p2) ∨ ¬ sm_lor (S 85 p2) (S 85 p1) = (S 85 p2) ∨ ¬ sm_lor (S 86 p2) (S 86 p1) = (S 86 p2)) → sm_rl (S 81 p2) (S 82 p2) (S 83 p2) (S 84 p2) (S 85 p2) (S 86 p2) + s5 ≤ sm_rl (if p2 = p2 then (0 : Int) else (S 81 p2)) (if p2 = p2 then (1 : Int) else (S 82 p2)) (sm_lor (S 83 p2) (S 83 p1)) (sm_lor (S 84 p2) (S 84 p1)) (sm_lor (S 85 p2) (S 85 p1)) (sm_lor (S 86 p2) (S 86 p1))) := fun h1 h2 a b c d hr hq => sm_rl_join (na := 0) (nb := 0) (nc := 0) (nd := 0) (ea := 0) (eb := 0) (ec := 0) (ed := 0) h1 h2 a b c d rfl rfl rfl rfl hr hq
              have h := h k146
              refine sv_iload_n hM dX12_joinLabel_284 rfl rfl ?_
              obtain ⟨o147, h⟩ := h
              exact sv_iret hM dX12_joinLabel_285 rfl (sv_nz o147) ⟨s5, rfl, sv_R01 o147, ok140, md141, h⟩
            · have h := h.2 (hc)
              refine sv_aload_n hM dX12_joinLabel_193 rfl rfl ?_
              refine sv_getA hM dX12_joinLabel_194 sm_fl_259 (sm_a0 _) sm_k134 rfl ?_
              refine sv_iload_n hM dX12_joinLabel_197 rfl rfl ?_
              have k148 : (0 ≤ (S 82 p1) ∧ (S 82 p1) ≤ 1) := sm_okZ ok113 sm_r82 p1
              have h := h k148
              refine sv_zald hM dX12_joinLabel_198 (sm_a82 _) (by decide) o111.1 o111.2 rfl (x := (S 82 p1)) rfl ?_
              refine sv_cond_eq hM dX12_joinLabel_199 (sv_R01 k148) (t := 206) rfl rfl (fun hc => ?_) (fun hc => ?_)
              · have h := h.1 (hc)
                refine sv_iconst (d := (0 : Int)) hM dX12_joinLabel_206 rfl rfl ?_
                refine sv_zast sm_X hM dX12_joinLabel_207 (sm_a82 _) (by decide) o7.1 o7.2 (sv_nnZ (⟨by decide, by decide⟩ : 0 ≤ (0 : Int) ∧ (0 : Int) ≤ 1)) rfl ?_
                have ok149 : sm_ok (sv_up (sv_up S 81 p2 (0 : Int)) 82 p2 (0 : Int)) := sm_upZ ok113 sm_r82 (⟨by decide, by decide⟩ : 0 ≤ (0 : Int) ∧ (0 : Int) ≤ 1)
                have md150 : sv_mod [81, 82, 83, 84, 85, 86] S (sv_up (sv_up S 81 p2 (0 : Int)) 82 p2 (0 : Int)) := sv_mod.up md114 (by decide)
                refine sv_aload_n hM dX12_joinLabel_208 rfl rfl ?_
                refine sv_getA hM dX12_joinLabel_209 sm_fl_262 (sm_a0 _) sm_k135 rfl ?_
                refine sv_iload_n hM dX12_joinLabel_212 rfl rfl ?_
                refine sv_aload_n hM dX12_joinLabel_213 rfl rfl ?_
                refine sv_getA hM dX12_joinLabel_214 sm_fl_262 (sm_a0 _) sm_k135 rfl ?_
                refine sv_iload_n hM dX12_joinLabel_217 rfl rfl ?_
                have k151 : sv_RL (S 83 p2) := sm_okJ ok149 sm_r83 p2
                have h := h k151
                refine sv_lald hM dX12_joinLabel_218 (sm_a83 _) (by decide) o7.1 o7.2 rfl (x := (S 83 p2)) rfl ?_
                refine sv_aload_n hM dX12_joinLabel_219 rfl rfl ?_
                refine sv_getA hM dX12_joinLabel_220 sm_fl_262 (sm_a0 _) sm_k135 rfl ?_
                refine sv_iload_n hM dX12_joinLabel_223 rfl rfl ?_
                have k152 : sv_RL (S 83 p1) := sm_okJ ok149 sm_r83 p1
                have h := h k152
                refine sv_lald hM dX12_joinLabel_224 (sm_a83 _) (by decide) o111.1 o111.2 rfl (x := (S 83 p1)) rfl ?_
                refine sv_anyL hM dX12_joinLabel_225 rfl rfl (fun r153 hr153 er153 => ?_)
                have er153v : (sm_lor (S 83 p2) (S 83 p1)) = r153 := er153
                have k154 : sv_RL (sm_lor (S 83 p2) (S 83 p1)) := er153v.symm ▸ hr153
                rw [← er153v]
                have h := h k154
                refine sv_last sm_X hM dX12_joinLabel_226 (sm_a83 _) (by decide) o7.1 o7.2 rfl ?_
                have ok155 : sm_ok (sv_up (sv_up (sv_up S 81 p2 (0 : Int)) 82 p2 (0 : Int)) 83 p2 (sm_lor (S 83 p2) (S 83 p1))) := sm_upJ ok149 sm_r83 k154
                have md156 : sv_mod [81, 82, 83, 84, 85, 86] S (sv_up (sv_up (sv_up S 81 p2 (0 : Int)) 82 p2 (0 : Int)) 83 p2 (sm_lor (S 83 p2) (S 83 p1))) := sv_mod.up md150 (by decide)
                refine sv_aload_n hM dX12_joinLabel_227 rfl rfl ?_
                refine sv_getA hM dX12_joinLabel_228 sm_fl_265 (sm_a0 _) sm_k136 rfl ?_
                refine sv_iload_n hM dX12_joinLabel_231 rfl rfl ?_
                refine sv_aload_n hM dX12_joinLabel_232 rfl rfl ?_
                refine sv_getA hM dX12_joinLabel_233 sm_fl_265 (sm_a0 _) sm_k136 rfl ?_
                refine sv_iload_n hM dX12_joinLabel_236 rfl rfl ?_
                have k157 : sv_RL (S 84 p2) := sm_okJ ok155 sm_r84 p2
                have h := h k157
                refine sv_lald hM dX12_joinLabel_237 (sm_a84 _) (by decide) o7.1 o7.2 rfl (x := (S 84 p2)) rfl ?_
                refine sv_aload_n hM dX12_joinLabel_238 rfl rfl ?_
                refine sv_getA hM dX12_joinLabel_239 sm_fl_265 (sm_a0 _) sm_k136 rfl ?_
                refine sv_iload_n hM dX12_joinLabel_242 rfl rfl ?_
                have k158 : sv_RL (S 84 p1) := sm_okJ ok155 sm_r84 p1
                have h := h k158
                refine sv_lald hM dX12_joinLabel_243 (sm_a84 _) (by decide) o111.1 o111.2 rfl (x := (S 84 p1)) rfl ?_
                refine sv_anyL hM dX12_joinLabel_244 rfl rfl (fun r159 hr159 er159 => ?_)
                have er159v : (sm_lor (S 84 p2) (S 84 p1)) = r159 := er159
                have k160 : sv_RL (sm_lor (S 84 p2) (S 84 p1)) := er159v.symm ▸ hr159
                rw [← er159v]
                have h := h k160
                refine sv_last sm_X hM dX12_joinLabel_245 (sm_a84 _) (by decide) o7.1 o7.2 rfl ?_
                have ok161 : sm_ok (sv_up (sv_up (sv_up (sv_up S 81 p2 (0 : Int)) 82 p2 (0 : Int)) 83 p2 (sm_lor (S 83 p2) (S 83 p1))) 84 p2 (sm_lor (S 84 p2) (S 84 p1))) := sm_upJ ok155 sm_r84 k160
                have md162 : sv_mod [81, 82, 83, 84, 85, 86] S (sv_up (sv_up (sv_up (sv_up S 81 p2 (0 : Int)) 82 p2 (0 : Int)) 83 p2 (sm_lor (S 83 p2) (S 83 p1))) 84 p2 (sm_lor (S 84 p2) (S 84 p1))) := sv_mod.up md156 (by decide)
                refine sv_aload_n hM dX12_joinLabel_246 rfl rfl ?_
                refine sv_getA hM dX12_joinLabel_247 sm_fl_268 (sm_a0 _) sm_k137 rfl ?_
                refine sv_iload_n hM dX12_joinLabel_250 rfl rfl ?_
                refine sv_aload_n hM dX12_joinLabel_251 rfl rfl ?_
                refine sv_getA hM dX12_joinLabel_252 sm_fl_268 (sm_a0 _) sm_k137 rfl ?_
                refine sv_iload_n hM dX12_joinLabel_255 rfl rfl ?_
                have k163 : sv_RL (S 85 p2) := sm_okJ ok161 sm_r85 p2
                have h := h k163
                refine sv_lald hM dX12_joinLabel_256 (sm_a85 _) (by decide) o7.1 o7.2 rfl (x := (S 85 p2)) rfl ?_
                refine sv_aload_n hM dX12_joinLabel_257 rfl rfl ?_
                refine sv_getA hM dX12_joinLabel_258 sm_fl_268 (sm_a0 _) sm_k137 rfl ?_
                refine sv_iload_n hM dX12_joinLabel_261 rfl rfl ?_
                have k164 : sv_RL (S 85 p1) := sm_okJ ok161 sm_r85 p1
                have h := h k164
                refine sv_lald hM dX12_joinLabel_262 (sm_a85 _) (by decide) o111.1 o111.2 rfl (x := (S 85 p1)) rfl ?_
                refine sv_anyL hM dX12_joinLabel_263 rfl rfl (fun r165 hr165 er165 => ?_)
                have er165v : (sm_lor (S 85 p2) (S 85 p1)) = r165 := er165
                have k166 : sv_RL (sm_lor (S 85 p2) (S 85 p1)) := er165v.symm ▸ hr165
                rw [← er165v]
                have h := h k166
                refine sv_last sm_X hM dX12_joinLabel_264 (sm_a85 _) (by decide) o7.1 o7.2 rfl ?_
                have ok167 : sm_ok (sv_up (sv_up (sv_up (sv_up (sv_up S 81 p2 (0 : Int)) 82 p2 (0 : Int)) 83 p2 (sm_lor (S 83 p2) (S 83 p1))) 84 p2 (sm_lor (S 84 p2) (S 84 p1))) 85 p2 (sm_lor (S 85 p2) (S 85 p1))) := sm_upJ ok161 sm_r85 k166
                have md168 : sv_mod [81, 82, 83, 84, 85, 86] S (sv_up (sv_up (sv_up (sv_up (sv_up S 81 p2 (0 : Int)) 82 p2 (0 : Int)) 83 p2 (sm_lor (S 83 p2) (S 83 p1))) 84 p2 (sm_lor (S 84 p2) (S 84 p1))) 85 p2 (sm_lor (S 85 p2) (S 85 p1))) := sv_mod.up md162 (by decide)
                refine sv_aload_n hM dX12_joinLabel_265 rfl rfl ?_
                refine sv_getA hM dX12_joinLabel_266 sm_fl_271 (sm_a0 _) sm_k138 rfl ?_
                refine sv_iload_n hM dX12_joinLabel_269 rfl rfl ?_
                refine sv_aload_n hM dX12_joinLabel_270 rfl rfl ?_
                refine sv_getA hM dX12_joinLabel_271 sm_fl_271 (sm_a0 _) sm_k138 rfl ?_
                refine sv_iload_n hM dX12_joinLabel_274 rfl rfl ?_
                have k169 : sv_RL (S 86 p2) := sm_okJ ok167 sm_r86 p2
                have h := h k169
                refine sv_lald hM dX12_joinLabel_275 (sm_a86 _) (by decide) o7.1 o7.2 rfl (x := (S 86 p2)) rfl ?_
                refine sv_aload_n hM dX12_joinLabel_276 rfl rfl ?_
                refine sv_getA hM dX12_joinLabel_277 sm_fl_271 (sm_a0 _) sm_k138 rfl ?_
                refine sv_iload_n hM dX12_joinLabel_280 rfl rfl ?_
                have k170 : sv_RL (S 86 p1) := sm_okJ ok167 sm_r86 p1
                have h := h k170
                refine sv_lald hM dX12_joinLabel_281 (sm_a86 _) (by decide) o111.1 o111.2 rfl (x := (S 86 p1)) rfl ?_
                refine sv_anyL hM dX12_joinLabel_282 rfl rfl (fun r171 hr171 er171 => ?_)
                have er171v : (sm_lor (S 86 p2) (S 86 p1)) = r171 := er171
                have k172 : sv_RL (sm_lor (S 86 p2) (S 86 p1)) := er171v.symm ▸ hr171
                rw [← er171v]
                have h := h k172
                refine sv_last sm_X hM dX12_joinLabel_283 (sm_a86 _) (by decide) o7.1 o7.2 rfl ?_
                have ok173 : sm_ok (sv_up (sv_up (sv_up (sv_up (sv_up (sv_up S 81 p2 (0 : Int)) 82 p2 (0 : Int)) 83 p2 (sm_lor (S 83 p2) (S 83 p1))) 84 p2 (sm_lor (S 84 p2) (S 84 p1))) 85 p2 (sm_lor (S 85 p2) (S 85 p1))) 86 p2 (sm_lor (S 86 p2) (S 86 p1))) := sm_upJ ok167 sm_r86 k172
                have md174 : sv_mod [81, 82, 83, 84, 85, 86] S (sv_up (sv_up (sv_up (sv_up (sv_up (sv_up S 81 p2 (0 : Int)) 82 p2 (0 : Int)) 83 p2 (sm_lor (S 83 p2) (S 83 p1))) 84 p2 (sm_lor (S 84 p2) (S 84 p1))) 85 p2 (sm_lor (S 85 p2) (S 85 p1))) 86 p2 (sm_lor (S 86 p2) (S 86 p1))) := sv_mod.up md168 (by decide)
                have k175 : (sv_RL (S 83 p2) → ¬ sm_land (S 83 p1) (sm_lxor (S 83 p2) (-1)) = 0 → ¬ sm_lor (S 83 p2) (S 83 p1) = (S 83 p2)) := fun a b => sm_lor_ne a rfl rfl b rfl
                have h := h k175
                have k176 : (sv_RL (S 84 p2) → ¬ sm_land (S 84 p1) (sm_lxor (S 84 p2) (-1)) = 0 → ¬ sm_lor (S 84 p2) (S 84 p1) = (S 84 p2)) := fun a b => sm_lor_ne a rfl rfl b rfl
                have h := h k176
                have k177 : (sv_RL (S 85 p2) → ¬ sm_land (S 85 p1) (sm_lxor (S 85 p2) (-1)) = 0 → ¬ sm_lor (S 85 p2) (S 85 p1) = (S 85 p2)) := fun a b => sm_lor_ne a rfl rfl b rfl
                have h := h k177
                have k178 : (sv_RL (S 86 p2) → ¬ sm_land (S 86 p1) (sm_lxor (S 86 p2) (-1)) = 0 → ¬ sm_lor (S 86 p2) (S 86 p1) = (S 86 p2)) := fun a b => sm_lor_ne a rfl rfl b rfl
                have h := h k178
                have k179 : ((S 81 p2) ≤ (if p2 = p2 then (0 : Int) else (S 81 p2)) → (S 82 p2) ≤ (if p2 = p2 then (0 : Int) else (S 82 p2)) → sv_RL (S 83 p2) → sv_RL (S 84 p2) → sv_RL (S 85 p2) → sv_RL (S 86 p2) → (s5 = 0 ∨ s5 = 1) → (s5 = 1 → (S 81 p2) < (if p2 = p2 then (0 : Int) else (S 81 p2)) ∨ (S 82 p2) < (if p2 = p2 then (0 : Int) else (S 82 p2)) ∨ ¬ sm_lor (S 83 p2) (S 83 p1) = (S 83 p2) ∨ ¬ sm_lor (S 84 p2) (S 84 p1) = (S 84 p2) ∨ ¬ sm_lor (S 85 p2) (S 85 p1) = (S 85 p2) ∨ ¬ sm_lor (S 86 p2) (S 86 p1) = (S 86 p2)) → sm_rl (S 81 p2) (S 82 p2) (S 83 p2) (S 84 p2) (S 85 p2) (S 86 p2) + s5 ≤ sm_rl (if p2 = p2 then (0 : Int) else (S 81 p2)) (if p2 = p2 then (0 : Int) else (S 82 p2)) (sm_lor (S 83 p2) (S 83 p1)) (sm_lor (S 84 p2) (S 84 p1)) (sm_lor (S 85 p2) (S 85 p1)) (sm_lor (S 86 p2) (S 86 p1))) := fun h1 h2 a b c d hr hq => sm_rl_join (na := 0) (nb := 0) (nc := 0) (nd := 0) (ea := 0) (eb := 0) (ec := 0) (ed := 0) h1 h2 a b c d rfl rfl rfl rfl hr hq
                have h := h k179
                refine sv_iload_n hM dX12_joinLabel_284 rfl rfl ?_
                obtain ⟨o180, h⟩ := h
                exact sv_iret hM dX12_joinLabel_285 rfl (sv_nz o180) ⟨s5, rfl, sv_R01 o180, ok173, md174, h⟩
              · have h := h.2 (hc)
                refine sv_iconst (d := (1 : Int)) hM dX12_joinLabel_202 rfl rfl ?_
                refine sv_goto hM dX12_joinLabel_203 (pc' := 207) rfl ?_
                refine sv_zast sm_X hM dX12_joinLabel_207 (sm_a82 _) (by decide) o7.1 o7.2 (sv_nnZ (⟨by decide, by decide⟩ : 0 ≤ (1 : Int) ∧ (1 : Int) ≤ 1)) rfl ?_
                have ok181 : sm_ok (sv_up (sv_up S 81 p2 (0 : Int)) 82 p2 (1 : Int)) := sm_upZ ok113 sm_r82 (⟨by decide, by decide⟩ : 0 ≤ (1 : Int) ∧ (1 : Int) ≤ 1)
                have md182 : sv_mod [81, 82, 83, 84, 85, 86] S (sv_up (sv_up S 81 p2 (0 : Int)) 82 p2 (1 : Int)) := sv_mod.up md114 (by decide)
                refine sv_aload_n hM dX12_joinLabel_208 rfl rfl ?_
                refine sv_getA hM dX12_joinLabel_209 sm_fl_262 (sm_a0 _) sm_k135 rfl ?_
                refine sv_iload_n hM dX12_joinLabel_212 rfl rfl ?_
                refine sv_aload_n hM dX12_joinLabel_213 rfl rfl ?_
                refine sv_getA hM dX12_joinLabel_214 sm_fl_262 (sm_a0 _) sm_k135 rfl ?_
                refine sv_iload_n hM dX12_joinLabel_217 rfl rfl ?_
                have k183 : sv_RL (S 83 p2) := sm_okJ ok181 sm_r83 p2
                have h := h k183
                refine sv_lald hM dX12_joinLabel_218 (sm_a83 _) (by decide) o7.1 o7.2 rfl (x := (S 83 p2)) rfl ?_
                refine sv_aload_n hM dX12_joinLabel_219 rfl rfl ?_
                refine sv_getA hM dX12_joinLabel_220 sm_fl_262 (sm_a0 _) sm_k135 rfl ?_
                refine sv_iload_n hM dX12_joinLabel_223 rfl rfl ?_
                have k184 : sv_RL (S 83 p1) := sm_okJ ok181 sm_r83 p1
                have h := h k184
                refine sv_lald hM dX12_joinLabel_224 (sm_a83 _) (by decide) o111.1 o111.2 rfl (x := (S 83 p1)) rfl ?_
                refine sv_anyL hM dX12_joinLabel_225 rfl rfl (fun r185 hr185 er185 => ?_)
                have er185v : (sm_lor (S 83 p2) (S 83 p1)) = r185 := er185
                have k186 : sv_RL (sm_lor (S 83 p2) (S 83 p1)) := er185v.symm ▸ hr185
                rw [← er185v]
                have h := h k186
                refine sv_last sm_X hM dX12_joinLabel_226 (sm_a83 _) (by decide) o7.1 o7.2 rfl ?_
                have ok187 : sm_ok (sv_up (sv_up (sv_up S 81 p2 (0 : Int)) 82 p2 (1 : Int)) 83 p2 (sm_lor (S 83 p2) (S 83 p1))) := sm_upJ ok181 sm_r83 k186
                have md188 : sv_mod [81, 82, 83, 84, 85, 86] S (sv_up (sv_up (sv_up S 81 p2 (0 : Int)) 82 p2 (1 : Int)) 83 p2 (sm_lor (S 83 p2) (S 83 p1))) := sv_mod.up md182 (by decide)
                refine sv_aload_n hM dX12_joinLabel_227 rfl rfl ?_
                refine sv_getA hM dX12_joinLabel_228 sm_fl_265 (sm_a0 _) sm_k136 rfl ?_
                refine sv_iload_n hM dX12_joinLabel_231 rfl rfl ?_
                refine sv_aload_n hM dX12_joinLabel_232 rfl rfl ?_
                refine sv_getA hM dX12_joinLabel_233 sm_fl_265 (sm_a0 _) sm_k136 rfl ?_
                refine sv_iload_n hM dX12_joinLabel_236 rfl rfl ?_
                have k189 : sv_RL (S 84 p2) := sm_okJ ok187 sm_r84 p2
                have h := h k189
                refine sv_lald hM dX12_joinLabel_237 (sm_a84 _) (by decide) o7.1 o7.2 rfl (x := (S 84 p2)) rfl ?_
                refine sv_aload_n hM dX12_joinLabel_238 rfl rfl ?_
                refine sv_getA hM dX12_joinLabel_239 sm_fl_265 (sm_a0 _) sm_k136 rfl ?_
                refine sv_iload_n hM dX12_joinLabel_242 rfl rfl ?_
                have k190 : sv_RL (S 84 p1) := sm_okJ ok187 sm_r84 p1
                have h := h k190
                refine sv_lald hM dX12_joinLabel_243 (sm_a84 _) (by decide) o111.1 o111.2 rfl (x := (S 84 p1)) rfl ?_
                refine sv_anyL hM dX12_joinLabel_244 rfl rfl (fun r191 hr191 er191 => ?_)
                have er191v : (sm_lor (S 84 p2) (S 84 p1)) = r191 := er191
                have k192 : sv_RL (sm_lor (S 84 p2) (S 84 p1)) := er191v.symm ▸ hr191
                rw [← er191v]
                have h := h k192
                refine sv_last sm_X hM dX12_joinLabel_245 (sm_a84 _) (by decide) o7.1 o7.2 rfl ?_
                have ok193 : sm_ok (sv_up (sv_up (sv_up (sv_up S 81 p2 (0 : Int)) 82 p2 (1 : Int)) 83 p2 (sm_lor (S 83 p2) (S 83 p1))) 84 p2 (sm_lor (S 84 p2) (S 84 p1))) := sm_upJ ok187 sm_r84 k192
                have md194 : sv_mod [81, 82, 83, 84, 85, 86] S (sv_up (sv_up (sv_up (sv_up S 81 p2 (0 : Int)) 82 p2 (1 : Int)) 83 p2 (sm_lor (S 83 p2) (S 83 p1))) 84 p2 (sm_lor (S 84 p2) (S 84 p1))) := sv_mod.up md188 (by decide)
                refine sv_aload_n hM dX12_joinLabel_246 rfl rfl ?_
                refine sv_getA hM dX12_joinLabel_247 sm_fl_268 (sm_a0 _) sm_k137 rfl ?_
                refine sv_iload_n hM dX12_joinLabel_250 rfl rfl ?_
                refine sv_aload_n hM dX12_joinLabel_251 rfl rfl ?_
                refine sv_getA hM dX12_joinLabel_252 sm_fl_268 (sm_a0 _) sm_k137 rfl ?_
                refine sv_iload_n hM dX12_joinLabel_255 rfl rfl ?_
                have k195 : sv_RL (S 85 p2) := sm_okJ ok193 sm_r85 p2
                have h := h k195
                refine sv_lald hM dX12_joinLabel_256 (sm_a85 _) (by decide) o7.1 o7.2 rfl (x := (S 85 p2)) rfl ?_
                refine sv_aload_n hM dX12_joinLabel_257 rfl rfl ?_
                refine sv_getA hM dX12_joinLabel_258 sm_fl_268 (sm_a0 _) sm_k137 rfl ?_
                refine sv_iload_n hM dX12_joinLabel_261 rfl rfl ?_
                have k196 : sv_RL (S 85 p1) := sm_okJ ok193 sm_r85 p1
                have h := h k196
                refine sv_lald hM dX12_joinLabel_262 (sm_a85 _) (by decide) o111.1 o111.2 rfl (x := (S 85 p1)) rfl ?_
                refine sv_anyL hM dX12_joinLabel_263 rfl rfl (fun r197 hr197 er197 => ?_)
                have er197v : (sm_lor (S 85 p2) (S 85 p1)) = r197 := er197
                have k198 : sv_RL (sm_lor (S 85 p2) (S 85 p1)) := er197v.symm ▸ hr197
                rw [← er197v]
                have h := h k198
                refine sv_last sm_X hM dX12_joinLabel_264 (sm_a85 _) (by decide) o7.1 o7.2 rfl ?_
                have ok199 : sm_ok (sv_up (sv_up (sv_up (sv_up (sv_up S 81 p2 (0 : Int)) 82 p2 (1 : Int)) 83 p2 (sm_lor (S 83 p2) (S 83 p1))) 84 p2 (sm_lor (S 84 p2) (S 84 p1))) 85 p2 (sm_lor (S 85 p2) (S 85 p1))) := sm_upJ ok193 sm_r85 k198
                have md200 : sv_mod [81, 82, 83, 84, 85, 86] S (sv_up (sv_up (sv_up (sv_up (sv_up S 81 p2 (0 : Int)) 82 p2 (1 : Int)) 83 p2 (sm_lor (S 83 p2) (S 83 p1))) 84 p2 (sm_lor (S 84 p2) (S 84 p1))) 85 p2 (sm_lor (S 85 p2) (S 85 p1))) := sv_mod.up md194 (by decide)
                refine sv_aload_n hM dX12_joinLabel_265 rfl rfl ?_
                refine sv_getA hM dX12_joinLabel_266 sm_fl_271 (sm_a0 _) sm_k138 rfl ?_
                refine sv_iload_n hM dX12_joinLabel_269 rfl rfl ?_
                refine sv_aload_n hM dX12_joinLabel_270 rfl rfl ?_
                refine sv_getA hM dX12_joinLabel_271 sm_fl_271 (sm_a0 _) sm_k138 rfl ?_
                refine sv_iload_n hM dX12_joinLabel_274 rfl rfl ?_
                have k201 : sv_RL (S 86 p2) := sm_okJ ok199 sm_r86 p2
                have h := h k201
                refine sv_lald hM dX12_joinLabel_275 (sm_a86 _) (by decide) o7.1 o7.2 rfl (x := (S 86 p2)) rfl ?_
                refine sv_aload_n hM dX12_joinLabel_276 rfl rfl ?_
                refine sv_getA hM dX12_joinLabel_277 sm_fl_271 (sm_a0 _) sm_k138 rfl ?_
                refine sv_iload_n hM dX12_joinLabel_280 rfl rfl ?_
                have k202 : sv_RL (S 86 p1) := sm_okJ ok199 sm_r86 p1
                have h := h k202
                refine sv_lald hM dX12_joinLabel_281 (sm_a86 _) (by decide) o111.1 o111.2 rfl (x := (S 86 p1)) rfl ?_
                refine sv_anyL hM dX12_joinLabel_282 rfl rfl (fun r203 hr203 er203 => ?_)
                have er203v : (sm_lor (S 86 p2) (S 86 p1)) = r203 := er203
                have k204 : sv_RL (sm_lor (S 86 p2) (S 86 p1)) := er203v.symm ▸ hr203
                rw [← er203v]
                have h := h k204
                refine sv_last sm_X hM dX12_joinLabel_283 (sm_a86 _) (by decide) o7.1 o7.2 rfl ?_
                have ok205 : sm_ok (sv_up (sv_up (sv_up (sv_up (sv_up (sv_up S 81 p2 (0 : Int)) 82 p2 (1 : Int)) 83 p2 (sm_lor (S 83 p2) (S 83 p1))) 84 p2 (sm_lor (S 84 p2) (S 84 p1))) 85 p2 (sm_lor (S 85 p2) (S 85 p1))) 86 p2 (sm_lor (S 86 p2) (S 86 p1))) := sm_upJ ok199 sm_r86 k204
                have md206 : sv_mod [81, 82, 83, 84, 85, 86] S (sv_up (sv_up (sv_up (sv_up (sv_up (sv_up S 81 p2 (0 : Int)) 82 p2 (1 : Int)) 83 p2 (sm_lor (S 83 p2) (S 83 p1))) 84 p2 (sm_lor (S 84 p2) (S 84 p1))) 85 p2 (sm_lor (S 85 p2) (S 85 p1))) 86 p2 (sm_lor (S 86 p2) (S 86 p1))) := sv_mod.up md200 (by decide)
                have k207 : (sv_RL (S 83 p2) → ¬ sm_land (S 83 p1) (sm_lxor (S 83 p2) (-1)) = 0 → ¬ sm_lor (S 83 p2) (S 83 p1) = (S 83 p2)) := fun a b => sm_lor_ne a rfl rfl b rfl
                have h := h k207
                have k208 : (sv_RL (S 84 p2) → ¬ sm_land (S 84 p1) (sm_lxor (S 84 p2) (-1)) = 0 → ¬ sm_lor (S 84 p2) (S 84 p1) = (S 84 p2)) := fun a b => sm_lor_ne a rfl rfl b rfl
                have h := h k208
                have k209 : (sv_RL (S 85 p2) → ¬ sm_land (S 85 p1) (sm_lxor (S 85 p2) (-1)) = 0 → ¬ sm_lor (S 85 p2) (S 85 p1) = (S 85 p2)) := fun a b => sm_lor_ne a rfl rfl b rfl
                have h := h k209
                have k210 : (sv_RL (S 86 p2) → ¬ sm_land (S 86 p1) (sm_lxor (S 86 p2) (-1)) = 0 → ¬ sm_lor (S 86 p2) (S 86 p1) = (S 86 p2)) := fun a b => sm_lor_ne a rfl rfl b rfl
                have h := h k210
                have k211 : ((S 81 p2) ≤ (if p2 = p2 then (0 : Int) else (S 81 p2)) → (S 82 p2) ≤ (if p2 = p2 then (1 : Int) else (S 82 p2)) → sv_RL (S 83 p2) → sv_RL (S 84 p2) → sv_RL (S 85 p2) → sv_RL (S 86 p2) → (s5 = 0 ∨ s5 = 1) → (s5 = 1 → (S 81 p2) < (if p2 = p2 then (0 : Int) else (S 81 p2)) ∨ (S 82 p2) < (if p2 = p2 then (1 : Int) else (S 82 p2)) ∨ ¬ sm_lor (S 83 p2) (S 83 p1) = (S 83 p2) ∨ ¬ sm_lor (S 84 p2) (S 84 p1) = (S 84 p2) ∨ ¬ sm_lor (S 85 p2) (S 85 p1) = (S 85 p2) ∨ ¬ sm_lor (S 86 p2) (S 86 p1) = (S 86 p2)) → sm_rl (S 81 p2) (S 82 p2) (S 83 p2) (S 84 p2) (S 85 p2) (S 86 p2) + s5 ≤ sm_rl (if p2 = p2 then (0 : Int) else (S 81 p2)) (if p2 = p2 then (1 : Int) else (S 82 p2)) (sm_lor (S 83 p2) (S 83 p1)) (sm_lor (S 84 p2) (S 84 p1)) (sm_lor (S 85 p2) (S 85 p1)) (sm_lor (S 86 p2) (S 86 p1))) := fun h1 h2 a b c d hr hq => sm_rl_join (na := 0) (nb := 0) (nc := 0) (nd := 0) (ea := 0) (eb := 0) (ec := 0) (ed := 0) h1 h2 a b c d rfl rfl rfl rfl hr hq
                have h := h k211
                refine sv_iload_n hM dX12_joinLabel_284 rfl rfl ?_
                obtain ⟨o212, h⟩ := h
                exact sv_iret hM dX12_joinLabel_285 rfl (sv_nz o212) ⟨s5, rfl, sv_R01 o212, ok205, md206, h⟩
          · have h := h.2 (hc)
            refine sv_iconst (d := (1 : Int)) hM dX12_joinLabel_173 rfl rfl ?_
            refine sv_goto hM dX12_joinLabel_174 (pc' := 178) rfl ?_
            refine sv_zast sm_X hM dX12_joinLabel_178 (sm_a81 _) (by decide) o7.1 o7.2 (sv_nnZ (⟨by decide, by decide⟩ : 0 ≤ (1 : Int) ∧ (1 : Int) ≤ 1)) rfl ?_
            have ok213 : sm_ok (sv_up S 81 p2 (1 : Int)) := sm_upZ hok sm_r81 (⟨by decide, by decide⟩ : 0 ≤ (1 : Int) ∧ (1 : Int) ≤ 1)
            have md214 : sv_mod [81, 82, 83, 84, 85, 86] S (sv_up S 81 p2 (1 : Int)) := sv_mod.up sv_mod.rf (by decide)
            refine sv_aload_n hM dX12_joinLabel_179 rfl rfl ?_
            refine sv_getA hM dX12_joinLabel_180 sm_fl_259 (sm_a0 _) sm_k134 rfl ?_
            refine sv_iload_n hM dX12_joinLabel_183 rfl rfl ?_
            refine sv_aload_n hM dX12_joinLabel_184 rfl rfl ?_
            refine sv_getA hM dX12_joinLabel_185 sm_fl_259 (sm_a0 _) sm_k134 rfl ?_
            refine sv_iload_n hM dX12_joinLabel_188 rfl rfl ?_
            have k215 : (0 ≤ (S 82 p2) ∧ (S 82 p2) ≤ 1) := sm_okZ ok213 sm_r82 p2
            have h := h k215
            refine sv_zald hM dX12_joinLabel_189 (sm_a82 _) (by decide) o7.1 o7.2 rfl (x := (S 82 p2)) rfl ?_
            refine sv_cond_ne hM dX12_joinLabel_190 (sv_R01 k215) (t := 202) rfl rfl (fun hc => ?_) (fun hc => ?_)
            · have h := h.1 (hc)
              refine sv_iconst (d := (1 : Int)) hM dX12_joinLabel_202 rfl rfl ?_
              refine sv_goto hM dX12_joinLabel_203 (pc' := 207) rfl ?_
              refine sv_zast sm_X hM dX12_joinLabel_207 (sm_a82 _) (by decide) o7.1 o7.2 (sv_nnZ (⟨by decide, by decide⟩ : 0 ≤ (1 : Int) ∧ (1 : Int) ≤ 1)) rfl ?_
              have ok216 : sm_ok (sv_up (sv_up S 81 p2 (1 : Int)) 82 p2 (1 : Int)) := sm_upZ ok213 sm_r82 (⟨by decide, by decide⟩ : 0 ≤ (1 : Int) ∧ (1 : Int) ≤ 1)
              have md217 : sv_mod [81, 82, 83, 84, 85, 86] S (sv_up (sv_up S 81 p2 (1 : Int)) 82 p2 (1 : Int)) := sv_mod.up md214 (by decide)
              refine sv_aload_n hM dX12_joinLabel_208 rfl rfl ?_
              refine sv_getA hM dX12_joinLabel_209 sm_fl_262 (sm_a0 _) sm_k135 rfl ?_
              refine sv_iload_n hM dX12_joinLabel_212 rfl rfl ?_
              refine sv_aload_n hM dX12_joinLabel_213 rfl rfl ?_
              refine sv_getA hM dX12_joinLabel_214 sm_fl_262 (sm_a0 _) sm_k135 rfl ?_
              refine sv_iload_n hM dX12_joinLabel_217 rfl rfl ?_
              have k218 : sv_RL (S 83 p2) := sm_okJ ok216 sm_r83 p2
              have h := h k218
              refine sv_lald hM dX12_joinLabel_218 (sm_a83 _) (by decide) o7.1 o7.2 rfl (x := (S 83 p2)) rfl ?_
              refine sv_aload_n hM dX12_joinLabel_219 rfl rfl ?_
              refine sv_getA hM dX12_joinLabel_220 sm_fl_262 (sm_a0 _) sm_k135 rfl ?_
              refine sv_iload_n hM dX12_joinLabel_223 rfl rfl ?_
              have k219 : sv_RL (S 83 p1) := sm_okJ ok216 sm_r83 p1
              have h := h k219
              refine sv_lald hM dX12_joinLabel_224 (sm_a83 _) (by decide) o111.1 o111.2 rfl (x := (S 83 p1)) rfl ?_
              refine sv_anyL hM dX12_joinLabel_225 rfl rfl (fun r220 hr220 er220 => ?_)
              have er220v : (sm_lor (S 83 p2) (S 83 p1)) = r220 := er220
              have k221 : sv_RL (sm_lor (S 83 p2) (S 83 p1)) := er220v.symm ▸ hr220
              rw [← er220v]
              have h := h k221
              refine sv_last sm_X hM dX12_joinLabel_226 (sm_a83 _) (by decide) o7.1 o7.2 rfl ?_
              have ok222 : sm_ok (sv_up (sv_up (sv_up S 81 p2 (1 : Int)) 82 p2 (1 : Int)) 83 p2 (sm_lor (S 83 p2) (S 83 p1))) := sm_upJ ok216 sm_r83 k221
              have md223 : sv_mod [81, 82, 83, 84, 85, 86] S (sv_up (sv_up (sv_up S 81 p2 (1 : Int)) 82 p2 (1 : Int)) 83 p2 (sm_lor (S 83 p2) (S 83 p1))) := sv_mod.up md217 (by decide)
              refine sv_aload_n hM dX12_joinLabel_227 rfl rfl ?_
              refine sv_getA hM dX12_joinLabel_228 sm_fl_265 (sm_a0 _) sm_k136 rfl ?_
              refine sv_iload_n hM dX12_joinLabel_231 rfl rfl ?_
              refine sv_aload_n hM dX12_joinLabel_232 rfl rfl ?_
              refine sv_getA hM dX12_joinLabel_233 sm_fl_265 (sm_a0 _) sm_k136 rfl ?_
              refine sv_iload_n hM dX12_joinLabel_236 rfl rfl ?_
              have k224 : sv_RL (S 84 p2) := sm_okJ ok222 sm_r84 p2
              have h := h k224
              refine sv_lald hM dX12_joinLabel_237 (sm_a84 _) (by decide) o7.1 o7.2 rfl (x := (S 84 p2)) rfl ?_
              refine sv_aload_n hM dX12_joinLabel_238 rfl rfl ?_
              refine sv_getA hM dX12_joinLabel_239 sm_fl_265 (sm_a0 _) sm_k136 rfl ?_
              refine sv_iload_n hM dX12_joinLabel_242 rfl rfl ?_
              have k225 : sv_RL (S 84 p1) := sm_okJ ok222 sm_r84 p1
              have h := h k225
              refine sv_lald hM dX12_joinLabel_243 (sm_a84 _) (by decide) o111.1 o111.2 rfl (x := (S 84 p1)) rfl ?_
              refine sv_anyL hM dX12_joinLabel_244 rfl rfl (fun r226 hr226 er226 => ?_)
              have er226v : (sm_lor (S 84 p2) (S 84 p1)) = r226 := er226
              have k227 : sv_RL (sm_lor (S 84 p2) (S 84 p1)) := er226v.symm ▸ hr226
              rw [← er226v]
              have h := h k227
              refine sv_last sm_X hM dX12_joinLabel_245 (sm_a84 _) (by decide) o7.1 o7.2 rfl ?_
              have ok228 : sm_ok (sv_up (sv_up (sv_up (sv_up S 81 p2 (1 : Int)) 82 p2 (1 : Int)) 83 p2 (sm_lor (S 83 p2) (S 83 p1))) 84 p2 (sm_lor (S 84 p2) (S 84 p1))) := sm_upJ ok222 sm_r84 k227
              have md229 : sv_mod [81, 82, 83, 84, 85, 86] S (sv_up (sv_up (sv_up (sv_up S 81 p2 (1 : Int)) 82 p2 (1 : Int)) 83 p2 (sm_lor (S 83 p2) (S 83 p1))) 84 p2 (sm_lor (S 84 p2) (S 84 p1))) := sv_mod.up md223 (by decide)
              refine sv_aload_n hM dX12_joinLabel_246 rfl rfl ?_
              refine sv_getA hM dX12_joinLabel_247 sm_fl_268 (sm_a0 _) sm_k137 rfl ?_
              refine sv_iload_n hM dX12_joinLabel_250 rfl rfl ?_
              refine sv_aload_n hM dX12_joinLabel_251 rfl rfl ?_
              refine sv_getA hM dX12_joinLabel_252 sm_fl_268 (sm_a0 _) sm_k137 rfl ?_
              refine sv_iload_n hM dX12_joinLabel_255 rfl rfl ?_
              have k230 : sv_RL (S 85 p2) := sm_okJ ok228 sm_r85 p2
              have h := h k230
              refine sv_lald hM dX12_joinLabel_256 (sm_a85 _) (by decide) o7.1 o7.2 rfl (x := (S 85 p2)) rfl ?_
              refine sv_aload_n hM dX12_joinLabel_257 rfl rfl ?_
              refine sv_getA hM dX12_joinLabel_258 sm_fl_268 (sm_a0 _) sm_k137 rfl ?_
              refine sv_iload_n hM dX12_joinLabel_261 rfl rfl ?_
              have k231 : sv_RL (S 85 p1) := sm_okJ ok228 sm_r85 p1
              have h := h k231
              refine sv_lald hM dX12_joinLabel_262 (sm_a85 _) (by decide) o111.1 o111.2 rfl (x := (S 85 p1)) rfl ?_
              refine sv_anyL hM dX12_joinLabel_263 rfl rfl (fun r232 hr232 er232 => ?_)
              have er232v : (sm_lor (S 85 p2) (S 85 p1)) = r232 := er232
              have k233 : sv_RL (sm_lor (S 85 p2) (S 85 p1)) := er232v.symm ▸ hr232
              rw [← er232v]
              have h := h k233
              refine sv_last sm_X hM dX12_joinLabel_264 (sm_a85 _) (by decide) o7.1 o7.2 rfl ?_
              have ok234 : sm_ok (sv_up (sv_up (sv_up (sv_up (sv_up S 81 p2 (1 : Int)) 82 p2 (1 : Int)) 83 p2 (sm_lor (S 83 p2) (S 83 p1))) 84 p2 (sm_lor (S 84 p2) (S 84 p1))) 85 p2 (sm_lor (S 85 p2) (S 85 p1))) := sm_upJ ok228 sm_r85 k233
              have md235 : sv_mod [81, 82, 83, 84, 85, 86] S (sv_up (sv_up (sv_up (sv_up (sv_up S 81 p2 (1 : Int)) 82 p2 (1 : Int)) 83 p2 (sm_lor (S 83 p2) (S 83 p1))) 84 p2 (sm_lor (S 84 p2) (S 84 p1))) 85 p2 (sm_lor (S 85 p2) (S 85 p1))) := sv_mod.up md229 (by decide)
              refine sv_aload_n hM dX12_joinLabel_265 rfl rfl ?_
              refine sv_getA hM dX12_joinLabel_266 sm_fl_271 (sm_a0 _) sm_k138 rfl ?_
              refine sv_iload_n hM dX12_joinLabel_269 rfl rfl ?_
              refine sv_aload_n hM dX12_joinLabel_270 rfl rfl ?_
              refine sv_getA hM dX12_joinLabel_271 sm_fl_271 (sm_a0 _) sm_k138 rfl ?_
              refine sv_iload_n hM dX12_joinLabel_274 rfl rfl ?_
              have k236 : sv_RL (S 86 p2) := sm_okJ ok234 sm_r86 p2
              have h := h k236
              refine sv_lald hM dX12_joinLabel_275 (sm_a86 _) (by decide) o7.1 o7.2 rfl (x := (S 86 p2)) rfl ?_
              refine sv_aload_n hM dX12_joinLabel_276 rfl rfl ?_
              refine sv_getA hM dX12_joinLabel_277 sm_fl_271 (sm_a0 _) sm_k138 rfl ?_
              refine sv_iload_n hM dX12_joinLabel_280 rfl rfl ?_
              have k237 : sv_RL (S 86 p1) := sm_okJ ok234 sm_r86 p1
              have h := h k237
              refine sv_lald hM dX12_joinLabel_281 (sm_a86 _) (by decide) o111.1 o111.2 rfl (x := (S 86 p1)) rfl ?_
              refine sv_anyL hM dX12_joinLabel_282 rfl rfl (fun r238 hr238 er238 => ?_)
              have er238v : (sm_lor (S 86 p2) (S 86 p1)) = r238 := er238
              have k239 : sv_RL (sm_lor (S 86 p2) (S 86 p1)) := er238v.symm ▸ hr238
              rw [← er238v]
              have h := h k239
              refine sv_last sm_X hM dX12_joinLabel_283 (sm_a86 _) (by decide) o7.1 o7.2 rfl ?_
              have ok240 : sm_ok (sv_up (sv_up (sv_up (sv_up (sv_up (sv_up S 81 p2 (1 : Int)) 82 p2 (1 : Int)) 83 p2 (sm_lor (S 83 p2) (S 83 p1))) 84 p2 (sm_lor (S 84 p2) (S 84 p1))) 85 p2 (sm_lor (S 85 p2) (S 85 p1))) 86 p2 (sm_lor (S 86 p2) (S 86 p1))) := sm_upJ ok234 sm_r86 k239
              have md241 : sv_mod [81, 82, 83, 84, 85, 86] S (sv_up (sv_up (sv_up (sv_up (sv_up (sv_up S 81 p2 (1 : Int)) 82 p2 (1 : Int)) 83 p2 (sm_lor (S 83 p2) (S 83 p1))) 84 p2 (sm_lor (S 84 p2) (S 84 p1))) 85 p2 (sm_lor (S 85 p2) (S 85 p1))) 86 p2 (sm_lor (S 86 p2) (S 86 p1))) := sv_mod.up md235 (by decide)
              have k242 : (sv_RL (S 83 p2) → ¬ sm_land (S 83 p1) (sm_lxor (S 83 p2) (-1)) = 0 → ¬ sm_lor (S 83 p2) (S 83 p1) = (S 83 p2)) := fun a b => sm_lor_ne a rfl rfl b rfl
              have h := h k242
              have k243 : (sv_RL (S 84 p2) → ¬ sm_land (S 84 p1) (sm_lxor (S 84 p2) (-1)) = 0 → ¬ sm_lor (S 84 p2) (S 84 p1) = (S 84 p2)) := fun a b => sm_lor_ne a rfl rfl b rfl
              have h := h k243
              have k244 : (sv_RL (S 85 p2) → ¬ sm_land (S 85 p1) (sm_lxor (S 85 p2) (-1)) = 0 → ¬ sm_lor (S 85 p2) (S 85 p1) = (S 85 p2)) := fun a b => sm_lor_ne a rfl rfl b rfl
              have h := h k244
              have k245 : (sv_RL (S 86 p2) → ¬ sm_land (S 86 p1) (sm_lxor (S 86 p2) (-1)) = 0 → ¬ sm_lor (S 86 p2) (S 86 p1) = (S 86 p2)) := fun a b => sm_lor_ne a rfl rfl b rfl
              have h := h k245
              have k246 : ((S 81 p2) ≤ (if p2 = p2 then (1 : Int) else (S 81 p2)) → (S 82 p2) ≤ (if p2 = p2 then (1 : Int) else (S 82 p2)) → sv_RL (S 83 p2) → sv_RL (S 84 p2) → sv_RL (S 85 p2) → sv_RL (S 86 p2) → (s5 = 0 ∨ s5 = 1) → (s5 = 1 → (S 81 p2) < (if p2 = p2 then (1 : Int) else (S 81 p2)) ∨ (S 82 p2) < (if p2 = p2 then (1 : Int) else (S 82 p2)) ∨ ¬ sm_lor (S 83 p2) (S 83 p1) = (S 83 p2) ∨ ¬ sm_lor (S 84 p2) (S 84 p1) = (S 84 p2) ∨ ¬ sm_lor (S 85 p2) (S 85 p1) = (S 85 p2) ∨ ¬ sm_lor (S 86 p2) (S 86 p1) = (S 86 p2)) → sm_rl (S 81 p2) (S 82 p2) (S 83 p2) (S 84 p2) (S 85 p2) (S 86 p2) + s5 ≤ sm_rl (if p2 = p2 then (1 : Int) else (S 81 p2)) (if p2 = p2 then (1 : Int) else (S 82 p2)) (sm_lor (S 83 p2) (S 83 p1)) (sm_lor (S 84 p2) (S 84 p1)) (sm_lor (S 85 p2) (S 85 p1)) (sm_lor (S 86 p2) (S 86 p1))) := fun h1 h2 a b c d hr hq => sm_rl_join (na := 0) (nb := 0) (nc := 0) (nd := 0) (ea := 0) (eb := 0) (ec := 0) (ed := 0) h1 h2 a b c d rfl rfl rfl rfl hr hq
              have h := h k246
              refine sv_iload_n hM dX12_joinLabel_284 rfl rfl ?_
              obtain ⟨o247, h⟩ := h
              exact sv_iret hM dX12_joinLabel_285 rfl (sv_nz o247) ⟨s5, rfl, sv_R01 o247, ok240, md241, h⟩
            · have h := h.2 (hc)
              refine sv_aload_n hM dX12_joinLabel_193 rfl rfl ?_
              refine sv_getA hM dX12_joinLabel_194 sm_fl_259 (sm_a0 _) sm_k134 rfl ?_
              refine sv_iload_n hM dX12_joinLabel_197 rfl rfl ?_
              have k248 : (0 ≤ (S 82 p1) ∧ (S 82 p1) ≤ 1) := sm_okZ ok213 sm_r82 p1
              have h := h k248
              refine sv_zald hM dX12_joinLabel_198 (sm_a82 _) (by decide) o111.1 o111.2 rfl (x := (S 82 p1)) rfl ?_
              refine sv_cond_eq hM dX12_joinLabel_199 (sv_R01 k248) (t := 206) rfl rfl (fun hc => ?_) (fun hc => ?_)
              · have h := h.1 (hc)
                refine sv_iconst (d := (0 : Int)) hM dX12_joinLabel_206 rfl rfl ?_
                refine sv_zast sm_X hM dX12_joinLabel_207 (sm_a82 _) (by decide) o7.1 o7.2 (sv_nnZ (⟨by decide, by decide⟩ : 0 ≤ (0 : Int) ∧ (0 : Int) ≤ 1)) rfl ?_
                have ok249 : sm_ok (sv_up (sv_up S 81 p2 (1 : Int)) 82 p2 (0 : Int)) := sm_upZ ok213 sm_r82 (⟨by decide, by decide⟩ : 0 ≤ (0 : Int) ∧ (0 : Int) ≤ 1)
                have md250 : sv_mod [81, 82, 83, 84, 85, 86] S (sv_up (sv_up S 81 p2 (1 : Int)) 82 p2 (0 : Int)) := sv_mod.up md214 (by decide)
                refine sv_aload_n hM dX12_joinLabel_208 rfl rfl ?_
                refine sv_getA hM dX12_joinLabel_209 sm_fl_262 (sm_a0 _) sm_k135 rfl ?_
                refine sv_iload_n hM dX12_joinLabel_212 rfl rfl ?_
                refine sv_aload_n hM dX12_joinLabel_213 rfl rfl ?_
                refine sv_getA hM dX12_joinLabel_214 sm_fl_262 (sm_a0 _) sm_k135 rfl ?_
                refine sv_iload_n hM dX12_joinLabel_217 rfl rfl ?_
                have k251 : sv_RL (S 83 p2) := sm_okJ ok249 sm_r83 p2
                have h := h k251
                refine sv_lald hM dX12_joinLabel_218 (sm_a83 _) (by decide) o7.1 o7.2 rfl (x := (S 83 p2)) rfl ?_
                refine sv_aload_n hM dX12_joinLabel_219 rfl rfl ?_
                refine sv_getA hM dX12_joinLabel_220 sm_fl_262 (sm_a0 _) sm_k135 rfl ?_
                refine sv_iload_n hM dX12_joinLabel_223 rfl rfl ?_
                have k252 : sv_RL (S 83 p1) := sm_okJ ok249 sm_r83 p1
                have h := h k252
                refine sv_lald hM dX12_joinLabel_224 (sm_a83 _) (by decide) o111.1 o111.2 rfl (x := (S 83 p1)) rfl ?_
                refine sv_anyL hM dX12_joinLabel_225 rfl rfl (fun r253 hr253 er253 => ?_)
                have er253v : (sm_lor (S 83 p2) (S 83 p1)) = r253 := er253
                have k254 : sv_RL (sm_lor (S 83 p2) (S 83 p1)) := er253v.symm ▸ hr253
                rw [← er253v]
                have h := h k254
                refine sv_last sm_X hM dX12_joinLabel_226 (sm_a83 _) (by decide) o7.1 o7.2 rfl ?_
                have ok255 : sm_ok (sv_up (sv_up (sv_up S 81 p2 (1 : Int)) 82 p2 (0 : Int)) 83 p2 (sm_lor (S 83 p2) (S 83 p1))) := sm_upJ ok249 sm_r83 k254
                have md256 : sv_mod [81, 82, 83, 84, 85, 86] S (sv_up (sv_up (sv_up S 81 p2 (1 : Int)) 82 p2 (0 : Int)) 83 p2 (sm_lor (S 83 p2) (S 83 p1))) := sv_mod.up md250 (by decide)
                refine sv_aload_n hM dX12_joinLabel_227 rfl rfl ?_
                refine sv_getA hM dX12_joinLabel_228 sm_fl_265 (sm_a0 _) sm_k136 rfl ?_
                refine sv_iload_n hM dX12_joinLabel_231 rfl rfl ?_
                refine sv_aload_n hM dX12_joinLabel_232 rfl rfl ?_
                refine sv_getA hM dX12_joinLabel_233 sm_fl_265 (sm_a0 _) sm_k136 rfl ?_
                refine sv_iload_n hM dX12_joinLabel_236 rfl rfl ?_
                have k257 : sv_RL (S 84 p2) := sm_okJ ok255 sm_r84 p2
                have h := h k257
                refine sv_lald hM dX12_joinLabel_237 (sm_a84 _) (by decide) o7.1 o7.2 rfl (x := (S 84 p2)) rfl ?_
                refine sv_aload_n hM dX12_joinLabel_238 rfl rfl ?_
                refine sv_getA hM dX12_joinLabel_239 sm_fl_265 (sm_a0 _) sm_k136 rfl ?_
                refine sv_iload_n hM dX12_joinLabel_242 rfl rfl ?_
                have k258 : sv_RL (S 84 p1) := sm_okJ ok255 sm_r84 p1
                have h := h k258
                refine sv_lald hM dX12_joinLabel_243 (sm_a84 _) (by decide) o111.1 o111.2 rfl (x := (S 84 p1)) rfl ?_
                refine sv_anyL hM dX12_joinLabel_244 rfl rfl (fun r259 hr259 er259 => ?_)
                have er259v : (sm_lor (S 84 p2) (S 84 p1)) = r259 := er259
                have k260 : sv_RL (sm_lor (S 84 p2) (S 84 p1)) := er259v.symm ▸ hr259
                rw [← er259v]
                have h := h k260
                refine sv_last sm_X hM dX12_joinLabel_245 (sm_a84 _) (by decide) o7.1 o7.2 rfl ?_
                have ok261 : sm_ok (sv_up (sv_up (sv_up (sv_up S 81 p2 (1 : Int)) 82 p2 (0 : Int)) 83 p2 (sm_lor (S 83 p2) (S 83 p1))) 84 p2 (sm_lor (S 84 p2) (S 84 p1))) := sm_upJ ok255 sm_r84 k260
                have md262 : sv_mod [81, 82, 83, 84, 85, 86] S (sv_up (sv_up (sv_up (sv_up S 81 p2 (1 : Int)) 82 p2 (0 : Int)) 83 p2 (sm_lor (S 83 p2) (S 83 p1))) 84 p2 (sm_lor (S 84 p2) (S 84 p1))) := sv_mod.up md256 (by decide)
                refine sv_aload_n hM dX12_joinLabel_246 rfl rfl ?_
                refine sv_getA hM dX12_joinLabel_247 sm_fl_268 (sm_a0 _) sm_k137 rfl ?_
                refine sv_iload_n hM dX12_joinLabel_250 rfl rfl ?_
                refine sv_aload_n hM dX12_joinLabel_251 rfl rfl ?_
                refine sv_getA hM dX12_joinLabel_252 sm_fl_268 (sm_a0 _) sm_k137 rfl ?_
                refine sv_iload_n hM dX12_joinLabel_255 rfl rfl ?_
                have k263 : sv_RL (S 85 p2) := sm_okJ ok261 sm_r85 p2
                have h := h k263
                refine sv_lald hM dX12_joinLabel_256 (sm_a85 _) (by decide) o7.1 o7.2 rfl (x := (S 85 p2)) rfl ?_
                refine sv_aload_n hM dX12_joinLabel_257 rfl rfl ?_
                refine sv_getA hM dX12_joinLabel_258 sm_fl_268 (sm_a0 _) sm_k137 rfl ?_
                refine sv_iload_n hM dX12_joinLabel_261 rfl rfl ?_
                have k264 : sv_RL (S 85 p1) := sm_okJ ok261 sm_r85 p1
                have h := h k264
                refine sv_lald hM dX12_joinLabel_262 (sm_a85 _) (by decide) o111.1 o111.2 rfl (x := (S 85 p1)) rfl ?_
                refine sv_anyL hM dX12_joinLabel_263 rfl rfl (fun r265 hr265 er265 => ?_)
                have er265v : (sm_lor (S 85 p2) (S 85 p1)) = r265 := er265
                have k266 : sv_RL (sm_lor (S 85 p2) (S 85 p1)) := er265v.symm ▸ hr265
                rw [← er265v]
                have h := h k266
                refine sv_last sm_X hM dX12_joinLabel_264 (sm_a85 _) (by decide) o7.1 o7.2 rfl ?_
                have ok267 : sm_ok (sv_up (sv_up (sv_up (sv_up (sv_up S 81 p2 (1 : Int)) 82 p2 (0 : Int)) 83 p2 (sm_lor (S 83 p2) (S 83 p1))) 84 p2 (sm_lor (S 84 p2) (S 84 p1))) 85 p2 (sm_lor (S 85 p2) (S 85 p1))) := sm_upJ ok261 sm_r85 k266
                have md268 : sv_mod [81, 82, 83, 84, 85, 86] S (sv_up (sv_up (sv_up (sv_up (sv_up S 81 p2 (1 : Int)) 82 p2 (0 : Int)) 83 p2 (sm_lor (S 83 p2) (S 83 p1))) 84 p2 (sm_lor (S 84 p2) (S 84 p1))) 85 p2 (sm_lor (S 85 p2) (S 85 p1))) := sv_mod.up md262 (by decide)
                refine sv_aload_n hM dX12_joinLabel_265 rfl rfl ?_
                refine sv_getA hM dX12_joinLabel_266 sm_fl_271 (sm_a0 _) sm_k138 rfl ?_
                refine sv_iload_n hM dX12_joinLabel_269 rfl rfl ?_
                refine sv_aload_n hM dX12_joinLabel_270 rfl rfl ?_
                refine sv_getA hM dX12_joinLabel_271 sm_fl_271 (sm_a0 _) sm_k138 rfl ?_
                refine sv_iload_n hM dX12_joinLabel_274 rfl rfl ?_
                have k269 : sv_RL (S 86 p2) := sm_okJ ok267 sm_r86 p2
                have h := h k269
                refine sv_lald hM dX12_joinLabel_275 (sm_a86 _) (by decide) o7.1 o7.2 rfl (x := (S 86 p2)) rfl ?_
                refine sv_aload_n hM dX12_joinLabel_276 rfl rfl ?_
                refine sv_getA hM dX12_joinLabel_277 sm_fl_271 (sm_a0 _) sm_k138 rfl ?_
                refine sv_iload_n hM dX12_joinLabel_280 rfl rfl ?_
                have k270 : sv_RL (S 86 p1) := sm_okJ ok267 sm_r86 p1
                have h := h k270
                refine sv_lald hM dX12_joinLabel_281 (sm_a86 _) (by decide) o111.1 o111.2 rfl (x := (S 86 p1)) rfl ?_
                refine sv_anyL hM dX12_joinLabel_282 rfl rfl (fun r271 hr271 er271 => ?_)
                have er271v : (sm_lor (S 86 p2) (S 86 p1)) = r271 := er271
                have k272 : sv_RL (sm_lor (S 86 p2) (S 86 p1)) := er271v.symm ▸ hr271
                rw [← er271v]
                have h := h k272
                refine sv_last sm_X hM dX12_joinLabel_283 (sm_a86 _) (by decide) o7.1 o7.2 rfl ?_
                have ok273 : sm_ok (sv_up (sv_up (sv_up (sv_up (sv_up (sv_up S 81 p2 (1 : Int)) 82 p2 (0 : Int)) 83 p2 (sm_lor (S 83 p2) (S 83 p1))) 84 p2 (sm_lor (S 84 p2) (S 84 p1))) 85 p2 (sm_lor (S 85 p2) (S 85 p1))) 86 p2 (sm_lor (S 86 p2) (S 86 p1))) := sm_upJ ok267 sm_r86 k272
                have md274 : sv_mod [81, 82, 83, 84, 85, 86] S (sv_up (sv_up (sv_up (sv_up (sv_up (sv_up S 81 p2 (1 : Int)) 82 p2 (0 : Int)) 83 p2 (sm_lor (S 83 p2) (S 83 p1))) 84 p2 (sm_lor (S 84 p2) (S 84 p1))) 85 p2 (sm_lor (S 85 p2) (S 85 p1))) 86 p2 (sm_lor (S 86 p2) (S 86 p1))) := sv_mod.up md268 (by decide)
                have k275 : (sv_RL (S 83 p2) → ¬ sm_land (S 83 p1) (sm_lxor (S 83 p2) (-1)) = 0 → ¬ sm_lor (S 83 p2) (S 83 p1) = (S 83 p2)) := fun a b => sm_lor_ne a rfl rfl b rfl
                have h := h k275
                have k276 : (sv_RL (S 84 p2) → ¬ sm_land (S 84 p1) (sm_lxor (S 84 p2) (-1)) = 0 → ¬ sm_lor (S 84 p2) (S 84 p1) = (S 84 p2)) := fun a b => sm_lor_ne a rfl rfl b rfl
                have h := h k276
                have k277 : (sv_RL (S 85 p2) → ¬ sm_land (S 85 p1) (sm_lxor (S 85 p2) (-1)) = 0 → ¬ sm_lor (S 85 p2) (S 85 p1) = (S 85 p2)) := fun a b => sm_lor_ne a rfl rfl b rfl
                have h := h k277
                have k278 : (sv_RL (S 86 p2) → ¬ sm_land (S 86 p1) (sm_lxor (S 86 p2) (-1)) = 0 → ¬ sm_lor (S 86 p2) (S 86 p1) = (S 86 p2)) := fun a b => sm_lor_ne a rfl rfl b rfl
                have h := h k278
                have k279 : ((S 81 p2) ≤ (if p2 = p2 then (1 : Int) else (S 81 p2)) → (S 82 p2) ≤ (if p2 = p2 then (0 : Int) else (S 82 p2)) → sv_RL (S 83 p2) → sv_RL (S 84 p2) → sv_RL (S 85 p2) → sv_RL (S 86 p2) → (s5 = 0 ∨ s5 = 1) → (s5 = 1 → (S 81 p2) < (if p2 = p2 then (1 : Int) else (S 81 p2)) ∨ (S 82 p2) < (if p2 = p2 then (0 : Int) else (S 82 p2)) ∨ ¬ sm_lor (S 83 p2) (S 83 p1) = (S 83 p2) ∨ ¬ sm_lor (S 84 p2) (S 84 p1) = (S 84 p2) ∨ ¬ sm_lor (S 85 p2) (S 85 p1) = (S 85 p2) ∨ ¬ sm_lor (S 86 p2) (S 86 p1) = (S 86 p2)) → sm_rl (S 81 p2) (S 82 p2) (S 83 p2) (S 84 p2) (S 85 p2) (S 86 p2) + s5 ≤ sm_rl (if p2 = p2 then (1 : Int) else (S 81 p2)) (if p2 = p2 then (0 : Int) else (S 82 p2)) (sm_lor (S 83 p2) (S 83 p1)) (sm_lor (S 84 p2) (S 84 p1)) (sm_lor (S 85 p2) (S 85 p1)) (sm_lor (S 86 p2) (S 86 p1))) := fun h1 h2 a b c d hr hq => sm_rl_join (na := 0) (nb := 0) (nc := 0) (nd := 0) (ea := 0) (eb := 0) (ec := 0) (ed := 0) h1 h2 a b c d rfl rfl rfl rfl hr hq
                have h := h k279
                refine sv_iload_n hM dX12_joinLabel_284 rfl rfl ?_
                obtain ⟨o280, h⟩ := h
                exact sv_iret hM dX12_joinLabel_285 rfl (sv_nz o280) ⟨s5, rfl, sv_R01 o280, ok273, md274, h⟩
              · have h := h.2 (hc)
                refine sv_iconst (d := (1 : Int)) hM dX12_joinLabel_202 rfl rfl ?_
                refine sv_goto hM dX12_joinLabel_203 (pc' := 207) rfl ?_
                refine sv_zast sm_X hM dX12_joinLabel_207 (sm_a82 _) (by decide) o7.1 o7.2 (sv_nnZ (⟨by decide, by decide⟩ : 0 ≤ (1 : Int) ∧ (1 : Int) ≤ 1)) rfl ?_
                have ok281 : sm_ok (sv_up (sv_up S 81 p2 (1 : Int)) 82 p2 (1 : Int)) := sm_upZ ok213 sm_r82 (⟨by decide, by decide⟩ : 0 ≤ (1 : Int) ∧ (1 : Int) ≤ 1)
                have md282 : sv_mod [81, 82, 83, 84, 85, 86] S (sv_up (sv_up S 81 p2 (1 : Int)) 82 p2 (1 : Int)) := sv_mod.up md214 (by decide)
                refine sv_aload_n hM dX12_joinLabel_208 rfl rfl ?_
                refine sv_getA hM dX12_joinLabel_209 sm_fl_262 (sm_a0 _) sm_k135 rfl ?_
                refine sv_iload_n hM dX12_joinLabel_212 rfl rfl ?_
                refine sv_aload_n hM dX12_joinLabel_213 rfl rfl ?_
                refine sv_getA hM dX12_joinLabel_214 sm_fl_262 (sm_a0 _) sm_k135 rfl ?_
                refine sv_iload_n hM dX12_joinLabel_217 rfl rfl ?_
                have k283 : sv_RL (S 83 p2) := sm_okJ ok281 sm_r83 p2
                have h := h k283
                refine sv_lald hM dX12_joinLabel_218 (sm_a83 _) (by decide) o7.1 o7.2 rfl (x := (S 83 p2)) rfl ?_
                refine sv_aload_n hM dX12_joinLabel_219 rfl rfl ?_
                refine sv_getA hM dX12_joinLabel_220 sm_fl_262 (sm_a0 _) sm_k135 rfl ?_
                refine sv_iload_n hM dX12_joinLabel_223 rfl rfl ?_
                have k284 : sv_RL (S 83 p1) := sm_okJ ok281 sm_r83 p1
                have h := h k284
                refine sv_lald hM dX12_joinLabel_224 (sm_a83 _) (by decide) o111.1 o111.2 rfl (x := (S 83 p1)) rfl ?_
                refine sv_anyL hM dX12_joinLabel_225 rfl rfl (fun r285 hr285 er285 => ?_)
                have er285v : (sm_lor (S 83 p2) (S 83 p1)) = r285 := er285
                have k286 : sv_RL (sm_lor (S 83 p2) (S 83 p1)) := er285v.symm ▸ hr285
                rw [← er285v]
                have h := h k286
                refine sv_last sm_X hM dX12_joinLabel_226 (sm_a83 _) (by decide) o7.1 o7.2 rfl ?_
                have ok287 : sm_ok (sv_up (sv_up (sv_up S 81 p2 (1 : Int)) 82 p2 (1 : Int)) 83 p2 (sm_lor (S 83 p2) (S 83 p1))) := sm_upJ ok281 sm_r83 k286
                have md288 : sv_mod [81, 82, 83, 84, 85, 86] S (sv_up (sv_up (sv_up S 81 p2 (1 : Int)) 82 p2 (1 : Int)) 83 p2 (sm_lor (S 83 p2) (S 83 p1))) := sv_mod.up md282 (by decide)
                refine sv_aload_n hM dX12_joinLabel_227 rfl rfl ?_
                refine sv_getA hM dX12_joinLabel_228 sm_fl_265 (sm_a0 _) sm_k136 rfl ?_
                refine sv_iload_n hM dX12_joinLabel_231 rfl rfl ?_
                refine sv_aload_n hM dX12_joinLabel_232 rfl rfl ?_
                refine sv_getA hM dX12_joinLabel_233 sm_fl_265 (sm_a0 _) sm_k136 rfl ?_
                refine sv_iload_n hM dX12_joinLabel_236 rfl rfl ?_
                have k289 : sv_RL (S 84 p2) := sm_okJ ok287 sm_r84 p2
                have h := h k289
                refine sv_lald hM dX12_joinLabel_237 (sm_a84 _) (by decide) o7.1 o7.2 rfl (x := (S 84 p2)) rfl ?_
                refine sv_aload_n hM dX12_joinLabel_238 rfl rfl ?_
                refine sv_getA hM dX12_joinLabel_239 sm_fl_265 (sm_a0 _) sm_k136 rfl ?_
                refine sv_iload_n hM dX12_joinLabel_242 rfl rfl ?_
                have k290 : sv_RL (S 84 p1) := sm_okJ ok287 sm_r84 p1
                have h := h k290
                refine sv_lald hM dX12_joinLabel_243 (sm_a84 _) (by decide) o111.1 o111.2 rfl (x := (S 84 p1)) rfl ?_
                refine sv_anyL hM dX12_joinLabel_244 rfl rfl (fun r291 hr291 er291 => ?_)
                have er291v : (sm_lor (S 84 p2) (S 84 p1)) = r291 := er291
                have k292 : sv_RL (sm_lor (S 84 p2) (S 84 p1)) := er291v.symm ▸ hr291
                rw [← er291v]
                have h := h k292
                refine sv_last sm_X hM dX12_joinLabel_245 (sm_a84 _) (by decide) o7.1 o7.2 rfl ?_
                have ok293 : sm_ok (sv_up (sv_up (sv_up (sv_up S 81 p2 (1 : Int)) 82 p2 (1 : Int)) 83 p2 (sm_lor (S 83 p2) (S 83 p1))) 84 p2 (sm_lor (S 84 p2) (S 84 p1))) := sm_upJ ok287 sm_r84 k292
                have md294 : sv_mod [81, 82, 83, 84, 85, 86] S (sv_up (sv_up (sv_up (sv_up S 81 p2 (1 : Int)) 82 p2 (1 : Int)) 83 p2 (sm_lor (S 83 p2) (S 83 p1))) 84 p2 (sm_lor (S 84 p2) (S 84 p1))) := sv_mod.up md288 (by decide)
                refine sv_aload_n hM dX12_joinLabel_246 rfl rfl ?_
                refine sv_getA hM dX12_joinLabel_247 sm_fl_268 (sm_a0 _) sm_k137 rfl ?_
                refine sv_iload_n hM dX12_joinLabel_250 rfl rfl ?_
                refine sv_aload_n hM dX12_joinLabel_251 rfl rfl ?_
                refine sv_getA hM dX12_joinLabel_252 sm_fl_268 (sm_a0 _) sm_k137 rfl ?_
                refine sv_iload_n hM dX12_joinLabel_255 rfl rfl ?_
                have k295 : sv_RL (S 85 p2) := sm_okJ ok293 sm_r85 p2
                have h := h k295
                refine sv_lald hM dX12_joinLabel_256 (sm_a85 _) (by decide) o7.1 o7.2 rfl (x := (S 85 p2)) rfl ?_
                refine sv_aload_n hM dX12_joinLabel_257 rfl rfl ?_
                refine sv_getA hM dX12_joinLabel_258 sm_fl_268 (sm_a0 _) sm_k137 rfl ?_
                refine sv_iload_n hM dX12_joinLabel_261 rfl rfl ?_
                have k296 : sv_RL (S 85 p1) := sm_okJ ok293 sm_r85 p1
                have h := h k296
                refine sv_lald hM dX12_joinLabel_262 (sm_a85 _) (by decide) o111.1 o111.2 rfl (x := (S 85 p1)) rfl ?_
                refine sv_anyL hM dX12_joinLabel_263 rfl rfl (fun r297 hr297 er297 => ?_)
                have er297v : (sm_lor (S 85 p2) (S 85 p1)) = r297 := er297
                have k298 : sv_RL (sm_lor (S 85 p2) (S 85 p1)) := er297v.symm ▸ hr297
                rw [← er297v]
                have h := h k298
                refine sv_last sm_X hM dX12_joinLabel_264 (sm_a85 _) (by decide) o7.1 o7.2 rfl ?_
                have ok299 : sm_ok (sv_up (sv_up (sv_up (sv_up (sv_up S 81 p2 (1 : Int)) 82 p2 (1 : Int)) 83 p2 (sm_lor (S 83 p2) (S 83 p1))) 84 p2 (sm_lor (S 84 p2) (S 84 p1))) 85 p2 (sm_lor (S 85 p2) (S 85 p1))) := sm_upJ ok293 sm_r85 k298
                have md300 : sv_mod [81, 82, 83, 84, 85, 86] S (sv_up (sv_up (sv_up (sv_up (sv_up S 81 p2 (1 : Int)) 82 p2 (1 : Int)) 83 p2 (sm_lor (S 83 p2) (S 83 p1))) 84 p2 (sm_lor (S 84 p2) (S 84 p1))) 85 p2 (sm_lor (S 85 p2) (S 85 p1))) := sv_mod.up md294 (by decide)
                refine sv_aload_n hM dX12_joinLabel_265 rfl rfl ?_
                refine sv_getA hM dX12_joinLabel_266 sm_fl_271 (sm_a0 _) sm_k138 rfl ?_
                refine sv_iload_n hM dX12_joinLabel_269 rfl rfl ?_
                refine sv_aload_n hM dX12_joinLabel_270 rfl rfl ?_
                refine sv_getA hM dX12_joinLabel_271 sm_fl_271 (sm_a0 _) sm_k138 rfl ?_
                refine sv_iload_n hM dX12_joinLabel_274 rfl rfl ?_
                have k301 : sv_RL (S 86 p2) := sm_okJ ok299 sm_r86 p2
                have h := h k301
                refine sv_lald hM dX12_joinLabel_275 (sm_a86 _) (by decide) o7.1 o7.2 rfl (x := (S 86 p2)) rfl ?_
                refine sv_aload_n hM dX12_joinLabel_276 rfl rfl ?_
                refine sv_getA hM dX12_joinLabel_277 sm_fl_271 (sm_a0 _) sm_k138 rfl ?_
                refine sv_iload_n hM dX12_joinLabel_280 rfl rfl ?_
                have k302 : sv_RL (S 86 p1) := sm_okJ ok299 sm_r86 p1
                have h := h k302
                refine sv_lald hM dX12_joinLabel_281 (sm_a86 _) (by decide) o111.1 o111.2 rfl (x := (S 86 p1)) rfl ?_
                refine sv_anyL hM dX12_joinLabel_282 rfl rfl (fun r303 hr303 er303 => ?_)
                have er303v : (sm_lor (S 86 p2) (S 86 p1)) = r303 := er303
                have k304 : sv_RL (sm_lor (S 86 p2) (S 86 p1)) := er303v.symm ▸ hr303
                rw [← er303v]
                have h := h k304
                refine sv_last sm_X hM dX12_joinLabel_283 (sm_a86 _) (by decide) o7.1 o7.2 rfl ?_
                have ok305 : sm_ok (sv_up (sv_up (sv_up (sv_up (sv_up (sv_up S 81 p2 (1 : Int)) 82 p2 (1 : Int)) 83 p2 (sm_lor (S 83 p2) (S 83 p1))) 84 p2 (sm_lor (S 84 p2) (S 84 p1))) 85 p2 (sm_lor (S 85 p2) (S 85 p1))) 86 p2 (sm_lor (S 86 p2) (S 86 p1))) := sm_upJ ok299 sm_r86 k304
                have md306 : sv_mod [81, 82, 83, 84, 85, 86] S (sv_up (sv_up (sv_up (sv_up (sv_up (sv_up S 81 p2 (1 : Int)) 82 p2 (1 : Int)) 83 p2 (sm_lor (S 83 p2) (S 83 p1))) 84 p2 (sm_lor (S 84 p2) (S 84 p1))) 85 p2 (sm_lor (S 85 p2) (S 85 p1))) 86 p2 (sm_lor (S 86 p2) (S 86 p1))) := sv_mod.up md300 (by decide)
                have k307 : (sv_RL (S 83 p2) → ¬ sm_land (S 83 p1) (sm_lxor (S 83 p2) (-1)) = 0 → ¬ sm_lor (S 83 p2) (S 83 p1) = (S 83 p2)) := fun a b => sm_lor_ne a rfl rfl b rfl
                have h := h k307
                have k308 : (sv_RL (S 84 p2) → ¬ sm_land (S 84 p1) (sm_lxor (S 84 p2) (-1)) = 0 → ¬ sm_lor (S 84 p2) (S 84 p1) = (S 84 p2)) := fun a b => sm_lor_ne a rfl rfl b rfl
                have h := h k308
                have k309 : (sv_RL (S 85 p2) → ¬ sm_land (S 85 p1) (sm_lxor (S 85 p2) (-1)) = 0 → ¬ sm_lor (S 85 p2) (S 85 p1) = (S 85 p2)) := fun a b => sm_lor_ne a rfl rfl b rfl
                have h := h k309
                have k310 : (sv_RL (S 86 p2) → ¬ sm_land (S 86 p1) (sm_lxor (S 86 p2) (-1)) = 0 → ¬ sm_lor (S 86 p2) (S 86 p1) = (S 86 p2)) := fun a b => sm_lor_ne a rfl rfl b rfl
                have h := h k310
                have k311 : ((S 81 p2) ≤ (if p2 = p2 then (1 : Int) else (S 81 p2)) → (S 82 p2) ≤ (if p2 = p2 then (1 : Int) else (S 82 p2)) → sv_RL (S 83 p2) → sv_RL (S 84 p2) → sv_RL (S 85 p2) → sv_RL (S 86 p2) → (s5 = 0 ∨ s5 = 1) → (s5 = 1 → (S 81 p2) < (if p2 = p2 then (1 : Int) else (S 81 p2)) ∨ (S 82 p2) < (if p2 = p2 then (1 : Int) else (S 82 p2)) ∨ ¬ sm_lor (S 83 p2) (S 83 p1) = (S 83 p2) ∨ ¬ sm_lor (S 84 p2) (S 84 p1) = (S 84 p2) ∨ ¬ sm_lor (S 85 p2) (S 85 p1) = (S 85 p2) ∨ ¬ sm_lor (S 86 p2) (S 86 p1) = (S 86 p2)) → sm_rl (S 81 p2) (S 82 p2) (S 83 p2) (S 84 p2) (S 85 p2) (S 86 p2) + s5 ≤ sm_rl (if p2 = p2 then (1 : Int) else (S 81 p2)) (if p2 = p2 then (1 : Int) else (S 82 p2)) (sm_lor (S 83 p2) (S 83 p1)) (sm_lor (S 84 p2) (S 84 p1)) (sm_lor (S 85 p2) (S 85 p1)) (sm_lor (S 86 p2) (S 86 p1))) := fun h1 h2 a b c d hr hq => sm_rl_join (na := 0) (nb := 0) (nc := 0) (nd := 0) (ea := 0) (eb := 0) (ec := 0) (ed := 0) h1 h2 a b c d rfl rfl rfl rfl hr hq
                have h := h k311
                refine sv_iload_n hM dX12_joinLabel_284 rfl rfl ?_
                obtain ⟨o312, h⟩ := h
                exact sv_iret hM dX12_joinLabel_285 rfl (sv_nz o312) ⟨s5, rfl, sv_R01 o312, ok305, md306, h⟩
      have h := h.2
      refine sv_iload_n hM dX12_joinLabel_96 rfl rfl ?_
      refine sv_cond_ne hM dX12_joinLabel_97 hs3 (t := 144) rfl rfl (fun hc => ?_) (fun hc => ?_)
      · have h := h.1 (hc)
        refine sv_iconst (d := (1 : Int)) hM dX12_joinLabel_144 rfl rfl ?_
        refine sv_goto hM dX12_joinLabel_145 (pc' := 149) rfl ?_
        have hb := J313 (1 : Int) (⟨by decide, by decide⟩ : sv_R (1 : Int)) h
        exact sv_less (lv := [(0, .ref 0), (1, sv_I p1), (2, sv_I p2), (3, sv_I s3)]) (sv_Sub_cons rfl (sv_Sub_cons rfl (sv_Sub_cons rfl (sv_Sub_cons rfl sv_Sub_nil)))) hb
      · have h := h.2 (hc)
        refine sv_aload_n hM dX12_joinLabel_100 rfl rfl ?_
        refine sv_getA hM dX12_joinLabel_101 sm_fl_268 (sm_a0 _) sm_k137 rfl ?_
        refine sv_iload_n hM dX12_joinLabel_104 rfl rfl ?_
        obtain ⟨o314, h⟩ := h
        have k315 : sv_RL (S 85 p1) := sm_okJ hok sm_r85 p1
        have h := h k315
        refine sv_lald hM dX12_joinLabel_105 (sm_a85 _) (by decide) o314.1 o314.2 rfl (x := (S 85 p1)) rfl ?_
        refine sv_aload_n hM dX12_joinLabel_106 rfl rfl ?_
        refine sv_getA hM dX12_joinLabel_107 sm_fl_268 (sm_a0 _) sm_k137 rfl ?_
        refine sv_iload_n hM dX12_joinLabel_110 rfl rfl ?_
        obtain ⟨o316, h⟩ := h
        have k317 : sv_RL (S 85 p2) := sm_okJ hok sm_r85 p2
        have h := h k317
        refine sv_lald hM dX12_joinLabel_111 (sm_a85 _) (by decide) o316.1 o316.2 rfl (x := (S 85 p2)) rfl ?_
        refine sv_ldc2_w (d := (-1 : Int)) hM dX12_joinLabel_112 sm_ck_1110 rfl rfl ?_
        refine sv_anyL hM dX12_joinLabel_115 rfl rfl (fun r318 hr318 er318 => ?_)
        have er318v : (sm_lxor (S 85 p2) (-1 : Int)) = r318 := er318
        have k319 : sv_RL (sm_lxor (S 85 p2) (-1 : Int)) := er318v.symm ▸ hr318
        rw [← er318v]
        have h := h k319
        refine sv_anyL hM dX12_joinLabel_116 rfl rfl (fun r320 hr320 er320 => ?_)
        have er320v : (sm_land (S 85 p1) (sm_lxor (S 85 p2) (-1 : Int))) = r320 := er320
        have k321 : sv_RL (sm_land (S 85 p1) (sm_lxor (S 85 p2) (-1 : Int))) := er320v.symm ▸ hr320
        rw [← er320v]
        have h := h k321
        refine sv_lconst (d := (0 : Int)) hM dX12_joinLabel_117 rfl rfl ?_
        refine sv_lcmp hM dX12_joinLabel_118 k321 (⟨by decide, by decide⟩ : sv_RL (0 : Int)) rfl ?_
        refine sv_cond_ne hM dX12_joinLabel_119 sv_Rcmp (t := 144) rfl rfl (fun hc => ?_) (fun hc => ?_)
        · have h := h.1 ((sv_cmp_ne).mp hc)
          refine sv_iconst (d := (1 : Int)) hM dX12_joinLabel_144 rfl rfl ?_
          refine sv_goto hM dX12_joinLabel_145 (pc' := 149) rfl ?_
          have hb := J313 (1 : Int) (⟨by decide, by decide⟩ : sv_R (1 : Int)) h
          exact sv_less (lv := [(0, .ref 0), (1, sv_I p1), (2, sv_I p2), (3, sv_I s3)]) (sv_Sub_cons rfl (sv_Sub_cons rfl (sv_Sub_cons rfl (sv_Sub_cons rfl sv_Sub_nil)))) hb
        · have h := h.2 (fun q => hc ((sv_cmp_ne).mpr q))
          refine sv_aload_n hM dX12_joinLabel_122 rfl rfl ?_
          refine sv_getA hM dX12_joinLabel_123 sm_fl_271 (sm_a0 _) sm_k138 rfl ?_
          refine sv_iload_n hM dX12_joinLabel_126 rfl rfl ?_
          have k322 : sv_RL (S 86 p1) := sm_okJ hok sm_r86 p1
          have h := h k322
          refine sv_lald hM dX12_joinLabel_127 (sm_a86 _) (by decide) o314.1 o314.2 rfl (x := (S 86 p1)) rfl ?_
          refine sv_aload_n hM dX12_joinLabel_128 rfl rfl ?_
          refine sv_getA hM dX12_joinLabel_129 sm_fl_271 (sm_a0 _) sm_k138 rfl ?_
          refine sv_iload_n hM dX12_joinLabel_132 rfl rfl ?_
          have k323 : sv_RL (S 86 p2) := sm_okJ hok sm_r86 p2
          have h := h k323
          refine sv_lald hM dX12_joinLabel_133 (sm_a86 _) (by decide) o316.1 o316.2 rfl (x := (S 86 p2)) rfl ?_
          refine sv_ldc2_w (d := (-1 : Int)) hM dX12_joinLabel_134 sm_ck_1110 rfl rfl ?_
          refine sv_anyL hM dX12_joinLabel_137 rfl rfl (fun r324 hr324 er324 => ?_)
          have er324v : (sm_lxor (S 86 p2) (-1 : Int)) = r324 := er324
          have k325 : sv_RL (sm_lxor (S 86 p2) (-1 : Int)) := er324v.symm ▸ hr324
          rw [← er324v]
          have h := h k325
          refine sv_anyL hM dX12_joinLabel_138 rfl rfl (fun r326 hr326 er326 => ?_)
          have er326v : (sm_land (S 86 p1) (sm_lxor (S 86 p2) (-1 : Int))) = r326 := er326
          have k327 : sv_RL (sm_land (S 86 p1) (sm_lxor (S 86 p2) (-1 : Int))) := er326v.symm ▸ hr326
          rw [← er326v]
          have h := h k327
          refine sv_lconst (d := (0 : Int)) hM dX12_joinLabel_139 rfl rfl ?_
          refine sv_lcmp hM dX12_joinLabel_140 k327 (⟨by decide, by decide⟩ : sv_RL (0 : Int)) rfl ?_
          refine sv_cond_eq hM dX12_joinLabel_141 sv_Rcmp (t := 148) rfl rfl (fun hc => ?_) (fun hc => ?_)
          · have h := h.1 ((sv_cmp_eq).mp hc)
            refine sv_iconst (d := (0 : Int)) hM dX12_joinLabel_148 rfl rfl ?_
            have hb := J313 (0 : Int) (⟨by decide, by decide⟩ : sv_R (0 : Int)) h
            exact sv_less (lv := [(0, .ref 0), (1, sv_I p1), (2, sv_I p2), (3, sv_I s3)]) (sv_Sub_cons rfl (sv_Sub_cons rfl (sv_Sub_cons rfl (sv_Sub_cons rfl sv_Sub_nil)))) hb
          · have h := h.2 (fun q => hc ((sv_cmp_eq).mpr q))
            refine sv_iconst (d := (1 : Int)) hM dX12_joinLabel_144 rfl rfl ?_
            refine sv_goto hM dX12_joinLabel_145 (pc' := 149) rfl ?_
            have hb := J313 (1 : Int) (⟨by decide, by decide⟩ : sv_R (1 : Int)) h
            exact sv_less (lv := [(0, .ref 0), (1, sv_I p1), (2, sv_I p2), (3, sv_I s3)]) (sv_Sub_cons rfl (sv_Sub_cons rfl (sv_Sub_cons rfl (sv_Sub_cons rfl sv_Sub_nil)))) hb
    have h := h.2
    refine sv_iload_n hM dX12_joinLabel_42 rfl rfl ?_
    refine sv_cond_ne hM dX12_joinLabel_43 hs1 (t := 90) rfl rfl (fun hc => ?_) (fun hc => ?_)
    · have h := h.1 (hc)
      refine sv_iconst (d := (1 : Int)) hM dX12_joinLabel_90 rfl rfl ?_
      refine sv_goto hM dX12_joinLabel_91 (pc' := 95) rfl ?_
      have hb := J328 (1 : Int) (⟨by decide, by decide⟩ : sv_R (1 : Int)) h
      exact sv_less (lv := [(0, .ref 0), (1, sv_I p1), (2, sv_I p2), (3, sv_I s1)]) (sv_Sub_cons rfl (sv_Sub_cons rfl (sv_Sub_cons rfl (sv_Sub_cons rfl sv_Sub_nil)))) hb
    · have h := h.2 (hc)
      refine sv_aload_n hM dX12_joinLabel_46 rfl rfl ?_
      refine sv_getA hM dX12_joinLabel_47 sm_fl_262 (sm_a0 _) sm_k135 rfl ?_
      refine sv_iload_n hM dX12_joinLabel_50 rfl rfl ?_
      obtain ⟨o329, h⟩ := h
      have k330 : sv_RL (S 83 p1) := sm_okJ hok sm_r83 p1
      have h := h k330
      refine sv_lald hM dX12_joinLabel_51 (sm_a83 _) (by decide) o329.1 o329.2 rfl (x := (S 83 p1)) rfl ?_
      refine sv_aload_n hM dX12_joinLabel_52 rfl rfl ?_
      refine sv_getA hM dX12_joinLabel_53 sm_fl_262 (sm_a0 _) sm_k135 rfl ?_
      refine sv_iload_n hM dX12_joinLabel_56 rfl rfl ?_
      obtain ⟨o331, h⟩ := h
      have k332 : sv_RL (S 83 p2) := sm_okJ hok sm_r83 p2
      have h := h k332
      refine sv_lald hM dX12_joinLabel_57 (sm_a83 _) (by decide) o331.1 o331.2 rfl (x := (S 83 p2)) rfl ?_
      refine sv_ldc2_w (d := (-1 : Int)) hM dX12_joinLabel_58 sm_ck_1110 rfl rfl ?_
      refine sv_anyL hM dX12_joinLabel_61 rfl rfl (fun r333 hr333 er333 => ?_)
      have er333v : (sm_lxor (S 83 p2) (-1 : Int)) = r333 := er333
      have k334 : sv_RL (sm_lxor (S 83 p2) (-1 : Int)) := er333v.symm ▸ hr333
      rw [← er333v]
      have h := h k334
      refine sv_anyL hM dX12_joinLabel_62 rfl rfl (fun r335 hr335 er335 => ?_)
      have er335v : (sm_land (S 83 p1) (sm_lxor (S 83 p2) (-1 : Int))) = r335 := er335
      have k336 : sv_RL (sm_land (S 83 p1) (sm_lxor (S 83 p2) (-1 : Int))) := er335v.symm ▸ hr335
      rw [← er335v]
      have h := h k336
      refine sv_lconst (d := (0 : Int)) hM dX12_joinLabel_63 rfl rfl ?_
      refine sv_lcmp hM dX12_joinLabel_64 k336 (⟨by decide, by decide⟩ : sv_RL (0 : Int)) rfl ?_
      refine sv_cond_ne hM dX12_joinLabel_65 sv_Rcmp (t := 90) rfl rfl (fun hc => ?_) (fun hc => ?_)
      · have h := h.1 ((sv_cmp_ne).mp hc)
        refine sv_iconst (d := (1 : Int)) hM dX12_joinLabel_90 rfl rfl ?_
        refine sv_goto hM dX12_joinLabel_91 (pc' := 95) rfl ?_
        have hb := J328 (1 : Int) (⟨by decide, by decide⟩ : sv_R (1 : Int)) h
        exact sv_less (lv := [(0, .ref 0), (1, sv_I p1), (2, sv_I p2), (3, sv_I s1)]) (sv_Sub_cons rfl (sv_Sub_cons rfl (sv_Sub_cons rfl (sv_Sub_cons rfl sv_Sub_nil)))) hb
      · have h := h.2 (fun q => hc ((sv_cmp_ne).mpr q))
        refine sv_aload_n hM dX12_joinLabel_68 rfl rfl ?_
        refine sv_getA hM dX12_joinLabel_69 sm_fl_265 (sm_a0 _) sm_k136 rfl ?_
        refine sv_iload_n hM dX12_joinLabel_72 rfl rfl ?_
        have k337 : sv_RL (S 84 p1) := sm_okJ hok sm_r84 p1
        have h := h k337
        refine sv_lald hM dX12_joinLabel_73 (sm_a84 _) (by decide) o329.1 o329.2 rfl (x := (S 84 p1)) rfl ?_
        refine sv_aload_n hM dX12_joinLabel_74 rfl rfl ?_
        refine sv_getA hM dX12_joinLabel_75 sm_fl_265 (sm_a0 _) sm_k136 rfl ?_
        refine sv_iload_n hM dX12_joinLabel_78 rfl rfl ?_
        have k338 : sv_RL (S 84 p2) := sm_okJ hok sm_r84 p2
        have h := h k338
        refine sv_lald hM dX12_joinLabel_79 (sm_a84 _) (by decide) o331.1 o331.2 rfl (x := (S 84 p2)) rfl ?_
        refine sv_ldc2_w (d := (-1 : Int)) hM dX12_joinLabel_80 sm_ck_1110 rfl rfl ?_
        refine sv_anyL hM dX12_joinLabel_83 rfl rfl (fun r339 hr339 er339 => ?_)
        have er339v : (sm_lxor (S 84 p2) (-1 : Int)) = r339 := er339
        have k340 : sv_RL (sm_lxor (S 84 p2) (-1 : Int)) := er339v.symm ▸ hr339
        rw [← er339v]
        have h := h k340
        refine sv_anyL hM dX12_joinLabel_84 rfl rfl (fun r341 hr341 er341 => ?_)
        have er341v : (sm_land (S 84 p1) (sm_lxor (S 84 p2) (-1 : Int))) = r341 := er341
        have k342 : sv_RL (sm_land (S 84 p1) (sm_lxor (S 84 p2) (-1 : Int))) := er341v.symm ▸ hr341
        rw [← er341v]
        have h := h k342
        refine sv_lconst (d := (0 : Int)) hM dX12_joinLabel_85 rfl rfl ?_
        refine sv_lcmp hM dX12_joinLabel_86 k342 (⟨by decide, by decide⟩ : sv_RL (0 : Int)) rfl ?_
        refine sv_cond_eq hM dX12_joinLabel_87 sv_Rcmp (t := 94) rfl rfl (fun hc => ?_) (fun hc => ?_)
        · have h := h.1 ((sv_cmp_eq).mp hc)
          refine sv_iconst (d := (0 : Int)) hM dX12_joinLabel_94 rfl rfl ?_
          have hb := J328 (0 : Int) (⟨by decide, by decide⟩ : sv_R (0 : Int)) h
          exact sv_less (lv := [(0, .ref 0), (1, sv_I p1), (2, sv_I p2), (3, sv_I s1)]) (sv_Sub_cons rfl (sv_Sub_cons rfl (sv_Sub_cons rfl (sv_Sub_cons rfl sv_Sub_nil)))) hb
        · have h := h.2 (fun q => hc ((sv_cmp_eq).mpr q))
          refine sv_iconst (d := (1 : Int)) hM dX12_joinLabel_90 rfl rfl ?_
          refine sv_goto hM dX12_joinLabel_91 (pc' := 95) rfl ?_
          have hb := J328 (1 : Int) (⟨by decide, by decide⟩ : sv_R (1 : Int)) h
          exact sv_less (lv := [(0, .ref 0), (1, sv_I p1), (2, sv_I p2), (3, sv_I s1)]) (sv_Sub_cons rfl (sv_Sub_cons rfl (sv_Sub_cons rfl (sv_Sub_cons rfl sv_Sub_nil)))) hb
  have h := h.2
  refine sv_aload_n hM dX12_joinLabel_0 rfl rfl ?_
  refine sv_getA hM dX12_joinLabel_1 sm_fl_256 (sm_a0 _) sm_k133 rfl ?_
  refine sv_iload_n hM dX12_joinLabel_4 rfl rfl ?_
  obtain ⟨o344, h⟩ := h
  have k345 : (0 ≤ (S 81 p1) ∧ (S 81 p1) ≤ 1) := sm_okZ hok sm_r81 p1
  have h := h k345
  refine sv_zald hM dX12_joinLabel_5 (sm_a81 _) (by decide) o344.1 o344.2 rfl (x := (S 81 p1)) rfl ?_
  refine sv_cond_eq hM dX12_joinLabel_6 (sv_R01 k345) (t := 18) rfl rfl (fun hc => ?_) (fun hc => ?_)
  · have h := h.1 (hc)
    refine sv_aload_n hM dX12_joinLabel_18 rfl rfl ?_
    refine sv_getA hM dX12_joinLabel_19 sm_fl_259 (sm_a0 _) sm_k134 rfl ?_
    refine sv_iload_n hM dX12_joinLabel_22 rfl rfl ?_
    have k346 : (0 ≤ (S 82 p1) ∧ (S 82 p1) ≤ 1) := sm_okZ hok sm_r82 p1
    have h := h k346
    refine sv_zald hM dX12_joinLabel_23 (sm_a82 _) (by decide) o344.1 o344.2 rfl (x := (S 82 p1)) rfl ?_
    refine sv_cond_eq hM dX12_joinLabel_24 (sv_R01 k346) (t := 40) rfl rfl (fun hc => ?_) (fun hc => ?_)
    · have h := h.1 (hc)
      refine sv_iconst (d := (0 : Int)) hM dX12_joinLabel_40 rfl rfl ?_
      have hb := J343 (0 : Int) (⟨by decide, by decide⟩ : sv_R (0 : Int)) h
      exact sv_less (lv := [(0, .ref 0), (1, sv_I p1), (2, sv_I p2)]) (sv_Sub_cons rfl (sv_Sub_cons rfl (sv_Sub_cons rfl sv_Sub_nil))) hb
    · have h := h.2 (hc)
      refine sv_aload_n hM dX12_joinLabel_27 rfl rfl ?_
      refine sv_getA hM dX12_joinLabel_28 sm_fl_259 (sm_a0 _) sm_k134 rfl ?_
      refine sv_iload_n hM dX12_joinLabel_31 rfl rfl ?_
      obtain ⟨o347, h⟩ := h
      have k348 : (0 ≤ (S 82 p2) ∧ (S 82 p2) ≤ 1) := sm_okZ hok sm_r82 p2
      have h := h k348
      refine sv_zald hM dX12_joinLabel_32 (sm_a82 _) (by decide) o347.1 o347.2 rfl (x := (S 82 p2)) rfl ?_
      refine sv_cond_ne hM dX12_joinLabel_33 (sv_R01 k348) (t := 40) rfl rfl (fun hc => ?_) (fun hc => ?_)
      · have h := h.1 (hc)
        refine sv_iconst (d := (0 : Int)) hM dX12_joinLabel_40 rfl rfl ?_
        have hb := J343 (0 : Int) (⟨by decide, by decide⟩ : sv_R (0 : Int)) h
        exact sv_less (lv := [(0, .ref 0), (1, sv_I p1), (2, sv_I p2)]) (sv_Sub_cons rfl (sv_Sub_cons rfl (sv_Sub_cons rfl sv_Sub_nil))) hb
      · have h := h.2 (hc)
        refine sv_iconst (d := (1 : Int)) hM dX12_joinLabel_36 rfl rfl ?_
        refine sv_goto hM dX12_joinLabel_37 (pc' := 41) rfl ?_
        have hb := J343 (1 : Int) (⟨by decide, by decide⟩ : sv_R (1 : Int)) h
        exact sv_less (lv := [(0, .ref 0), (1, sv_I p1), (2, sv_I p2)]) (sv_Sub_cons rfl (sv_Sub_cons rfl (sv_Sub_cons rfl sv_Sub_nil))) hb
  · have h := h.2 (hc)
    refine sv_aload_n hM dX12_joinLabel_9 rfl rfl ?_
    refine sv_getA hM dX12_joinLabel_10 sm_fl_256 (sm_a0 _) sm_k133 rfl ?_
    refine sv_iload_n hM dX12_joinLabel_13 rfl rfl ?_
    obtain ⟨o349, h⟩ := h
    have k350 : (0 ≤ (S 81 p2) ∧ (S 81 p2) ≤ 1) := sm_okZ hok sm_r81 p2
    have h := h k350
    refine sv_zald hM dX12_joinLabel_14 (sm_a81 _) (by decide) o349.1 o349.2 rfl (x := (S 81 p2)) rfl ?_
    refine sv_cond_eq hM dX12_joinLabel_15 (sv_R01 k350) (t := 36) rfl rfl (fun hc => ?_) (fun hc => ?_)
    · have h := h.1 (hc)
      refine sv_iconst (d := (1 : Int)) hM dX12_joinLabel_36 rfl rfl ?_
      refine sv_goto hM dX12_joinLabel_37 (pc' := 41) rfl ?_
      have hb := J343 (1 : Int) (⟨by decide, by decide⟩ : sv_R (1 : Int)) h
      exact sv_less (lv := [(0, .ref 0), (1, sv_I p1), (2, sv_I p2)]) (sv_Sub_cons rfl (sv_Sub_cons rfl (sv_Sub_cons rfl sv_Sub_nil))) hb
    · have h := h.2 (hc)
      refine sv_aload_n hM dX12_joinLabel_18 rfl rfl ?_
      refine sv_getA hM dX12_joinLabel_19 sm_fl_259 (sm_a0 _) sm_k134 rfl ?_
      refine sv_iload_n hM dX12_joinLabel_22 rfl rfl ?_
      have k351 : (0 ≤ (S 82 p1) ∧ (S 82 p1) ≤ 1) := sm_okZ hok sm_r82 p1
      have h := h k351
      refine sv_zald hM dX12_joinLabel_23 (sm_a82 _) (by decide) o344.1 o344.2 rfl (x := (S 82 p1)) rfl ?_
      refine sv_cond_eq hM dX12_joinLabel_24 (sv_R01 k351) (t := 40) rfl rfl (fun hc => ?_) (fun hc => ?_)
      · have h := h.1 (hc)
        refine sv_iconst (d := (0 : Int)) hM dX12_joinLabel_40 rfl rfl ?_
        have hb := J343 (0 : Int) (⟨by decide, by decide⟩ : sv_R (0 : Int)) h
        exact sv_less (lv := [(0, .ref 0), (1, sv_I p1), (2, sv_I p2)]) (sv_Sub_cons rfl (sv_Sub_cons rfl (sv_Sub_cons rfl sv_Sub_nil))) hb
      · have h := h.2 (hc)
        refine sv_aload_n hM dX12_joinLabel_27 rfl rfl ?_
        refine sv_getA hM dX12_joinLabel_28 sm_fl_259 (sm_a0 _) sm_k134 rfl ?_
        refine sv_iload_n hM dX12_joinLabel_31 rfl rfl ?_
        have k352 : (0 ≤ (S 82 p2) ∧ (S 82 p2) ≤ 1) := sm_okZ hok sm_r82 p2
        have h := h k352
        refine sv_zald hM dX12_joinLabel_32 (sm_a82 _) (by decide) o349.1 o349.2 rfl (x := (S 82 p2)) rfl ?_
        refine sv_cond_ne hM dX12_joinLabel_33 (sv_R01 k352) (t := 40) rfl rfl (fun hc => ?_) (fun hc => ?_)
        · have h := h.1 (hc)
          refine sv_iconst (d := (0 : Int)) hM dX12_joinLabel_40 rfl rfl ?_
          have hb := J343 (0 : Int) (⟨by decide, by decide⟩ : sv_R (0 : Int)) h
          exact sv_less (lv := [(0, .ref 0), (1, sv_I p1), (2, sv_I p2)]) (sv_Sub_cons rfl (sv_Sub_cons rfl (sv_Sub_cons rfl sv_Sub_nil))) hb
        · have h := h.2 (hc)
          refine sv_iconst (d := (1 : Int)) hM dX12_joinLabel_36 rfl rfl ?_
          refine sv_goto hM dX12_joinLabel_37 (pc' := 41) rfl ?_
          have hb := J343 (1 : Int) (⟨by decide, by decide⟩ : sv_R (1 : Int)) h
          exact sv_less (lv := [(0, .ref 0), (1, sv_I p1), (2, sv_I p2)]) (sv_Sub_cons rfl (sv_Sub_cons rfl (sv_Sub_cons rfl sv_Sub_nil))) hb
def q_make (p1 : Int) (p2 : Int) (S : sv_S) : Option Value → sv_S → Prop := fun v S' => v = none ∧ sm_ok S' ∧ sv_mod [68, 69, 70, 81, 82, 83, 84, 85, 86, 76, 77] S S' ∧ (sm_pt (S' 68) (S' 69) (S' 70) = sm_pt (S 68) (S 69) (S 70) ∧ sm_pl (S' 81) (S' 82) (S' 83) (S' 84) (S' 85) (S' 86) = sm_pl (S 81) (S 82) (S 83) (S 84) (S 85) (S 86) ∧ sm_ps (S' 76) (S' 77) = sm_ps (S 76) (S 77))
theorem la_make_0 {x0 x1 : Int} (h0 : 0 ≤ x0) : (0 : Int) ≤ 0 ∧ 0 ≤ x0 ∧ x1 = x1 := by omega
theorem la_make_1 {x0 x1 : Int} (h0 : x0 ≤ x1) : 0 ≤ x1 - x0 := by omega
theorem la_make_2 {x0 : Int} (h0 : 0 ≤ x0) (h1 : x0 ≤ 11557) : sv_R x0 := by omega
theorem la_make_3 {x0 x1 x2 : Int} (h0 : 0 ≤ x0) (h1 : x1 = x2) : (0 : Int) ≤ 0 ∧ 0 ≤ x0 ∧ x1 = x2 := by omega
theorem la_make_4 : (0 : Int) ≤ 639 ∧ (639 : Int) < 640 := by omega
theorem la_make_5 : sv_R (635000 + 639) := by omega
theorem la_make_6 {x0 x1 : Int} (h0 : x0 ≤ 127) (h1 : 0 ≤ x1) (h2 : x1 + 1 < x0) : (635639 : Int) ≤ 635000 + 639 ∧ (635000 + 639 : Int) < 647800 ∧ 0 ≤ x1 ∧ x1 < 127 := by omega
theorem la_make_7 {x0 x1 x2 x3 : Int} (h0 : 0 ≤ x0) (h1 : x1 = x2) (h2 : x3 = x1) : (0 : Int) ≤ 0 ∧ 0 ≤ x0 ∧ x3 = x2 := by omega
theorem la_make_8 : (0 : Int) ≤ 647791 ∧ (647791 : Int) < 647800 := by omega
theorem la_make_9 {x0 x1 : Int} (h0 : x0 ≤ 127) (h1 : 0 ≤ x1) (h2 : x1 + 1 < x0) : (635639 : Int) ≤ 647791 ∧ (647791 : Int) < 647800 ∧ 0 ≤ x1 ∧ x1 < 127 := by omega
theorem la_make_10 : (0 : Int) ≤ 0 := by omega
theorem la_make_11 {x0 : Int} (h0 : 29 ≤ x0) : 0 ≤ x0 := by omega
theorem la_make_12 : (635639 : Int) ≤ 647791 := by omega
theorem la_make_13 {x0 x1 x2 x3 x4 : Int} (h0 : x0 = x1) (h1 : x2 = x3) (h2 : x3 = x4) (h3 : x4 = x0) : x2 = x1 := by omega
theorem la_make_14 {x0 : Int} : x0 = x0 := by omega
theorem la_make_15 {x0 x1 x2 x3 x4 : Int} (h0 : x0 ≤ 127) (h1 : 0 ≤ x1) (h2 : x1 ≤ 11557) (h3 : 0 ≤ x2) (h4 : x2 + 1 < x0) : 0 ≤ x1 ∧ x1 ≤ 11557 ∧ (0 : Int) ≤ 639 ∧ ((639 : Int) = 639 ∨ 639 < x3 + 2 * x4) ∧ 0 ≤ x2 ∧ (x2 < x0 ∨ (639 : Int) = 639 ∧ x2 < 128) := by omega
theorem la_make_16 : (639 : Int) = 639 := by omega
theorem la_make_17 : ¬ ¬ (639 : Int) = 639 := by omega
theorem la_make_18 {x0 x1 : Int} (h0 : x0 ≤ 127) (h1 : 0 ≤ x1) (h2 : x1 + 1 < x0) : sv_R (x1 + 1) := by omega
theorem la_make_19 {x0 x1 x2 x3 x4 : Int} (h0 : x0 ≤ 127) (h1 : 0 ≤ x1) (h2 : x1 ≤ 11557) (h3 : 0 ≤ x2) (h4 : x2 + 1 < x0) : 0 ≤ x1 ∧ x1 ≤ 11557 ∧ (0 : Int) ≤ 639 ∧ ((639 : Int) = 639 ∨ 639 < x3 + 2 * x4) ∧ 0 ≤ x2 + 1 ∧ (x2 + 1 < x0 ∨ (639 : Int) = 639 ∧ x2 + 1 < 128) := by omega
theorem la_make_20 {x0 x1 x2 x3 : Int} (h0 : x0 ≤ 127) (h1 : 0 ≤ x1) (h2 : x1 + 1 < x0) (h3 : x2 = 15000 + x1) (h4 : x3 = 15000 + (x1 + 1)) : 0 ≤ x2 ∧ x2 < 15128 ∧ 0 ≤ x3 ∧ x3 < 15128 := by omega
theorem la_make_21 {x0 x1 : Int} (h0 : 0 ≤ x0) (h1 : x1 = 15000 + (x0 + 1)) : 15000 ≤ x1 := by omega
theorem la_make_22 {x0 x1 : Int} (h0 : 0 ≤ x0) (h1 : x1 = 15000 + (x0 + 1)) : ¬ x1 < 15000 := by omega
theorem la_make_23 {x0 x1 x2 : Int} (h0 : 31 ≤ x0) (h1 : x1 = x2) : (0 : Int) ≤ 0 ∧ 0 ≤ x0 + 1 ∧ x1 = x2 := by omega
theorem la_make_24 {x0 x1 : Int} (h0 : x0 ≤ x1 + 1) : 0 ≤ x1 + 1 - x0 := by omega
theorem la_make_25 {x0 x1 x2 x3 : Int} (h0 : 0 ≤ x0) (h1 : x0 ≤ 11557) (h2 : 0 ≤ x1) (h3 : x1 + 1 < x2) (h4 : (-1) ≤ x3) (h5 : x3 ≤ 63) : 0 ≤ x0 ∧ x0 ≤ 11557 ∧ 0 ≤ x1 ∧ x1 < x2 ∧ (-1) ≤ x3 ∧ x3 ≤ 63 := by omega
theorem la_make_26 {x0 x1 x2 : Int} (h0 : x0 = x1) (h1 : x2 = x0) : x2 = x1 := by omega
theorem la_make_27 {x0 x1 x2 x3 : Int} (h0 : x0 = x1) (h1 : x2 = x0) (h2 : x3 = x2) : x3 = x1 := by omega
theorem la_make_28 : (639 : Int) ≤ 639 := by omega
theorem la_make_29 {x0 x1 x2 : Int} (h0 : x0 = x1) (h1 : x1 = x2) : x0 = x2 := by omega
theorem la_make_30 {x0 x1 x2 x3 x4 x5 x6 : Int} (h0 : x0 ≤ 127) (h1 : 0 ≤ x1) (h2 : x1 ≤ 11557) (h3 : 0 ≤ x2) (h4 : x2 + 1 < x0) (h5 : 0 ≤ x3) (h6 : ¬ x4 < x3) : 0 ≤ x1 ∧ x1 ≤ 11557 ∧ (0 : Int) ≤ 639 ∧ ((639 : Int) = 639 ∨ 639 < x5 + 2 * x6) ∧ 0 ≤ x2 ∧ (x2 < x0 ∨ (639 : Int) = 639 ∧ x2 < 128) ∧ 0 ≤ x3 ∧ x3 ≤ x4 := by omega
theorem la_make_31 {x0 x1 x2 x3 x4 x5 x6 : Int} (h0 : x0 ≤ 127) (h1 : 0 ≤ x1) (h2 : x1 ≤ 11557) (h3 : 0 ≤ x2) (h4 : x2 + 1 < x0) (h5 : 0 ≤ x3) (h6 : ¬ x4 < x3) : 0 ≤ x1 ∧ x1 ≤ 11557 ∧ (0 : Int) ≤ 639 ∧ ((639 : Int) = 639 ∨ 639 < x5 + 2 * x6) ∧ 0 ≤ x2 + 1 ∧ (x2 + 1 < x0 ∨ (639 : Int) = 639 ∧ x2 + 1 < 128) ∧ 0 ≤ x3 ∧ x3 ≤ x4 := by omega
theorem la_make_32 {x0 x1 : Int} (h0 : 635640 ≤ x0) (h1 : x0 < 647340) (h2 : 635640 ≤ x1) (h3 : x1 < 647340) : 0 ≤ x0 ∧ x0 < 647800 ∧ 0 ≤ x1 ∧ x1 < 647800 := by omega
theorem la_make_33 {x0 : Int} (h0 : 635640 ≤ x0) : 635639 ≤ x0 := by omega
theorem la_make_34 {x0 : Int} (h0 : 635640 ≤ x0) : ¬ x0 < 635639 := by omega
theorem la_make_35 {x0 x1 : Int} (h0 : x0 ≤ 90) (h1 : 0 ≤ x1) (h2 : ¬ x0 < x1) : sv_R (x1 + 1) := by omega
theorem la_make_36 {x0 x1 x2 x3 x4 : Int} (h0 : 0 ≤ x0) (h1 : x1 = x2) (h2 : ¬ x3 < x0) (h3 : x4 = x1) : 0 ≤ x0 + 1 ∧ x0 + 1 ≤ x3 + 1 ∧ x4 = x2 := by omega
theorem la_make_37 {x0 x1 : Int} : x0 + 1 - (x1 + 1) < x0 + 1 - x1 := by omega
theorem la_make_38 {x0 x1 x2 x3 x4 : Int} (h0 : x0 ≤ 127) (h1 : 0 ≤ x1) (h2 : x1 ≤ 11557) (h3 : 0 ≤ x2) (h4 : ¬ x0 ≤ x2) : 0 ≤ x1 ∧ x1 ≤ 11557 ∧ (0 : Int) ≤ 639 ∧ ((639 : Int) = 639 ∨ 639 < x3 + 2 * x4) ∧ 0 ≤ x2 ∧ (x2 < x0 ∨ (639 : Int) = 639 ∧ x2 < 128) := by omega
theorem la_make_39 {x0 x1 x2 : Int} (h0 : x0 ≤ 127) (h1 : 0 ≤ x1) (h2 : ¬ x0 ≤ x1) (h3 : x2 = 15000 + x1) : 0 ≤ x2 ∧ x2 < 15128 := by omega
theorem la_make_40 {x0 x1 : Int} (h0 : x0 ≤ 127) (h1 : 0 ≤ x1) (h2 : ¬ x0 ≤ x1) : sv_R (x1 + 1) := by omega
theorem la_make_41 {x0 : Int} (h0 : 0 ≤ x0) : 0 ≤ x0 + 1 := by omega
theorem la_make_42 {x0 x1 : Int} (h0 : ¬ x0 ≤ x1) : x1 + 1 ≤ x0 := by omega
theorem la_make_43 {x0 x1 x2 x3 x4 x5 x6 x7 : Int} (h0 : x0 = x1) (h1 : x2 = x3) (h2 : x4 = x5) (h3 : x5 = x6) (h4 : x6 = x2) (h5 : x3 = x7) (h6 : x7 = x0) : x4 = x1 := by omega
theorem la_make_44 {x0 x1 : Int} (h0 : 0 ≤ x0) (h1 : x1 = 15000 + x0) : 15000 ≤ x1 := by omega
theorem la_make_45 {x0 x1 x2 x3 x4 x5 : Int} (h0 : x0 = x1) (h1 : x2 = x3) (h2 : x3 = x4) (h3 : x4 = x5) (h4 : x5 = x0) : x2 = x1 := by omega
theorem la_make_46 {x0 x1 : Int} : x0 - (x1 + 1) < x0 - x1 := by omega
theorem la_make_47 {x0 x1 : Int} (h0 : x0 ≤ 12) (h1 : 0 ≤ x1) (h2 : ¬ x0 ≤ x1) : 0 ≤ x1 ∧ x1 < 12 := by omega
theorem la_make_48 {x0 x1 : Int} (h0 : ¬ x0 ≤ x1) : x1 < x0 := by omega
theorem la_make_49 {x0 x1 : Int} (h0 : x0 ≤ 127) (h1 : x1 + 1 < x0) : x1 < 127 := by omega
theorem la_make_50 {x0 x1 : Int} (h0 : x0 ≤ 12) (h1 : 0 ≤ x1) (h2 : ¬ x0 ≤ x1) : sv_R (x1 + 1) := by omega
theorem la_make_51 {x0 x1 x2 x3 x4 : Int} (h0 : 0 ≤ x0) (h1 : x1 = x2) (h2 : ¬ x3 ≤ x0) (h3 : x4 = x1) : 0 ≤ x0 + 1 ∧ x0 + 1 ≤ x3 ∧ x4 = x2 := by omega
theorem la_make_52 {x0 x1 x2 : Int} (h0 : x0 = 647340) (h1 : x1 ≤ 400) (h2 : 0 ≤ x2) (h3 : ¬ x1 ≤ x2) : sv_R (x0 + x2) := by omega
theorem la_make_53 {x0 x1 x2 x3 x4 : Int} (h0 : x0 ≤ 127) (h1 : x1 = 647340) (h2 : x2 ≤ 400) (h3 : 0 ≤ x3) (h4 : x3 + 1 < x0) (h5 : 0 ≤ x4) (h6 : ¬ x2 ≤ x4) : 635639 ≤ x1 + x4 ∧ x1 + x4 < 647800 ∧ 0 ≤ x3 ∧ x3 < 127 := by omega
theorem la_make_54 {x0 x1 : Int} (h0 : x0 ≤ 400) (h1 : 0 ≤ x1) (h2 : ¬ x0 ≤ x1) : sv_R (x1 + 1) := by omega
theorem la_make_55 {x0 x1 : Int} (h0 : x0 ≤ 11557) (h1 : 0 ≤ x1) (h2 : ¬ x0 ≤ x1) : sv_R (635640 + x1) := by omega
theorem la_make_56 {x0 x1 x2 x3 : Int} (h0 : x0 ≤ 127) (h1 : x1 ≤ 11557) (h2 : 0 ≤ x2) (h3 : x2 + 1 < x0) (h4 : 0 ≤ x3) (h5 : ¬ x1 ≤ x3) : 635639 ≤ 635640 + x3 ∧ 635640 + x3 < 647800 ∧ 0 ≤ x2 ∧ x2 < 127 := by omega
theorem la_make_57 {x0 x1 : Int} (h0 : x0 ≤ 11557) (h1 : 0 ≤ x1) (h2 : ¬ x0 ≤ x1) : sv_R (x1 + 1) := by omega
set_option maxHeartbeats 2000000 in
theorem f_make : ∀ (p1 : Int) (p2 : Int) (S : sv_S), sm_ok S → sv_R p1 → sv_R p2 → (29 ≤ (S 1071 0) ∧ (S 1071 0) ≤ 127 ∧ 31 ≤ (S 1008 0) ∧ (S 1008 0) ≤ 90 ∧ 1 ≤ (S 1032 0) ∧ (S 1032 0) ≤ 11 ∧ 0 ≤ (S 1055 0) ∧ (S 1055 0) ≤ 19 ∧ (S 1071 0) = 29 + 6 * ((S 1032 0) - 1) + 2 * (S 1055 0) ∧ 0 ≤ (S 1046 0) ∧ (S 1046 0) + 2 * (S 1032 0) ≤ 500 ∧ sm_PD (S 1046 0) (S 1032 0) (S 1071 0) (S 1008 0) ∧ 0 ≤ (S 1071 0) * ((S 1008 0) + 1) ∧ (S 1071 0) * ((S 1008 0) + 1) ≤ 11557 ∧ (S 75 639) = 647340 ∧ 0 ≤ (S 74 639) ∧ (S 74 639) ≤ 400 ∧ 0 ≤ p1 ∧ p1 + 1 < (S 1071 0) ∧ -1 ≤ p2 ∧ p2 ≤ 63 ∧ 0 ≤ (S 1147 0) ∧ (S 1147 0) ≤ 12 ∧ (∀ k : Int, 0 ≤ k → k < (S 1147 0) → 635639 ≤ (S 91 k) ∧ (S 91 k) < 647800)) → ((0 ≤ (0 : Int) ∧ (0 : Int) ≤ (S 1071 0) * ((S 1008 0) + 1) ∧ sm_pt (S 68) (S 69) (S 70) = sm_pt (S 68) (S 69) (S 70)) ∧ (∀ l3_2 : Int, sv_R l3_2 → ∀ g1 : sv_S, (0 ≤ l3_2 ∧ l3_2 ≤ (S 1071 0) * ((S 1008 0) + 1) ∧ sm_pt (S 68) (g1 69) (g1 70) = sm_pt (S 68) (S 69) (S 70)) → (0 ≤ (S 1071 0) * ((S 1008 0) + 1) - l3_2) ∧ (sv_R (S 1071 0) → (sv_R (S 1008 0) → (sv_R ((S 1071 0) * ((S 1008 0) + (1 : Int)))) ∧ (((((S 1071 0) * ((S 1008 0) + (1 : Int))) ≤ l3_2) → ((0 ≤ (0 : Int) ∧ (0 : Int) ≤ (S 74 639) ∧ sm_pt (S 68) (g1 69) (g1 70) = sm_pt (S 68) (S 69) (S 70)) ∧ (∀ l3_12 : Int, sv_R l3_12 → ∀ g11 : sv_S, (0 ≤ l3_12 ∧ l3_12 ≤ (S 74 639) ∧ sm_pt (S 68) (g11 69) (g11 70) = sm_pt (S 68) (S 69) (S 70)) → (0 ≤ (S 74 639) - l3_12) ∧ (0 ≤ (639 : Int) ∧ (639 : Int) < 640) ∧ (sv_R (S 74 (639 : Int)) → ((((S 74 (639 : Int)) ≤ l3_12) → (sv_R (635000 + (639 : Int))) ∧ (635639 ≤ (635000 + (639 : Int)) ∧ (635000 + (639 : Int)) < 647800 ∧ 0 ≤ p1 ∧ p1 < 127) ∧ (∀ g23 : sv_S, (sm_pt (S 68) (g23 69) (g23 70) = sm_pt (S 68) (g11 69) (g11 70)) → ((0 ≤ (0 : Int) ∧ (0 : Int) ≤ (S 1147 0) ∧ sm_pt (S 68) (g23 69) (g23 70) = sm_pt (S 68) (S 69) (S 70)) ∧ (∀ l3_31 : Int, sv_R l3_31 → ∀ g30 : sv_S, (0 ≤ l3_31 ∧ l3_31 ≤ (S 1147 0) ∧ sm_pt (S 68) (g30 69) (g30 70) = sm_pt (S 68) (S 69) (S 70)) → (0 ≤ (S 1147 0) - l3_31) ∧ (sv_R (S 1147 0) → ((((S 1147 0) ≤ l3_31) → (sv_RL (S 76 (639 : Int)) → (0 ≤ (647791 : Int) ∧ (647791 : Int) < 647800) ∧ (sv_RL (S 77 (639 : Int)) → (635639 ≤ (647791 : Int) ∧ (647791 : Int) < 647800 ∧ 0 ≤ p1 ∧ p1 < 127) ∧ (∀ g54 : sv_S, (sm_pt (S 68) (g54 69) (g54 70) = sm_pt (S 68) (fun i' : Int => if i' = (647791 : Int) then (S 76 (639 : Int)) else (g30 69) i') (fun i' : Int => if i' = (647791 : Int) then (S 77 (639 : Int)) else (g30 70) i')) → (sv_RL (g54 69 (647791 : Int)) → (sv_RL (g54 70 (647791 : Int)) → ((0 ≤ (0 : Int) ∧ (0 : Int) ≤ (S 1071 0) ∧ sm_pt (S 68) (g54 69) (g54 70) = sm_pt (S 68) (S 69) (S 70) ∧ sm_pl (S 81) (S 82) (S 83) (S 84) (S 85) (S 86) = sm_pl (S 81) (S 82) (S 83) (S 84) (S 85) (S 86)) ∧ (∀ l4_69 : Int, sv_R l4_69 → ∀ g68 : sv_S, (0 ≤ l4_69 ∧ l4_69 ≤ (S 1071 0) ∧ sm_pt (S 68) (g68 69) (g68 70) = sm_pt (S 68) (S 69) (S 70) ∧ sm_pl (S 81) (S 82) (g68 83) (g68 84) (g68 85) (g68 86) = sm_pl (S 81) (S 82) (S 83) (S 84) (S 85) (S 86)) → (0 ≤ (S 1071 0) - l4_69) ∧ ((((S 1071 0) ≤ l4_69) → (29 ≤ (S 1071 0) ∧ (S 1071 0) ≤ 127 ∧ 31 ≤ (S 1008 0) ∧ (S 1008 0) ≤ 90 ∧ 1 ≤ (S 1032 0) ∧ (S 1032 0) ≤ 11 ∧ 0 ≤ (S 1055 0) ∧ (S 1055 0) ≤ 19 ∧ (S 1071 0) = 29 + 6 * ((S 1032 0) - 1) + 2 * (S 1055 0) ∧ 0 ≤ (S 1046 0) ∧ (S 1046 0) + 2 * (S 1032 0) ≤ 500 ∧ sm_PD (S 1046 0) (S 1032 0) (S 1071 0) (S 1008 0) ∧ 0 ≤ (S 1071 0) * ((S 1008 0) + 1) ∧ (S 1071 0) * ((S 1008 0) + 1) ≤ 11557 ∧ 0 ≤ (639 : Int) ∧ ((639 : Int) = 639 ∨ (639 : Int) < (S 1046 0) + 2 * (S 1032 0)) ∧ 0 ≤ p1 ∧ (p1 < (S 1071 0) ∨ ((639 : Int) = 639 ∧ p1 < 128))) ∧ (∀ r80 : Int, sv_R r80 → (((639 : Int) = 639 → r80 = 15000 + p1) ∧ (¬ (639 : Int) = 639 → 0 ≤ r80 ∧ r80 < 14520)) → (sv_R (p1 + (1 : Int))) ∧ (29 ≤ (S 1071 0) ∧ (S 1071 0) ≤ 127 ∧ 31 ≤ (S 1008 0) ∧ (S 1008 0) ≤ 90 ∧ 1 ≤ (S 1032 0) ∧ (S 1032 0) ≤ 11 ∧ 0 ≤ (S 1055 0) ∧ (S 1055 0) ≤ 19 ∧ (S 1071 0) = 29 + 6 * ((S 1032 0) - 1) + 2 * (S 1055 0) ∧ 0 ≤ (S 1046 0) ∧ (S 1046 0) + 2 * (S 1032 0) ≤ 500 ∧ sm_PD (S 1046 0) (S 1032 0) (S 1071 0) (S 1008 0) ∧ 0 ≤ (S 1071 0) * ((S 1008 0) + 1) ∧ (S 1071 0) * ((S 1008 0) + 1) ≤ 11557 ∧ 0 ≤ (639 : Int) ∧ ((639 : Int) = 639 ∨ (639 : Int) < (S 1046 0) + 2 * (S 1032 0)) ∧ 0 ≤ (p1 + (1 : Int)) ∧ ((p1 + (1 : Int)) < (S 1071 0) ∨ ((639 : Int) = 639 ∧ (p1 + (1 : Int)) < 128))) ∧ (∀ r87 : Int, sv_R r87 → (((639 : Int) = 639 → r87 = 15000 + (p1 + (1 : Int))) ∧ (¬ (639 : Int) = 639 → 0 ≤ r87 ∧ r87 < 14520)) → (0 ≤ r80 ∧ r80 < 15128 ∧ 0 ≤ r87 ∧ r87 < 15128) ∧ (∀ r93 : Int, sv_R r93 → ∀ g89 : sv_S, ((15000 ≤ r87 → sm_pl (g89 81) (g89 82) (g89 83) (g89 84) (g89 85) (g89 86) = sm_pl (S 81) (S 82) (g68 83) (g68 84) (g68 85) (g68 86)) ∧ (r93 = 0 ∨ r93 = 1) ∧ (r87 < 15000 → sm_pl (g89 81) (g89 82) (g89 83) (g89 84) (g89 85) (g89 86) + r93 ≤ sm_pl (S 81) (S 82) (g68 83) (g68 84) (g68 85) (g68 86))) → ((0 ≤ (0 : Int) ∧ (0 : Int) ≤ (S 1008 0) + 1 ∧ sm_pt (S 68) (g68 69) (g68 70) = sm_pt (S 68) (S 69) (S 70)) ∧ (∀ l4_96 : Int, sv_R l4_96 → ∀ l5_97 : Int, sv_R l5_97 → ∀ g95 : sv_S, (0 ≤ l5_97 ∧ l5_97 ≤ (S 1008 0) + 1 ∧ sm_pt (g95 68) (g95 69) (g95 70) = sm_pt (S 68) (S 69) (S 70)) → (0 ≤ (S 1008 0) + 1 - l5_97) ∧ ((((S 1008 0) < l5_97) → (29 ≤ (S 1071 0) ∧ (S 1071 0) ≤ 127 ∧ 31 ≤ (S 1008 0) ∧ (S 1008 0) ≤ 90 ∧ 1 ≤ (S 1032 0) ∧ (S 1032 0) ≤ 11 ∧ 0 ≤ (S 1055 0) ∧ (S 1055 0) ≤ 19 ∧ (S 1071 0) = 29 + 6 * ((S 1032 0) - 1) + 2 * (S 1055 0) ∧ 0 ≤ (S 1046 0) ∧ (S 1046 0) + 2 * (S 1032 0) ≤ 500 ∧ sm_PD (S 1046 0) (S 1032 0) (S 1071 0) (S 1008 0) ∧ 0 ≤ (S 1071 0) * ((S 1008 0) + 1) ∧ (S 1071 0) * ((S 1008 0) + 1) ≤ 11557 ∧ 0 ≤ p1 ∧ p1 < (S 1071 0) ∧ -1 ≤ p2 ∧ p2 ≤ 63) ∧ (∀ g104 : sv_S, (sm_pt (g104 68) (g104 69) (g104 70) = sm_pt (g95 68) (g95 69) (g95 70) ∧ sm_pl (g104 81) (g104 82) (g104 83) (g104 84) (g104 85) (g104 86) = sm_pl (g89 81) (g89 82) (g89 83) (g89 84) (g89 85) (g89 86)) → (sm_pt (g104 68) (g104 69) (g104 70) = sm_pt (S 68) (S 69) (S 70) ∧ sm_pl (g104 81) (g104 82) (g104 83) (g104 84) (g104 85) (g104 86) = sm_pl (S 81) (S 82) (S 83) (S 84) (S 85) (S 86) ∧ sm_ps (fun i' : Int => if i' = (639 : Int) then (g54 69 (647791 : Int)) else (S 76) i') (fun i' : Int => if i' = (639 : Int) then (g54 70 (647791 : Int)) else (S 77) i') = sm_ps (S 76) (S 77)))) ∧ ((¬ ((S 1008 0) < l5_97)) → (29 ≤ (S 1071 0) ∧ (S 1071 0) ≤ 127 ∧ 31 ≤ (S 1008 0) ∧ (S 1008 0) ≤ 90 ∧ 1 ≤ (S 1032 0) ∧ (S 1032 0) ≤ 11 ∧ 0 ≤ (S 1055 0) ∧ (S 1055 0) ≤ 19 ∧ (S 1071 0) = 29 + 6 * ((S 1032 0) - 1) + 2 * (S 1055 0) ∧ 0 ≤ (S 1046 0) ∧ (S 1046 0) + 2 * (S 1032 0) ≤ 500 ∧ sm_PD (S 1046 0) (S 1032 0) (S 1071 0) (S 1008 0) ∧ 0 ≤ (S 1071 0) * ((S 1008 0) + 1) ∧ (S 1071 0) * ((S 1008 0) + 1) ≤ 11557 ∧ 0 ≤ (639 : Int) ∧ ((639 : Int) = 639 ∨ (639 : Int) < (S 1046 0) + 2 * (S 1032 0)) ∧ 0 ≤ p1 ∧ (p1 < (S 1071 0) ∨ ((639 : Int) = 639 ∧ p1 < 128)) ∧ 0 ≤ l5_97 ∧ l5_97 ≤ (S 1008 0)) ∧ (∀ r114 : Int, sv_R r114 → (((639 : Int) = 639 → 635640 ≤ r114 ∧ r114 < 647340) ∧ (¬ (639 : Int) = 639 → 0 ≤ r114 ∧ r114 < 464520)) → (29 ≤ (S 1071 0) ∧ (S 1071 0) ≤ 127 ∧ 31 ≤ (S 1008 0) ∧ (S 1008 0) ≤ 90 ∧ 1 ≤ (S 1032 0) ∧ (S 1032 0) ≤ 11 ∧ 0 ≤ (S 1055 0) ∧ (S 1055 0) ≤ 19 ∧ (S 1071 0) = 29 + 6 * ((S 1032 0) - 1) + 2 * (S 1055 0) ∧ 0 ≤ (S 1046 0) ∧ (S 1046 0) + 2 * (S 1032 0) ≤ 500 ∧ sm_PD (S 1046 0) (S 1032 0) (S 1071 0) (S 1008 0) ∧ 0 ≤ (S 1071 0) * ((S 1008 0) + 1) ∧ (S 1071 0) * ((S 1008 0) + 1) ≤ 11557 ∧ 0 ≤ (639 : Int) ∧ ((639 : Int) = 639 ∨ (639 : Int) < (S 1046 0) + 2 * (S 1032 0)) ∧ 0 ≤ (p1 + (1 : Int)) ∧ ((p1 + (1 : Int)) < (S 1071 0) ∨ ((639 : Int) = 639 ∧ (p1 + (1 : Int)) < 128)) ∧ 0 ≤ l5_97 ∧ l5_97 ≤ (S 1008 0)) ∧ (∀ r120 : Int, sv_R r120 → (((639 : Int) = 639 → 635640 ≤ r120 ∧ r120 < 647340) ∧ (¬ (639 : Int) = 639 → 0 ≤ r120 ∧ r120 < 464520)) → (0 ≤ r114 ∧ r114 < 647800 ∧ 0 ≤ r120 ∧ r120 < 647800) ∧ (∀ r126 : Int, sv_R r126 → ∀ g122 : sv_S, ((635639 ≤ r120 → sm_pt (g122 68) (g122 69) (g122 70) = sm_pt (g95 68) (g95 69) (g95 70)) ∧ (r126 = 0 ∨ r126 = 1) ∧ (r120 < 635639 → sm_pt (g122 68) (g122 69) (g122 70) + r126 ≤ sm_pt (g95 68) (g95 69) (g95 70))) → (sv_R (l5_97 + (1 : Int))) ∧ ((0 ≤ (l5_97 + (1 : Int)) ∧ (l5_97 + (1 : Int)) ≤ (S 1008 0) + 1 ∧ sm_pt (g122 68) (g122 69) (g122 70) = sm_pt (S 68) (S 69) (S 70)) ∧ ((S 1008 0) + 1 - (l5_97 + (1 : Int))) < ((S 1008 0) + 1 - l5_97))))))))))))) ∧ ((¬ ((S 1071 0) ≤ l4_69)) → (29 ≤ (S 1071 0) ∧ (S 1071 0) ≤ 127 ∧ 31 ≤ (S 1008 0) ∧ (S 1008 0) ≤ 90 ∧ 1 ≤ (S 1032 0) ∧ (S 1032 0) ≤ 11 ∧ 0 ≤ (S 1055 0) ∧ (S 1055 0) ≤ 19 ∧ (S 1071 0) = 29 + 6 * ((S 1032 0) - 1) + 2 * (S 1055 0) ∧ 0 ≤ (S 1046 0) ∧ (S 1046 0) + 2 * (S 1032 0) ≤ 500 ∧ sm_PD (S 1046 0) (S 1032 0) (S 1071 0) (S 1008 0) ∧ 0 ≤ (S 1071 0) * ((S 1008 0) + 1) ∧ (S 1071 0) * ((S 1008 0) + 1) ≤ 11557 ∧ 0 ≤ (639 : Int) ∧ ((639 : Int) = 639 ∨ (639 : Int) < (S 1046 0) + 2 * (S 1032 0)) ∧ 0 ≤ l4_69 ∧ (l4_69 < (S 1071 0) ∨ ((639 : Int) = 639 ∧ l4_69 < 128))) ∧ (∀ r135 : Int, sv_R r135 → (((639 : Int) = 639 → r135 = 15000 + l4_69) ∧ (¬ (639 : Int) = 639 → 0 ≤ r135 ∧ r135 < 14520)) → (0 ≤ r135 ∧ r135 < 15128) ∧ (sv_RL (g68 83 r135) → (sv_RL (g68 84 r135) → (∀ g145 : sv_S, (sm_pt (S 68) (g145 69) (g145 70) = sm_pt (S 68) (fun i' : Int => if i' = (647791 : Int) then (g68 83 r135) else (g68 69) i') (fun i' : Int => if i' = (647791 : Int) then (g68 84 r135) else (g68 70) i')) → (sv_RL (g145 69 (647791 : Int)) → (sv_RL (g145 70 (647791 : Int)) → (sv_RL (g68 85 r135) → (sv_RL (g68 86 r135) → (∀ g167 : sv_S, (sm_pt (S 68) (g167 69) (g167 70) = sm_pt (S 68) (fun i' : Int => if i' = (647791 : Int) then (g68 85 r135) else (g145 69) i') (fun i' : Int => if i' = (647791 : Int) then (g68 86 r135) else (g145 70) i')) → (sv_RL (g167 69 (647791 : Int)) → (sv_RL (g167 70 (647791 : Int)) → (sv_R (l4_69 + (1 : Int))) ∧ ((0 ≤ (l4_69 + (1 : Int)) ∧ (l4_69 + (1 : Int)) ≤ (S 1071 0) ∧ sm_pt (S 68) (g167 69) (g167 70) = sm_pt (S 68) (S 69) (S 70) ∧ sm_pl (S 81) (S 82) (fun i' : Int => if i' = r135 then (g145 69 (647791 : Int)) else (g68 83) i') (fun i' : Int => if i' = r135 then (g145 70 (647791 : Int)) else (g68 84) i') (fun i' : Int => if i' = r135 then (g167 69 (647791 : Int)) else (g68 85) i') (fun i' : Int => if i' = r135 then (g167 70 (647791 : Int)) else (g68 86) i') = sm_pl (S 81) (S 82) (S 83) (S 84) (S 85) (S 86)) ∧ ((S 1071 0) - (l4_69 + (1 : Int))) < ((S 1071 0) - l4_69))))))))))))))))))))))) ∧ ((¬ ((S 1147 0) ≤ l3_31)) → (0 ≤ l3_31 ∧ l3_31 < 12) ∧ (sv_R (S 91 l3_31) → (635639 ≤ (S 91 l3_31) ∧ (S 91 l3_31) < 647800 ∧ 0 ≤ p1 ∧ p1 < 127) ∧ (∀ g185 : sv_S, (sm_pt (S 68) (g185 69) (g185 70) = sm_pt (S 68) (g30 69) (g30 70)) → (sv_R (l3_31 + (1 : Int))) ∧ ((0 ≤ (l3_31 + (1 : Int)) ∧ (l3_31 + (1 : Int)) ≤ (S 1147 0) ∧ sm_pt (S 68) (g185 69) (g185 70) = sm_pt (S 68) (S 69) (S 70)) ∧ ((S 1147 0) - (l3_31 + (1 : Int))) < ((S 1147 0) - l3_31))))))))))) ∧ ((¬ ((S 74 (639 : Int)) ≤ l3_12)) → (sv_R (S 75 (639 : Int)) → (sv_R ((S 75 (639 : Int)) + l3_12)) ∧ (635639 ≤ ((S 75 (639 : Int)) + l3_12) ∧ ((S 75 (639 : Int)) + l3_12) < 647800 ∧ 0 ≤ p1 ∧ p1 < 127) ∧ (∀ g197 : sv_S, (sm_pt (S 68) (g197 69) (g197 70) = sm_pt (S 68) (g11 69) (g11 70)) → (sv_R (l3_12 + (1 : Int))) ∧ ((0 ≤ (l3_12 + (1 : Int)) ∧ (l3_12 + (1 : Int)) ≤ (S 74 639) ∧ sm_pt (S 68) (g197 69) (g197 70) = sm_pt (S 68) (S 69) (S 70)) ∧ ((S 74 639) - (l3_12 + (1 : Int))) < ((S 74 639) - l3_12)))))))))) ∧ ((¬ (((S 1071 0) * ((S 1008 0) + (1 : Int))) ≤ l3_2)) → (sv_R ((635640 : Int) + l3_2)) ∧ (635639 ≤ ((635640 : Int) + l3_2) ∧ ((635640 : Int) + l3_2) < 647800 ∧ 0 ≤ p1 ∧ p1 < 127) ∧ (∀ g207 : sv_S, (sm_pt (S 68) (g207 69) (g207 70) = sm_pt (S 68) (g1 69) (g1 70)) → (sv_R (l3_2 + (1 : Int))) ∧ ((0 ≤ (l3_2 + (1 : Int)) ∧ (l3_2 + (1 : Int)) ≤ (S 1071 0) * ((S 1008 0) + 1) ∧ sm_pt (S 68) (g207 69) (g207 70) = sm_pt (S 68) (S 69) (S 70)) ∧ ((S 1071 0) * ((S 1008 0) + 1) - (l3_2 + (1 : Int))) < ((S 1071 0) * ((S 1008 0) + 1) - l3_2))))))))) := by
  intro p1
  intro p2
  intro S
  intro h1_
  intro h2_
  intro h3_
  rintro ⟨h4_, ⟨h5_, ⟨h6_, ⟨h7_, ⟨h8_, ⟨h9_, ⟨h10_, ⟨h11_, ⟨h12_, ⟨h13_, ⟨h14_, ⟨h15_, ⟨h16_, ⟨h17_, ⟨h18_, ⟨h19_, ⟨h20_, ⟨h21_, ⟨h22_, ⟨h23_, ⟨h24_, ⟨h25_, ⟨h26_, h27_⟩⟩⟩⟩⟩⟩⟩⟩⟩⟩⟩⟩⟩⟩⟩⟩⟩⟩⟩⟩⟩⟩⟩
  refine ⟨(la_make_0 h16_), ?_⟩
  intro l3_2
  intro h28_
  intro g1
  rintro ⟨h29_, ⟨h30_, h31_⟩⟩
  refine ⟨(la_make_1 h30_), ?_⟩
  intro h32_
  intro h33_
  refine ⟨(la_make_2 h16_ h17_), ?_⟩
  refine ⟨?_, ?_⟩
  · skip
    intro h34_
    refine ⟨(la_make_3 h19_ h31_), ?_⟩
    intro l3_12
    intro h35_
    intro g11
    rintro ⟨h36_, ⟨h37_, h38_⟩⟩
    refine ⟨(la_make_1 h37_), ?_⟩
    refine ⟨la_make_4, ?_⟩
    intro h39_
    refine ⟨?_, ?_⟩
    · skip
      intro h40_
      refine ⟨la_make_5, ?_⟩
      refine ⟨(la_make_6 h5_ h21_ h22_), ?_⟩
      intro g23
      intro h41_
      refine ⟨(la_make_7 h25_ h38_ h41_), ?_⟩
      intro l3_31
      intro h42_
      intro g30
      rintro ⟨h43_, ⟨h44_, h45_⟩⟩
      refine ⟨(la_make_1 h44_), ?_⟩
      intro h46_
      refine ⟨?_, ?_⟩
      · skip
        intro h47_
        intro h48_
        refine ⟨la_make_8, ?_⟩
        intro h49_
        refine ⟨(la_make_9 h5_ h21_ h22_), ?_⟩
        intro g54
        intro h50_
        intro h51_
        intro h52_
        refine ⟨?_, ?_⟩
        · skip
          refine ⟨la_make_10, ?_⟩
          refine ⟨(la_make_11 h4_), ?_⟩
          refine ⟨?_, ?_⟩
          · skip
            have e53_ : sm_pt (S 68) (fun i' : Int => (if i' = 647791 then S 76 639 else (g30 69) i')) (fun i' : Int => (if i' = 647791 then S 77 639 else (g30 70) i')) = sm_pt (S 68) (fun i' : Int => (if i' = 647791 then S 76 639 else (g30 69) i')) (g30 70) := sm_pt_H la_make_12
            have e54_ : sm_pt (S 68) (fun i' : Int => (if i' = 647791 then S 76 639 else (g30 69) i')) (g30 70) = sm_pt (S 68) (g30 69) (g30 70) := sm_pt_L la_make_12
            exact (la_make_13 h45_ h50_ e53_ e54_)
          exact la_make_14
        intro l4_69
        intro h55_
        intro g68
        rintro ⟨h56_, ⟨h57_, ⟨h58_, h59_⟩⟩⟩
        refine ⟨(la_make_1 h57_), ?_⟩
        refine ⟨?_, ?_⟩
        · skip
          intro h60_
          refine ⟨⟨h4_, ⟨h5_, ⟨h6_, ⟨h7_, ⟨h8_, ⟨h9_, ⟨h10_, ⟨h11_, ⟨h12_, ⟨h13_, ⟨h14_, ⟨h15_, (la_make_15 h5_ h16_ h17_ h21_ h22_)⟩⟩⟩⟩⟩⟩⟩⟩⟩⟩⟩⟩, ?_⟩
          intro r80
          intro h61_
          rintro ⟨h62_, h63_⟩
          have h64_ := (h62_ la_make_16)
          refine ⟨(la_make_18 h5_ h21_ h22_), ?_⟩
          refine ⟨⟨h4_, ⟨h5_, ⟨h6_, ⟨h7_, ⟨h8_, ⟨h9_, ⟨h10_, ⟨h11_, ⟨h12_, ⟨h13_, ⟨h14_, ⟨h15_, (la_make_19 h5_ h16_ h17_ h21_ h22_)⟩⟩⟩⟩⟩⟩⟩⟩⟩⟩⟩⟩, ?_⟩
          intro r87
          intro h65_
          rintro ⟨h66_, h67_⟩
          have h68_ := (h66_ la_make_16)
          refine ⟨(la_make_20 h5_ h21_ h22_ h64_ h68_), ?_⟩
          intro r93
          intro h69_
          intro g89
          rintro ⟨h70_, ⟨h71_, h72_⟩⟩
          have h73_ := (h70_ (la_make_21 h21_ h68_))
          refine ⟨(la_make_23 h6_ h58_), ?_⟩
          intro l4_96
          intro h74_
          intro l5_97
          intro h75_
          intro g95
          rintro ⟨h76_, ⟨h77_, h78_⟩⟩
          refine ⟨(la_make_24 h77_), ?_⟩
          refine ⟨?_, ?_⟩
          · skip
            intro h79_
            refine ⟨⟨h4_, ⟨h5_, ⟨h6_, ⟨h7_, ⟨h8_, ⟨h9_, ⟨h10_, ⟨h11_, ⟨h12_, ⟨h13_, ⟨h14_, ⟨h15_, (la_make_25 h16_ h17_ h21_ h22_ h23_ h24_)⟩⟩⟩⟩⟩⟩⟩⟩⟩⟩⟩⟩, ?_⟩
            intro g104
            rintro ⟨h80_, h81_⟩
            refine ⟨(la_make_26 h78_ h80_), ?_⟩
            refine ⟨(la_make_27 h59_ h73_ h81_), ?_⟩
            have e82_ : sm_ps (fun i' : Int => (if i' = 639 then g54 69 647791 else (S 76) i')) (fun i' : Int => (if i' = 639 then g54 70 647791 else (S 77) i')) = sm_ps (fun i' : Int => (if i' = 639 then g54 69 647791 else (S 76) i')) (S 77) := sm_ps_B la_make_28
            have e83_ : sm_ps (fun i' : Int => (if i' = 639 then g54 69 647791 else (S 76) i')) (S 77) = sm_ps (S 76) (S 77) := sm_ps_A la_make_28
            have e84_ : sm_pt (S 68) (fun i' : Int => (if i' = 647791 then S 76 639 else (g30 69) i')) (fun i' : Int => (if i' = 647791 then S 77 639 else (g30 70) i')) = sm_pt (S 68) (fun i' : Int => (if i' = 647791 then S 76 639 else (g30 69) i')) (g30 70) := sm_pt_H la_make_12
            have e85_ : sm_pt (S 68) (fun i' : Int => (if i' = 647791 then S 76 639 else (g30 69) i')) (g30 70) = sm_pt (S 68) (g30 69) (g30 70) := sm_pt_L la_make_12
            exact (la_make_29 e82_ e83_)
          intro h86_
          refine ⟨⟨h4_, ⟨h5_, ⟨h6_, ⟨h7_, ⟨h8_, ⟨h9_, ⟨h10_, ⟨h11_, ⟨h12_, ⟨h13_, ⟨h14_, ⟨h15_, (la_make_30 h5_ h16_ h17_ h21_ h22_ h76_ h86_)⟩⟩⟩⟩⟩⟩⟩⟩⟩⟩⟩⟩, ?_⟩
          intro r114
          intro h87_
          rintro ⟨h88_, h89_⟩
          obtain ⟨h90_, h91_⟩ := (h88_ la_make_16)
          refine ⟨⟨h4_, ⟨h5_, ⟨h6_, ⟨h7_, ⟨h8_, ⟨h9_, ⟨h10_, ⟨h11_, ⟨h12_, ⟨h13_, ⟨h14_, ⟨h15_, (la_make_31 h5_ h16_ h17_ h21_ h22_ h76_ h86_)⟩⟩⟩⟩⟩⟩⟩⟩⟩⟩⟩⟩, ?_⟩
          intro r120
          intro h92_
          rintro ⟨h93_, h94_⟩
          obtain ⟨h95_, h96_⟩ := (h93_ la_make_16)
          refine ⟨(la_make_32 h90_ h91_ h95_ h96_), ?_⟩
          intro r126
          intro h97_
          intro g122
          rintro ⟨h98_, ⟨h99_, h100_⟩⟩
          have h101_ := (h98_ (la_make_33 h95_))
          refine ⟨(la_make_35 h7_ h76_ h86_), ?_⟩
          refine ⟨(la_make_36 h76_ h78_ h86_ h101_), ?_⟩
          exact la_make_37
        intro h102_
        refine ⟨⟨h4_, ⟨h5_, ⟨h6_, ⟨h7_, ⟨h8_, ⟨h9_, ⟨h10_, ⟨h11_, ⟨h12_, ⟨h13_, ⟨h14_, ⟨h15_, (la_make_38 h5_ h16_ h17_ h56_ h102_)⟩⟩⟩⟩⟩⟩⟩⟩⟩⟩⟩⟩, ?_⟩
        intro r135
        intro h103_
        rintro ⟨h104_, h105_⟩
        have h106_ := (h104_ la_make_16)
        refine ⟨(la_make_39 h5_ h56_ h102_ h106_), ?_⟩
        intro h107_
        intro h108_
        intro g145
        intro h109_
        intro h110_
        intro h111_
        intro h112_
        intro h113_
        intro g167
        intro h114_
        intro h115_
        intro h116_
        refine ⟨(la_make_40 h5_ h56_ h102_), ?_⟩
        refine ⟨?_, ?_⟩
        · skip
          refine ⟨(la_make_41 h56_), ?_⟩
          refine ⟨(la_make_42 h102_), ?_⟩
          refine ⟨?_, ?_⟩
          · skip
            have e117_ : sm_pt (S 68) (fun i' : Int => (if i' = 647791 then g68 85 r135 else (g145 69) i')) (fun i' : Int => (if i' = 647791 then g68 86 r135 else (g145 70) i')) = sm_pt (S 68) (fun i' : Int => (if i' = 647791 then g68 85 r135 else (g145 69) i')) (g145 70) := sm_pt_H la_make_12
            have e118_ : sm_pt (S 68) (fun i' : Int => (if i' = 647791 then g68 85 r135 else (g145 69) i')) (g145 70) = sm_pt (S 68) (g145 69) (g145 70) := sm_pt_L la_make_12
            have e119_ : sm_pt (S 68) (fun i' : Int => (if i' = 647791 then g68 83 r135 else (g68 69) i')) (fun i' : Int => (if i' = 647791 then g68 84 r135 else (g68 70) i')) = sm_pt (S 68) (fun i' : Int => (if i' = 647791 then g68 83 r135 else (g68 69) i')) (g68 70) := sm_pt_H la_make_12
            have e120_ : sm_pt (S 68) (fun i' : Int => (if i' = 647791 then g68 83 r135 else (g68 69) i')) (g68 70) = sm_pt (S 68) (g68 69) (g68 70) := sm_pt_L la_make_12
            have e121_ : sm_pt (S 68) (fun i' : Int => (if i' = 647791 then S 76 639 else (g30 69) i')) (fun i' : Int => (if i' = 647791 then S 77 639 else (g30 70) i')) = sm_pt (S 68) (fun i' : Int => (if i' = 647791 then S 76 639 else (g30 69) i')) (g30 70) := sm_pt_H la_make_12
            have e122_ : sm_pt (S 68) (fun i' : Int => (if i' = 647791 then S 76 639 else (g30 69) i')) (g30 70) = sm_pt (S 68) (g30 69) (g30 70) := sm_pt_L la_make_12
            exact (la_make_43 h58_ h109_ h114_ e117_ e118_ e119_ e120_)
          have e123_ : sm_pt (S 68) (fun i' : Int => (if i' = 647791 then g68 85 r135 else (g145 69) i')) (fun i' : Int => (if i' = 647791 then g68 86 r135 else (g145 70) i')) = sm_pt (S 68) (fun i' : Int => (if i' = 647791 then g68 85 r135 else (g145 69) i')) (g145 70) := sm_pt_H la_make_12
          have e124_ : sm_pt (S 68) (fun i' : Int => (if i' = 647791 then g68 85 r135 else (g145 69) i')) (g145 70) = sm_pt (S 68) (g145 69) (g145 70) := sm_pt_L la_make_12
          have e125_ : sm_pt (S 68) (fun i' : Int => (if i' = 647791 then g68 83 r135 else (g68 69) i')) (fun i' : Int => (if i' = 647791 then g68 84 r135 else (g68 70) i')) = sm_pt (S 68) (fun i' : Int => (if i' = 647791 then g68 83 r135 else (g68 69) i')) (g68 70) := sm_pt_H la_make_12
          have e126_ : sm_pt (S 68) (fun i' : Int => (if i' = 647791 then g68 83 r135 else (g68 69) i')) (g68 70) = sm_pt (S 68) (g68 69) (g68 70) := sm_pt_L la_make_12
          have e127_ : sm_pt (S 68) (fun i' : Int => (if i' = 647791 then S 76 639 else (g30 69) i')) (fun i' : Int => (if i' = 647791 then S 77 639 else (g30 70) i')) = sm_pt (S 68) (fun i' : Int => (if i' = 647791 then S 76 639 else (g30 69) i')) (g30 70) := sm_pt_H la_make_12
          have e128_ : sm_pt (S 68) (fun i' : Int => (if i' = 647791 then S 76 639 else (g30 69) i')) (g30 70) = sm_pt (S 68) (g30 69) (g30 70) := sm_pt_L la_make_12
          have e129_ : sm_pl (S 81) (S 82) (fun i' : Int => (if i' = r135 then g145 69 647791 else (g68 83) i')) (fun i' : Int => (if i' = r135 then g145 70 647791 else (g68 84) i')) (fun i' : Int => (if i' = r135 then g167 69 647791 else (g68 85) i')) (fun i' : Int => (if i' = r135 then g167 70 647791 else (g68 86) i')) = sm_pl (S 81) (S 82) (fun i' : Int => (if i' = r135 then g145 69 647791 else (g68 83) i')) (fun i' : Int => (if i' = r135 then g145 70 647791 else (g68 84) i')) (fun i' : Int => (if i' = r135 then g167 69 647791 else (g68 85) i')) (g68 86) := sm_pl_D (la_make_44 h56_ h106_)
          have e130_ : sm_pl (S 81) (S 82) (fun i' : Int => (if i' = r135 then g145 69 647791 else (g68 83) i')) (fun i' : Int => (if i' = r135 then g145 70 647791 else (g68 84) i')) (fun i' : Int => (if i' = r135 then g167 69 647791 else (g68 85) i')) (g68 86) = sm_pl (S 81) (S 82) (fun i' : Int => (if i' = r135 then g145 69 647791 else (g68 83) i')) (fun i' : Int => (if i' = r135 then g145 70 647791 else (g68 84) i')) (g68 85) (g68 86) := sm_pl_C (la_make_44 h56_ h106_)
          have e131_ : sm_pl (S 81) (S 82) (fun i' : Int => (if i' = r135 then g145 69 647791 else (g68 83) i')) (fun i' : Int => (if i' = r135 then g145 70 647791 else (g68 84) i')) (g68 85) (g68 86) = sm_pl (S 81) (S 82) (fun i' : Int => (if i' = r135 then g145 69 647791 else (g68 83) i')) (g68 84) (g68 85) (g68 86) := sm_pl_B (la_make_44 h56_ h106_)
          have e132_ : sm_pl (S 81) (S 82) (fun i' : Int => (if i' = r135 then g145 69 647791 else (g68 83) i')) (g68 84) (g68 85) (g68 86) = sm_pl (S 81) (S 82) (g68 83) (g68 84) (g68 85) (g68 86) := sm_pl_A (la_make_44 h56_ h106_)
          exact (la_make_45 h59_ e129_ e130_ e131_ e132_)
        exact la_make_46
      intro h133_
      refine ⟨(la_make_47 h26_ h43_ h133_), ?_⟩
      intro h134_
      refine ⟨?_, ?_⟩
      · skip
        refine ⟨?_, ?_⟩
        · skip
          obtain ⟨h135_, h136_⟩ := (((h27_ l3_31) h43_) (la_make_48 h133_))
          exact h135_
        refine ⟨?_, ?_⟩
        · skip
          obtain ⟨h137_, h138_⟩ := (((h27_ l3_31) h43_) (la_make_48 h133_))
          exact h138_
        refine ⟨h21_, ?_⟩
        exact (la_make_49 h5_ h22_)
      intro g185
      intro h139_
      refine ⟨(la_make_50 h26_ h43_ h133_), ?_⟩
      refine ⟨(la_make_51 h43_ h45_ h133_ h139_), ?_⟩
      exact la_make_46
    intro h140_
    intro h141_
    refine ⟨(la_make_52 h18_ h20_ h36_ h140_), ?_⟩
    refine ⟨(la_make_53 h5_ h18_ h20_ h21_ h22_ h36_ h140_), ?_⟩
    intro g197
    intro h142_
    refine ⟨(la_make_54 h20_ h36_ h140_), ?_⟩
    refine ⟨(la_make_51 h36_ h38_ h140_ h142_), ?_⟩
    exact la_make_46
  intro h143_
  refine ⟨(la_make_55 h17_ h29_ h143_), ?_⟩
  refine ⟨(la_make_56 h5_ h17_ h21_ h22_ h29_ h143_), ?_⟩
  intro g207
  intro h144_
  refine ⟨(la_make_57 h17_ h29_ h143_), ?_⟩
  refine ⟨(la_make_51 h29_ h31_ h143_ h144_), ?_⟩
  exact la_make_46
set_option maxRecDepth 8000 in
set_option maxHeartbeats 2000000 in
theorem t_make : ∀ (p1 : Int) (p2 : Int) (S : sv_S), sm_ok S → sv_R p1 → sv_R p2 → (29 ≤ (S 1071 0) ∧ (S 1071 0) ≤ 127 ∧ 31 ≤ (S 1008 0) ∧ (S 1008 0) ≤ 90 ∧ 1 ≤ (S 1032 0) ∧ (S 1032 0) ≤ 11 ∧ 0 ≤ (S 1055 0) ∧ (S 1055 0) ≤ 19 ∧ (S 1071 0) = 29 + 6 * ((S 1032 0) - 1) + 2 * (S 1055 0) ∧ 0 ≤ (S 1046 0) ∧ (S 1046 0) + 2 * (S 1032 0) ≤ 500 ∧ sm_PD (S 1046 0) (S 1032 0) (S 1071 0) (S 1008 0) ∧ 0 ≤ (S 1071 0) * ((S 1008 0) + 1) ∧ (S 1071 0) * ((S 1008 0) + 1) ≤ 11557 ∧ (S 75 639) = 647340 ∧ 0 ≤ (S 74 639) ∧ (S 74 639) ≤ 400 ∧ 0 ≤ p1 ∧ p1 + 1 < (S 1071 0) ∧ -1 ≤ p2 ∧ p2 ≤ 63 ∧ 0 ≤ (S 1147 0) ∧ (S 1147 0) ≤ 12 ∧ (∀ k : Int, 0 ≤ k → k < (S 1147 0) → 635639 ≤ (S 91 k) ∧ (S 91 k) < 647800)) → sv_T sm_XS sm_cs sm_L sm_sh 3 (q_make p1 p2 S) 256 0 (lv_args 0 [.ref 0, sv_I p1, sv_I p2]) [] S := by
  intro p1 p2 S hok hp1 hp2 hpre
  have h := f_make p1 p2 S hok hp1 hp2 hpre
  have hM := sm_h256
  show sv_T sm_XS sm_cs sm_L sm_sh 3 (q_make p1 p2 S) 256 0 [(0, .ref 0), (1, sv_I p1), (2, sv_I p2)] [] S
  refine sv_iconst (d := (0 : Int)) hM dX12_make_0 rfl rfl ?_
  refine sv_istore_n hM dX12_make_1 (by decide) rfl ?_
  show sv_T sm_XS sm_cs sm_L sm_sh 3 (q_make p1 p2 S) 256 2 [(0, .ref 0), (1, sv_I p1), (2, sv_I p2), (3, sv_I (0 : Int))] [] S
  obtain ⟨hin4, h⟩ := h
  have hJ : ∀ a : Int × sv_S, (sv_R a.1 ∧ sm_ok (sv_sts S [69, 70] a.2) ∧ (0 ≤ a.1 ∧ a.1 ≤ (S 1071 0) * ((S 1008 0) + 1) ∧ sm_pt (S 68) (a.2 69) (a.2 70) = sm_pt (S 68) (S 69) (S 70))) → sv_T sm_XS sm_cs sm_L sm_sh 3 (q_make p1 p2 S) 256 2 [(0, .ref 0), (1, sv_I p1), (2, sv_I p2), (3, sv_I a.1)] [] (sv_sts S [69, 70] a.2) := by
    refine sv_loop (α := Int × sv_S) (fun a => sv_R a.1 ∧ sm_ok (sv_sts S [69, 70] a.2) ∧ (0 ≤ a.1 ∧ a.1 ≤ (S 1071 0) * ((S 1008 0) + 1) ∧ sm_pt (S 68) (a.2 69) (a.2 70) = sm_pt (S 68) (S 69) (S 70))) (fun a => (S 1071 0) * ((S 1008 0) + 1) - a.1) (fun a => sv_T sm_XS sm_cs sm_L sm_sh 3 (q_make p1 p2 S) 256 2 [(0, .ref 0), (1, sv_I p1), (2, sv_I p2), (3, sv_I a.1)] [] (sv_sts S [69, 70] a.2)) (fun a q => (h a.1 q.1 a.2 q.2.2).1) (fun a q ih3 => ?_)
    obtain ⟨l3_2, g1⟩ := a
    obtain ⟨hl3_2, ok5, hin4i⟩ := q
    have h := (h l3_2 hl3_2 g1 hin4i).2
    show sv_T sm_XS sm_cs sm_L sm_sh 3 (q_make p1 p2 S) 256 2 [(0, .ref 0), (1, sv_I p1), (2, sv_I p2), (3, sv_I l3_2)] [] (sv_sts S [69, 70] g1)
    have md6 : sv_mod [68, 69, 70, 81, 82, 83, 84, 85, 86, 76, 77] S (sv_sts S [69, 70] g1) := sv_mod.sts sv_mod.rf (by decide)
    have md7 : sv_mod [69, 70] S (sv_sts S [69, 70] g1) := sv_mod.sts sv_mod.rf (by decide)
    refine sv_iload_n hM dX12_make_2 rfl rfl ?_
    refine sv_aload_n hM dX12_make_3 rfl rfl ?_
    have k8 : sv_R (S 1071 0) := sm_okI ok5 sm_r1071 0
    have h := h k8
    refine sv_getI hM dX12_make_4 sm_fl_765 (sm_a0 _) sm_k71 rfl (x := (S 1071 0)) rfl ?_
    refine sv_aload_n hM dX12_make_7 rfl rfl ?_
    have k9 : sv_R (S 1008 0) := sm_okI ok5 sm_r1008 0
    have h := h k9
    refine sv_getI hM dX12_make_8 sm_fl_762 (sm_a0 _) sm_k8 rfl (x := (S 1008 0)) rfl ?_
    refine sv_iconst (d := (1 : Int)) hM dX12_make_11 rfl rfl ?_
    refine sv_iadd hM dX12_make_12 rfl ?_
    refine sv_imul hM dX12_make_13 rfl ?_
    obtain ⟨o10, h⟩ := h
    refine sv_icmp_ge hM dX12_make_14 hl3_2 o10 (t := 33) rfl rfl (fun hc => ?_) (fun hc => ?_)
    · have h := h.1 (hc)
      refine sv_iconst (d := (0 : Int)) hM dX12_make_33 rfl rfl ?_
      refine sv_istore_n hM dX12_make_34 (by decide) rfl ?_
      show sv_T sm_XS sm_cs sm_L sm_sh 3 (q_make p1 p2 S) 256 35 [(0, .ref 0), (1, sv_I p1), (2, sv_I p2), (3, sv_I (0 : Int))] [] (sv_sts S [69, 70] g1)
      obtain ⟨hin14, h⟩ := h
      have hJ : ∀ a : Int × sv_S, (sv_R a.1 ∧ sm_ok (sv_sts (sv_sts S [69, 70] g1) [69, 70] a.2) ∧ (0 ≤ a.1 ∧ a.1 ≤ (S 74 639) ∧ sm_pt (S 68) (a.2 69) (a.2 70) = sm_pt (S 68) (S 69) (S 70))) → sv_T sm_XS sm_cs sm_L sm_sh 3 (q_make p1 p2 S) 256 35 [(0, .ref 0), (1, sv_I p1), (2, sv_I p2), (3, sv_I a.1)] [] (sv_sts (sv_sts S [69, 70] g1) [69, 70] a.2) := by
        refine sv_loop (α := Int × sv_S) (fun a => sv_R a.1 ∧ sm_ok (sv_sts (sv_sts S [69, 70] g1) [69, 70] a.2) ∧ (0 ≤ a.1 ∧ a.1 ≤ (S 74 639) ∧ sm_pt (S 68) (a.2 69) (a.2 70) = sm_pt (S 68) (S 69) (S 70))) (fun a => (S 74 639) - a.1) (fun a => sv_T sm_XS sm_cs sm_L sm_sh 3 (q_make p1 p2 S) 256 35 [(0, .ref 0), (1, sv_I p1), (2, sv_I p2), (3, sv_I a.1)] [] (sv_sts (sv_sts S [69, 70] g1) [69, 70] a.2)) (fun a q => (h a.1 q.1 a.2 q.2.2).1) (fun a q ih13 => ?_)
        obtain ⟨l3_12, g11⟩ := a
        obtain ⟨hl3_12, ok15, hin14i⟩ := q
        have h := (h l3_12 hl3_12 g11 hin14i).2
        show sv_T sm_XS sm_cs sm_L sm_sh 3 (q_make p1 p2 S) 256 35 [(0, .ref 0), (1, sv_I p1), (2, sv_I p2), (3, sv_I l3_12)] [] (sv_sts (sv_sts S [69, 70] g1) [69, 70] g11)
        have md16 : sv_mod [68, 69, 70, 81, 82, 83, 84, 85, 86, 76, 77] S (sv_sts (sv_sts S [69, 70] g1) [69, 70] g11) := sv_mod.sts md6 (by decide)
        have md17 : sv_mod [69, 70] S (sv_sts (sv_sts S [69, 70] g1) [69, 70] g11) := sv_mod.sts md7 (by decide)
        have md18 : sv_mod [69, 70] (sv_sts S [69, 70] g1) (sv_sts (sv_sts S [69, 70] g1) [69, 70] g11) := sv_mod.sts sv_mod.rf (by decide)
        refine sv_iload_n hM dX12_make_35 rfl rfl ?_
        refine sv_aload_n hM dX12_make_36 rfl rfl ?_
        refine sv_getA hM dX12_make_37 sm_fl_235 (sm_a0 _) sm_k125 rfl ?_
        refine sv_sipush (d := (639 : Int)) hM dX12_make_40 rfl rfl ?_
        obtain ⟨o19, h⟩ := h
        have k20 : sv_R (S 74 (639 : Int)) := sm_okI ok15 sm_r74 (639 : Int)
        have h := h k20
        refine sv_iald hM dX12_make_43 (sm_a74 _) (by decide) o19.1 o19.2 rfl (x := (S 74 (639 : Int))) rfl ?_
        refine sv_icmp_ge hM dX12_make_44 hl3_12 k20 (t := 68) rfl rfl (fun hc => ?_) (fun hc => ?_)
        · have h := h.1 (hc)
          refine sv_aload_n hM dX12_make_68 rfl rfl ?_
          refine sv_aload_n hM dX12_make_69 rfl rfl ?_
          refine sv_sipush (d := (639 : Int)) hM dX12_make_70 rfl rfl ?_
          refine sv_callV hM dX12_make_73 sm_iv_1098 (by decide) (sm_a0 _) rfl rfl (Nat.le_of_ble_eq_true rfl) sm_h227 (Nat.le_of_ble_eq_true rfl) (Nat.le_of_ble_eq_true rfl) (F' := 0) (Nat.le_of_ble_eq_true rfl) rfl (t_thisAt (639 : Int) (sv_sts (sv_sts S [69, 70] g1) [69, 70] g11) ok15 (⟨by decide, by decide⟩ : sv_R (639 : Int))) (fun v S1 hq => ?_)
          obtain ⟨rfl, hS1⟩ := hq
          obtain rfl : (sv_sts (sv_sts S [69, 70] g1) [69, 70] g11) = S1 := hS1.symm
          show sv_T sm_XS sm_cs sm_L sm_sh 3 (q_make p1 p2 S) 256 76 [(0, .ref 0), (1, sv_I p1), (2, sv_I p2), (3, sv_I l3_12)] [sv_I (635000 + (639 : Int)), .ref 0] (sv_sts (sv_sts S [69, 70] g1) [69, 70] g11)
          refine sv_iload_n hM dX12_make_76 rfl rfl ?_
          obtain ⟨o21, h⟩ := h
          obtain ⟨o22, h⟩ := h
          refine sv_callV hM dX12_make_77 sm_iv_1175 (by decide) (sm_a0 _) rfl rfl (Nat.le_of_ble_eq_true rfl) sm_h255 (Nat.le_of_ble_eq_true rfl) (Nat.le_of_ble_eq_true rfl) (F' := 1) (Nat.le_of_ble_eq_true rfl) rfl (t_renameIn (635000 + (639 : Int)) p1 (sv_sts (sv_sts S [69, 70] g1) [69, 70] g11) ok15 o21 hp1 o22) (fun v S1 hq => ?_)
          obtain ⟨rfl, ok24, md25, hpo26⟩ := hq
          obtain ⟨g23, rfl⟩ : ∃ g, S1 = sv_sts (sv_sts (sv_sts S [69, 70] g1) [69, 70] g11) [69, 70] g := ⟨_, md25.eq⟩
          show sv_T sm_XS sm_cs sm_L sm_sh 3 (q_make p1 p2 S) 256 80 [(0, .ref 0), (1, sv_I p1), (2, sv_I p2), (3, sv_I l3_12)] [] (sv_sts (sv_sts (sv_sts S [69, 70] g1) [69, 70] g11) [69, 70] g23)
          have md27 : sv_mod [68, 69, 70, 81, 82, 83, 84, 85, 86, 76, 77] S (sv_sts (sv_sts (sv_sts S [69, 70] g1) [69, 70] g11) [69, 70] g23) := sv_mod.sts md16 (by decide)
          have md28 : sv_mod [69, 70] S (sv_sts (sv_sts (sv_sts S [69, 70] g1) [69, 70] g11) [69, 70] g23) := sv_mod.sts md17 (by decide)
          have md29 : sv_mod [69, 70] (sv_sts S [69, 70] g1) (sv_sts (sv_sts (sv_sts S [69, 70] g1) [69, 70] g11) [69, 70] g23) := sv_mod.sts md18 (by decide)
          have h := h g23 hpo26
          refine sv_iconst (d := (0 : Int)) hM dX12_make_80 rfl rfl ?_
          refine sv_istore_n hM dX12_make_81 (by decide) rfl ?_
          show sv_T sm_XS sm_cs sm_L sm_sh 3 (q_make p1 p2 S) 256 82 [(0, .ref 0), (1, sv_I p1), (2, sv_I p2), (3, sv_I (0 : Int))] [] (sv_sts (sv_sts (sv_sts S [69, 70] g1) [69, 70] g11) [69, 70] g23)
          obtain ⟨hin33, h⟩ := h
          have hJ : ∀ a : Int × sv_S, (sv_R a.1 ∧ sm_ok (sv_sts (sv_sts (sv_sts (sv_sts S [69, 70] g1) [69, 70] g11) [69, 70] g23) [69, 70] a.2) ∧ (0 ≤ a.1 ∧ a.1 ≤ (S 1147 0) ∧ sm_pt (S 68) (a.2 69) (a.2 70) = sm_pt (S 68) (S 69) (S 70))) → sv_T sm_XS sm_cs sm_L sm_sh 3 (q_make p1 p2 S) 256 82 [(0, .ref 0), (1, sv_I p1), (2, sv_I p2), (3, sv_I a.1)] [] (sv_sts (sv_sts (sv_sts (sv_sts S [69, 70] g1) [69, 70] g11) [69, 70] g23) [69, 70] a.2) := by
            refine sv_loop (α := Int × sv_S) (fun a => sv_R a.1 ∧ sm_ok (sv_sts (sv_sts (sv_sts (sv_sts S [69, 70] g1) [69, 70] g11) [69, 70] g23) [69, 70] a.2) ∧ (0 ≤ a.1 ∧ a.1 ≤ (S 1147 0) ∧ sm_pt (S 68) (a.2 69) (a.2 70) = sm_pt (S 68) (S 69) (S 70))) (fun a => (S 1147 0) - a.1) (fun a => sv_T sm_XS sm_cs sm_L sm_sh 3 (q_make p1 p2 S) 256 82 [(0, .ref 0), (1, sv_I p1), (2, sv_I p2), (3, sv_I a.1)] [] (sv_sts (sv_sts (sv_sts (sv_sts S [69, 70] g1) [69, 70] g11) [69, 70] g23) [69, 70] a.2)) (fun a q => (h a.1 q.1 a.2 q.2.2).1) (fun a q ih32 => ?_)
            obtain ⟨l3_31, g30⟩ := a
            obtain ⟨hl3_31, ok34, hin33i⟩ := q
            have h := (h l3_31 hl3_31 g30 hin33i).2
            show sv_T sm_XS sm_cs sm_L sm_sh 3 (q_make p1 p2 S) 256 82 [(0, .ref 0), (1, sv_I p1), (2, sv_I p2), (3, sv_I l3_31)] [] (sv_sts (sv_sts (sv_sts (sv_sts S [69, 70] g1) [69, 70] g11) [69, 70] g23) [69, 70] g30)
            have md35 : sv_mod [68, 69, 70, 81, 82, 83, 84, 85, 86, 76, 77] S (sv_sts (sv_sts (sv_sts (sv_sts S [69, 70] g1) [69, 70] g11) [69, 70] g23) [69, 70] g30) := sv_mod.sts md27 (by decide)
            have md36 : sv_mod [69, 70] S (sv_sts (sv_sts (sv_sts (sv_sts S [69, 70] g1) [69, 70] g11) [69, 70] g23) [69, 70] g30) := sv_mod.sts md28 (by decide)
            have md37 : sv_mod [69, 70] (sv_sts S [69, 70] g1) (sv_sts (sv_sts (sv_sts (sv_sts S [69, 70] g1) [69, 70] g11) [69, 70] g23) [69, 70] g30) := sv_mod.sts md29 (by decide)
            have md38 : sv_mod [69, 70] (sv_sts (sv_sts (sv_sts S [69, 70] g1) [69, 70] g11) [69, 70] g23) (sv_sts (sv_sts (sv_sts (sv_sts S [69, 70] g1) [69, 70] g11) [69, 70] g23) [69, 70] g30) := sv_mod.sts sv_mod.rf (by decide)
            refine sv_iload_n hM dX12_make_82 rfl rfl ?_
            refine sv_aload_n hM dX12_make_83 rfl rfl ?_
            have k39 : sv_R (S 1147 0) := sm_okI ok34 sm_r1147 0
            have h := h k39
            refine sv_getI hM dX12_make_84 sm_fl_1178 (sm_a0 _) sm_k147 rfl (x := (S 1147 0)) rfl ?_
            refine sv_icmp_ge hM dX12_make_87 hl3_31 k39 (t := 107) rfl rfl (fun hc => ?_) (fun hc => ?_)
            · have h := h.1 (hc)
              refine sv_ldc_w (d := (647791 : Int)) hM dX12_make_107 sm_ck_1181 rfl rfl ?_
              refine sv_istore_n hM dX12_make_110 (by decide) rfl ?_
              show sv_T sm_XS sm_cs sm_L sm_sh 3 (q_make p1 p2 S) 256 111 [(0, .ref 0), (1, sv_I p1), (2, sv_I p2), (3, sv_I (647791 : Int))] [] (sv_sts (sv_sts (sv_sts (sv_sts S [69, 70] g1) [69, 70] g11) [69, 70] g23) [69, 70] g30)
              refine sv_aload_n hM dX12_make_111 rfl rfl ?_
              refine sv_getA hM dX12_make_112 sm_fl_220 (sm_a0 _) sm_k117 rfl ?_
              refine sv_iload_n hM dX12_make_115 rfl rfl ?_
              refine sv_aload_n hM dX12_make_116 rfl rfl ?_
              refine sv_getA hM dX12_make_117 sm_fl_241 (sm_a0 _) sm_k128 rfl ?_
              refine sv_sipush (d := (639 : Int)) hM dX12_make_120 rfl rfl ?_
              have k40 : sv_RL (S 76 (639 : Int)) := sm_okJ ok34 sm_r76 (639 : Int)
              have h := h k40
              refine sv_lald hM dX12_make_123 (sm_a76 _) (by decide) o19.1 o19.2 rfl (x := (S 76 (639 : Int))) rfl ?_
              obtain ⟨o41, h⟩ := h
              refine sv_last sm_X hM dX12_make_124 (sm_a69 _) (by decide) o41.1 o41.2 rfl ?_
              have ok42 : sm_ok (sv_up (sv_sts (sv_sts (sv_sts (sv_sts S [69, 70] g1) [69, 70] g11) [69, 70] g23) [69, 70] g30) 69 (647791 : Int) (S 76 (639 : Int))) := sm_upJ ok34 sm_r69 k40
              have md43 : sv_mod [68, 69, 70, 81, 82, 83, 84, 85, 86, 76, 77] S (sv_up (sv_sts (sv_sts (sv_sts (sv_sts S [69, 70] g1) [69, 70] g11) [69, 70] g23) [69, 70] g30) 69 (647791 : Int) (S 76 (639 : Int))) := sv_mod.up md35 (by decide)
              have md44 : sv_mod [69, 70] S (sv_up (sv_sts (sv_sts (sv_sts (sv_sts S [69, 70] g1) [69, 70] g11) [69, 70] g23) [69, 70] g30) 69 (647791 : Int) (S 76 (639 : Int))) := sv_mod.up md36 (by decide)
              have md45 : sv_mod [69, 70] (sv_sts S [69, 70] g1) (sv_up (sv_sts (sv_sts (sv_sts (sv_sts S [69, 70] g1) [69, 70] g11) [69, 70] g23) [69, 70] g30) 69 (647791 : Int) (S 76 (639 : Int))) := sv_mod.up md37 (by decide)
              have md46 : sv_mod [69, 70] (sv_sts (sv_sts (sv_sts S [69, 70] g1) [69, 70] g11) [69, 70] g23) (sv_up (sv_sts (sv_sts (sv_sts (sv_sts S [69, 70] g1) [69, 70] g11) [69, 70] g23) [69, 70] g30) 69 (647791 : Int) (S 76 (639 : Int))) := sv_mod.up md38 (by decide)
              refine sv_aload_n hM dX12_make_125 rfl rfl ?_
              refine sv_getA hM dX12_make_126 sm_fl_223 (sm_a0 _) sm_k118 rfl ?_
              refine sv_iload_n hM dX12_make_129 rfl rfl ?_
              refine sv_aload_n hM dX12_make_130 rfl rfl ?_
              refine sv_getA hM dX12_make_131 sm_fl_244 (sm_a0 _) sm_k129 rfl ?_
              refine sv_sipush (d := (639 : Int)) hM dX12_make_134 rfl rfl ?_
              have k47 : sv_RL (S 77 (639 : Int)) := sm_okJ ok42 sm_r77 (639 : Int)
              have h := h k47
              refine sv_lald hM dX12_make_137 (sm_a77 _) (by decide) o19.1 o19.2 rfl (x := (S 77 (639 : Int))) rfl ?_
              refine sv_last sm_X hM dX12_make_138 (sm_a70 _) (by decide) o41.1 o41.2 rfl ?_
              have ok48 : sm_ok (sv_up (sv_up (sv_sts (sv_sts (sv_sts (sv_sts S [69, 70] g1) [69, 70] g11) [69, 70] g23) [69, 70] g30) 69 (647791 : Int) (S 76 (639 : Int))) 70 (647791 : Int) (S 77 (639 : Int))) := sm_upJ ok42 sm_r70 k47
              have md49 : sv_mod [68, 69, 70, 81, 82, 83, 84, 85, 86, 76, 77] S (sv_up (sv_up (sv_sts (sv_sts (sv_sts (sv_sts S [69, 70] g1) [69, 70] g11) [69, 70] g23) [69, 70] g30) 69 (647791 : Int) (S 76 (639 : Int))) 70 (647791 : Int) (S 77 (639 : Int))) := sv_mod.up md43 (by decide)
              have md50 : sv_mod [69, 70] S (sv_up (sv_up (sv_sts (sv_sts (sv_sts (sv_sts S [69, 70] g1) [69, 70] g11) [69, 70] g23) [69, 70] g30) 69 (647791 : Int) (S 76 (639 : Int))) 70 (647791 : Int) (S 77 (639 : Int))) := sv_mod.up md44 (by decide)
              have md51 : sv_mod [69, 70] (sv_sts S [69, 70] g1) (sv_up (sv_up (sv_sts (sv_sts (sv_sts (sv_sts S [69, 70] g1) [69, 70] g11) [69, 70] g23) [69, 70] g30) 69 (647791 : Int) (S 76 (639 : Int))) 70 (647791 : Int) (S 77 (639 : Int))) := sv_mod.up md45 (by decide)
              have md52 : sv_mod [69, 70] (sv_sts (sv_sts (sv_sts S [69, 70] g1) [69, 70] g11) [69, 70] g23) (sv_up (sv_up (sv_sts (sv_sts (sv_sts (sv_sts S [69, 70] g1) [69, 70] g11) [69, 70] g23) [69, 70] g30) 69 (647791 : Int) (S 76 (639 : Int))) 70 (647791 : Int) (S 77 (639 : Int))) := sv_mod.up md46 (by decide)
              refine sv_aload_n hM dX12_make_139 rfl rfl ?_
              refine sv_iload_n hM dX12_make_140 rfl rfl ?_
              refine sv_iload_n hM dX12_make_141 rfl rfl ?_
              obtain ⟨o53, h⟩ := h
              refine sv_callV hM dX12_make_142 sm_iv_1175 (by decide) (sm_a0 _) rfl rfl (Nat.le_of_ble_eq_true rfl) sm_h255 (Nat.le_of_ble_eq_true rfl) (Nat.le_of_ble_eq_true rfl) (F' := 1) (Nat.le_of_ble_eq_true rfl) rfl (t_renameIn (647791 : Int) p1 (sv_up (sv_up (sv_sts (sv_sts (sv_sts (sv_sts S [69, 70] g1) [69, 70] g11) [69, 70] g23) [69, 70] g30) 69 (647791 : Int) (S 76 (639 : Int))) 70 (647791 : Int) (S 77 (639 : Int))) ok48 (⟨by decide, by decide⟩ : sv_R (647791 : Int)) hp1 o53) (fun v S1 hq => ?_)
              obtain ⟨rfl, ok55, md56, hpo57⟩ := hq
              obtain ⟨g54, rfl⟩ : ∃ g, S1 = sv_sts (sv_up (sv_up (sv_sts (sv_sts (sv_sts (sv_sts S [69, 70] g1) [69, 70] g11) [69, 70] g23) [69, 70] g30) 69 (647791 : Int) (S 76 (639 : Int))) 70 (647791 : Int) (S 77 (639 : Int))) [69, 70] g := ⟨_, md56.eq⟩
              show sv_T sm_XS sm_cs sm_L sm_sh 3 (q_make p1 p2 S) 256 145 [(0, .ref 0), (1, sv_I p1), (2, sv_I p2), (3, sv_I (647791 : Int))] [] (sv_sts (sv_up (sv_up (sv_sts (sv_sts (sv_sts (sv_sts S [69, 70] g1) [69, 70] g11) [69, 70] g23) [69, 70] g30) 69 (647791 : Int) (S 76 (639 : Int))) 70 (647791 : Int) (S 77 (639 : Int))) [69, 70] g54)
              have md58 : sv_mod [68, 69, 70, 81, 82, 83, 84, 85, 86, 76, 77] S (sv_sts (sv_up (sv_up (sv_sts (sv_sts (sv_sts (sv_sts S [69, 70] g1) [69, 70] g11) [69, 70] g23) [69, 70] g30) 69 (647791 : Int) (S 76 (639 : Int))) 70 (647791 : Int) (S 77 (639 : Int))) [69, 70] g54) := sv_mod.sts md49 (by decide)
              have md59 : sv_mod [69, 70] S (sv_sts (sv_up (sv_up (sv_sts (sv_sts (sv_sts (sv_sts S [69, 70] g1) [69, 70] g11) [69, 70] g23) [69, 70] g30) 69 (647791 : Int) (S 76 (639 : Int))) 70 (647791 : Int) (S 77 (639 : Int))) [69, 70] g54) := sv_mod.sts md50 (by decide)
              have md60 : sv_mod [69, 70] (sv_sts S [69, 70] g1) (sv_sts (sv_up (sv_up (sv_sts (sv_sts (sv_sts (sv_sts S [69, 70] g1) [69, 70] g11) [69, 70] g23) [69, 70] g30) 69 (647791 : Int) (S 76 (639 : Int))) 70 (647791 : Int) (S 77 (639 : Int))) [69, 70] g54) := sv_mod.sts md51 (by decide)
              have md61 : sv_mod [69, 70] (sv_sts (sv_sts (sv_sts S [69, 70] g1) [69, 70] g11) [69, 70] g23) (sv_sts (sv_up (sv_up (sv_sts (sv_sts (sv_sts (sv_sts S [69, 70] g1) [69, 70] g11) [69, 70] g23) [69, 70] g30) 69 (647791 : Int) (S 76 (639 : Int))) 70 (647791 : Int) (S 77 (639 : Int))) [69, 70] g54) := sv_mod.sts md52 (by decide)
              have h := h g54 hpo57
              refine sv_aload_n hM dX12_make_145 rfl rfl ?_
              refine sv_getA hM dX12_make_146 sm_fl_241 (sm_a0 _) sm_k128 rfl ?_
              refine sv_sipush (d := (639 : Int)) hM dX12_make_149 rfl rfl ?_
              refine sv_aload_n hM dX12_make_152 rfl rfl ?_
              refine sv_getA hM dX12_make_153 sm_fl_220 (sm_a0 _) sm_k117 rfl ?_
              refine sv_iload_n hM dX12_make_156 rfl rfl ?_
              have k62 : sv_RL (g54 69 (647791 : Int)) := sm_okJ ok55 sm_r69 (647791 : Int)
              have h := h k62
              refine sv_lald hM dX12_make_157 (sm_a69 _) (by decide) o41.1 o41.2 rfl (x := (g54 69 (647791 : Int))) rfl ?_
              refine sv_last sm_X hM dX12_make_158 (sm_a76 _) (by decide) o19.1 o19.2 rfl ?_
              have ok63 : sm_ok (sv_up (sv_sts (sv_up (sv_up (sv_sts (sv_sts (sv_sts (sv_sts S [69, 70] g1) [69, 70] g11) [69, 70] g23) [69, 70] g30) 69 (647791 : Int) (S 76 (639 : Int))) 70 (647791 : Int) (S 77 (639 : Int))) [69, 70] g54) 76 (639 : Int) (g54 69 (647791 : Int))) := sm_upJ ok55 sm_r76 k62
              have md64 : sv_mod [68, 69, 70, 81, 82, 83, 84, 85, 86, 76, 77] S (sv_up (sv_sts (sv_up (sv_up (sv_sts (sv_sts (sv_sts (sv_sts S [69, 70] g1) [69, 70] g11) [69, 70] g23) [69, 70] g30) 69 (647791 : Int) (S 76 (639 : Int))) 70 (647791 : Int) (S 77 (639 : Int))) [69, 70] g54) 76 (639 : Int) (g54 69 (647791 : Int))) := sv_mod.up md58 (by decide)
              refine sv_aload_n hM dX12_make_159 rfl rfl ?_
              refine sv_getA hM dX12_make_160 sm_fl_244 (sm_a0 _) sm_k129 rfl ?_
              refine sv_sipush (d := (639 : Int)) hM dX12_make_163 rfl rfl ?_
              refine sv_aload_n hM dX12_make_166 rfl rfl ?_
              refine sv_getA hM dX12_make_167 sm_fl_223 (sm_a0 _) sm_k118 rfl ?_
              refine sv_iload_n hM dX12_make_170 rfl rfl ?_
              have k65 : sv_RL (g54 70 (647791 : Int)) := sm_okJ ok63 sm_r70 (647791 : Int)
              have h := h k65
              refine sv_lald hM dX12_make_171 (sm_a70 _) (by decide) o41.1 o41.2 rfl (x := (g54 70 (647791 : Int))) rfl ?_
              refine sv_last sm_X hM dX12_make_172 (sm_a77 _) (by decide) o19.1 o19.2 rfl ?_
              have ok66 : sm_ok (sv_up (sv_up (sv_sts (sv_up (sv_up (sv_sts (sv_sts (sv_sts (sv_sts S [69, 70] g1) [69, 70] g11) [69, 70] g23) [69, 70] g30) 69 (647791 : Int) (S 76 (639 : Int))) 70 (647791 : Int) (S 77 (639 : Int))) [69, 70] g54) 76 (639 : Int) (g54 69 (647791 : Int))) 77 (639 : Int) (g54 70 (647791 : Int))) := sm_upJ ok63 sm_r77 k65
              have md67 : sv_mod [68, 69, 70, 81, 82, 83, 84, 85, 86, 76, 77] S (sv_up (sv_up (sv_sts (sv_up (sv_up (sv_sts (sv_sts (sv_sts (sv_sts S [69, 70] g1) [69, 70] g11) [69, 70] g23) [69, 70] g30) 69 (647791 : Int) (S 76 (639 : Int))) 70 (647791 : Int) (S 77 (639 : Int))) [69, 70] g54) 76 (639 : Int) (g54 69 (647791 : Int))) 77 (639 : Int) (g54 70 (647791 : Int))) := sv_mod.up md64 (by decide)
              refine sv_iconst (d := (0 : Int)) hM dX12_make_173 rfl rfl ?_
              refine sv_istore hM dX12_make_174 (by decide) rfl ?_
              show sv_T sm_XS sm_cs sm_L sm_sh 3 (q_make p1 p2 S) 256 176 [(0, .ref 0), (1, sv_I p1), (2, sv_I p2), (3, sv_I (647791 : Int)), (4, sv_I (0 : Int))] [] (sv_up (sv_up (sv_sts (sv_up (sv_up (sv_sts (sv_sts (sv_sts (sv_sts S [69, 70] g1) [69, 70] g11) [69, 70] g23) [69, 70] g30) 69 (647791 : Int) (S 76 (639 : Int))) 70 (647791 : Int) (S 77 (639 : Int))) [69, 70] g54) 76 (639 : Int) (g54 69 (647791 : Int))) 77 (639 : Int) (g54 70 (647791 : Int)))
              obtain ⟨hin71, h⟩ := h
              have hJ : ∀ a : Int × sv_S, (sv_R a.1 ∧ sm_ok (sv_sts (sv_up (sv_up (sv_sts (sv_up (sv_up (sv_sts (sv_sts (sv_sts (sv_sts S [69, 70] g1) [69, 70] g11) [69, 70] g23) [69, 70] g30) 69 (647791 : Int) (S 76 (639 : Int))) 70 (647791 : Int) (S 77 (639 : Int))) [69, 70] g54) 76 (639 : Int) (g54 69 (647791 : Int))) 77 (639 : Int) (g54 70 (647791 : Int))) [69, 70, 83, 84, 85, 86] a.2) ∧ (0 ≤ a.1 ∧ a.1 ≤ (S 1071 0) ∧ sm_pt (S 68) (a.2 69) (a.2 70) = sm_pt (S 68) (S 69) (S 70) ∧ sm_pl (S 81) (S 82) (a.2 83) (a.2 84) (a.2 85) (a.2 86) = sm_pl (S 81) (S 82) (S 83) (S 84) (S 85) (S 86))) → sv_T sm_XS sm_cs sm_L sm_sh 3 (q_make p1 p2 S) 256 176 [(0, .ref 0), (1, sv_I p1), (2, sv_I p2), (3, sv_I (647791 : Int)), (4, sv_I a.1)] [] (sv_sts (sv_up (sv_up (sv_sts (sv_up (sv_up (sv_sts (sv_sts (sv_sts (sv_sts S [69, 70] g1) [69, 70] g11) [69, 70] g23) [69, 70] g30) 69 (647791 : Int) (S 76 (639 : Int))) 70 (647791 : Int) (S 77 (639 : Int))) [69, 70] g54) 76 (639 : Int) (g54 69 (647791 : Int))) 77 (639 : Int) (g54 70 (647791 : Int))) [69, 70, 83, 84, 85, 86] a.2) := by
                refine sv_loop (α := Int × sv_S) (fun a => sv_R a.1 ∧ sm_ok (sv_sts (sv_up (sv_up (sv_sts (sv_up (sv_up (sv_sts (sv_sts (sv_sts (sv_sts S [69, 70] g1) [69, 70] g11) [69, 70] g23) [69, 70] g30) 69 (647791 : Int) (S 76 (639 : Int))) 70 (647791 : Int) (S 77 (639 : Int))) [69, 70] g54) 76 (639 : Int) (g54 69 (647791 : Int))) 77 (639 : Int) (g54 70 (647791 : Int))) [69, 70, 83, 84, 85, 86] a.2) ∧ (0 ≤ a.1 ∧ a.1 ≤ (S 1071 0) ∧ sm_pt (S 68) (a.2 69) (a.2 70) = sm_pt (S 68) (S 69) (S 70) ∧ sm_pl (S 81) (S 82) (a.2 83) (a.2 84) (a.2 85) (a.2 86) = sm_pl (S 81) (S 82) (S 83) (S 84) (S 85) (S 86))) (fun a => (S 1071 0) - a.1) (fun a => sv_T sm_XS sm_cs sm_L sm_sh 3 (q_make p1 p2 S) 256 176 [(0, .ref 0), (1, sv_I p1), (2, sv_I p2), (3, sv_I (647791 : Int)), (4, sv_I a.1)] [] (sv_sts (sv_up (sv_up (sv_sts (sv_up (sv_up (sv_sts (sv_sts (sv_sts (sv_sts S [69, 70] g1) [69, 70] g11) [69, 70] g23) [69, 70] g30) 69 (647791 : Int) (S 76 (639 : Int))) 70 (647791 : Int) (S 77 (639 : Int))) [69, 70] g54) 76 (639 : Int) (g54 69 (647791 : Int))) 77 (639 : Int) (g54 70 (647791 : Int))) [69, 70, 83, 84, 85, 86] a.2)) (fun a q => (h a.1 q.1 a.2 q.2.2).1) (fun a q ih70 => ?_)
                obtain ⟨l4_69, g68⟩ := a
                obtain ⟨hl4_69, ok72, hin71i⟩ := q
                have h := (h l4_69 hl4_69 g68 hin71i).2
                show sv_T sm_XS sm_cs sm_L sm_sh 3 (q_make p1 p2 S) 256 176 [(0, .ref 0), (1, sv_I p1), (2, sv_I p2), (3, sv_I (647791 : Int)), (4, sv_I l4_69)] [] (sv_sts (sv_up (sv_up (sv_sts (sv_up (sv_up (sv_sts (sv_sts (sv_sts (sv_sts S [69, 70] g1) [69, 70] g11) [69, 70] g23) [69, 70] g30) 69 (647791 : Int) (S 76 (639 : Int))) 70 (647791 : Int) (S 77 (639 : Int))) [69, 70] g54) 76 (639 : Int) (g54 69 (647791 : Int))) 77 (639 : Int) (g54 70 (647791 : Int))) [69, 70, 83, 84, 85, 86] g68)
                have md73 : sv_mod [68, 69, 70, 81, 82, 83, 84, 85, 86, 76, 77] S (sv_sts (sv_up (sv_up (sv_sts (sv_up (sv_up (sv_sts (sv_sts (sv_sts (sv_sts S [69, 70] g1) [69, 70] g11) [69, 70] g23) [69, 70] g30) 69 (647791 : Int) (S 76 (639 : Int))) 70 (647791 : Int) (S 77 (639 : Int))) [69, 70] g54) 76 (639 : Int) (g54 69 (647791 : Int))) 77 (639 : Int) (g54 70 (647791 : Int))) [69, 70, 83, 84, 85, 86] g68) := sv_mod.sts md67 (by decide)
                have md74 : sv_mod [69, 70, 83, 84, 85, 86] (sv_up (sv_up (sv_sts (sv_up (sv_up (sv_sts (sv_sts (sv_sts (sv_sts S [69, 70] g1) [69, 70] g11) [69, 70] g23) [69, 70] g30) 69 (647791 : Int) (S 76 (639 : Int))) 70 (647791 : Int) (S 77 (639 : Int))) [69, 70] g54) 76 (639 : Int) (g54 69 (647791 : Int))) 77 (639 : Int) (g54 70 (647791 : Int))) (sv_sts (sv_up (sv_up (sv_sts (sv_up (sv_up (sv_sts (sv_sts (sv_sts (sv_sts S [69, 70] g1) [69, 70] g11) [69, 70] g23) [69, 70] g30) 69 (647791 : Int) (S 76 (639 : Int))) 70 (647791 : Int) (S 77 (639 : Int))) [69, 70] g54) 76 (639 : Int) (g54 69 (647791 : Int))) 77 (639 : Int) (g54 70 (647791 : Int))) [69, 70, 83, 84, 85, 86] g68) := sv_mod.sts sv_mod.rf (by decide)
                refine sv_iload hM dX12_make_176 rfl rfl ?_
                refine sv_aload_n hM dX12_make_178 rfl rfl ?_
                refine sv_getI hM dX12_make_179 sm_fl_765 (sm_a0 _) sm_k71 rfl (x := (S 1071 0)) rfl ?_
                refine sv_icmp_ge hM dX12_make_182 hl4_69 k8 (t := 318) rfl rfl (fun hc => ?_) (fun hc => ?_)
                · have h := h.1 (hc)
                  refine sv_aload_n hM dX12_make_318 rfl rfl ?_
                  refine sv_aload_n hM dX12_make_319 rfl rfl ?_
                  refine sv_sipush (d := (639 : Int)) hM dX12_make_320 rfl rfl ?_
                  refine sv_iload_n hM dX12_make_323 rfl rfl ?_
                  obtain ⟨o75, h⟩ := h
                  refine sv_callV hM dX12_make_324 sm_iv_1101 (by decide) (sm_a0 _) rfl rfl (Nat.le_of_ble_eq_true rfl) sm_h226 (Nat.le_of_ble_eq_true rfl) (Nat.le_of_ble_eq_true rfl) (F' := 1) (Nat.le_of_ble_eq_true rfl) rfl (t_of (639 : Int) p1 (sv_sts (sv_up (sv_up (sv_sts (sv_up (sv_up (sv_sts (sv_sts (sv_sts (sv_sts S [69, 70] g1) [69, 70] g11) [69, 70] g23) [69, 70] g30) 69 (647791 : Int) (S 76 (639 : Int))) 70 (647791 : Int) (S 77 (639 : Int))) [69, 70] g54) 76 (639 : Int) (g54 69 (647791 : Int))) 77 (639 : Int) (g54 70 (647791 : Int))) [69, 70, 83, 84, 85, 86] g68) ok72 (⟨by decide, by decide⟩ : sv_R (639 : Int)) hp1 o75) (fun v S1 hq => ?_)
                  obtain ⟨r80, rfl, hr80, ok77, md78, hpo79⟩ := hq
                  obtain rfl : (sv_sts (sv_up (sv_up (sv_sts (sv_up (sv_up (sv_sts (sv_sts (sv_sts (sv_sts S [69, 70] g1) [69, 70] g11) [69, 70] g23) [69, 70] g30) 69 (647791 : Int) (S 76 (639 : Int))) 70 (647791 : Int) (S 77 (639 : Int))) [69, 70] g54) 76 (639 : Int) (g54 69 (647791 : Int))) 77 (639 : Int) (g54 70 (647791 : Int))) [69, 70, 83, 84, 85, 86] g68) = S1 := (funext fun j => md78 j (by intro q; cases q)).symm
                  show sv_T sm_XS sm_cs sm_L sm_sh 3 (q_make p1 p2 S) 256 327 [(0, .ref 0), (1, sv_I p1), (2, sv_I p2), (3, sv_I (647791 : Int)), (4, sv_I l4_69)] [sv_I r80, .ref 0] (sv_sts (sv_up (sv_up (sv_sts (sv_up (sv_up (sv_sts (sv_sts (sv_sts (sv_sts S [69, 70] g1) [69, 70] g11) [69, 70] g23) [69, 70] g30) 69 (647791 : Int) (S 76 (639 : Int))) 70 (647791 : Int) (S 77 (639 : Int))) [69, 70] g54) 76 (639 : Int) (g54 69 (647791 : Int))) 77 (639 : Int) (g54 70 (647791 : Int))) [69, 70, 83, 84, 85, 86] g68)
                  have h := h r80 hr80 hpo79
                  refine sv_aload_n hM dX12_make_327 rfl rfl ?_
                  refine sv_sipush (d := (639 : Int)) hM dX12_make_328 rfl rfl ?_
                  refine sv_iload_n hM dX12_make_331 rfl rfl ?_
                  refine sv_iconst (d := (1 : Int)) hM dX12_make_332 rfl rfl ?_
                  refine sv_iadd hM dX12_make_333 rfl ?_
                  obtain ⟨o81, h⟩ := h
                  obtain ⟨o82, h⟩ := h
                  refine sv_callV hM dX12_make_334 sm_iv_1101 (by decide) (sm_a0 _) rfl rfl (Nat.le_of_ble_eq_true rfl) sm_h226 (Nat.le_of_ble_eq_true rfl) (Nat.le_of_ble_eq_true rfl) (F' := 1) (Nat.le_of_ble_eq_true rfl) rfl (t_of (639 : Int) (p1 + (1 : Int)) (sv_sts (sv_up (sv_up (sv_sts (sv_up (sv_up (sv_sts (sv_sts (sv_sts (sv_sts S [69, 70] g1) [69, 70] g11) [69, 70] g23) [69, 70] g30) 69 (647791 : Int) (S 76 (639 : Int))) 70 (647791 : Int) (S 77 (639 : Int))) [69, 70] g54) 76 (639 : Int) (g54 69 (647791 : Int))) 77 (639 : Int) (g54 70 (647791 : Int))) [69, 70, 83, 84, 85, 86] g68) ok77 (⟨by decide, by decide⟩ : sv_R (639 : Int)) o81 o82) (fun v S1 hq => ?_)
                  obtain ⟨r87, rfl, hr87, ok84, md85, hpo86⟩ := hq
                  obtain rfl : (sv_sts (sv_up (sv_up (sv_sts (sv_up (sv_up (sv_sts (sv_sts (sv_sts (sv_sts S [69, 70] g1) [69, 70] g11) [69, 70] g23) [69, 70] g30) 69 (647791 : Int) (S 76 (639 : Int))) 70 (647791 : Int) (S 77 (639 : Int))) [69, 70] g54) 76 (639 : Int) (g54 69 (647791 : Int))) 77 (639 : Int) (g54 70 (647791 : Int))) [69, 70, 83, 84, 85, 86] g68) = S1 := (funext fun j => md85 j (by intro q; cases q)).symm
                  show sv_T sm_XS sm_cs sm_L sm_sh 3 (q_make p1 p2 S) 256 337 [(0, .ref 0), (1, sv_I p1), (2, sv_I p2), (3, sv_I (647791 : Int)), (4, sv_I l4_69)] [sv_I r87, sv_I r80, .ref 0] (sv_sts (sv_up (sv_up (sv_sts (sv_up (sv_up (sv_sts (sv_sts (sv_sts (sv_sts S [69, 70] g1) [69, 70] g11) [69, 70] g23) [69, 70] g30) 69 (647791 : Int) (S 76 (639 : Int))) 70 (647791 : Int) (S 77 (639 : Int))) [69, 70] g54) 76 (639 : Int) (g54 69 (647791 : Int))) 77 (639 : Int) (g54 70 (647791 : Int))) [69, 70, 83, 84, 85, 86] g68)
                  have h := h r87 hr87 hpo86
                  obtain ⟨o88, h⟩ := h
                  refine sv_callV hM dX12_make_337 sm_iv_1112 (by decide) (sm_a0 _) rfl rfl (Nat.le_of_ble_eq_true rfl) sm_h236 (Nat.le_of_ble_eq_true rfl) (Nat.le_of_ble_eq_true rfl) (F' := 0) (Nat.le_of_ble_eq_true rfl) rfl (t_joinLabel r80 r87 (sv_sts (sv_up (sv_up (sv_sts (sv_up (sv_up (sv_sts (sv_sts (sv_sts (sv_sts S [69, 70] g1) [69, 70] g11) [69, 70] g23) [69, 70] g30) 69 (647791 : Int) (S 76 (639 : Int))) 70 (647791 : Int) (S 77 (639 : Int))) [69, 70] g54) 76 (639 : Int) (g54 69 (647791 : Int))) 77 (639 : Int) (g54 70 (647791 : Int))) [69, 70, 83, 84, 85, 86] g68) ok84 hr80 hr87 o88) (fun v S1 hq => ?_)
                  obtain ⟨r93, rfl, hr93, ok90, md91, hpo92⟩ := hq
                  obtain ⟨g89, rfl⟩ : ∃ g, S1 = sv_sts (sv_sts (sv_up (sv_up (sv_sts (sv_up (sv_up (sv_sts (sv_sts (sv_sts (sv_sts S [69, 70] g1) [69, 70] g11) [69, 70] g23) [69, 70] g30) 69 (647791 : Int) (S 76 (639 : Int))) 70 (647791 : Int) (S 77 (639 : Int))) [69, 70] g54) 76 (639 : Int) (g54 69 (647791 : Int))) 77 (639 : Int) (g54 70 (647791 : Int))) [69, 70, 83, 84, 85, 86] g68) [81, 82, 83, 84, 85, 86] g := ⟨_, md91.eq⟩
                  show sv_T sm_XS sm_cs sm_L sm_sh 3 (q_make p1 p2 S) 256 340 [(0, .ref 0), (1, sv_I p1), (2, sv_I p2), (3, sv_I (647791 : Int)), (4, sv_I l4_69)] [sv_I r93] (sv_sts (sv_sts (sv_up (sv_up (sv_sts (sv_up (sv_up (sv_sts (sv_sts (sv_sts (sv_sts S [69, 70] g1) [69, 70] g11) [69, 70] g23) [69, 70] g30) 69 (647791 : Int) (S 76 (639 : Int))) 70 (647791 : Int) (S 77 (639 : Int))) [69, 70] g54) 76 (639 : Int) (g54 69 (647791 : Int))) 77 (639 : Int) (g54 70 (647791 : Int))) [69, 70, 83, 84, 85, 86] g68) [81, 82, 83, 84, 85, 86] g89)
                  have md94 : sv_mod [68, 69, 70, 81, 82, 83, 84, 85, 86, 76, 77] S (sv_sts (sv_sts (sv_up (sv_up (sv_sts (sv_up (sv_up (sv_sts (sv_sts (sv_sts (sv_sts S [69, 70] g1) [69, 70] g11) [69, 70] g23) [69, 70] g30) 69 (647791 : Int) (S 76 (639 : Int))) 70 (647791 : Int) (S 77 (639 : Int))) [69, 70] g54) 76 (639 : Int) (g54 69 (647791 : Int))) 77 (639 : Int) (g54 70 (647791 : Int))) [69, 70, 83, 84, 85, 86] g68) [81, 82, 83, 84, 85, 86] g89) := sv_mod.sts md73 (by decide)
                  have h := h r93 hr93 g89 hpo92
                  refine sv_istore hM dX12_make_340 (by decide) rfl ?_
                  show sv_T sm_XS sm_cs sm_L sm_sh 3 (q_make p1 p2 S) 256 342 [(0, .ref 0), (1, sv_I p1), (2, sv_I p2), (3, sv_I (647791 : Int)), (4, sv_I r93)] [] (sv_sts (sv_sts (sv_up (sv_up (sv_sts (sv_up (sv_up (sv_sts (sv_sts (sv_sts (sv_sts S [69, 70] g1) [69, 70] g11) [69, 70] g23) [69, 70] g30) 69 (647791 : Int) (S 76 (639 : Int))) 70 (647791 : Int) (S 77 (639 : Int))) [69, 70] g54) 76 (639 : Int) (g54 69 (647791 : Int))) 77 (639 : Int) (g54 70 (647791 : Int))) [69, 70, 83, 84, 85, 86] g68) [81, 82, 83, 84, 85, 86] g89)
                  refine sv_iconst (d := (0 : Int)) hM dX12_make_342 rfl rfl ?_
                  refine sv_istore hM dX12_make_343 (by decide) rfl ?_
                  show sv_T sm_XS sm_cs sm_L sm_sh 3 (q_make p1 p2 S) 256 345 [(0, .ref 0), (1, sv_I p1), (2, sv_I p2), (3, sv_I (647791 : Int)), (4, sv_I r93), (5, sv_I (0 : Int))] [] (sv_sts (sv_sts (sv_up (sv_up (sv_sts (sv_up (sv_up (sv_sts (sv_sts (sv_sts (sv_sts S [69, 70] g1) [69, 70] g11) [69, 70] g23) [69, 70] g30) 69 (647791 : Int) (S 76 (639 : Int))) 70 (647791 : Int) (S 77 (639 : Int))) [69, 70] g54) 76 (639 : Int) (g54 69 (647791 : Int))) 77 (639 : Int) (g54 70 (647791 : Int))) [69, 70, 83, 84, 85, 86] g68) [81, 82, 83, 84, 85, 86] g89)
                  obtain ⟨hin99, h⟩ := h
                  have hJ : ∀ a : Int × Int × sv_S, (sv_R a.1 ∧ sv_R a.2.1 ∧ sm_ok (sv_sts (sv_sts (sv_sts (sv_up (sv_up (sv_sts (sv_up (sv_up (sv_sts (sv_sts (sv_sts (sv_sts S [69, 70] g1) [69, 70] g11) [69, 70] g23) [69, 70] g30) 69 (647791 : Int) (S 76 (639 : Int))) 70 (647791 : Int) (S 77 (639 : Int))) [69, 70] g54) 76 (639 : Int) (g54 69 (647791 : Int))) 77 (639 : Int) (g54 70 (647791 : Int))) [69, 70, 83, 84, 85, 86] g68) [81, 82, 83, 84, 85, 86] g89) [68, 69, 70] a.2.2) ∧ (0 ≤ a.2.1 ∧ a.2.1 ≤ (S 1008 0) + 1 ∧ sm_pt (a.2.2 68) (a.2.2 69) (a.2.2 70) = sm_pt (S 68) (S 69) (S 70))) → sv_T sm_XS sm_cs sm_L sm_sh 3 (q_make p1 p2 S) 256 345 [(0, .ref 0), (1, sv_I p1), (2, sv_I p2), (3, sv_I (647791 : Int)), (4, sv_I a.1), (5, sv_I a.2.1)] [] (sv_sts (sv_sts (sv_sts (sv_up (sv_up (sv_sts (sv_up (sv_up (sv_sts (sv_sts (sv_sts (sv_sts S [69, 70] g1) [69, 70] g11) [69, 70] g23) [69, 70] g30) 69 (647791 : Int) (S 76 (639 : Int))) 70 (647791 : Int) (S 77 (639 : Int))) [69, 70] g54) 76 (639 : Int) (g54 69 (647791 : Int))) 77 (639 : Int) (g54 70 (647791 : Int))) [69, 70, 83, 84, 85, 86] g68) [81, 82, 83, 84, 85, 86] g89) [68, 69, 70] a.2.2) := by
                    refine sv_loop (α := Int × Int × sv_S) (fun a => sv_R a.1 ∧ sv_R a.2.1 ∧ sm_ok (sv_sts (sv_sts (sv_sts (sv_up (sv_up (sv_sts (sv_up (sv_up (sv_sts (sv_sts (sv_sts (sv_sts S [69, 70] g1) [69, 70] g11) [69, 70] g23) [69, 70] g30) 69 (647791 : Int) (S 76 (639 : Int))) 70 (647791 : Int) (S 77 (639 : Int))) [69, 70] g54) 76 (639 : Int) (g54 69 (647791 : Int))) 77 (639 : Int) (g54 70 (647791 : Int))) [69, 70, 83, 84, 85, 86] g68) [81, 82, 83, 84, 85, 86] g89) [68, 69, 70] a.2.2) ∧ (0 ≤ a.2.1 ∧ a.2.1 ≤ (S 1008 0) + 1 ∧ sm_pt (a.2.2 68) (a.2.2 69) (a.2.2 70) = sm_pt (S 68) (S 69) (S 70))) (fun a => (S 1008 0) + 1 - a.2.1) (fun a => sv_T sm_XS sm_cs sm_L sm_sh 3 (q_make p1 p2 S) 256 345 [(0, .ref 0), (1, sv_I p1), (2, sv_I p2), (3, sv_I (647791 : Int)), (4, sv_I a.1), (5, sv_I a.2.1)] [] (sv_sts (sv_sts (sv_sts (sv_up (sv_up (sv_sts (sv_up (sv_up (sv_sts (sv_sts (sv_sts (sv_sts S [69, 70] g1) [69, 70] g11) [69, 70] g23) [69, 70] g30) 69 (647791 : Int) (S 76 (639 : Int))) 70 (647791 : Int) (S 77 (639 : Int))) [69, 70] g54) 76 (639 : Int) (g54 69 (647791 : Int))) 77 (639 : Int) (g54 70 (647791 : Int))) [69, 70, 83, 84, 85, 86] g68) [81, 82, 83, 84, 85, 86] g89) [68, 69, 70] a.2.2)) (fun a q => (h a.1 q.1 a.2.1 q.2.1 a.2.2 q.2.2.2).1) (fun a q ih98 => ?_)
                    obtain ⟨l4_96, l5_97, g95⟩ := a
                    obtain ⟨hl4_96, hl5_97, ok100, hin99i⟩ := q
                    have h := (h l4_96 hl4_96 l5_97 hl5_97 g95 hin99i).2
                    show sv_T sm_XS sm_cs sm_L sm_sh 3 (q_make p1 p2 S) 256 345 [(0, .ref 0), (1, sv_I p1), (2, sv_I p2), (3, sv_I (647791 : Int)), (4, sv_I l4_96), (5, sv_I l5_97)] [] (sv_sts (sv_sts (sv_sts (sv_up (sv_up (sv_sts (sv_up (sv_up (sv_sts (sv_sts (sv_sts (sv_sts S [69, 70] g1) [69, 70] g11) [69, 70] g23) [69, 70] g30) 69 (647791 : Int) (S 76 (639 : Int))) 70 (647791 : Int) (S 77 (639 : Int))) [69, 70] g54) 76 (639 : Int) (g54 69 (647791 : Int))) 77 (639 : Int) (g54 70 (647791 : Int))) [69, 70, 83, 84, 85, 86] g68) [81, 82, 83, 84, 85, 86] g89) [68, 69, 70] g95)
                    have md101 : sv_mod [68, 69, 70, 81, 82, 83, 84, 85, 86, 76, 77] S (sv_sts (sv_sts (sv_sts (sv_up (sv_up (sv_sts (sv_up (sv_up (sv_sts (sv_sts (sv_sts (sv_sts S [69, 70] g1) [69, 70] g11) [69, 70] g23) [69, 70] g30) 69 (647791 : Int) (S 76 (639 : Int))) 70 (647791 : Int) (S 77 (639 : Int))) [69, 70] g54) 76 (639 : Int) (g54 69 (647791 : Int))) 77 (639 : Int) (g54 70 (647791 : Int))) [69, 70, 83, 84, 85, 86] g68) [81, 82, 83, 84, 85, 86] g89) [68, 69, 70] g95) := sv_mod.sts md94 (by decide)
                    have md102 : sv_mod [68, 69, 70] (sv_sts (sv_sts (sv_up (sv_up (sv_sts (sv_up (sv_up (sv_sts (sv_sts (sv_sts (sv_sts S [69, 70] g1) [69, 70] g11) [69, 70] g23) [69, 70] g30) 69 (647791 : Int) (S 76 (639 : Int))) 70 (647791 : Int) (S 77 (639 : Int))) [69, 70] g54) 76 (639 : Int) (g54 69 (647791 : Int))) 77 (639 : Int) (g54 70 (647791 : Int))) [69, 70, 83, 84, 85, 86] g68) [81, 82, 83, 84, 85, 86] g89) (sv_sts (sv_sts (sv_sts (sv_up (sv_up (sv_sts (sv_up (sv_up (sv_sts (sv_sts (sv_sts (sv_sts S [69, 70] g1) [69, 70] g11) [69, 70] g23) [69, 70] g30) 69 (647791 : Int) (S 76 (639 : Int))) 70 (647791 : Int) (S 77 (639 : Int))) [69, 70] g54) 76 (639 : Int) (g54 69 (647791 : Int))) 77 (639 : Int) (g54 70 (647791 : Int))) [69, 70, 83, 84, 85, 86] g68) [81, 82, 83, 84, 85, 86] g89) [68, 69, 70] g95) := sv_mod.sts sv_mod.rf (by decide)
                    refine sv_iload hM dX12_make_345 rfl rfl ?_
                    refine sv_aload_n hM dX12_make_347 rfl rfl ?_
                    refine sv_getI hM dX12_make_348 sm_fl_762 (sm_a0 _) sm_k8 rfl (x := (S 1008 0)) rfl ?_
                    refine sv_icmp_gt hM dX12_make_351 hl5_97 k9 (t := 388) rfl rfl (fun hc => ?_) (fun hc => ?_)
                    · have h := h.1 (hc)
                      refine sv_aload_n hM dX12_make_388 rfl rfl ?_
                      refine sv_iload_n hM dX12_make_389 rfl rfl ?_
                      refine sv_iload_n hM dX12_make_390 rfl rfl ?_
                      obtain ⟨o103, h⟩ := h
                      refine sv_callV hM dX12_make_391 sm_iv_1182 (by decide) (sm_a0 _) rfl rfl (Nat.le_of_ble_eq_true rfl) sm_h252 (Nat.le_of_ble_eq_true rfl) (Nat.le_of_ble_eq_true rfl) (F' := 2) (Nat.le_of_ble_eq_true rfl) rfl (t_newLabel p1 p2 (sv_sts (sv_sts (sv_sts (sv_up (sv_up (sv_sts (sv_up (sv_up (sv_sts (sv_sts (sv_sts (sv_sts S [69, 70] g1) [69, 70] g11) [69, 70] g23) [69, 70] g30) 69 (647791 : Int) (S 76 (639 : Int))) 70 (647791 : Int) (S 77 (639 : Int))) [69, 70] g54) 76 (639 : Int) (g54 69 (647791 : Int))) 77 (639 : Int) (g54 70 (647791 : Int))) [69, 70, 83, 84, 85, 86] g68) [81, 82, 83, 84, 85, 86] g89) [68, 69, 70] g95) ok100 hp1 hp2 o103) (fun v S1 hq => ?_)
                      obtain ⟨rfl, ok105, md106, hpo107⟩ := hq
                      obtain ⟨g104, rfl⟩ : ∃ g, S1 = sv_sts (sv_sts (sv_sts (sv_sts (sv_up (sv_up (sv_sts (sv_up (sv_up (sv_sts (sv_sts (sv_sts (sv_sts S [69, 70] g1) [69, 70] g11) [69, 70] g23) [69, 70] g30) 69 (647791 : Int) (S 76 (639 : Int))) 70 (647791 : Int) (S 77 (639 : Int))) [69, 70] g54) 76 (639 : Int) (g54 69 (647791 : Int))) 77 (639 : Int) (g54 70 (647791 : Int))) [69, 70, 83, 84, 85, 86] g68) [81, 82, 83, 84, 85, 86] g89) [68, 69, 70] g95) [68, 69, 70, 81, 82, 83, 84, 85, 86] g := ⟨_, md106.eq⟩
                      show sv_T sm_XS sm_cs sm_L sm_sh 3 (q_make p1 p2 S) 256 394 [(0, .ref 0), (1, sv_I p1), (2, sv_I p2), (3, sv_I (647791 : Int)), (4, sv_I l4_96), (5, sv_I l5_97)] [] (sv_sts (sv_sts (sv_sts (sv_sts (sv_up (sv_up (sv_sts (sv_up (sv_up (sv_sts (sv_sts (sv_sts (sv_sts S [69, 70] g1) [69, 70] g11) [69, 70] g23) [69, 70] g30) 69 (647791 : Int) (S 76 (639 : Int))) 70 (647791 : Int) (S 77 (639 : Int))) [69, 70] g54) 76 (639 : Int) (g54 69 (647791 : Int))) 77 (639 : Int) (g54 70 (647791 : Int))) [69, 70, 83, 84, 85, 86] g68) [81, 82, 83, 84, 85, 86] g89) [68, 69, 70] g95) [68, 69, 70, 81, 82, 83, 84, 85, 86] g104)
                      have md108 : sv_mod [68, 69, 70, 81, 82, 83, 84, 85, 86, 76, 77] S (sv_sts (sv_sts (sv_sts (sv_sts (sv_up (sv_up (sv_sts (sv_up (sv_up (sv_sts (sv_sts (sv_sts (sv_sts S [69, 70] g1) [69, 70] g11) [69, 70] g23) [69, 70] g30) 69 (647791 : Int) (S 76 (639 : Int))) 70 (647791 : Int) (S 77 (639 : Int))) [69, 70] g54) 76 (639 : Int) (g54 69 (647791 : Int))) 77 (639 : Int) (g54 70 (647791 : Int))) [69, 70, 83, 84, 85, 86] g68) [81, 82, 83, 84, 85, 86] g89) [68, 69, 70] g95) [68, 69, 70, 81, 82, 83, 84, 85, 86] g104) := sv_mod.sts md101 (by decide)
                      have h := h g104 hpo107
                      exact sv_vret hM dX12_make_394 rfl ⟨rfl, ok105, md108, h⟩
                    · have h := h.2 (hc)
                      refine sv_aload_n hM dX12_make_354 rfl rfl ?_
                      refine sv_aload_n hM dX12_make_355 rfl rfl ?_
                      refine sv_sipush (d := (639 : Int)) hM dX12_make_356 rfl rfl ?_
                      refine sv_iload_n hM dX12_make_359 rfl rfl ?_
                      refine sv_iload hM dX12_make_360 rfl rfl ?_
                      obtain ⟨o109, h⟩ := h
                      refine sv_callV hM dX12_make_362 sm_iv_1163 (by decide) (sm_a0 _) rfl rfl (Nat.le_of_ble_eq_true rfl) sm_h225 (Nat.le_of_ble_eq_true rfl) (Nat.le_of_ble_eq_true rfl) (F' := 1) (Nat.le_of_ble_eq_true rfl) rfl (t_field (639 : Int) p1 l5_97 (sv_sts (sv_sts (sv_sts (sv_up (sv_up (sv_sts (sv_up (sv_up (sv_sts (sv_sts (sv_sts (sv_sts S [69, 70] g1) [69, 70] g11) [69, 70] g23) [69, 70] g30) 69 (647791 : Int) (S 76 (639 : Int))) 70 (647791 : Int) (S 77 (639 : Int))) [69, 70] g54) 76 (639 : Int) (g54 69 (647791 : Int))) 77 (639 : Int) (g54 70 (647791 : Int))) [69, 70, 83, 84, 85, 86] g68) [81, 82, 83, 84, 85, 86] g89) [68, 69, 70] g95) ok100 (⟨by decide, by decide⟩ : sv_R (639 : Int)) hp1 hl5_97 o109) (fun v S1 hq => ?_)
                      obtain ⟨r114, rfl, hr114, ok111, md112, hpo113⟩ := hq
                      obtain rfl : (sv_sts (sv_sts (sv_sts (sv_up (sv_up (sv_sts (sv_up (sv_up (sv_sts (sv_sts (sv_sts (sv_sts S [69, 70] g1) [69, 70] g11) [69, 70] g23) [69, 70] g30) 69 (647791 : Int) (S 76 (639 : Int))) 70 (647791 : Int) (S 77 (639 : Int))) [69, 70] g54) 76 (639 : Int) (g54 69 (647791 : Int))) 77 (639 : Int) (g54 70 (647791 : Int))) [69, 70, 83, 84, 85, 86] g68) [81, 82, 83, 84, 85, 86] g89) [68, 69, 70] g95) = S1 := (funext fun j => md112 j (by intro q; cases q)).symm
                      show sv_T sm_XS sm_cs sm_L sm_sh 3 (q_make p1 p2 S) 256 365 [(0, .ref 0), (1, sv_I p1), (2, sv_I p2), (3, sv_I (647791 : Int)), (4, sv_I l4_96), (5, sv_I l5_97)] [sv_I r114, .ref 0] (sv_sts (sv_sts (sv_sts (sv_up (sv_up (sv_sts (sv_up (sv_up (sv_sts (sv_sts (sv_sts (sv_sts S [69, 70] g1) [69, 70] g11) [69, 70] g23) [69, 70] g30) 69 (647791 : Int) (S 76 (639 : Int))) 70 (647791 : Int) (S 77 (639 : Int))) [69, 70] g54) 76 (639 : Int) (g54 69 (647791 : Int))) 77 (639 : Int) (g54 70 (647791 : Int))) [69, 70, 83, 84, 85, 86] g68) [81, 82, 83, 84, 85, 86] g89) [68, 69, 70] g95)
                      have h := h r114 hr114 hpo113
                      refine sv_aload_n hM dX12_make_365 rfl rfl ?_
                      refine sv_sipush (d := (639 : Int)) hM dX12_make_366 rfl rfl ?_
                      refine sv_iload_n hM dX12_make_369 rfl rfl ?_
                      refine sv_iconst (d := (1 : Int)) hM dX12_make_370 rfl rfl ?_
                      refine sv_iadd hM dX12_make_371 rfl ?_
                      refine sv_iload hM dX12_make_372 rfl rfl ?_
                      obtain ⟨o115, h⟩ := h
                      refine sv_callV hM dX12_make_374 sm_iv_1163 (by decide) (sm_a0 _) rfl rfl (Nat.le_of_ble_eq_true rfl) sm_h225 (Nat.le_of_ble_eq_true rfl) (Nat.le_of_ble_eq_true rfl) (F' := 1) (Nat.le_of_ble_eq_true rfl) rfl (t_field (639 : Int) (p1 + (1 : Int)) l5_97 (sv_sts (sv_sts (sv_sts (sv_up (sv_up (sv_sts (sv_up (sv_up (sv_sts (sv_sts (sv_sts (sv_sts S [69, 70] g1) [69, 70] g11) [69, 70] g23) [69, 70] g30) 69 (647791 : Int) (S 76 (639 : Int))) 70 (647791 : Int) (S 77 (639 : Int))) [69, 70] g54) 76 (639 : Int) (g54 69 (647791 : Int))) 77 (639 : Int) (g54 70 (647791 : Int))) [69, 70, 83, 84, 85, 86] g68) [81, 82, 83, 84, 85, 86] g89) [68, 69, 70] g95) ok111 (⟨by decide, by decide⟩ : sv_R (639 : Int)) o81 hl5_97 o115) (fun v S1 hq => ?_)
                      obtain ⟨r120, rfl, hr120, ok117, md118, hpo119⟩ := hq
                      obtain rfl : (sv_sts (sv_sts (sv_sts (sv_up (sv_up (sv_sts (sv_up (sv_up (sv_sts (sv_sts (sv_sts (sv_sts S [69, 70] g1) [69, 70] g11) [69, 70] g23) [69, 70] g30) 69 (647791 : Int) (S 76 (639 : Int))) 70 (647791 : Int) (S 77 (639 : Int))) [69, 70] g54) 76 (639 : Int) (g54 69 (647791 : Int))) 77 (639 : Int) (g54 70 (647791 : Int))) [69, 70, 83, 84, 85, 86] g68) [81, 82, 83, 84, 85, 86] g89) [68, 69, 70] g95) = S1 := (funext fun j => md118 j (by intro q; cases q)).symm
                      show sv_T sm_XS sm_cs sm_L sm_sh 3 (q_make p1 p2 S) 256 377 [(0, .ref 0), (1, sv_I p1), (2, sv_I p2), (3, sv_I (647791 : Int)), (4, sv_I l4_96), (5, sv_I l5_97)] [sv_I r120, sv_I r114, .ref 0] (sv_sts (sv_sts (sv_sts (sv_up (sv_up (sv_sts (sv_up (sv_up (sv_sts (sv_sts (sv_sts (sv_sts S [69, 70] g1) [69, 70] g11) [69, 70] g23) [69, 70] g30) 69 (647791 : Int) (S 76 (639 : Int))) 70 (647791 : Int) (S 77 (639 : Int))) [69, 70] g54) 76 (639 : Int) (g54 69 (647791 : Int))) 77 (639 : Int) (g54 70 (647791 : Int))) [69, 70, 83, 84, 85, 86] g68) [81, 82, 83, 84, 85, 86] g89) [68, 69, 70] g95)
                      have h := h r120 hr120 hpo119
                      obtain ⟨o121, h⟩ := h
                      refine sv_callV hM dX12_make_377 sm_iv_1069 (by decide) (sm_a0 _) rfl rfl (Nat.le_of_ble_eq_true rfl) sm_h208 (Nat.le_of_ble_eq_true rfl) (Nat.le_of_ble_eq_true rfl) (F' := 1) (Nat.le_of_ble_eq_true rfl) rfl (t_join r114 r120 (sv_sts (sv_sts (sv_sts (sv_up (sv_up (sv_sts (sv_up (sv_up (sv_sts (sv_sts (sv_sts (sv_sts S [69, 70] g1) [69, 70] g11) [69, 70] g23) [69, 70] g30) 69 (647791 : Int) (S 76 (639 : Int))) 70 (647791 : Int) (S 77 (639 : Int))) [69, 70] g54) 76 (639 : Int) (g54 69 (647791 : Int))) 77 (639 : Int) (g54 70 (647791 : Int))) [69, 70, 83, 84, 85, 86] g68) [81, 82, 83, 84, 85, 86] g89) [68, 69, 70] g95) ok117 hr114 hr120 o121) (fun v S1 hq => ?_)
                      obtain ⟨r126, rfl, hr126, ok123, md124, hpo125⟩ := hq
                      obtain ⟨g122, rfl⟩ : ∃ g, S1 = sv_sts (sv_sts (sv_sts (sv_sts (sv_up (sv_up (sv_sts (sv_up (sv_up (sv_sts (sv_sts (sv_sts (sv_sts S [69, 70] g1) [69, 70] g11) [69, 70] g23) [69, 70] g30) 69 (647791 : Int) (S 76 (639 : Int))) 70 (647791 : Int) (S 77 (639 : Int))) [69, 70] g54) 76 (639 : Int) (g54 69 (647791 : Int))) 77 (639 : Int) (g54 70 (647791 : Int))) [69, 70, 83, 84, 85, 86] g68) [81, 82, 83, 84, 85, 86] g89) [68, 69, 70] g95) [68, 69, 70] g := ⟨_, md124.eq⟩
                      show sv_T sm_XS sm_cs sm_L sm_sh 3 (q_make p1 p2 S) 256 380 [(0, .ref 0), (1, sv_I p1), (2, sv_I p2), (3, sv_I (647791 : Int)), (4, sv_I l4_96), (5, sv_I l5_97)] [sv_I r126] (sv_sts (sv_sts (sv_sts (sv_sts (sv_up (sv_up (sv_sts (sv_up (sv_up (sv_sts (sv_sts (sv_sts (sv_sts S [69, 70] g1) [69, 70] g11) [69, 70] g23) [69, 70] g30) 69 (647791 : Int) (S 76 (639 : Int))) 70 (647791 : Int) (S 77 (639 : Int))) [69, 70] g54) 76 (639 : Int) (g54 69 (647791 : Int))) 77 (639 : Int) (g54 70 (647791 : Int))) [69, 70, 83, 84, 85, 86] g68) [81, 82, 83, 84, 85, 86] g89) [68, 69, 70] g95) [68, 69, 70] g122)
                      have md127 : sv_mod [68, 69, 70, 81, 82, 83, 84, 85, 86, 76, 77] S (sv_sts (sv_sts (sv_sts (sv_sts (sv_up (sv_up (sv_sts (sv_up (sv_up (sv_sts (sv_sts (sv_sts (sv_sts S [69, 70] g1) [69, 70] g11) [69, 70] g23) [69, 70] g30) 69 (647791 : Int) (S 76 (639 : Int))) 70 (647791 : Int) (S 77 (639 : Int))) [69, 70] g54) 76 (639 : Int) (g54 69 (647791 : Int))) 77 (639 : Int) (g54 70 (647791 : Int))) [69, 70, 83, 84, 85, 86] g68) [81, 82, 83, 84, 85, 86] g89) [68, 69, 70] g95) [68, 69, 70] g122) := sv_mod.sts md101 (by decide)
                      have md128 : sv_mod [68, 69, 70] (sv_sts (sv_sts (sv_up (sv_up (sv_sts (sv_up (sv_up (sv_sts (sv_sts (sv_sts (sv_sts S [69, 70] g1) [69, 70] g11) [69, 70] g23) [69, 70] g30) 69 (647791 : Int) (S 76 (639 : Int))) 70 (647791 : Int) (S 77 (639 : Int))) [69, 70] g54) 76 (639 : Int) (g54 69 (647791 : Int))) 77 (639 : Int) (g54 70 (647791 : Int))) [69, 70, 83, 84, 85, 86] g68) [81, 82, 83, 84, 85, 86] g89) (sv_sts (sv_sts (sv_sts (sv_sts (sv_up (sv_up (sv_sts (sv_up (sv_up (sv_sts (sv_sts (sv_sts (sv_sts S [69, 70] g1) [69, 70] g11) [69, 70] g23) [69, 70] g30) 69 (647791 : Int) (S 76 (639 : Int))) 70 (647791 : Int) (S 77 (639 : Int))) [69, 70] g54) 76 (639 : Int) (g54 69 (647791 : Int))) 77 (639 : Int) (g54 70 (647791 : Int))) [69, 70, 83, 84, 85, 86] g68) [81, 82, 83, 84, 85, 86] g89) [68, 69, 70] g95) [68, 69, 70] g122) := sv_mod.sts md102 (by decide)
                      have h := h r126 hr126 g122 hpo125
                      refine sv_istore hM dX12_make_380 (by decide) rfl ?_
                      show sv_T sm_XS sm_cs sm_L sm_sh 3 (q_make p1 p2 S) 256 382 [(0, .ref 0), (1, sv_I p1), (2, sv_I p2), (3, sv_I (647791 : Int)), (4, sv_I r126), (5, sv_I l5_97)] [] (sv_sts (sv_sts (sv_sts (sv_sts (sv_up (sv_up (sv_sts (sv_up (sv_up (sv_sts (sv_sts (sv_sts (sv_sts S [69, 70] g1) [69, 70] g11) [69, 70] g23) [69, 70] g30) 69 (647791 : Int) (S 76 (639 : Int))) 70 (647791 : Int) (S 77 (639 : Int))) [69, 70] g54) 76 (639 : Int) (g54 69 (647791 : Int))) 77 (639 : Int) (g54 70 (647791 : Int))) [69, 70, 83, 84, 85, 86] g68) [81, 82, 83, 84, 85, 86] g89) [68, 69, 70] g95) [68, 69, 70] g122)
                      refine sv_iinc (d := (1 : Int)) hM dX12_make_382 rfl (by decide) rfl rfl ?_
                      show sv_T sm_XS sm_cs sm_L sm_sh 3 (q_make p1 p2 S) 256 385 [(0, .ref 0), (1, sv_I p1), (2, sv_I p2), (3, sv_I (647791 : Int)), (4, sv_I r126), (5, sv_I (l5_97 + (1 : Int)))] [] (sv_sts (sv_sts (sv_sts (sv_sts (sv_up (sv_up (sv_sts (sv_up (sv_up (sv_sts (sv_sts (sv_sts (sv_sts S [69, 70] g1) [69, 70] g11) [69, 70] g23) [69, 70] g30) 69 (647791 : Int) (S 76 (639 : Int))) 70 (647791 : Int) (S 77 (639 : Int))) [69, 70] g54) 76 (639 : Int) (g54 69 (647791 : Int))) 77 (639 : Int) (g54 70 (647791 : Int))) [69, 70, 83, 84, 85, 86] g68) [81, 82, 83, 84, 85, 86] g89) [68, 69, 70] g95) [68, 69, 70] g122)
                      refine sv_goto hM dX12_make_385 (pc' := 345) rfl ?_
                      obtain ⟨o129, h⟩ := h
                      have eS := sv_mod.eq md128
                      have hb := ih98 (r126, (l5_97 + (1 : Int)), (sv_sts (sv_sts (sv_sts (sv_sts (sv_up (sv_up (sv_sts (sv_up (sv_up (sv_sts (sv_sts (sv_sts (sv_sts S [69, 70] g1) [69, 70] g11) [69, 70] g23) [69, 70] g30) 69 (647791 : Int) (S 76 (639 : Int))) 70 (647791 : Int) (S 77 (639 : Int))) [69, 70] g54) 76 (639 : Int) (g54 69 (647791 : Int))) 77 (639 : Int) (g54 70 (647791 : Int))) [69, 70, 83, 84, 85, 86] g68) [81, 82, 83, 84, 85, 86] g89) [68, 69, 70] g95) [68, 69, 70] g122)) ⟨hr126, o129, (by rw [← eS]; exact ok123), h.1⟩ h.2
                      have hb : sv_T sm_XS sm_cs sm_L sm_sh 3 (q_make p1 p2 S) 256 345 [(0, .ref 0), (1, sv_I p1), (2, sv_I p2), (3, sv_I (647791 : Int)), (4, sv_I r126), (5, sv_I (l5_97 + (1 : Int)))] [] (sv_sts (sv_sts (sv_sts (sv_sts (sv_up (sv_up (sv_sts (sv_up (sv_up (sv_sts (sv_sts (sv_sts (sv_sts S [69, 70] g1) [69, 70] g11) [69, 70] g23) [69, 70] g30) 69 (647791 : Int) (S 76 (639 : Int))) 70 (647791 : Int) (S 77 (639 : Int))) [69, 70] g54) 76 (639 : Int) (g54 69 (647791 : Int))) 77 (639 : Int) (g54 70 (647791 : Int))) [69, 70, 83, 84, 85, 86] g68) [81, 82, 83, 84, 85, 86] g89) [68, 69, 70] g95) [68, 69, 70] g122) := Eq.mpr (congrArg (fun Z => sv_T sm_XS sm_cs sm_L sm_sh 3 (q_make p1 p2 S) 256 345 [(0, .ref 0), (1, sv_I p1), (2, sv_I p2), (3, sv_I (647791 : Int)), (4, sv_I r126), (5, sv_I (l5_97 + (1 : Int)))] [] Z) eS) hb
                      exact sv_less (lv := [(0, .ref 0), (1, sv_I p1), (2, sv_I p2), (3, sv_I (647791 : Int)), (4, sv_I r126), (5, sv_I (l5_97 + (1 : Int)))]) (sv_Sub_cons rfl (sv_Sub_cons rfl (sv_Sub_cons rfl (sv_Sub_cons rfl (sv_Sub_cons rfl (sv_Sub_cons rfl sv_Sub_nil)))))) hb
                  have eS := sv_mod.eq (sv_mod.rf (l := [68, 69, 70]) (S := (sv_sts (sv_sts (sv_up (sv_up (sv_sts (sv_up (sv_up (sv_sts (sv_sts (sv_sts (sv_sts S [69, 70] g1) [69, 70] g11) [69, 70] g23) [69, 70] g30) 69 (647791 : Int) (S 76 (639 : Int))) 70 (647791 : Int) (S 77 (639 : Int))) [69, 70] g54) 76 (639 : Int) (g54 69 (647791 : Int))) 77 (639 : Int) (g54 70 (647791 : Int))) [69, 70, 83, 84, 85, 86] g68) [81, 82, 83, 84, 85, 86] g89)))
                  have hb := hJ (r93, (0 : Int), (sv_sts (sv_sts (sv_up (sv_up (sv_sts (sv_up (sv_up (sv_sts (sv_sts (sv_sts (sv_sts S [69, 70] g1) [69, 70] g11) [69, 70] g23) [69, 70] g30) 69 (647791 : Int) (S 76 (639 : Int))) 70 (647791 : Int) (S 77 (639 : Int))) [69, 70] g54) 76 (639 : Int) (g54 69 (647791 : Int))) 77 (639 : Int) (g54 70 (647791 : Int))) [69, 70, 83, 84, 85, 86] g68) [81, 82, 83, 84, 85, 86] g89)) ⟨hr93, (⟨by decide, by decide⟩ : sv_R (0 : Int)), (by rw [← eS]; exact ok90), hin99⟩
                  have hb : sv_T sm_XS sm_cs sm_L sm_sh 3 (q_make p1 p2 S) 256 345 [(0, .ref 0), (1, sv_I p1), (2, sv_I p2), (3, sv_I (647791 : Int)), (4, sv_I r93), (5, sv_I (0 : Int))] [] (sv_sts (sv_sts (sv_up (sv_up (sv_sts (sv_up (sv_up (sv_sts (sv_sts (sv_sts (sv_sts S [69, 70] g1) [69, 70] g11) [69, 70] g23) [69, 70] g30) 69 (647791 : Int) (S 76 (639 : Int))) 70 (647791 : Int) (S 77 (639 : Int))) [69, 70] g54) 76 (639 : Int) (g54 69 (647791 : Int))) 77 (639 : Int) (g54 70 (647791 : Int))) [69, 70, 83, 84, 85, 86] g68) [81, 82, 83, 84, 85, 86] g89) := Eq.mpr (congrArg (fun Z => sv_T sm_XS sm_cs sm_L sm_sh 3 (q_make p1 p2 S) 256 345 [(0, .ref 0), (1, sv_I p1), (2, sv_I p2), (3, sv_I (647791 : Int)), (4, sv_I r93), (5, sv_I (0 : Int))] [] Z) eS) hb
                  exact hb
                · have h := h.2 (hc)
                  refine sv_aload_n hM dX12_make_185 rfl rfl ?_
                  refine sv_sipush (d := (639 : Int)) hM dX12_make_186 rfl rfl ?_
                  refine sv_iload hM dX12_make_189 rfl rfl ?_
                  obtain ⟨o130, h⟩ := h
                  refine sv_callV hM dX12_make_191 sm_iv_1101 (by decide) (sm_a0 _) rfl rfl (Nat.le_of_ble_eq_true rfl) sm_h226 (Nat.le_of_ble_eq_true rfl) (Nat.le_of_ble_eq_true rfl) (F' := 1) (Nat.le_of_ble_eq_true rfl) rfl (t_of (639 : Int) l4_69 (sv_sts (sv_up (sv_up (sv_sts (sv_up (sv_up (sv_sts (sv_sts (sv_sts (sv_sts S [69, 70] g1) [69, 70] g11) [69, 70] g23) [69, 70] g30) 69 (647791 : Int) (S 76 (639 : Int))) 70 (647791 : Int) (S 77 (639 : Int))) [69, 70] g54) 76 (639 : Int) (g54 69 (647791 : Int))) 77 (639 : Int) (g54 70 (647791 : Int))) [69, 70, 83, 84, 85, 86] g68) ok72 (⟨by decide, by decide⟩ : sv_R (639 : Int)) hl4_69 o130) (fun v S1 hq => ?_)
                  obtain ⟨r135, rfl, hr135, ok132, md133, hpo134⟩ := hq
                  obtain rfl : (sv_sts (sv_up (sv_up (sv_sts (sv_up (sv_up (sv_sts (sv_sts (sv_sts (sv_sts S [69, 70] g1) [69, 70] g11) [69, 70] g23) [69, 70] g30) 69 (647791 : Int) (S 76 (639 : Int))) 70 (647791 : Int) (S 77 (639 : Int))) [69, 70] g54) 76 (639 : Int) (g54 69 (647791 : Int))) 77 (639 : Int) (g54 70 (647791 : Int))) [69, 70, 83, 84, 85, 86] g68) = S1 := (funext fun j => md133 j (by intro q; cases q)).symm
                  show sv_T sm_XS sm_cs sm_L sm_sh 3 (q_make p1 p2 S) 256 194 [(0, .ref 0), (1, sv_I p1), (2, sv_I p2), (3, sv_I (647791 : Int)), (4, sv_I l4_69)] [sv_I r135] (sv_sts (sv_up (sv_up (sv_sts (sv_up (sv_up (sv_sts (sv_sts (sv_sts (sv_sts S [69, 70] g1) [69, 70] g11) [69, 70] g23) [69, 70] g30) 69 (647791 : Int) (S 76 (639 : Int))) 70 (647791 : Int) (S 77 (639 : Int))) [69, 70] g54) 76 (639 : Int) (g54 69 (647791 : Int))) 77 (639 : Int) (g54 70 (647791 : Int))) [69, 70, 83, 84, 85, 86] g68)
                  have h := h r135 hr135 hpo134
                  refine sv_istore hM dX12_make_194 (by decide) rfl ?_
                  show sv_T sm_XS sm_cs sm_L sm_sh 3 (q_make p1 p2 S) 256 196 [(0, .ref 0), (1, sv_I p1), (2, sv_I p2), (3, sv_I (647791 : Int)), (4, sv_I l4_69), (5, sv_I r135)] [] (sv_sts (sv_up (sv_up (sv_sts (sv_up (sv_up (sv_sts (sv_sts (sv_sts (sv_sts S [69, 70] g1) [69, 70] g11) [69, 70] g23) [69, 70] g30) 69 (647791 : Int) (S 76 (639 : Int))) 70 (647791 : Int) (S 77 (639 : Int))) [69, 70] g54) 76 (639 : Int) (g54 69 (647791 : Int))) 77 (639 : Int) (g54 70 (647791 : Int))) [69, 70, 83, 84, 85, 86] g68)
                  refine sv_aload_n hM dX12_make_196 rfl rfl ?_
                  refine sv_getA hM dX12_make_197 sm_fl_220 (sm_a0 _) sm_k117 rfl ?_
                  refine sv_iload_n hM dX12_make_200 rfl rfl ?_
                  refine sv_aload_n hM dX12_make_201 rfl rfl ?_
                  refine sv_getA hM dX12_make_202 sm_fl_262 (sm_a0 _) sm_k135 rfl ?_
                  refine sv_iload hM dX12_make_205 rfl rfl ?_
                  obtain ⟨o136, h⟩ := h
                  have k137 : sv_RL (g68 83 r135) := sm_okJ ok132 sm_r83 r135
                  have h := h k137
                  refine sv_lald hM dX12_make_207 (sm_a83 _) (by decide) o136.1 o136.2 rfl (x := (g68 83 r135)) rfl ?_
                  refine sv_last sm_X hM dX12_make_208 (sm_a69 _) (by decide) o41.1 o41.2 rfl ?_
                  have ok138 : sm_ok (sv_up (sv_sts (sv_up (sv_up (sv_sts (sv_up (sv_up (sv_sts (sv_sts (sv_sts (sv_sts S [69, 70] g1) [69, 70] g11) [69, 70] g23) [69, 70] g30) 69 (647791 : Int) (S 76 (639 : Int))) 70 (647791 : Int) (S 77 (639 : Int))) [69, 70] g54) 76 (639 : Int) (g54 69 (647791 : Int))) 77 (639 : Int) (g54 70 (647791 : Int))) [69, 70, 83, 84, 85, 86] g68) 69 (647791 : Int) (g68 83 r135)) := sm_upJ ok132 sm_r69 k137
                  have md139 : sv_mod [68, 69, 70, 81, 82, 83, 84, 85, 86, 76, 77] S (sv_up (sv_sts (sv_up (sv_up (sv_sts (sv_up (sv_up (sv_sts (sv_sts (sv_sts (sv_sts S [69, 70] g1) [69, 70] g11) [69, 70] g23) [69, 70] g30) 69 (647791 : Int) (S 76 (639 : Int))) 70 (647791 : Int) (S 77 (639 : Int))) [69, 70] g54) 76 (639 : Int) (g54 69 (647791 : Int))) 77 (639 : Int) (g54 70 (647791 : Int))) [69, 70, 83, 84, 85, 86] g68) 69 (647791 : Int) (g68 83 r135)) := sv_mod.up md73 (by decide)
                  have md140 : sv_mod [69, 70, 83, 84, 85, 86] (sv_up (sv_up (sv_sts (sv_up (sv_up (sv_sts (sv_sts (sv_sts (sv_sts S [69, 70] g1) [69, 70] g11) [69, 70] g23) [69, 70] g30) 69 (647791 : Int) (S 76 (639 : Int))) 70 (647791 : Int) (S 77 (639 : Int))) [69, 70] g54) 76 (639 : Int) (g54 69 (647791 : Int))) 77 (639 : Int) (g54 70 (647791 : Int))) (sv_up (sv_sts (sv_up (sv_up (sv_sts (sv_up (sv_up (sv_sts (sv_sts (sv_sts (sv_sts S [69, 70] g1) [69, 70] g11) [69, 70] g23) [69, 70] g30) 69 (647791 : Int) (S 76 (639 : Int))) 70 (647791 : Int) (S 77 (639 : Int))) [69, 70] g54) 76 (639 : Int) (g54 69 (647791 : Int))) 77 (639 : Int) (g54 70 (647791 : Int))) [69, 70, 83, 84, 85, 86] g68) 69 (647791 : Int) (g68 83 r135)) := sv_mod.up md74 (by decide)
                  refine sv_aload_n hM dX12_make_209 rfl rfl ?_
                  refine sv_getA hM dX12_make_210 sm_fl_223 (sm_a0 _) sm_k118 rfl ?_
                  refine sv_iload_n hM dX12_make_213 rfl rfl ?_
                  refine sv_aload_n hM dX12_make_214 rfl rfl ?_
                  refine sv_getA hM dX12_make_215 sm_fl_265 (sm_a0 _) sm_k136 rfl ?_
                  refine sv_iload hM dX12_make_218 rfl rfl ?_
                  have k141 : sv_RL (g68 84 r135) := sm_okJ ok138 sm_r84 r135
                  have h := h k141
                  refine sv_lald hM dX12_make_220 (sm_a84 _) (by decide) o136.1 o136.2 rfl (x := (g68 84 r135)) rfl ?_
                  refine sv_last sm_X hM dX12_make_221 (sm_a70 _) (by decide) o41.1 o41.2 rfl ?_
                  have ok142 : sm_ok (sv_up (sv_up (sv_sts (sv_up (sv_up (sv_sts (sv_up (sv_up (sv_sts (sv_sts (sv_sts (sv_sts S [69, 70] g1) [69, 70] g11) [69, 70] g23) [69, 70] g30) 69 (647791 : Int) (S 76 (639 : Int))) 70 (647791 : Int) (S 77 (639 : Int))) [69, 70] g54) 76 (639 : Int) (g54 69 (647791 : Int))) 77 (639 : Int) (g54 70 (647791 : Int))) [69, 70, 83, 84, 85, 86] g68) 69 (647791 : Int) (g68 83 r135)) 70 (647791 : Int) (g68 84 r135)) := sm_upJ ok138 sm_r70 k141
                  have md143 : sv_mod [68, 69, 70, 81, 82, 83, 84, 85, 86, 76, 77] S (sv_up (sv_up (sv_sts (sv_up (sv_up (sv_sts (sv_up (sv_up (sv_sts (sv_sts (sv_sts (sv_sts S [69, 70] g1) [69, 70] g11) [69, 70] g23) [69, 70] g30) 69 (647791 : Int) (S 76 (639 : Int))) 70 (647791 : Int) (S 77 (639 : Int))) [69, 70] g54) 76 (639 : Int) (g54 69 (647791 : Int))) 77 (639 : Int) (g54 70 (647791 : Int))) [69, 70, 83, 84, 85, 86] g68) 69 (647791 : Int) (g68 83 r135)) 70 (647791 : Int) (g68 84 r135)) := sv_mod.up md139 (by decide)
                  have md144 : sv_mod [69, 70, 83, 84, 85, 86] (sv_up (sv_up (sv_sts (sv_up (sv_up (sv_sts (sv_sts (sv_sts (sv_sts S [69, 70] g1) [69, 70] g11) [69, 70] g23) [69, 70] g30) 69 (647791 : Int) (S 76 (639 : Int))) 70 (647791 : Int) (S 77 (639 : Int))) [69, 70] g54) 76 (639 : Int) (g54 69 (647791 : Int))) 77 (639 : Int) (g54 70 (647791 : Int))) (sv_up (sv_up (sv_sts (sv_up (sv_up (sv_sts (sv_up (sv_up (sv_sts (sv_sts (sv_sts (sv_sts S [69, 70] g1) [69, 70] g11) [69, 70] g23) [69, 70] g30) 69 (647791 : Int) (S 76 (639 : Int))) 70 (647791 : Int) (S 77 (639 : Int))) [69, 70] g54) 76 (639 : Int) (g54 69 (647791 : Int))) 77 (639 : Int) (g54 70 (647791 : Int))) [69, 70, 83, 84, 85, 86] g68) 69 (647791 : Int) (g68 83 r135)) 70 (647791 : Int) (g68 84 r135)) := sv_mod.up md140 (by decide)
                  refine sv_aload_n hM dX12_make_222 rfl rfl ?_
                  refine sv_iload_n hM dX12_make_223 rfl rfl ?_
                  refine sv_iload_n hM dX12_make_224 rfl rfl ?_
                  refine sv_callV hM dX12_make_225 sm_iv_1175 (by decide) (sm_a0 _) rfl rfl (Nat.le_of_ble_eq_true rfl) sm_h255 (Nat.le_of_ble_eq_true rfl) (Nat.le_of_ble_eq_true rfl) (F' := 1) (Nat.le_of_ble_eq_true rfl) rfl (t_renameIn (647791 : Int) p1 (sv_up (sv_up (sv_sts (sv_up (sv_up (sv_sts (sv_up (sv_up (sv_sts (sv_sts (sv_sts (sv_sts S [69, 70] g1) [69, 70] g11) [69, 70] g23) [69, 70] g30) 69 (647791 : Int) (S 76 (639 : Int))) 70 (647791 : Int) (S 77 (639 : Int))) [69, 70] g54) 76 (639 : Int) (g54 69 (647791 : Int))) 77 (639 : Int) (g54 70 (647791 : Int))) [69, 70, 83, 84, 85, 86] g68) 69 (647791 : Int) (g68 83 r135)) 70 (647791 : Int) (g68 84 r135)) ok142 (⟨by decide, by decide⟩ : sv_R (647791 : Int)) hp1 o53) (fun v S1 hq => ?_)
                  obtain ⟨rfl, ok146, md147, hpo148⟩ := hq
                  obtain ⟨g145, rfl⟩ : ∃ g, S1 = sv_sts (sv_up (sv_up (sv_sts (sv_up (sv_up (sv_sts (sv_up (sv_up (sv_sts (sv_sts (sv_sts (sv_sts S [69, 70] g1) [69, 70] g11) [69, 70] g23) [69, 70] g30) 69 (647791 : Int) (S 76 (639 : Int))) 70 (647791 : Int) (S 77 (639 : Int))) [69, 70] g54) 76 (639 : Int) (g54 69 (647791 : Int))) 77 (639 : Int) (g54 70 (647791 : Int))) [69, 70, 83, 84, 85, 86] g68) 69 (647791 : Int) (g68 83 r135)) 70 (647791 : Int) (g68 84 r135)) [69, 70] g := ⟨_, md147.eq⟩
                  show sv_T sm_XS sm_cs sm_L sm_sh 3 (q_make p1 p2 S) 256 228 [(0, .ref 0), (1, sv_I p1), (2, sv_I p2), (3, sv_I (647791 : Int)), (4, sv_I l4_69), (5, sv_I r135)] [] (sv_sts (sv_up (sv_up (sv_sts (sv_up (sv_up (sv_sts (sv_up (sv_up (sv_sts (sv_sts (sv_sts (sv_sts S [69, 70] g1) [69, 70] g11) [69, 70] g23) [69, 70] g30) 69 (647791 : Int) (S 76 (639 : Int))) 70 (647791 : Int) (S 77 (639 : Int))) [69, 70] g54) 76 (639 : Int) (g54 69 (647791 : Int))) 77 (639 : Int) (g54 70 (647791 : Int))) [69, 70, 83, 84, 85, 86] g68) 69 (647791 : Int) (g68 83 r135)) 70 (647791 : Int) (g68 84 r135)) [69, 70] g145)
                  have md149 : sv_mod [68, 69, 70, 81, 82, 83, 84, 85, 86, 76, 77] S (sv_sts (sv_up (sv_up (sv_sts (sv_up (sv_up (sv_sts (sv_up (sv_up (sv_sts (sv_sts (sv_sts (sv_sts S [69, 70] g1) [69, 70] g11) [69, 70] g23) [69, 70] g30) 69 (647791 : Int) (S 76 (639 : Int))) 70 (647791 : Int) (S 77 (639 : Int))) [69, 70] g54) 76 (639 : Int) (g54 69 (647791 : Int))) 77 (639 : Int) (g54 70 (647791 : Int))) [69, 70, 83, 84, 85, 86] g68) 69 (647791 : Int) (g68 83 r135)) 70 (647791 : Int) (g68 84 r135)) [69, 70] g145) := sv_mod.sts md143 (by decide)
                  have md150 : sv_mod [69, 70, 83, 84, 85, 86] (sv_up (sv_up (sv_sts (sv_up (sv_up (sv_sts (sv_sts (sv_sts (sv_sts S [69, 70] g1) [69, 70] g11) [69, 70] g23) [69, 70] g30) 69 (647791 : Int) (S 76 (639 : Int))) 70 (647791 : Int) (S 77 (639 : Int))) [69, 70] g54) 76 (639 : Int) (g54 69 (647791 : Int))) 77 (639 : Int) (g54 70 (647791 : Int))) (sv_sts (sv_up (sv_up (sv_sts (sv_up (sv_up (sv_sts (sv_up (sv_up (sv_sts (sv_sts (sv_sts (sv_sts S [69, 70] g1) [69, 70] g11) [69, 70] g23) [69, 70] g30) 69 (647791 : Int) (S 76 (639 : Int))) 70 (647791 : Int) (S 77 (639 : Int))) [69, 70] g54) 76 (639 : Int) (g54 69 (647791 : Int))) 77 (639 : Int) (g54 70 (647791 : Int))) [69, 70, 83, 84, 85, 86] g68) 69 (647791 : Int) (g68 83 r135)) 70 (647791 : Int) (g68 84 r135)) [69, 70] g145) := sv_mod.sts md144 (by decide)
                  have h := h g145 hpo148
                  refine sv_aload_n hM dX12_make_228 rfl rfl ?_
                  refine sv_getA hM dX12_make_229 sm_fl_262 (sm_a0 _) sm_k135 rfl ?_
                  refine sv_iload hM dX12_make_232 rfl rfl ?_
                  refine sv_aload_n hM dX12_make_234 rfl rfl ?_
                  refine sv_getA hM dX12_make_235 sm_fl_220 (sm_a0 _) sm_k117 rfl ?_
                  refine sv_iload_n hM dX12_make_238 rfl rfl ?_
                  have k151 : sv_RL (g145 69 (647791 : Int)) := sm_okJ ok146 sm_r69 (647791 : Int)
                  have h := h k151
                  refine sv_lald hM dX12_make_239 (sm_a69 _) (by decide) o41.1 o41.2 rfl (x := (g145 69 (647791 : Int))) rfl ?_
                  refine sv_last sm_X hM dX12_make_240 (sm_a83 _) (by decide) o136.1 o136.2 rfl ?_
                  have ok152 : sm_ok (sv_up (sv_sts (sv_up (sv_up (sv_sts (sv_up (sv_up (sv_sts (sv_up (sv_up (sv_sts (sv_sts (sv_sts (sv_sts S [69, 70] g1) [69, 70] g11) [69, 70] g23) [69, 70] g30) 69 (647791 : Int) (S 76 (639 : Int))) 70 (647791 : Int) (S 77 (639 : Int))) [69, 70] g54) 76 (639 : Int) (g54 69 (647791 : Int))) 77 (639 : Int) (g54 70 (647791 : Int))) [69, 70, 83, 84, 85, 86] g68) 69 (647791 : Int) (g68 83 r135)) 70 (647791 : Int) (g68 84 r135)) [69, 70] g145) 83 r135 (g145 69 (647791 : Int))) := sm_upJ ok146 sm_r83 k151
                  have md153 : sv_mod [68, 69, 70, 81, 82, 83, 84, 85, 86, 76, 77] S (sv_up (sv_sts (sv_up (sv_up (sv_sts (sv_up (sv_up (sv_sts (sv_up (sv_up (sv_sts (sv_sts (sv_sts (sv_sts S [69, 70] g1) [69, 70] g11) [69, 70] g23) [69, 70] g30) 69 (647791 : Int) (S 76 (639 : Int))) 70 (647791 : Int) (S 77 (639 : Int))) [69, 70] g54) 76 (639 : Int) (g54 69 (647791 : Int))) 77 (639 : Int) (g54 70 (647791 : Int))) [69, 70, 83, 84, 85, 86] g68) 69 (647791 : Int) (g68 83 r135)) 70 (647791 : Int) (g68 84 r135)) [69, 70] g145) 83 r135 (g145 69 (647791 : Int))) := sv_mod.up md149 (by decide)
                  have md154 : sv_mod [69, 70, 83, 84, 85, 86] (sv_up (sv_up (sv_sts (sv_up (sv_up (sv_sts (sv_sts (sv_sts (sv_sts S [69, 70] g1) [69, 70] g11) [69, 70] g23) [69, 70] g30) 69 (647791 : Int) (S 76 (639 : Int))) 70 (647791 : Int) (S 77 (639 : Int))) [69, 70] g54) 76 (639 : Int) (g54 69 (647791 : Int))) 77 (639 : Int) (g54 70 (647791 : Int))) (sv_up (sv_sts (sv_up (sv_up (sv_sts (sv_up (sv_up (sv_sts (sv_up (sv_up (sv_sts (sv_sts (sv_sts (sv_sts S [69, 70] g1) [69, 70] g11) [69, 70] g23) [69, 70] g30) 69 (647791 : Int) (S 76 (639 : Int))) 70 (647791 : Int) (S 77 (639 : Int))) [69, 70] g54) 76 (639 : Int) (g54 69 (647791 : Int))) 77 (639 : Int) (g54 70 (647791 : Int))) [69, 70, 83, 84, 85, 86] g68) 69 (647791 : Int) (g68 83 r135)) 70 (647791 : Int) (g68 84 r135)) [69, 70] g145) 83 r135 (g145 69 (647791 : Int))) := sv_mod.up md150 (by decide)
                  refine sv_aload_n hM dX12_make_241 rfl rfl ?_
                  refine sv_getA hM dX12_make_242 sm_fl_265 (sm_a0 _) sm_k136 rfl ?_
                  refine sv_iload hM dX12_make_245 rfl rfl ?_
                  refine sv_aload_n hM dX12_make_247 rfl rfl ?_
                  refine sv_getA hM dX12_make_248 sm_fl_223 (sm_a0 _) sm_k118 rfl ?_
                  refine sv_iload_n hM dX12_make_251 rfl rfl ?_
                  have k155 : sv_RL (g145 70 (647791 : Int)) := sm_okJ ok152 sm_r70 (647791 : Int)
                  have h := h k155
                  refine sv_lald hM dX12_make_252 (sm_a70 _) (by decide) o41.1 o41.2 rfl (x := (g145 70 (647791 : Int))) rfl ?_
                  refine sv_last sm_X hM dX12_make_253 (sm_a84 _) (by decide) o136.1 o136.2 rfl ?_
                  have ok156 : sm_ok (sv_up (sv_up (sv_sts (sv_up (sv_up (sv_sts (sv_up (sv_up (sv_sts (sv_up (sv_up (sv_sts (sv_sts (sv_sts (sv_sts S [69, 70] g1) [69, 70] g11) [69, 70] g23) [69, 70] g30) 69 (647791 : Int) (S 76 (639 : Int))) 70 (647791 : Int) (S 77 (639 : Int))) [69, 70] g54) 76 (639 : Int) (g54 69 (647791 : Int))) 77 (639 : Int) (g54 70 (647791 : Int))) [69, 70, 83, 84, 85, 86] g68) 69 (647791 : Int) (g68 83 r135)) 70 (647791 : Int) (g68 84 r135)) [69, 70] g145) 83 r135 (g145 69 (647791 : Int))) 84 r135 (g145 70 (647791 : Int))) := sm_upJ ok152 sm_r84 k155
                  have md157 : sv_mod [68, 69, 70, 81, 82, 83, 84, 85, 86, 76, 77] S (sv_up (sv_up (sv_sts (sv_up (sv_up (sv_sts (sv_up (sv_up (sv_sts (sv_up (sv_up (sv_sts (sv_sts (sv_sts (sv_sts S [69, 70] g1) [69, 70] g11) [69, 70] g23) [69, 70] g30) 69 (647791 : Int) (S 76 (639 : Int))) 70 (647791 : Int) (S 77 (639 : Int))) [69, 70] g54) 76 (639 : Int) (g54 69 (647791 : Int))) 77 (639 : Int) (g54 70 (647791 : Int))) [69, 70, 83, 84, 85, 86] g68) 69 (647791 : Int) (g68 83 r135)) 70 (647791 : Int) (g68 84 r135)) [69, 70] g145) 83 r135 (g145 69 (647791 : Int))) 84 r135 (g145 70 (647791 : Int))) := sv_mod.up md153 (by decide)
                  have md158 : sv_mod [69, 70, 83, 84, 85, 86] (sv_up (sv_up (sv_sts (sv_up (sv_up (sv_sts (sv_sts (sv_sts (sv_sts S [69, 70] g1) [69, 70] g11) [69, 70] g23) [69, 70] g30) 69 (647791 : Int) (S 76 (639 : Int))) 70 (647791 : Int) (S 77 (639 : Int))) [69, 70] g54) 76 (639 : Int) (g54 69 (647791 : Int))) 77 (639 : Int) (g54 70 (647791 : Int))) (sv_up (sv_up (sv_sts (sv_up (sv_up (sv_sts (sv_up (sv_up (sv_sts (sv_up (sv_up (sv_sts (sv_sts (sv_sts (sv_sts S [69, 70] g1) [69, 70] g11) [69, 70] g23) [69, 70] g30) 69 (647791 : Int) (S 76 (639 : Int))) 70 (647791 : Int) (S 77 (639 : Int))) [69, 70] g54) 76 (639 : Int) (g54 69 (647791 : Int))) 77 (639 : Int) (g54 70 (647791 : Int))) [69, 70, 83, 84, 85, 86] g68) 69 (647791 : Int) (g68 83 r135)) 70 (647791 : Int) (g68 84 r135)) [69, 70] g145) 83 r135 (g145 69 (647791 : Int))) 84 r135 (g145 70 (647791 : Int))) := sv_mod.up md154 (by decide)
                  refine sv_aload_n hM dX12_make_254 rfl rfl ?_
                  refine sv_getA hM dX12_make_255 sm_fl_220 (sm_a0 _) sm_k117 rfl ?_
                  refine sv_iload_n hM dX12_make_258 rfl rfl ?_
                  refine sv_aload_n hM dX12_make_259 rfl rfl ?_
                  refine sv_getA hM dX12_make_260 sm_fl_268 (sm_a0 _) sm_k137 rfl ?_
                  refine sv_iload hM dX12_make_263 rfl rfl ?_
                  have k159 : sv_RL (g68 85 r135) := sm_okJ ok156 sm_r85 r135
                  have h := h k159
                  refine sv_lald hM dX12_make_265 (sm_a85 _) (by decide) o136.1 o136.2 rfl (x := (g68 85 r135)) rfl ?_
                  refine sv_last sm_X hM dX12_make_266 (sm_a69 _) (by decide) o41.1 o41.2 rfl ?_
                  have ok160 : sm_ok (sv_up (sv_up (sv_up (sv_sts (sv_up (sv_up (sv_sts (sv_up (sv_up (sv_sts (sv_up (sv_up (sv_sts (sv_sts (sv_sts (sv_sts S [69, 70] g1) [69, 70] g11) [69, 70] g23) [69, 70] g30) 69 (647791 : Int) (S 76 (639 : Int))) 70 (647791 : Int) (S 77 (639 : Int))) [69, 70] g54) 76 (639 : Int) (g54 69 (647791 : Int))) 77 (639 : Int) (g54 70 (647791 : Int))) [69, 70, 83, 84, 85, 86] g68) 69 (647791 : Int) (g68 83 r135)) 70 (647791 : Int) (g68 84 r135)) [69, 70] g145) 83 r135 (g145 69 (647791 : Int))) 84 r135 (g145 70 (647791 : Int))) 69 (647791 : Int) (g68 85 r135)) := sm_upJ ok156 sm_r69 k159
                  have md161 : sv_mod [68, 69, 70, 81, 82, 83, 84, 85, 86, 76, 77] S (sv_up (sv_up (sv_up (sv_sts (sv_up (sv_up (sv_sts (sv_up (sv_up (sv_sts (sv_up (sv_up (sv_sts (sv_sts (sv_sts (sv_sts S [69, 70] g1) [69, 70] g11) [69, 70] g23) [69, 70] g30) 69 (647791 : Int) (S 76 (639 : Int))) 70 (647791 : Int) (S 77 (639 : Int))) [69, 70] g54) 76 (639 : Int) (g54 69 (647791 : Int))) 77 (639 : Int) (g54 70 (647791 : Int))) [69, 70, 83, 84, 85, 86] g68) 69 (647791 : Int) (g68 83 r135)) 70 (647791 : Int) (g68 84 r135)) [69, 70] g145) 83 r135 (g145 69 (647791 : Int))) 84 r135 (g145 70 (647791 : Int))) 69 (647791 : Int) (g68 85 r135)) := sv_mod.up md157 (by decide)
                  have md162 : sv_mod [69, 70, 83, 84, 85, 86] (sv_up (sv_up (sv_sts (sv_up (sv_up (sv_sts (sv_sts (sv_sts (sv_sts S [69, 70] g1) [69, 70] g11) [69, 70] g23) [69, 70] g30) 69 (647791 : Int) (S 76 (639 : Int))) 70 (647791 : Int) (S 77 (639 : Int))) [69, 70] g54) 76 (639 : Int) (g54 69 (647791 : Int))) 77 (639 : Int) (g54 70 (647791 : Int))) (sv_up (sv_up (sv_up (sv_sts (sv_up (sv_up (sv_sts (sv_up (sv_up (sv_sts (sv_up (sv_up (sv_sts (sv_sts (sv_sts (sv_sts S [69, 70] g1) [69, 70] g11) [69, 70] g23) [69, 70] g30) 69 (647791 : Int) (S 76 (639 : Int))) 70 (647791 : Int) (S 77 (639 : Int))) [69, 70] g54) 76 (639 : Int) (g54 69 (647791 : Int))) 77 (639 : Int) (g54 70 (647791 : Int))) [69, 70, 83, 84, 85, 86] g68) 69 (647791 : Int) (g68 83 r135)) 70 (647791 : Int) (g68 84 r135)) [69, 70] g145) 83 r135 (g145 69 (647791 : Int))) 84 r135 (g145 70 (647791 : Int))) 69 (647791 : Int) (g68 85 r135)) := sv_mod.up md158 (by decide)
                  refine sv_aload_n hM dX12_make_267 rfl rfl ?_
                  refine sv_getA hM dX12_make_268 sm_fl_223 (sm_a0 _) sm_k118 rfl ?_
                  refine sv_iload_n hM dX12_make_271 rfl rfl ?_
                  refine sv_aload_n hM dX12_make_272 rfl rfl ?_
                  refine sv_getA hM dX12_make_273 sm_fl_271 (sm_a0 _) sm_k138 rfl ?_
                  refine sv_iload hM dX12_make_276 rfl rfl ?_
                  have k163 : sv_RL (g68 86 r135) := sm_okJ ok160 sm_r86 r135
                  have h := h k163
                  refine sv_lald hM dX12_make_278 (sm_a86 _) (by decide) o136.1 o136.2 rfl (x := (g68 86 r135)) rfl ?_
                  refine sv_last sm_X hM dX12_make_279 (sm_a70 _) (by decide) o41.1 o41.2 rfl ?_
                  have ok164 : sm_ok (sv_up (sv_up (sv_up (sv_up (sv_sts (sv_up (sv_up (sv_sts (sv_up (sv_up (sv_sts (sv_up (sv_up (sv_sts (sv_sts (sv_sts (sv_sts S [69, 70] g1) [69, 70] g11) [69, 70] g23) [69, 70] g30) 69 (647791 : Int) (S 76 (639 : Int))) 70 (647791 : Int) (S 77 (639 : Int))) [69, 70] g54) 76 (639 : Int) (g54 69 (647791 : Int))) 77 (639 : Int) (g54 70 (647791 : Int))) [69, 70, 83, 84, 85, 86] g68) 69 (647791 : Int) (g68 83 r135)) 70 (647791 : Int) (g68 84 r135)) [69, 70] g145) 83 r135 (g145 69 (647791 : Int))) 84 r135 (g145 70 (647791 : Int))) 69 (647791 : Int) (g68 85 r135)) 70 (647791 : Int) (g68 86 r135)) := sm_upJ ok160 sm_r70 k163
                  have md165 : sv_mod [68, 69, 70, 81, 82, 83, 84, 85, 86, 76, 77] S (sv_up (sv_up (sv_up (sv_up (sv_sts (sv_up (sv_up (sv_sts (sv_up (sv_up (sv_sts (sv_up (sv_up (sv_sts (sv_sts (sv_sts (sv_sts S [69, 70] g1) [69, 70] g11) [69, 70] g23) [69, 70] g30) 69 (647791 : Int) (S 76 (639 : Int))) 70 (647791 : Int) (S 77 (639 : Int))) [69, 70] g54) 76 (639 : Int) (g54 69 (647791 : Int))) 77 (639 : Int) (g54 70 (647791 : Int))) [69, 70, 83, 84, 85, 86] g68) 69 (647791 : Int) (g68 83 r135)) 70 (647791 : Int) (g68 84 r135)) [69, 70] g145) 83 r135 (g145 69 (647791 : Int))) 84 r135 (g145 70 (647791 : Int))) 69 (647791 : Int) (g68 85 r135)) 70 (647791 : Int) (g68 86 r135)) := sv_mod.up md161 (by decide)
                  have md166 : sv_mod [69, 70, 83, 84, 85, 86] (sv_up (sv_up (sv_sts (sv_up (sv_up (sv_sts (sv_sts (sv_sts (sv_sts S [69, 70] g1) [69, 70] g11) [69, 70] g23) [69, 70] g30) 69 (647791 : Int) (S 76 (639 : Int))) 70 (647791 : Int) (S 77 (639 : Int))) [69, 70] g54) 76 (639 : Int) (g54 69 (647791 : Int))) 77 (639 : Int) (g54 70 (647791 : Int))) (sv_up (sv_up (sv_up (sv_up (sv_sts (sv_up (sv_up (sv_sts (sv_up (sv_up (sv_sts (sv_up (sv_up (sv_sts (sv_sts (sv_sts (sv_sts S [69, 70] g1) [69, 70] g11) [69, 70] g23) [69, 70] g30) 69 (647791 : Int) (S 76 (639 : Int))) 70 (647791 : Int) (S 77 (639 : Int))) [69, 70] g54) 76 (639 : Int) (g54 69 (647791 : Int))) 77 (639 : Int) (g54 70 (647791 : Int))) [69, 70, 83, 84, 85, 86] g68) 69 (647791 : Int) (g68 83 r135)) 70 (647791 : Int) (g68 84 r135)) [69, 70] g145) 83 r135 (g145 69 (647791 : Int))) 84 r135 (g145 70 (647791 : Int))) 69 (647791 : Int) (g68 85 r135)) 70 (647791 : Int) (g68 86 r135)) := sv_mod.up md162 (by decide)
                  refine sv_aload_n hM dX12_make_280 rfl rfl ?_
                  refine sv_iload_n hM dX12_make_281 rfl rfl ?_
                  refine sv_iload_n hM dX12_make_282 rfl rfl ?_
                  refine sv_callV hM dX12_make_283 sm_iv_1175 (by decide) (sm_a0 _) rfl rfl (Nat.le_of_ble_eq_true rfl) sm_h255 (Nat.le_of_ble_eq_true rfl) (Nat.le_of_ble_eq_true rfl) (F' := 1) (Nat.le_of_ble_eq_true rfl) rfl (t_renameIn (647791 : Int) p1 (sv_up (sv_up (sv_up (sv_up (sv_sts (sv_up (sv_up (sv_sts (sv_up (sv_up (sv_sts (sv_up (sv_up (sv_sts (sv_sts (sv_sts (sv_sts S [69, 70] g1) [69, 70] g11) [69, 70] g23) [69, 70] g30) 69 (647791 : Int) (S 76 (639 : Int))) 70 (647791 : Int) (S 77 (639 : Int))) [69, 70] g54) 76 (639 : Int) (g54 69 (647791 : Int))) 77 (639 : Int) (g54 70 (647791 : Int))) [69, 70, 83, 84, 85, 86] g68) 69 (647791 : Int) (g68 83 r135)) 70 (647791 : Int) (g68 84 r135)) [69, 70] g145) 83 r135 (g145 69 (647791 : Int))) 84 r135 (g145 70 (647791 : Int))) 69 (647791 : Int) (g68 85 r135)) 70 (647791 : Int) (g68 86 r135)) ok164 (⟨by decide, by decide⟩ : sv_R (647791 : Int)) hp1 o53) (fun v S1 hq => ?_)
                  obtain ⟨rfl, ok168, md169, hpo170⟩ := hq
                  obtain ⟨g167, rfl⟩ : ∃ g, S1 = sv_sts (sv_up (sv_up (sv_up (sv_up (sv_sts (sv_up (sv_up (sv_sts (sv_up (sv_up (sv_sts (sv_up (sv_up (sv_sts (sv_sts (sv_sts (sv_sts S [69, 70] g1) [69, 70] g11) [69, 70] g23) [69, 70] g30) 69 (647791 : Int) (S 76 (639 : Int))) 70 (647791 : Int) (S 77 (639 : Int))) [69, 70] g54) 76 (639 : Int) (g54 69 (647791 : Int))) 77 (639 : Int) (g54 70 (647791 : Int))) [69, 70, 83, 84, 85, 86] g68) 69 (647791 : Int) (g68 83 r135)) 70 (647791 : Int) (g68 84 r135)) [69, 70] g145) 83 r135 (g145 69 (647791 : Int))) 84 r135 (g145 70 (647791 : Int))) 69 (647791 : Int) (g68 85 r135)) 70 (647791 : Int) (g68 86 r135)) [69, 70] g := ⟨_, md169.eq⟩
                  show sv_T sm_XS sm_cs sm_L sm_sh 3 (q_make p1 p2 S) 256 286 [(0, .ref 0), (1, sv_I p1), (2, sv_I p2), (3, sv_I (647791 : Int)), (4, sv_I l4_69), (5, sv_I r135)] [] (sv_sts (sv_up (sv_up (sv_up (sv_up (sv_sts (sv_up (sv_up (sv_sts (sv_up (sv_up (sv_sts (sv_up (sv_up (sv_sts (sv_sts (sv_sts (sv_sts S [69, 70] g1) [69, 70] g11) [69, 70] g23) [69, 70] g30) 69 (647791 : Int) (S 76 (639 : Int))) 70 (647791 : Int) (S 77 (639 : Int))) [69, 70] g54) 76 (639 : Int) (g54 69 (647791 : Int))) 77 (639 : Int) (g54 70 (647791 : Int))) [69, 70, 83, 84, 85, 86] g68) 69 (647791 : Int) (g68 83 r135)) 70 (647791 : Int) (g68 84 r135)) [69, 70] g145) 83 r135 (g145 69 (647791 : Int))) 84 r135 (g145 70 (647791 : Int))) 69 (647791 : Int) (g68 85 r135)) 70 (647791 : Int) (g68 86 r135)) [69, 70] g167)
                  have md171 : sv_mod [68, 69, 70, 81, 82, 83, 84, 85, 86, 76, 77] S (sv_sts (sv_up (sv_up (sv_up (sv_up (sv_sts (sv_up (sv_up (sv_sts (sv_up (sv_up (sv_sts (sv_up (sv_up (sv_sts (sv_sts (sv_sts (sv_sts S [69, 70] g1) [69, 70] g11) [69, 70] g23) [69, 70] g30) 69 (647791 : Int) (S 76 (639 : Int))) 70 (647791 : Int) (S 77 (639 : Int))) [69, 70] g54) 76 (639 : Int) (g54 69 (647791 : Int))) 77 (639 : Int) (g54 70 (647791 : Int))) [69, 70, 83, 84, 85, 86] g68) 69 (647791 : Int) (g68 83 r135)) 70 (647791 : Int) (g68 84 r135)) [69, 70] g145) 83 r135 (g145 69 (647791 : Int))) 84 r135 (g145 70 (647791 : Int))) 69 (647791 : Int) (g68 85 r135)) 70 (647791 : Int) (g68 86 r135)) [69, 70] g167) := sv_mod.sts md165 (by decide)
                  have md172 : sv_mod [69, 70, 83, 84, 85, 86] (sv_up (sv_up (sv_sts (sv_up (sv_up (sv_sts (sv_sts (sv_sts (sv_sts S [69, 70] g1) [69, 70] g11) [69, 70] g23) [69, 70] g30) 69 (647791 : Int) (S 76 (639 : Int))) 70 (647791 : Int) (S 77 (639 : Int))) [69, 70] g54) 76 (639 : Int) (g54 69 (647791 : Int))) 77 (639 : Int) (g54 70 (647791 : Int))) (sv_sts (sv_up (sv_up (sv_up (sv_up (sv_sts (sv_up (sv_up (sv_sts (sv_up (sv_up (sv_sts (sv_up (sv_up (sv_sts (sv_sts (sv_sts (sv_sts S [69, 70] g1) [69, 70] g11) [69, 70] g23) [69, 70] g30) 69 (647791 : Int) (S 76 (639 : Int))) 70 (647791 : Int) (S 77 (639 : Int))) [69, 70] g54) 76 (639 : Int) (g54 69 (647791 : Int))) 77 (639 : Int) (g54 70 (647791 : Int))) [69, 70, 83, 84, 85, 86] g68) 69 (647791 : Int) (g68 83 r135)) 70 (647791 : Int) (g68 84 r135)) [69, 70] g145) 83 r135 (g145 69 (647791 : Int))) 84 r135 (g145 70 (647791 : Int))) 69 (647791 : Int) (g68 85 r135)) 70 (647791 : Int) (g68 86 r135)) [69, 70] g167) := sv_mod.sts md166 (by decide)
                  have h := h g167 hpo170
                  refine sv_aload_n hM dX12_make_286 rfl rfl ?_
                  refine sv_getA hM dX12_make_287 sm_fl_268 (sm_a0 _) sm_k137 rfl ?_
                  refine sv_iload hM dX12_make_290 rfl rfl ?_
                  refine sv_aload_n hM dX12_make_292 rfl rfl ?_
                  refine sv_getA hM dX12_make_293 sm_fl_220 (sm_a0 _) sm_k117 rfl ?_
                  refine sv_iload_n hM dX12_make_296 rfl rfl ?_
                  have k173 : sv_RL (g167 69 (647791 : Int)) := sm_okJ ok168 sm_r69 (647791 : Int)
                  have h := h k173
                  refine sv_lald hM dX12_make_297 (sm_a69 _) (by decide) o41.1 o41.2 rfl (x := (g167 69 (647791 : Int))) rfl ?_
                  refine sv_last sm_X hM dX12_make_298 (sm_a85 _) (by decide) o136.1 o136.2 rfl ?_
                  have ok174 : sm_ok (sv_up (sv_sts (sv_up (sv_up (sv_up (sv_up (sv_sts (sv_up (sv_up (sv_sts (sv_up (sv_up (sv_sts (sv_up (sv_up (sv_sts (sv_sts (sv_sts (sv_sts S [69, 70] g1) [69, 70] g11) [69, 70] g23) [69, 70] g30) 69 (647791 : Int) (S 76 (639 : Int))) 70 (647791 : Int) (S 77 (639 : Int))) [69, 70] g54) 76 (639 : Int) (g54 69 (647791 : Int))) 77 (639 : Int) (g54 70 (647791 : Int))) [69, 70, 83, 84, 85, 86] g68) 69 (647791 : Int) (g68 83 r135)) 70 (647791 : Int) (g68 84 r135)) [69, 70] g145) 83 r135 (g145 69 (647791 : Int))) 84 r135 (g145 70 (647791 : Int))) 69 (647791 : Int) (g68 85 r135)) 70 (647791 : Int) (g68 86 r135)) [69, 70] g167) 85 r135 (g167 69 (647791 : Int))) := sm_upJ ok168 sm_r85 k173
                  have md175 : sv_mod [68, 69, 70, 81, 82, 83, 84, 85, 86, 76, 77] S (sv_up (sv_sts (sv_up (sv_up (sv_up (sv_up (sv_sts (sv_up (sv_up (sv_sts (sv_up (sv_up (sv_sts (sv_up (sv_up (sv_sts (sv_sts (sv_sts (sv_sts S [69, 70] g1) [69, 70] g11) [69, 70] g23) [69, 70] g30) 69 (647791 : Int) (S 76 (639 : Int))) 70 (647791 : Int) (S 77 (639 : Int))) [69, 70] g54) 76 (639 : Int) (g54 69 (647791 : Int))) 77 (639 : Int) (g54 70 (647791 : Int))) [69, 70, 83, 84, 85, 86] g68) 69 (647791 : Int) (g68 83 r135)) 70 (647791 : Int) (g68 84 r135)) [69, 70] g145) 83 r135 (g145 69 (647791 : Int))) 84 r135 (g145 70 (647791 : Int))) 69 (647791 : Int) (g68 85 r135)) 70 (647791 : Int) (g68 86 r135)) [69, 70] g167) 85 r135 (g167 69 (647791 : Int))) := sv_mod.up md171 (by decide)
                  have md176 : sv_mod [69, 70, 83, 84, 85, 86] (sv_up (sv_up (sv_sts (sv_up (sv_up (sv_sts (sv_sts (sv_sts (sv_sts S [69, 70] g1) [69, 70] g11) [69, 70] g23) [69, 70] g30) 69 (647791 : Int) (S 76 (639 : Int))) 70 (647791 : Int) (S 77 (639 : Int))) [69, 70] g54) 76 (639 : Int) (g54 69 (647791 : Int))) 77 (639 : Int) (g54 70 (647791 : Int))) (sv_up (sv_sts (sv_up (sv_up (sv_up (sv_up (sv_sts (sv_up (sv_up (sv_sts (sv_up (sv_up (sv_sts (sv_up (sv_up (sv_sts (sv_sts (sv_sts (sv_sts S [69, 70] g1) [69, 70] g11) [69, 70] g23) [69, 70] g30) 69 (647791 : Int) (S 76 (639 : Int))) 70 (647791 : Int) (S 77 (639 : Int))) [69, 70] g54) 76 (639 : Int) (g54 69 (647791 : Int))) 77 (639 : Int) (g54 70 (647791 : Int))) [69, 70, 83, 84, 85, 86] g68) 69 (647791 : Int) (g68 83 r135)) 70 (647791 : Int) (g68 84 r135)) [69, 70] g145) 83 r135 (g145 69 (647791 : Int))) 84 r135 (g145 70 (647791 : Int))) 69 (647791 : Int) (g68 85 r135)) 70 (647791 : Int) (g68 86 r135)) [69, 70] g167) 85 r135 (g167 69 (647791 : Int))) := sv_mod.up md172 (by decide)
                  refine sv_aload_n hM dX12_make_299 rfl rfl ?_
                  refine sv_getA hM dX12_make_300 sm_fl_271 (sm_a0 _) sm_k138 rfl ?_
                  refine sv_iload hM dX12_make_303 rfl rfl ?_
                  refine sv_aload_n hM dX12_make_305 rfl rfl ?_
                  refine sv_getA hM dX12_make_306 sm_fl_223 (sm_a0 _) sm_k118 rfl ?_
                  refine sv_iload_n hM dX12_make_309 rfl rfl ?_
                  have k177 : sv_RL (g167 70 (647791 : Int)) := sm_okJ ok174 sm_r70 (647791 : Int)
                  have h := h k177
                  refine sv_lald hM dX12_make_310 (sm_a70 _) (by decide) o41.1 o41.2 rfl (x := (g167 70 (647791 : Int))) rfl ?_
                  refine sv_last sm_X hM dX12_make_311 (sm_a86 _) (by decide) o136.1 o136.2 rfl ?_
                  have ok178 : sm_ok (sv_up (sv_up (sv_sts (sv_up (sv_up (sv_up (sv_up (sv_sts (sv_up (sv_up (sv_sts (sv_up (sv_up (sv_sts (sv_up (sv_up (sv_sts (sv_sts (sv_sts (sv_sts S [69, 70] g1) [69, 70] g11) [69, 70] g23) [69, 70] g30) 69 (647791 : Int) (S 76 (639 : Int))) 70 (647791 : Int) (S 77 (639 : Int))) [69, 70] g54) 76 (639 : Int) (g54 69 (647791 : Int))) 77 (639 : Int) (g54 70 (647791 : Int))) [69, 70, 83, 84, 85, 86] g68) 69 (647791 : Int) (g68 83 r135)) 70 (647791 : Int) (g68 84 r135)) [69, 70] g145) 83 r135 (g145 69 (647791 : Int))) 84 r135 (g145 70 (647791 : Int))) 69 (647791 : Int) (g68 85 r135)) 70 (647791 : Int) (g68 86 r135)) [69, 70] g167) 85 r135 (g167 69 (647791 : Int))) 86 r135 (g167 70 (647791 : Int))) := sm_upJ ok174 sm_r86 k177
                  have md179 : sv_mod [68, 69, 70, 81, 82, 83, 84, 85, 86, 76, 77] S (sv_up (sv_up (sv_sts (sv_up (sv_up (sv_up (sv_up (sv_sts (sv_up (sv_up (sv_sts (sv_up (sv_up (sv_sts (sv_up (sv_up (sv_sts (sv_sts (sv_sts (sv_sts S [69, 70] g1) [69, 70] g11) [69, 70] g23) [69, 70] g30) 69 (647791 : Int) (S 76 (639 : Int))) 70 (647791 : Int) (S 77 (639 : Int))) [69, 70] g54) 76 (639 : Int) (g54 69 (647791 : Int))) 77 (639 : Int) (g54 70 (647791 : Int))) [69, 70, 83, 84, 85, 86] g68) 69 (647791 : Int) (g68 83 r135)) 70 (647791 : Int) (g68 84 r135)) [69, 70] g145) 83 r135 (g145 69 (647791 : Int))) 84 r135 (g145 70 (647791 : Int))) 69 (647791 : Int) (g68 85 r135)) 70 (647791 : Int) (g68 86 r135)) [69, 70] g167) 85 r135 (g167 69 (647791 : Int))) 86 r135 (g167 70 (647791 : Int))) := sv_mod.up md175 (by decide)
                  have md180 : sv_mod [69, 70, 83, 84, 85, 86] (sv_up (sv_up (sv_sts (sv_up (sv_up (sv_sts (sv_sts (sv_sts (sv_sts S [69, 70] g1) [69, 70] g11) [69, 70] g23) [69, 70] g30) 69 (647791 : Int) (S 76 (639 : Int))) 70 (647791 : Int) (S 77 (639 : Int))) [69, 70] g54) 76 (639 : Int) (g54 69 (647791 : Int))) 77 (639 : Int) (g54 70 (647791 : Int))) (sv_up (sv_up (sv_sts (sv_up (sv_up (sv_up (sv_up (sv_sts (sv_up (sv_up (sv_sts (sv_up (sv_up (sv_sts (sv_up (sv_up (sv_sts (sv_sts (sv_sts (sv_sts S [69, 70] g1) [69, 70] g11) [69, 70] g23) [69, 70] g30) 69 (647791 : Int) (S 76 (639 : Int))) 70 (647791 : Int) (S 77 (639 : Int))) [69, 70] g54) 76 (639 : Int) (g54 69 (647791 : Int))) 77 (639 : Int) (g54 70 (647791 : Int))) [69, 70, 83, 84, 85, 86] g68) 69 (647791 : Int) (g68 83 r135)) 70 (647791 : Int) (g68 84 r135)) [69, 70] g145) 83 r135 (g145 69 (647791 : Int))) 84 r135 (g145 70 (647791 : Int))) 69 (647791 : Int) (g68 85 r135)) 70 (647791 : Int) (g68 86 r135)) [69, 70] g167) 85 r135 (g167 69 (647791 : Int))) 86 r135 (g167 70 (647791 : Int))) := sv_mod.up md176 (by decide)
                  refine sv_iinc (d := (1 : Int)) hM dX12_make_312 rfl (by decide) rfl rfl ?_
                  show sv_T sm_XS sm_cs sm_L sm_sh 3 (q_make p1 p2 S) 256 315 [(0, .ref 0), (1, sv_I p1), (2, sv_I p2), (3, sv_I (647791 : Int)), (4, sv_I (l4_69 + (1 : Int))), (5, sv_I r135)] [] (sv_up (sv_up (sv_sts (sv_up (sv_up (sv_up (sv_up (sv_sts (sv_up (sv_up (sv_sts (sv_up (sv_up (sv_sts (sv_up (sv_up (sv_sts (sv_sts (sv_sts (sv_sts S [69, 70] g1) [69, 70] g11) [69, 70] g23) [69, 70] g30) 69 (647791 : Int) (S 76 (639 : Int))) 70 (647791 : Int) (S 77 (639 : Int))) [69, 70] g54) 76 (639 : Int) (g54 69 (647791 : Int))) 77 (639 : Int) (g54 70 (647791 : Int))) [69, 70, 83, 84, 85, 86] g68) 69 (647791 : Int) (g68 83 r135)) 70 (647791 : Int) (g68 84 r135)) [69, 70] g145) 83 r135 (g145 69 (647791 : Int))) 84 r135 (g145 70 (647791 : Int))) 69 (647791 : Int) (g68 85 r135)) 70 (647791 : Int) (g68 86 r135)) [69, 70] g167) 85 r135 (g167 69 (647791 : Int))) 86 r135 (g167 70 (647791 : Int)))
                  refine sv_goto hM dX12_make_315 (pc' := 176) rfl ?_
                  obtain ⟨o181, h⟩ := h
                  have eS := sv_mod.eq md180
                  have hb := ih70 ((l4_69 + (1 : Int)), (sv_up (sv_up (sv_sts (sv_up (sv_up (sv_up (sv_up (sv_sts (sv_up (sv_up (sv_sts (sv_up (sv_up (sv_sts (sv_up (sv_up (sv_sts (sv_sts (sv_sts (sv_sts S [69, 70] g1) [69, 70] g11) [69, 70] g23) [69, 70] g30) 69 (647791 : Int) (S 76 (639 : Int))) 70 (647791 : Int) (S 77 (639 : Int))) [69, 70] g54) 76 (639 : Int) (g54 69 (647791 : Int))) 77 (639 : Int) (g54 70 (647791 : Int))) [69, 70, 83, 84, 85, 86] g68) 69 (647791 : Int) (g68 83 r135)) 70 (647791 : Int) (g68 84 r135)) [69, 70] g145) 83 r135 (g145 69 (647791 : Int))) 84 r135 (g145 70 (647791 : Int))) 69 (647791 : Int) (g68 85 r135)) 70 (647791 : Int) (g68 86 r135)) [69, 70] g167) 85 r135 (g167 69 (647791 : Int))) 86 r135 (g167 70 (647791 : Int)))) ⟨o181, (by rw [← eS]; exact ok178), h.1⟩ h.2
                  have hb : sv_T sm_XS sm_cs sm_L sm_sh 3 (q_make p1 p2 S) 256 176 [(0, .ref 0), (1, sv_I p1), (2, sv_I p2), (3, sv_I (647791 : Int)), (4, sv_I (l4_69 + (1 : Int)))] [] (sv_up (sv_up (sv_sts (sv_up (sv_up (sv_up (sv_up (sv_sts (sv_up (sv_up (sv_sts (sv_up (sv_up (sv_sts (sv_up (sv_up (sv_sts (sv_sts (sv_sts (sv_sts S [69, 70] g1) [69, 70] g11) [69, 70] g23) [69, 70] g30) 69 (647791 : Int) (S 76 (639 : Int))) 70 (647791 : Int) (S 77 (639 : Int))) [69, 70] g54) 76 (639 : Int) (g54 69 (647791 : Int))) 77 (639 : Int) (g54 70 (647791 : Int))) [69, 70, 83, 84, 85, 86] g68) 69 (647791 : Int) (g68 83 r135)) 70 (647791 : Int) (g68 84 r135)) [69, 70] g145) 83 r135 (g145 69 (647791 : Int))) 84 r135 (g145 70 (647791 : Int))) 69 (647791 : Int) (g68 85 r135)) 70 (647791 : Int) (g68 86 r135)) [69, 70] g167) 85 r135 (g167 69 (647791 : Int))) 86 r135 (g167 70 (647791 : Int))) := Eq.mpr (congrArg (fun Z => sv_T sm_XS sm_cs sm_L sm_sh 3 (q_make p1 p2 S) 256 176 [(0, .ref 0), (1, sv_I p1), (2, sv_I p2), (3, sv_I (647791 : Int)), (4, sv_I (l4_69 + (1 : Int)))] [] Z) eS) hb
                  exact sv_less (lv := [(0, .ref 0), (1, sv_I p1), (2, sv_I p2), (3, sv_I (647791 : Int)), (4, sv_I (l4_69 + (1 : Int)))]) (sv_Sub_cons rfl (sv_Sub_cons rfl (sv_Sub_cons rfl (sv_Sub_cons rfl (sv_Sub_cons rfl sv_Sub_nil))))) hb
              have eS := sv_mod.eq (sv_mod.rf (l := [69, 70, 83, 84, 85, 86]) (S := (sv_up (sv_up (sv_sts (sv_up (sv_up (sv_sts (sv_sts (sv_sts (sv_sts S [69, 70] g1) [69, 70] g11) [69, 70] g23) [69, 70] g30) 69 (647791 : Int) (S 76 (639 : Int))) 70 (647791 : Int) (S 77 (639 : Int))) [69, 70] g54) 76 (639 : Int) (g54 69 (647791 : Int))) 77 (639 : Int) (g54 70 (647791 : Int)))))
              have hb := hJ ((0 : Int), (sv_up (sv_up (sv_sts (sv_up (sv_up (sv_sts (sv_sts (sv_sts (sv_sts S [69, 70] g1) [69, 70] g11) [69, 70] g23) [69, 70] g30) 69 (647791 : Int) (S 76 (639 : Int))) 70 (647791 : Int) (S 77 (639 : Int))) [69, 70] g54) 76 (639 : Int) (g54 69 (647791 : Int))) 77 (639 : Int) (g54 70 (647791 : Int)))) ⟨(⟨by decide, by decide⟩ : sv_R (0 : Int)), (by rw [← eS]; exact ok66), hin71⟩
              have hb : sv_T sm_XS sm_cs sm_L sm_sh 3 (q_make p1 p2 S) 256 176 [(0, .ref 0), (1, sv_I p1), (2, sv_I p2), (3, sv_I (647791 : Int)), (4, sv_I (0 : Int))] [] (sv_up (sv_up (sv_sts (sv_up (sv_up (sv_sts (sv_sts (sv_sts (sv_sts S [69, 70] g1) [69, 70] g11) [69, 70] g23) [69, 70] g30) 69 (647791 : Int) (S 76 (639 : Int))) 70 (647791 : Int) (S 77 (639 : Int))) [69, 70] g54) 76 (639 : Int) (g54 69 (647791 : Int))) 77 (639 : Int) (g54 70 (647791 : Int))) := Eq.mpr (congrArg (fun Z => sv_T sm_XS sm_cs sm_L sm_sh 3 (q_make p1 p2 S) 256 176 [(0, .ref 0), (1, sv_I p1), (2, sv_I p2), (3, sv_I (647791 : Int)), (4, sv_I (0 : Int))] [] Z) eS) hb
              exact hb
            · have h := h.2 (hc)
              refine sv_aload_n hM dX12_make_90 rfl rfl ?_
              refine sv_aload_n hM dX12_make_91 rfl rfl ?_
              refine sv_getA hM dX12_make_92 sm_fl_286 (sm_a0 _) sm_k146 rfl ?_
              refine sv_iload_n hM dX12_make_95 rfl rfl ?_
              obtain ⟨o182, h⟩ := h
              have k183 : sv_R (S 91 l3_31) := sm_okI ok34 sm_r91 l3_31
              have h := h k183
              refine sv_iald hM dX12_make_96 (sm_a91 _) (by decide) o182.1 o182.2 rfl (x := (S 91 l3_31)) rfl ?_
              refine sv_iload_n hM dX12_make_97 rfl rfl ?_
              obtain ⟨o184, h⟩ := h
              refine sv_callV hM dX12_make_98 sm_iv_1175 (by decide) (sm_a0 _) rfl rfl (Nat.le_of_ble_eq_true rfl) sm_h255 (Nat.le_of_ble_eq_true rfl) (Nat.le_of_ble_eq_true rfl) (F' := 1) (Nat.le_of_ble_eq_true rfl) rfl (t_renameIn (S 91 l3_31) p1 (sv_sts (sv_sts (sv_sts (sv_sts S [69, 70] g1) [69, 70] g11) [69, 70] g23) [69, 70] g30) ok34 k183 hp1 o184) (fun v S1 hq => ?_)
              obtain ⟨rfl, ok186, md187, hpo188⟩ := hq
              obtain ⟨g185, rfl⟩ : ∃ g, S1 = sv_sts (sv_sts (sv_sts (sv_sts (sv_sts S [69, 70] g1) [69, 70] g11) [69, 70] g23) [69, 70] g30) [69, 70] g := ⟨_, md187.eq⟩
              show sv_T sm_XS sm_cs sm_L sm_sh 3 (q_make p1 p2 S) 256 101 [(0, .ref 0), (1, sv_I p1), (2, sv_I p2), (3, sv_I l3_31)] [] (sv_sts (sv_sts (sv_sts (sv_sts (sv_sts S [69, 70] g1) [69, 70] g11) [69, 70] g23) [69, 70] g30) [69, 70] g185)
              have md189 : sv_mod [68, 69, 70, 81, 82, 83, 84, 85, 86, 76, 77] S (sv_sts (sv_sts (sv_sts (sv_sts (sv_sts S [69, 70] g1) [69, 70] g11) [69, 70] g23) [69, 70] g30) [69, 70] g185) := sv_mod.sts md35 (by decide)
              have md190 : sv_mod [69, 70] S (sv_sts (sv_sts (sv_sts (sv_sts (sv_sts S [69, 70] g1) [69, 70] g11) [69, 70] g23) [69, 70] g30) [69, 70] g185) := sv_mod.sts md36 (by decide)
              have md191 : sv_mod [69, 70] (sv_sts S [69, 70] g1) (sv_sts (sv_sts (sv_sts (sv_sts (sv_sts S [69, 70] g1) [69, 70] g11) [69, 70] g23) [69, 70] g30) [69, 70] g185) := sv_mod.sts md37 (by decide)
              have md192 : sv_mod [69, 70] (sv_sts (sv_sts (sv_sts S [69, 70] g1) [69, 70] g11) [69, 70] g23) (sv_sts (sv_sts (sv_sts (sv_sts (sv_sts S [69, 70] g1) [69, 70] g11) [69, 70] g23) [69, 70] g30) [69, 70] g185) := sv_mod.sts md38 (by decide)
              have h := h g185 hpo188
              refine sv_iinc (d := (1 : Int)) hM dX12_make_101 rfl (by decide) rfl rfl ?_
              show sv_T sm_XS sm_cs sm_L sm_sh 3 (q_make p1 p2 S) 256 104 [(0, .ref 0), (1, sv_I p1), (2, sv_I p2), (3, sv_I (l3_31 + (1 : Int)))] [] (sv_sts (sv_sts (sv_sts (sv_sts (sv_sts S [69, 70] g1) [69, 70] g11) [69, 70] g23) [69, 70] g30) [69, 70] g185)
              refine sv_goto hM dX12_make_104 (pc' := 82) rfl ?_
              obtain ⟨o193, h⟩ := h
              have eS := sv_mod.eq md192
              have hb := ih32 ((l3_31 + (1 : Int)), (sv_sts (sv_sts (sv_sts (sv_sts (sv_sts S [69, 70] g1) [69, 70] g11) [69, 70] g23) [69, 70] g30) [69, 70] g185)) ⟨o193, (by rw [← eS]; exact ok186), h.1⟩ h.2
              have hb : sv_T sm_XS sm_cs sm_L sm_sh 3 (q_make p1 p2 S) 256 82 [(0, .ref 0), (1, sv_I p1), (2, sv_I p2), (3, sv_I (l3_31 + (1 : Int)))] [] (sv_sts (sv_sts (sv_sts (sv_sts (sv_sts S [69, 70] g1) [69, 70] g11) [69, 70] g23) [69, 70] g30) [69, 70] g185) := Eq.mpr (congrArg (fun Z => sv_T sm_XS sm_cs sm_L sm_sh 3 (q_make p1 p2 S) 256 82 [(0, .ref 0), (1, sv_I p1), (2, sv_I p2), (3, sv_I (l3_31 + (1 : Int)))] [] Z) eS) hb
              exact sv_less (lv := [(0, .ref 0), (1, sv_I p1), (2, sv_I p2), (3, sv_I (l3_31 + (1 : Int)))]) (sv_Sub_cons rfl (sv_Sub_cons rfl (sv_Sub_cons rfl (sv_Sub_cons rfl sv_Sub_nil)))) hb
          have eS := sv_mod.eq (sv_mod.rf (l := [69, 70]) (S := (sv_sts (sv_sts (sv_sts S [69, 70] g1) [69, 70] g11) [69, 70] g23)))
          have hb := hJ ((0 : Int), (sv_sts (sv_sts (sv_sts S [69, 70] g1) [69, 70] g11) [69, 70] g23)) ⟨(⟨by decide, by decide⟩ : sv_R (0 : Int)), (by rw [← eS]; exact ok24), hin33⟩
          have hb : sv_T sm_XS sm_cs sm_L sm_sh 3 (q_make p1 p2 S) 256 82 [(0, .ref 0), (1, sv_I p1), (2, sv_I p2), (3, sv_I (0 : Int))] [] (sv_sts (sv_sts (sv_sts S [69, 70] g1) [69, 70] g11) [69, 70] g23) := Eq.mpr (congrArg (fun Z => sv_T sm_XS sm_cs sm_L sm_sh 3 (q_make p1 p2 S) 256 82 [(0, .ref 0), (1, sv_I p1), (2, sv_I p2), (3, sv_I (0 : Int))] [] Z) eS) hb
          exact hb
        · have h := h.2 (hc)
          refine sv_aload_n hM dX12_make_47 rfl rfl ?_
          refine sv_aload_n hM dX12_make_48 rfl rfl ?_
          refine sv_getA hM dX12_make_49 sm_fl_238 (sm_a0 _) sm_k126 rfl ?_
          refine sv_sipush (d := (639 : Int)) hM dX12_make_52 rfl rfl ?_
          have k194 : sv_R (S 75 (639 : Int)) := sm_okI ok15 sm_r75 (639 : Int)
          have h := h k194
          refine sv_iald hM dX12_make_55 (sm_a75 _) (by decide) o19.1 o19.2 rfl (x := (S 75 (639 : Int))) rfl ?_
          refine sv_iload_n hM dX12_make_56 rfl rfl ?_
          refine sv_iadd hM dX12_make_57 rfl ?_
          refine sv_iload_n hM dX12_make_58 rfl rfl ?_
          obtain ⟨o195, h⟩ := h
          obtain ⟨o196, h⟩ := h
          refine sv_callV hM dX12_make_59 sm_iv_1175 (by decide) (sm_a0 _) rfl rfl (Nat.le_of_ble_eq_true rfl) sm_h255 (Nat.le_of_ble_eq_true rfl) (Nat.le_of_ble_eq_true rfl) (F' := 1) (Nat.le_of_ble_eq_true rfl) rfl (t_renameIn ((S 75 (639 : Int)) + l3_12) p1 (sv_sts (sv_sts S [69, 70] g1) [69, 70] g11) ok15 o195 hp1 o196) (fun v S1 hq => ?_)
          obtain ⟨rfl, ok198, md199, hpo200⟩ := hq
          obtain ⟨g197, rfl⟩ : ∃ g, S1 = sv_sts (sv_sts (sv_sts S [69, 70] g1) [69, 70] g11) [69, 70] g := ⟨_, md199.eq⟩
          show sv_T sm_XS sm_cs sm_L sm_sh 3 (q_make p1 p2 S) 256 62 [(0, .ref 0), (1, sv_I p1), (2, sv_I p2), (3, sv_I l3_12)] [] (sv_sts (sv_sts (sv_sts S [69, 70] g1) [69, 70] g11) [69, 70] g197)
          have md201 : sv_mod [68, 69, 70, 81, 82, 83, 84, 85, 86, 76, 77] S (sv_sts (sv_sts (sv_sts S [69, 70] g1) [69, 70] g11) [69, 70] g197) := sv_mod.sts md16 (by decide)
          have md202 : sv_mod [69, 70] S (sv_sts (sv_sts (sv_sts S [69, 70] g1) [69, 70] g11) [69, 70] g197) := sv_mod.sts md17 (by decide)
          have md203 : sv_mod [69, 70] (sv_sts S [69, 70] g1) (sv_sts (sv_sts (sv_sts S [69, 70] g1) [69, 70] g11) [69, 70] g197) := sv_mod.sts md18 (by decide)
          have h := h g197 hpo200
          refine sv_iinc (d := (1 : Int)) hM dX12_make_62 rfl (by decide) rfl rfl ?_
          show sv_T sm_XS sm_cs sm_L sm_sh 3 (q_make p1 p2 S) 256 65 [(0, .ref 0), (1, sv_I p1), (2, sv_I p2), (3, sv_I (l3_12 + (1 : Int)))] [] (sv_sts (sv_sts (sv_sts S [69, 70] g1) [69, 70] g11) [69, 70] g197)
          refine sv_goto hM dX12_make_65 (pc' := 35) rfl ?_
          obtain ⟨o204, h⟩ := h
          have eS := sv_mod.eq md203
          have hb := ih13 ((l3_12 + (1 : Int)), (sv_sts (sv_sts (sv_sts S [69, 70] g1) [69, 70] g11) [69, 70] g197)) ⟨o204, (by rw [← eS]; exact ok198), h.1⟩ h.2
          have hb : sv_T sm_XS sm_cs sm_L sm_sh 3 (q_make p1 p2 S) 256 35 [(0, .ref 0), (1, sv_I p1), (2, sv_I p2), (3, sv_I (l3_12 + (1 : Int)))] [] (sv_sts (sv_sts (sv_sts S [69, 70] g1) [69, 70] g11) [69, 70] g197) := Eq.mpr (congrArg (fun Z => sv_T sm_XS sm_cs sm_L sm_sh 3 (q_make p1 p2 S) 256 35 [(0, .ref 0), (1, sv_I p1), (2, sv_I p2), (3, sv_I (l3_12 + (1 : Int)))] [] Z) eS) hb
          exact sv_less (lv := [(0, .ref 0), (1, sv_I p1), (2, sv_I p2), (3, sv_I (l3_12 + (1 : Int)))]) (sv_Sub_cons rfl (sv_Sub_cons rfl (sv_Sub_cons rfl (sv_Sub_cons rfl sv_Sub_nil)))) hb
      have eS := sv_mod.eq (sv_mod.rf (l := [69, 70]) (S := (sv_sts S [69, 70] g1)))
      have hb := hJ ((0 : Int), (sv_sts S [69, 70] g1)) ⟨(⟨by decide, by decide⟩ : sv_R (0 : Int)), (by rw [← eS]; exact ok5), hin14⟩
      have hb : sv_T sm_XS sm_cs sm_L sm_sh 3 (q_make p1 p2 S) 256 35 [(0, .ref 0), (1, sv_I p1), (2, sv_I p2), (3, sv_I (0 : Int))] [] (sv_sts S [69, 70] g1) := Eq.mpr (congrArg (fun Z => sv_T sm_XS sm_cs sm_L sm_sh 3 (q_make p1 p2 S) 256 35 [(0, .ref 0), (1, sv_I p1), (2, sv_I p2), (3, sv_I (0 : Int))] [] Z) eS) hb
      exact hb
    · have h := h.2 (hc)
      refine sv_aload_n hM dX12_make_17 rfl rfl ?_
      refine sv_ldc_w (d := (635640 : Int)) hM dX12_make_18 sm_ck_1084 rfl rfl ?_
      refine sv_iload_n hM dX12_make_21 rfl rfl ?_
      refine sv_iadd hM dX12_make_22 rfl ?_
      refine sv_iload_n hM dX12_make_23 rfl rfl ?_
      obtain ⟨o205, h⟩ := h
      obtain ⟨o206, h⟩ := h
      refine sv_callV hM dX12_make_24 sm_iv_1175 (by decide) (sm_a0 _) rfl rfl (Nat.le_of_ble_eq_true rfl) sm_h255 (Nat.le_of_ble_eq_true rfl) (Nat.le_of_ble_eq_true rfl) (F' := 1) (Nat.le_of_ble_eq_true rfl) rfl (t_renameIn ((635640 : Int) + l3_2) p1 (sv_sts S [69, 70] g1) ok5 o205 hp1 o206) (fun v S1 hq => ?_)
      obtain ⟨rfl, ok208, md209, hpo210⟩ := hq
      obtain ⟨g207, rfl⟩ : ∃ g, S1 = sv_sts (sv_sts S [69, 70] g1) [69, 70] g := ⟨_, md209.eq⟩
      show sv_T sm_XS sm_cs sm_L sm_sh 3 (q_make p1 p2 S) 256 27 [(0, .ref 0), (1, sv_I p1), (2, sv_I p2), (3, sv_I l3_2)] [] (sv_sts (sv_sts S [69, 70] g1) [69, 70] g207)
      have md211 : sv_mod [68, 69, 70, 81, 82, 83, 84, 85, 86, 76, 77] S (sv_sts (sv_sts S [69, 70] g1) [69, 70] g207) := sv_mod.sts md6 (by decide)
      have md212 : sv_mod [69, 70] S (sv_sts (sv_sts S [69, 70] g1) [69, 70] g207) := sv_mod.sts md7 (by decide)
      have h := h g207 hpo210
      refine sv_iinc (d := (1 : Int)) hM dX12_make_27 rfl (by decide) rfl rfl ?_
      show sv_T sm_XS sm_cs sm_L sm_sh 3 (q_make p1 p2 S) 256 30 [(0, .ref 0), (1, sv_I p1), (2, sv_I p2), (3, sv_I (l3_2 + (1 : Int)))] [] (sv_sts (sv_sts S [69, 70] g1) [69, 70] g207)
      refine sv_goto hM dX12_make_30 (pc' := 2) rfl ?_
      obtain ⟨o213, h⟩ := h
      have eS := sv_mod.eq md212
      have hb := ih3 ((l3_2 + (1 : Int)), (sv_sts (sv_sts S [69, 70] g1) [69, 70] g207)) ⟨o213, (by rw [← eS]; exact ok208), h.1⟩ h.2
      have hb : sv_T sm_XS sm_cs sm_L sm_sh 3 (q_make p1 p2 S) 256 2 [(0, .ref 0), (1, sv_I p1), (2, sv_I p2), (3, sv_I (l3_2 + (1 : Int)))] [] (sv_sts (sv_sts S [69, 70] g1) [69, 70] g207) := Eq.mpr (congrArg (fun Z => sv_T sm_XS sm_cs sm_L sm_sh 3 (q_make p1 p2 S) 256 2 [(0, .ref 0), (1, sv_I p1), (2, sv_I p2), (3, sv_I (l3_2 + (1 : Int)))] [] Z) eS) hb
      exact sv_less (lv := [(0, .ref 0), (1, sv_I p1), (2, sv_I p2), (3, sv_I (l3_2 + (1 : Int)))]) (sv_Sub_cons rfl (sv_Sub_cons rfl (sv_Sub_cons rfl (sv_Sub_cons rfl sv_Sub_nil)))) hb
  have eS := sv_mod.eq (sv_mod.rf (l := [69, 70]) (S := S))
  have hb := hJ ((0 : Int), S) ⟨(⟨by decide, by decide⟩ : sv_R (0 : Int)), (by rw [← eS]; exact hok), hin4⟩
  have hb : sv_T sm_XS sm_cs sm_L sm_sh 3 (q_make p1 p2 S) 256 2 [(0, .ref 0), (1, sv_I p1), (2, sv_I p2), (3, sv_I (0 : Int))] [] S := Eq.mpr (congrArg (fun Z => sv_T sm_XS sm_cs sm_L sm_sh 3 (q_make p1 p2 S) 256 2 [(0, .ref 0), (1, sv_I p1), (2, sv_I p2), (3, sv_I (0 : Int))] [] Z) eS) hb
  exact hb
def q_age (p1 : Int) (S : sv_S) : Option Value → sv_S → Prop := fun v S' => v = none ∧ sm_ok S' ∧ sv_mod [69, 70] S S' ∧ (sm_pt (S' 68) (S' 69) (S' 70) = sm_pt (S 68) (S 69) (S 70))
theorem la_age_0 {x0 x1 : Int} (h0 : 29 ≤ x0) : (29 : Int) ≤ 29 ∧ 29 ≤ x0 ∧ x1 = x1 := by omega
theorem la_age_1 {x0 x1 : Int} (h0 : x0 ≤ x1) : 0 ≤ x1 - x0 := by omega
theorem la_age_2 {x0 x1 x2 x3 : Int} (h0 : x0 = x1) : x2 ≤ x3 → x0 = x1 := by omega
theorem la_age_3 {x0 x1 : Int} (h0 : x0 ≤ 127) (h1 : 29 ≤ x1) (h2 : ¬ x0 ≤ x1) : 0 ≤ x1 ∧ x1 ≤ 200 := by omega
theorem la_age_4 {x0 x1 x2 x3 x4 : Int} (h0 : x0 ≤ 127) (h1 : 29 ≤ x1) (h2 : x2 = x3) (h3 : ¬ x0 ≤ x1) : x4 = 0 → sv_R (x1 + 1) ∧ (29 ≤ x1 + 1 ∧ x1 + 1 ≤ x0 ∧ x2 = x3) ∧ x0 - (x1 + 1) < x0 - x1 := by omega
theorem la_age_5 {x0 : Int} (h0 : x0 = 1) : 0 ≤ x0 := by omega
theorem la_age_6 {x0 : Int} (h0 : 0 ≤ x0) (h1 : ¬ x0 = 0) : 0 < x0 := by omega
theorem la_age_7 {x0 : Int} (h0 : 635639 ≤ x0) (h1 : x0 < 647800) : 0 ≤ x0 ∧ x0 < 647800 := by omega
theorem la_age_8 {x0 x1 : Int} (h0 : x0 ≤ 127) (h1 : 29 ≤ x1) (h2 : ¬ x0 ≤ x1) : 0 ≤ x1 ∧ x1 < 128 := by omega
theorem la_age_9 {x0 x1 : Int} (h0 : x0 ≤ 127) (h1 : 29 ≤ x1) (h2 : ¬ x0 ≤ x1) : sv_R (x1 + 1) := by omega
theorem la_age_10 {x0 : Int} (h0 : 635639 ≤ x0) (h1 : x0 < 647800) : 635639 ≤ x0 ∧ x0 < 647800 := by omega
theorem la_age_11 {x0 x1 x2 x3 x4 : Int} (h0 : 29 ≤ x0) (h1 : x1 = x2) (h2 : ¬ x3 ≤ x0) (h3 : x4 = x1) : 29 ≤ x0 + 1 ∧ x0 + 1 ≤ x3 ∧ x4 = x2 := by omega
theorem la_age_12 {x0 x1 : Int} : x0 - (x1 + 1) < x0 - x1 := by omega
set_option maxHeartbeats 2000000 in
theorem f_age : ∀ (p1 : Int) (S : sv_S), sm_ok S → sv_R p1 → (29 ≤ (S 1071 0) ∧ (S 1071 0) ≤ 127 ∧ 635639 ≤ p1 ∧ p1 < 647800) → ((29 ≤ (29 : Int) ∧ (29 : Int) ≤ (S 1071 0) ∧ sm_pt (S 68) (S 69) (S 70) = sm_pt (S 68) (S 69) (S 70)) ∧ (∀ l2_2 : Int, sv_R l2_2 → ∀ g1 : sv_S, (29 ≤ l2_2 ∧ l2_2 ≤ (S 1071 0) ∧ sm_pt (S 68) (g1 69) (g1 70) = sm_pt (S 68) (S 69) (S 70)) → (0 ≤ (S 1071 0) - l2_2) ∧ (sv_R (S 1071 0) → ((((S 1071 0) ≤ l2_2) → (sm_pt (S 68) (g1 69) (g1 70) = sm_pt (S 68) (S 69) (S 70))) ∧ ((¬ ((S 1071 0) ≤ l2_2)) → (0 ≤ l2_2 ∧ l2_2 ≤ 200) ∧ (∀ r14 : Int, sv_R r14 → (r14 = 0 ∨ r14 = 1) → (((r14 = (0 : Int)) → (sv_R (l2_2 + (1 : Int))) ∧ ((29 ≤ (l2_2 + (1 : Int)) ∧ (l2_2 + (1 : Int)) ≤ (S 1071 0) ∧ sm_pt (S 68) (g1 69) (g1 70) = sm_pt (S 68) (S 69) (S 70)) ∧ ((S 1071 0) - (l2_2 + (1 : Int))) < ((S 1071 0) - l2_2))) ∧ ((¬ (r14 = (0 : Int))) → (0 ≤ p1 ∧ p1 < 647800) ∧ (sv_RL (g1 69 p1) → (sv_RL (g1 70 p1) → (0 ≤ l2_2 ∧ l2_2 < 128) ∧ (∀ r24 : Int, sv_R r24 → (r24 = sm_in (g1 69 p1) (g1 70 p1) l2_2 ∧ (r24 = 0 ∨ r24 = 1)) → (((r24 = (0 : Int)) → (sv_R (l2_2 + (1 : Int))) ∧ ((29 ≤ (l2_2 + (1 : Int)) ∧ (l2_2 + (1 : Int)) ≤ (S 1071 0) ∧ sm_pt (S 68) (g1 69) (g1 70) = sm_pt (S 68) (S 69) (S 70)) ∧ ((S 1071 0) - (l2_2 + (1 : Int))) < ((S 1071 0) - l2_2))) ∧ ((¬ (r24 = (0 : Int))) → (sv_R (l2_2 + (1 : Int))) ∧ (635639 ≤ p1 ∧ p1 < 647800) ∧ (∀ g28 : sv_S, (sm_pt (S 68) (g28 69) (g28 70) = sm_pt (S 68) (g1 69) (g1 70)) → ((29 ≤ (l2_2 + (1 : Int)) ∧ (l2_2 + (1 : Int)) ≤ (S 1071 0) ∧ sm_pt (S 68) (g28 69) (g28 70) = sm_pt (S 68) (S 69) (S 70)) ∧ ((S 1071 0) - (l2_2 + (1 : Int))) < ((S 1071 0) - l2_2)))))))))))))))) := by
  intro p1
  intro S
  intro h1_
  intro h2_
  rintro ⟨h3_, ⟨h4_, ⟨h5_, h6_⟩⟩⟩
  refine ⟨(la_age_0 h3_), ?_⟩
  intro l2_2
  intro h7_
  intro g1
  rintro ⟨h8_, ⟨h9_, h10_⟩⟩
  refine ⟨(la_age_1 h9_), ?_⟩
  intro h11_
  refine ⟨(la_age_2 h10_), ?_⟩
  intro h12_
  refine ⟨(la_age_3 h4_ h8_ h12_), ?_⟩
  intro r14
  intro h13_
  intro h14_
  refine ⟨(la_age_4 h4_ h8_ h10_ h12_), ?_⟩
  intro h15_
  have h16_ := (h14_.resolve_left h15_)
  refine ⟨(la_age_7 h5_ h6_), ?_⟩
  intro h17_
  intro h18_
  refine ⟨(la_age_8 h4_ h8_ h12_), ?_⟩
  intro r24
  intro h19_
  rintro ⟨h20_, h21_⟩
  refine ⟨(la_age_4 h4_ h8_ h10_ h12_), ?_⟩
  intro h22_
  have h23_ := (h21_.resolve_left h22_)
  refine ⟨(la_age_9 h4_ h8_ h12_), ?_⟩
  refine ⟨(la_age_10 h5_ h6_), ?_⟩
  intro g28
  intro h24_
  refine ⟨(la_age_11 h8_ h10_ h12_ h24_), ?_⟩
  exact la_age_12
set_option maxRecDepth 8000 in
set_option maxHeartbeats 2000000 in
theorem t_age : ∀ (p1 : Int) (S : sv_S), sm_ok S → sv_R p1 → (29 ≤ (S 1071 0) ∧ (S 1071 0) ≤ 127 ∧ 635639 ≤ p1 ∧ p1 < 647800) → sv_T sm_XS sm_cs sm_L sm_sh 1 (q_age p1 S) 257 0 (lv_args 0 [.ref 0, sv_I p1]) [] S := by
  intro p1 S hok hp1 hpre
  have h := f_age p1 S hok hp1 hpre
  have hM := sm_h257
  show sv_T sm_XS sm_cs sm_L sm_sh 1 (q_age p1 S) 257 0 [(0, .ref 0), (1, sv_I p1)] [] S
  refine sv_bipush (d := (29 : Int)) hM dX12_age_0 rfl rfl ?_
  refine sv_istore_n hM dX12_age_2 (by decide) rfl ?_
  show sv_T sm_XS sm_cs sm_L sm_sh 1 (q_age p1 S) 257 3 [(0, .ref 0), (1, sv_I p1), (2, sv_I (29 : Int))] [] S
  obtain ⟨hin4, h⟩ := h
  have hJ : ∀ a : Int × sv_S, (sv_R a.1 ∧ sm_ok (sv_sts S [69, 70] a.2) ∧ (29 ≤ a.1 ∧ a.1 ≤ (S 1071 0) ∧ sm_pt (S 68) (a.2 69) (a.2 70) = sm_pt (S 68) (S 69) (S 70))) → sv_T sm_XS sm_cs sm_L sm_sh 1 (q_age p1 S) 257 3 [(0, .ref 0), (1, sv_I p1), (2, sv_I a.1)] [] (sv_sts S [69, 70] a.2) := by
    refine sv_loop (α := Int × sv_S) (fun a => sv_R a.1 ∧ sm_ok (sv_sts S [69, 70] a.2) ∧ (29 ≤ a.1 ∧ a.1 ≤ (S 1071 0) ∧ sm_pt (S 68) (a.2 69) (a.2 70) = sm_pt (S 68) (S 69) (S 70))) (fun a => (S 1071 0) - a.1) (fun a => sv_T sm_XS sm_cs sm_L sm_sh 1 (q_age p1 S) 257 3 [(0, .ref 0), (1, sv_I p1), (2, sv_I a.1)] [] (sv_sts S [69, 70] a.2)) (fun a q => (h a.1 q.1 a.2 q.2.2).1) (fun a q ih3 => ?_)
    obtain ⟨l2_2, g1⟩ := a
    obtain ⟨hl2_2, ok5, hin4i⟩ := q
    have h := (h l2_2 hl2_2 g1 hin4i).2
    show sv_T sm_XS sm_cs sm_L sm_sh 1 (q_age p1 S) 257 3 [(0, .ref 0), (1, sv_I p1), (2, sv_I l2_2)] [] (sv_sts S [69, 70] g1)
    have md6 : sv_mod [69, 70] S (sv_sts S [69, 70] g1) := sv_mod.sts sv_mod.rf (by decide)
    have md7 : sv_mod [69, 70] S (sv_sts S [69, 70] g1) := sv_mod.sts sv_mod.rf (by decide)
    refine sv_iload_n hM dX12_age_3 rfl rfl ?_
    refine sv_aload_n hM dX12_age_4 rfl rfl ?_
    have k8 : sv_R (S 1071 0) := sm_okI ok5 sm_r1071 0
    have h := h k8
    refine sv_getI hM dX12_age_5 sm_fl_765 (sm_a0 _) sm_k71 rfl (x := (S 1071 0)) rfl ?_
    refine sv_icmp_ge hM dX12_age_8 hl2_2 k8 (t := 51) rfl rfl (fun hc => ?_) (fun hc => ?_)
    · have h := h.1 (hc)
      exact sv_vret hM dX12_age_51 rfl ⟨rfl, ok5, md6, h⟩
    · have h := h.2 (hc)
      refine sv_iload_n hM dX12_age_11 rfl rfl ?_
      obtain ⟨o9, h⟩ := h
      refine sv_callS hM dX12_age_12 sm_iv_1166 (Nat.le_of_ble_eq_true rfl) rfl rfl (Nat.le_of_ble_eq_true rfl) sm_h240 (Nat.le_of_ble_eq_true rfl) (Nat.le_of_ble_eq_true rfl) (F' := 0) (Nat.le_of_ble_eq_true rfl) rfl (t_isSingle l2_2 (sv_sts S [69, 70] g1) ok5 hl2_2 o9) (fun v S1 hq => ?_)
      obtain ⟨r14, rfl, hr14, ok11, md12, hpo13⟩ := hq
      obtain rfl : (sv_sts S [69, 70] g1) = S1 := (funext fun j => md12 j (by intro q; cases q)).symm
      show sv_T sm_XS sm_cs sm_L sm_sh 1 (q_age p1 S) 257 15 [(0, .ref 0), (1, sv_I p1), (2, sv_I l2_2)] [sv_I r14] (sv_sts S [69, 70] g1)
      have h := h r14 hr14 hpo13
      refine sv_cond_eq hM dX12_age_15 hr14 (t := 45) rfl rfl (fun hc => ?_) (fun hc => ?_)
      · have h := h.1 (hc)
        refine sv_iinc (d := (1 : Int)) hM dX12_age_45 rfl (by decide) rfl rfl ?_
        show sv_T sm_XS sm_cs sm_L sm_sh 1 (q_age p1 S) 257 48 [(0, .ref 0), (1, sv_I p1), (2, sv_I (l2_2 + (1 : Int)))] [] (sv_sts S [69, 70] g1)
        refine sv_goto hM dX12_age_48 (pc' := 3) rfl ?_
        obtain ⟨o15, h⟩ := h
        have eS := sv_mod.eq md7
        have hb := ih3 ((l2_2 + (1 : Int)), (sv_sts S [69, 70] g1)) ⟨o15, (by rw [← eS]; exact ok11), h.1⟩ h.2
        have hb : sv_T sm_XS sm_cs sm_L sm_sh 1 (q_age p1 S) 257 3 [(0, .ref 0), (1, sv_I p1), (2, sv_I (l2_2 + (1 : Int)))] [] (sv_sts S [69, 70] g1) := Eq.mpr (congrArg (fun Z => sv_T sm_XS sm_cs sm_L sm_sh 1 (q_age p1 S) 257 3 [(0, .ref 0), (1, sv_I p1), (2, sv_I (l2_2 + (1 : Int)))] [] Z) eS) hb
        exact sv_less (lv := [(0, .ref 0), (1, sv_I p1), (2, sv_I (l2_2 + (1 : Int)))]) (sv_Sub_cons rfl (sv_Sub_cons rfl (sv_Sub_cons rfl sv_Sub_nil))) hb
      · have h := h.2 (hc)
        refine sv_aload_n hM dX12_age_18 rfl rfl ?_
        refine sv_getA hM dX12_age_19 sm_fl_220 (sm_a0 _) sm_k117 rfl ?_
        refine sv_iload_n hM dX12_age_22 rfl rfl ?_
        obtain ⟨o16, h⟩ := h
        have k17 : sv_RL (g1 69 p1) := sm_okJ ok11 sm_r69 p1
        have h := h k17
        refine sv_lald hM dX12_age_23 (sm_a69 _) (by decide) o16.1 o16.2 rfl (x := (g1 69 p1)) rfl ?_
        refine sv_aload_n hM dX12_age_24 rfl rfl ?_
        refine sv_getA hM dX12_age_25 sm_fl_223 (sm_a0 _) sm_k118 rfl ?_
        refine sv_iload_n hM dX12_age_28 rfl rfl ?_
        have k18 : sv_RL (g1 70 p1) := sm_okJ ok11 sm_r70 p1
        have h := h k18
        refine sv_lald hM dX12_age_29 (sm_a70 _) (by decide) o16.1 o16.2 rfl (x := (g1 70 p1)) rfl ?_
        refine sv_iload_n hM dX12_age_30 rfl rfl ?_
        obtain ⟨o19, h⟩ := h
        refine sv_callS hM dX12_age_31 sm_iv_1125 (Nat.le_of_ble_eq_true rfl) rfl rfl (Nat.le_of_ble_eq_true rfl) sm_h217 (Nat.le_of_ble_eq_true rfl) (Nat.le_of_ble_eq_true rfl) (F' := 0) (Nat.le_of_ble_eq_true rfl) rfl (t_isIn (g1 69 p1) (g1 70 p1) l2_2 (sv_sts S [69, 70] g1) ok11 k17 k18 hl2_2 o19) (fun v S1 hq => ?_)
        obtain ⟨r24, rfl, hr24, ok21, md22, hpo23⟩ := hq
        obtain rfl : (sv_sts S [69, 70] g1) = S1 := (funext fun j => md22 j (by intro q; cases q)).symm
        show sv_T sm_XS sm_cs sm_L sm_sh 1 (q_age p1 S) 257 34 [(0, .ref 0), (1, sv_I p1), (2, sv_I l2_2)] [sv_I r24] (sv_sts S [69, 70] g1)
        have h := h r24 hr24 hpo23
        refine sv_cond_eq hM dX12_age_34 hr24 (t := 45) rfl rfl (fun hc => ?_) (fun hc => ?_)
        · have h := h.1 (hc)
          refine sv_iinc (d := (1 : Int)) hM dX12_age_45 rfl (by decide) rfl rfl ?_
          show sv_T sm_XS sm_cs sm_L sm_sh 1 (q_age p1 S) 257 48 [(0, .ref 0), (1, sv_I p1), (2, sv_I (l2_2 + (1 : Int)))] [] (sv_sts S [69, 70] g1)
          refine sv_goto hM dX12_age_48 (pc' := 3) rfl ?_
          obtain ⟨o25, h⟩ := h
          have eS := sv_mod.eq md7
          have hb := ih3 ((l2_2 + (1 : Int)), (sv_sts S [69, 70] g1)) ⟨o25, (by rw [← eS]; exact ok21), h.1⟩ h.2
          have hb : sv_T sm_XS sm_cs sm_L sm_sh 1 (q_age p1 S) 257 3 [(0, .ref 0), (1, sv_I p1), (2, sv_I (l2_2 + (1 : Int)))] [] (sv_sts S [69, 70] g1) := Eq.mpr (congrArg (fun Z => sv_T sm_XS sm_cs sm_L sm_sh 1 (q_age p1 S) 257 3 [(0, .ref 0), (1, sv_I p1), (2, sv_I (l2_2 + (1 : Int)))] [] Z) eS) hb
          exact sv_less (lv := [(0, .ref 0), (1, sv_I p1), (2, sv_I (l2_2 + (1 : Int)))]) (sv_Sub_cons rfl (sv_Sub_cons rfl (sv_Sub_cons rfl sv_Sub_nil))) hb
        · have h := h.2 (hc)
          refine sv_aload_n hM dX12_age_37 rfl rfl ?_
          refine sv_iload_n hM dX12_age_38 rfl rfl ?_
          refine sv_iload_n hM dX12_age_39 rfl rfl ?_
          refine sv_iconst (d := (1 : Int)) hM dX12_age_40 rfl rfl ?_
          refine sv_iadd hM dX12_age_41 rfl ?_
          obtain ⟨o26, h⟩ := h
          obtain ⟨o27, h⟩ := h
          refine sv_callV hM dX12_age_42 sm_iv_1081 (by decide) (sm_a0 _) rfl rfl (Nat.le_of_ble_eq_true rfl) sm_h216 (Nat.le_of_ble_eq_true rfl) (Nat.le_of_ble_eq_true rfl) (F' := 0) (Nat.le_of_ble_eq_true rfl) rfl (t_addLabel p1 (l2_2 + (1 : Int)) (sv_sts S [69, 70] g1) ok21 hp1 o26 o27) (fun v S1 hq => ?_)
          obtain ⟨rfl, ok29, md30, hpo31⟩ := hq
          obtain ⟨g28, rfl⟩ : ∃ g, S1 = sv_sts (sv_sts S [69, 70] g1) [69, 70] g := ⟨_, md30.eq⟩
          show sv_T sm_XS sm_cs sm_L sm_sh 1 (q_age p1 S) 257 45 [(0, .ref 0), (1, sv_I p1), (2, sv_I l2_2)] [] (sv_sts (sv_sts S [69, 70] g1) [69, 70] g28)
          have md32 : sv_mod [69, 70] S (sv_sts (sv_sts S [69, 70] g1) [69, 70] g28) := sv_mod.sts md6 (by decide)
          have md33 : sv_mod [69, 70] S (sv_sts (sv_sts S [69, 70] g1) [69, 70] g28) := sv_mod.sts md7 (by decide)
          have h := h g28 hpo31
          refine sv_iinc (d := (1 : Int)) hM dX12_age_45 rfl (by decide) rfl rfl ?_
          show sv_T sm_XS sm_cs sm_L sm_sh 1 (q_age p1 S) 257 48 [(0, .ref 0), (1, sv_I p1), (2, sv_I (l2_2 + (1 : Int)))] [] (sv_sts (sv_sts S [69, 70] g1) [69, 70] g28)
          refine sv_goto hM dX12_age_48 (pc' := 3) rfl ?_
          have eS := sv_mod.eq md33
          have hb := ih3 ((l2_2 + (1 : Int)), (sv_sts (sv_sts S [69, 70] g1) [69, 70] g28)) ⟨o26, (by rw [← eS]; exact ok29), h.1⟩ h.2
          have hb : sv_T sm_XS sm_cs sm_L sm_sh 1 (q_age p1 S) 257 3 [(0, .ref 0), (1, sv_I p1), (2, sv_I (l2_2 + (1 : Int)))] [] (sv_sts (sv_sts S [69, 70] g1) [69, 70] g28) := Eq.mpr (congrArg (fun Z => sv_T sm_XS sm_cs sm_L sm_sh 1 (q_age p1 S) 257 3 [(0, .ref 0), (1, sv_I p1), (2, sv_I (l2_2 + (1 : Int)))] [] Z) eS) hb
          exact sv_less (lv := [(0, .ref 0), (1, sv_I p1), (2, sv_I (l2_2 + (1 : Int)))]) (sv_Sub_cons rfl (sv_Sub_cons rfl (sv_Sub_cons rfl sv_Sub_nil))) hb
  have eS := sv_mod.eq (sv_mod.rf (l := [69, 70]) (S := S))
  have hb := hJ ((29 : Int), S) ⟨(⟨by decide, by decide⟩ : sv_R (29 : Int)), (by rw [← eS]; exact hok), hin4⟩
  have hb : sv_T sm_XS sm_cs sm_L sm_sh 1 (q_age p1 S) 257 3 [(0, .ref 0), (1, sv_I p1), (2, sv_I (29 : Int))] [] S := Eq.mpr (congrArg (fun Z => sv_T sm_XS sm_cs sm_L sm_sh 1 (q_age p1 S) 257 3 [(0, .ref 0), (1, sv_I p1), (2, sv_I (29 : Int))] [] Z) eS) hb
  exact hb
def q_joinPlain (p1 : Int) (p2 : Int) (S : sv_S) : Option Value → sv_S → Prop := fun v S' => v = none ∧ sm_ok S' ∧ sv_mod [68, 69, 70] S S' ∧ (sm_pt (S' 68) (S' 69) (S' 70) = sm_pt (S 68) (S 69) (S 70))
theorem la_joinPlain_0 {x0 : Int} (h0 : 0 ≤ x0) (h1 : x0 < 647800) : 0 ≤ x0 ∧ x0 < 647800 ∧ (635639 : Int) ≤ 647794 ∧ (647794 : Int) < 647800 := by omega
theorem la_joinPlain_1 : (0 : Int) ≤ 647794 ∧ (647794 : Int) < 647800 := by omega
theorem la_joinPlain_2 : (635639 : Int) ≤ 647794 := by omega
theorem la_joinPlain_3 : ¬ (647794 : Int) < 635639 := by omega
theorem la_joinPlain_4 {x0 : Int} (h0 : 635639 ≤ x0) (h1 : x0 < 647790) : (0 : Int) ≤ 647794 ∧ (647794 : Int) < 647800 ∧ 0 ≤ x0 ∧ x0 < 647800 := by omega
theorem la_joinPlain_5 {x0 : Int} (h0 : 635639 ≤ x0) : ¬ x0 < 635639 := by omega
theorem la_joinPlain_6 {x0 x1 x2 x3 : Int} (h0 : x0 = x1) (h1 : x2 = x0) (h2 : x3 = x2) : x3 = x1 := by omega
set_option maxHeartbeats 2000000 in
theorem f_joinPlain : ∀ (p1 : Int) (p2 : Int) (S : sv_S), sm_ok S → sv_R p1 → sv_R p2 → (0 ≤ p1 ∧ p1 < 647800 ∧ 635639 ≤ p2 ∧ p2 < 647790) → (0 ≤ p1 ∧ p1 < 647800 ∧ 635639 ≤ (647794 : Int) ∧ (647794 : Int) < 647800) ∧ (∀ g2 : sv_S, (sm_pt (g2 68) (g2 69) (g2 70) = sm_pt (S 68) (S 69) (S 70)) → (0 ≤ (647794 : Int) ∧ (647794 : Int) < 647800) ∧ (∀ r12 : Int, sv_R r12 → (sm_iand ((g2 68 (647794 : Int)) % 1024) (-513) = r12) → (∀ r17 : Int, sv_R r17 → (0 ≤ r17 ∧ r17 ≤ 127) → (∀ r22 : Int, sv_R r22 → (True) → (∀ g23 : sv_S, ((0 ≤ r12 → r12 < 1024 → (g23 68 (647794 : Int)) % 1024 = r12) ∧ (635639 ≤ (647794 : Int) → sm_pt (g23 68) (g2 69) (g2 70) = sm_pt (g2 68) (g2 69) (g2 70)) ∧ ((647794 : Int) < 635639 → sm_pt (g23 68) (g2 69) (g2 70) = sm_pt (g2 68) (g2 69) (g2 70) + sm_rs (g2 68 (647794 : Int)) (g2 69 (647794 : Int)) (g2 70 (647794 : Int)) - sm_rs (g23 68 (647794 : Int)) (g2 69 (647794 : Int)) (g2 70 (647794 : Int)))) → (0 ≤ (647794 : Int) ∧ (647794 : Int) < 647800 ∧ 0 ≤ p2 ∧ p2 < 647800) ∧ (∀ r33 : Int, sv_R r33 → ∀ g29 : sv_S, ((635639 ≤ p2 → sm_pt (g29 68) (g29 69) (g29 70) = sm_pt (g23 68) (g2 69) (g2 70)) ∧ (r33 = 0 ∨ r33 = 1) ∧ (p2 < 635639 → sm_pt (g29 68) (g29 69) (g29 70) + r33 ≤ sm_pt (g23 68) (g2 69) (g2 70))) → (sm_pt (g29 68) (g29 69) (g29 70) = sm_pt (S 68) (S 69) (S 70)))))))) := by
  intro p1
  intro p2
  intro S
  intro h1_
  intro h2_
  intro h3_
  rintro ⟨h4_, ⟨h5_, ⟨h6_, h7_⟩⟩⟩
  refine ⟨(la_joinPlain_0 h4_ h5_), ?_⟩
  intro g2
  intro h8_
  refine ⟨la_joinPlain_1, ?_⟩
  intro r12
  intro h9_
  intro h10_
  intro r17
  intro h11_
  rintro ⟨h12_, h13_⟩
  intro r22
  intro h14_
  intro _
  intro g23
  rintro ⟨h15_, ⟨h16_, h17_⟩⟩
  have h18_ := (h16_ la_joinPlain_2)
  refine ⟨(la_joinPlain_4 h6_ h7_), ?_⟩
  intro r33
  intro h19_
  intro g29
  rintro ⟨h20_, ⟨h21_, h22_⟩⟩
  have h23_ := (h20_ h6_)
  exact (la_joinPlain_6 h8_ h18_ h23_)
set_option maxRecDepth 8000 in
set_option maxHeartbeats 2000000 in
theorem t_joinPlain : ∀ (p1 : Int) (p2 : Int) (S : sv_S), sm_ok S → sv_R p1 → sv_R p2 → (0 ≤ p1 ∧ p1 < 647800 ∧ 635639 ≤ p2 ∧ p2 < 647790) → sv_T sm_XS sm_cs sm_L sm_sh 2 (q_joinPlain p1 p2 S) 266 0 (lv_args 0 [.ref 0, sv_I p1, sv_I p2]) [] S := by
  intro p1 p2 S hok hp1 hp2 hpre
  have h := f_joinPlain p1 p2 S hok hp1 hp2 hpre
  have hM := sm_h266
  show sv_T sm_XS sm_cs sm_L sm_sh 2 (q_joinPlain p1 p2 S) 266 0 [(0, .ref 0), (1, sv_I p1), (2, sv_I p2)] [] S
  refine sv_ldc_w (d := (647794 : Int)) hM dX12_joinPlain_0 sm_ck_1273 rfl rfl ?_
  refine sv_istore_n hM dX12_joinPlain_3 (by decide) rfl ?_
  show sv_T sm_XS sm_cs sm_L sm_sh 2 (q_joinPlain p1 p2 S) 266 4 [(0, .ref 0), (1, sv_I p1), (2, sv_I p2), (3, sv_I (647794 : Int))] [] S
  refine sv_aload_n hM dX12_joinPlain_4 rfl rfl ?_
  refine sv_iload_n hM dX12_joinPlain_5 rfl rfl ?_
  refine sv_iload_n hM dX12_joinPlain_6 rfl rfl ?_
  obtain ⟨o1, h⟩ := h
  refine sv_callV hM dX12_joinPlain_7 sm_iv_1092 (by decide) (sm_a0 _) rfl rfl (Nat.le_of_ble_eq_true rfl) sm_h207 (Nat.le_of_ble_eq_true rfl) (Nat.le_of_ble_eq_true rfl) (F' := 0) (Nat.le_of_ble_eq_true rfl) rfl (t_copySet p1 (647794 : Int) S hok hp1 (⟨by decide, by decide⟩ : sv_R (647794 : Int)) o1) (fun v S1 hq => ?_)
  obtain ⟨rfl, ok3, md4, hpo5⟩ := hq
  obtain ⟨g2, rfl⟩ : ∃ g, S1 = sv_sts S [68, 69, 70] g := ⟨_, md4.eq⟩
  show sv_T sm_XS sm_cs sm_L sm_sh 2 (q_joinPlain p1 p2 S) 266 10 [(0, .ref 0), (1, sv_I p1), (2, sv_I p2), (3, sv_I (647794 : Int))] [] (sv_sts S [68, 69, 70] g2)
  have md6 : sv_mod [68, 69, 70] S (sv_sts S [68, 69, 70] g2) := sv_mod.sts sv_mod.rf (by decide)
  have h := h g2 hpo5
  refine sv_aload_n hM dX12_joinPlain_10 rfl rfl ?_
  refine sv_iload_n hM dX12_joinPlain_11 rfl rfl ?_
  refine sv_aload_n hM dX12_joinPlain_12 rfl rfl ?_
  refine sv_iload_n hM dX12_joinPlain_13 rfl rfl ?_
  obtain ⟨o7, h⟩ := h
  refine sv_callV hM dX12_joinPlain_14 sm_iv_1059 (by decide) (sm_a0 _) rfl rfl (Nat.le_of_ble_eq_true rfl) sm_h210 (Nat.le_of_ble_eq_true rfl) (Nat.le_of_ble_eq_true rfl) (F' := 1) (Nat.le_of_ble_eq_true rfl) rfl (t_plainly (647794 : Int) (sv_sts S [68, 69, 70] g2) ok3 (⟨by decide, by decide⟩ : sv_R (647794 : Int)) o7) (fun v S1 hq => ?_)
  obtain ⟨r12, rfl, hr12, ok9, md10, hpo11⟩ := hq
  obtain rfl : (sv_sts S [68, 69, 70] g2) = S1 := (funext fun j => md10 j (by intro q; cases q)).symm
  show sv_T sm_XS sm_cs sm_L sm_sh 2 (q_joinPlain p1 p2 S) 266 17 [(0, .ref 0), (1, sv_I p1), (2, sv_I p2), (3, sv_I (647794 : Int))] [sv_I r12, sv_I (647794 : Int), .ref 0] (sv_sts S [68, 69, 70] g2)
  have h := h r12 hr12 hpo11
  refine sv_aload_n hM dX12_joinPlain_17 rfl rfl ?_
  refine sv_iload_n hM dX12_joinPlain_18 rfl rfl ?_
  refine sv_callV hM dX12_joinPlain_19 sm_iv_1053 (by decide) (sm_a0 _) rfl rfl (Nat.le_of_ble_eq_true rfl) sm_h203 (Nat.le_of_ble_eq_true rfl) (Nat.le_of_ble_eq_true rfl) (F' := 0) (Nat.le_of_ble_eq_true rfl) rfl (t_name (647794 : Int) (sv_sts S [68, 69, 70] g2) ok9 (⟨by decide, by decide⟩ : sv_R (647794 : Int)) o7) (fun v S1 hq => ?_)
  obtain ⟨r17, rfl, hr17, ok14, md15, hpo16⟩ := hq
  obtain rfl : (sv_sts S [68, 69, 70] g2) = S1 := (funext fun j => md15 j (by intro q; cases q)).symm
  show sv_T sm_XS sm_cs sm_L sm_sh 2 (q_joinPlain p1 p2 S) 266 22 [(0, .ref 0), (1, sv_I p1), (2, sv_I p2), (3, sv_I (647794 : Int))] [sv_I r17, sv_I r12, sv_I (647794 : Int), .ref 0] (sv_sts S [68, 69, 70] g2)
  have h := h r17 hr17 hpo16
  refine sv_aload_n hM dX12_joinPlain_22 rfl rfl ?_
  refine sv_iload_n hM dX12_joinPlain_23 rfl rfl ?_
  refine sv_callV hM dX12_joinPlain_24 sm_iv_1050 (by decide) (sm_a0 _) rfl rfl (Nat.le_of_ble_eq_true rfl) sm_h204 (Nat.le_of_ble_eq_true rfl) (Nat.le_of_ble_eq_true rfl) (F' := 0) (Nat.le_of_ble_eq_true rfl) rfl (t_number (647794 : Int) (sv_sts S [68, 69, 70] g2) ok14 (⟨by decide, by decide⟩ : sv_R (647794 : Int)) o7) (fun v S1 hq => ?_)
  obtain ⟨r22, rfl, hr22, ok19, md20, hpo21⟩ := hq
  obtain rfl : (sv_sts S [68, 69, 70] g2) = S1 := (funext fun j => md20 j (by intro q; cases q)).symm
  show sv_T sm_XS sm_cs sm_L sm_sh 2 (q_joinPlain p1 p2 S) 266 27 [(0, .ref 0), (1, sv_I p1), (2, sv_I p2), (3, sv_I (647794 : Int))] [sv_I r22, sv_I r17, sv_I r12, sv_I (647794 : Int), .ref 0] (sv_sts S [68, 69, 70] g2)
  have h := h r22 hr22 hpo21
  refine sv_callV hM dX12_joinPlain_27 sm_iv_1056 (by decide) (sm_a0 _) rfl rfl (Nat.le_of_ble_eq_true rfl) sm_h205 (Nat.le_of_ble_eq_true rfl) (Nat.le_of_ble_eq_true rfl) (F' := 0) (Nat.le_of_ble_eq_true rfl) rfl (t_write (647794 : Int) r12 r17 r22 (sv_sts S [68, 69, 70] g2) ok19 (⟨by decide, by decide⟩ : sv_R (647794 : Int)) hr12 hr17 hr22 o7) (fun v S1 hq => ?_)
  obtain ⟨rfl, ok24, md25, hpo26⟩ := hq
  obtain ⟨g23, rfl⟩ : ∃ g, S1 = sv_sts (sv_sts S [68, 69, 70] g2) [68] g := ⟨_, md25.eq⟩
  show sv_T sm_XS sm_cs sm_L sm_sh 2 (q_joinPlain p1 p2 S) 266 30 [(0, .ref 0), (1, sv_I p1), (2, sv_I p2), (3, sv_I (647794 : Int))] [] (sv_sts (sv_sts S [68, 69, 70] g2) [68] g23)
  have md27 : sv_mod [68, 69, 70] S (sv_sts (sv_sts S [68, 69, 70] g2) [68] g23) := sv_mod.sts md6 (by decide)
  have h := h g23 hpo26
  refine sv_aload_n hM dX12_joinPlain_30 rfl rfl ?_
  refine sv_iload_n hM dX12_joinPlain_31 rfl rfl ?_
  refine sv_iload_n hM dX12_joinPlain_32 rfl rfl ?_
  obtain ⟨o28, h⟩ := h
  refine sv_callV hM dX12_joinPlain_33 sm_iv_1069 (by decide) (sm_a0 _) rfl rfl (Nat.le_of_ble_eq_true rfl) sm_h208 (Nat.le_of_ble_eq_true rfl) (Nat.le_of_ble_eq_true rfl) (F' := 1) (Nat.le_of_ble_eq_true rfl) rfl (t_join (647794 : Int) p2 (sv_sts (sv_sts S [68, 69, 70] g2) [68] g23) ok24 (⟨by decide, by decide⟩ : sv_R (647794 : Int)) hp2 o28) (fun v S1 hq => ?_)
  obtain ⟨r33, rfl, hr33, ok30, md31, hpo32⟩ := hq
  obtain ⟨g29, rfl⟩ : ∃ g, S1 = sv_sts (sv_sts (sv_sts S [68, 69, 70] g2) [68] g23) [68, 69, 70] g := ⟨_, md31.eq⟩
  show sv_T sm_XS sm_cs sm_L sm_sh 2 (q_joinPlain p1 p2 S) 266 36 [(0, .ref 0), (1, sv_I p1), (2, sv_I p2), (3, sv_I (647794 : Int))] [sv_I r33] (sv_sts (sv_sts (sv_sts S [68, 69, 70] g2) [68] g23) [68, 69, 70] g29)
  have md34 : sv_mod [68, 69, 70] S (sv_sts (sv_sts (sv_sts S [68, 69, 70] g2) [68] g23) [68, 69, 70] g29) := sv_mod.sts md27 (by decide)
  have h := h r33 hr33 g29 hpo32
  refine sv_istore hM dX12_joinPlain_36 (by decide) rfl ?_
  show sv_T sm_XS sm_cs sm_L sm_sh 2 (q_joinPlain p1 p2 S) 266 38 [(0, .ref 0), (1, sv_I p1), (2, sv_I p2), (3, sv_I (647794 : Int)), (4, sv_I r33)] [] (sv_sts (sv_sts (sv_sts S [68, 69, 70] g2) [68] g23) [68, 69, 70] g29)
  exact sv_vret hM dX12_joinPlain_38 rfl ⟨rfl, ok30, md34, h⟩
def q_scopesAt (p1 : Int) (p2 : Int) (S : sv_S) : Option Value → sv_S → Prop := fun v S' => v = none ∧ sm_ok S' ∧ sv_mod [68, 69, 70] S S' ∧ (sm_pt (S' 68) (S' 69) (S' 70) = sm_pt (S 68) (S 69) (S 70))
theorem la_scopesAt_0 {x0 : Int} (h0 : 635639 ≤ x0) (h1 : x0 < 647790) : 0 ≤ x0 ∧ x0 < 647800 := by omega
theorem la_scopesAt_1 : (0 : Int) ≤ 639 ∧ (639 : Int) < 640 := by omega
theorem la_scopesAt_2 : (0 : Int) ≤ 0 := by omega
theorem la_scopesAt_3 {x0 x1 x2 x3 : Int} (h0 : x0 = x1) (h1 : x2 = x3) (h2 : x3 = x0) : x2 = x1 := by omega
theorem la_scopesAt_4 {x0 x1 x2 : Int} (h0 : x0 < x1) (h1 : x2 = x1 - x0) : 0 ≤ x2 := by omega
theorem la_scopesAt_5 {x0 : Int} (h0 : x0 = 0) : 0 ≤ x0 := by omega
theorem la_scopesAt_6 {x0 x1 x2 x3 : Int} (h0 : x0 = x1) : x2 ≤ x3 → x0 = x1 := by omega
theorem la_scopesAt_7 : (0 : Int) ≤ 647793 ∧ (647793 : Int) < 647800 := by omega
theorem la_scopesAt_8 : (635639 : Int) ≤ 647793 := by omega
theorem la_scopesAt_9 {x0 x1 x2 x3 : Int} (h0 : 29 ≤ x0) (h1 : x1 = x2) (h2 : x3 = x1) : (0 : Int) ≤ 0 ∧ 0 ≤ x0 ∧ x3 = x2 := by omega
theorem la_scopesAt_10 {x0 x1 : Int} (h0 : x0 ≤ x1) : 0 ≤ x1 - x0 := by omega
theorem la_scopesAt_11 {x0 : Int} (h0 : 635639 ≤ x0) (h1 : x0 < 647790) : (0 : Int) ≤ 647793 ∧ (647793 : Int) < 647800 ∧ 635639 ≤ x0 ∧ x0 < 647800 := by omega
theorem la_scopesAt_12 {x0 x1 : Int} (h0 : sv_R x0) (h1 : 0 ≤ x1) (h2 : ¬ x0 ≤ x1) : sv_R (x1 + 1) := by omega
theorem la_scopesAt_13 {x0 x1 x2 x3 : Int} (h0 : 0 ≤ x0) (h1 : x1 = x2) (h2 : x3 = x1) : 0 ≤ x0 + 1 ∧ x3 = x2 := by omega
theorem la_scopesAt_14 {x0 x1 : Int} (h0 : ¬ x0 ≤ x1) : x1 < x0 := by omega
theorem la_scopesAt_15 {x0 x1 x2 x3 : Int} (h0 : x0 = x1 - x2) (h1 : x3 = x1 - (x2 + 1)) : x3 < x0 := by omega
theorem la_scopesAt_16 {x0 x1 x2 x3 : Int} (h0 : ¬ x0 ≤ x1) (h1 : x2 = x0 - x1) (h2 : x3 = 0) : x3 < x2 := by omega
theorem la_scopesAt_17 {x0 x1 : Int} (h0 : x0 ≤ 127) (h1 : 0 ≤ x1) (h2 : ¬ x0 ≤ x1) : 0 ≤ x1 ∧ x1 < 128 := by omega
theorem la_scopesAt_18 {x0 : Int} (h0 : x0 = 1) : 0 ≤ x0 := by omega
theorem la_scopesAt_19 {x0 : Int} (h0 : 0 ≤ x0) (h1 : ¬ x0 = 0) : 0 < x0 := by omega
theorem la_scopesAt_20 {x0 x1 x2 x3 x4 : Int} (h0 : x0 ≤ 127) (h1 : 0 ≤ x1) (h2 : x1 ≤ 11557) (h3 : 0 ≤ x2) (h4 : ¬ x0 ≤ x2) : 0 ≤ x1 ∧ x1 ≤ 11557 ∧ (0 : Int) ≤ 639 ∧ ((639 : Int) = 639 ∨ 639 < x3 + 2 * x4) ∧ 0 ≤ x2 ∧ (x2 < x0 ∨ (639 : Int) = 639 ∧ x2 < 128) := by omega
theorem la_scopesAt_21 : (639 : Int) = 639 := by omega
theorem la_scopesAt_22 : ¬ ¬ (639 : Int) = 639 := by omega
theorem la_scopesAt_23 {x0 x1 x2 : Int} (h0 : x0 ≤ 127) (h1 : 0 ≤ x1) (h2 : ¬ x0 ≤ x1) (h3 : x2 = 15000 + x1) : 0 ≤ x2 ∧ x2 < 15128 := by omega
theorem la_scopesAt_24 {x0 x1 : Int} (h0 : x0 ≤ 127) (h1 : 0 ≤ x1) (h2 : ¬ x0 ≤ x1) : sv_R (x1 + 1) := by omega
theorem la_scopesAt_25 {x0 : Int} (h0 : 0 ≤ x0) : 0 ≤ x0 + 1 := by omega
theorem la_scopesAt_26 {x0 x1 : Int} (h0 : ¬ x0 ≤ x1) : x1 + 1 ≤ x0 := by omega
theorem la_scopesAt_27 {x0 x1 : Int} : x0 - (x1 + 1) < x0 - x1 := by omega
theorem la_scopesAt_28 {x0 : Int} (h0 : ¬ ¬ x0 = 0) : ¬ x0 = 1 := by omega
theorem la_scopesAt_29 {x0 x1 x2 x3 : Int} (h0 : 0 ≤ x0) (h1 : x1 = x2) (h2 : ¬ x3 ≤ x0) : 0 ≤ x0 + 1 ∧ x0 + 1 ≤ x3 ∧ x1 = x2 := by omega
set_option maxHeartbeats 2000000 in
theorem f_scopesAt : ∀ (p1 : Int) (p2 : Int) (S : sv_S), sm_ok S → sv_R p1 → sv_R p2 → (29 ≤ (S 1071 0) ∧ (S 1071 0) ≤ 127 ∧ 31 ≤ (S 1008 0) ∧ (S 1008 0) ≤ 90 ∧ 1 ≤ (S 1032 0) ∧ (S 1032 0) ≤ 11 ∧ 0 ≤ (S 1055 0) ∧ (S 1055 0) ≤ 19 ∧ (S 1071 0) = 29 + 6 * ((S 1032 0) - 1) + 2 * (S 1055 0) ∧ 0 ≤ (S 1046 0) ∧ (S 1046 0) + 2 * (S 1032 0) ≤ 500 ∧ sm_PD (S 1046 0) (S 1032 0) (S 1071 0) (S 1008 0) ∧ 0 ≤ (S 1071 0) * ((S 1008 0) + 1) ∧ (S 1071 0) * ((S 1008 0) + 1) ≤ 11557 ∧ 635639 ≤ p2 ∧ p2 < 647790 ∧ 0 ≤ p1) → (0 ≤ p2 ∧ p2 < 647800) ∧ (∀ g2 : sv_S, (635639 ≤ p2 → sm_pt (g2 68) (g2 69) (g2 70) = sm_pt (S 68) (S 69) (S 70)) → (0 ≤ (639 : Int) ∧ (639 : Int) < 640) ∧ (sv_RL (S 76 (639 : Int)) → (sv_RL (S 77 (639 : Int)) → ((0 ≤ (0 : Int) ∧ sm_pt (g2 68) (fun i' : Int => if i' = p2 then (S 76 (639 : Int)) else (g2 69) i') (fun i' : Int => if i' = p2 then (S 77 (639 : Int)) else (g2 70) i') = sm_pt (S 68) (S 69) (S 70)) ∧ (∀ l4_15 : Int, sv_R l4_15 → ∀ g14 : sv_S, (0 ≤ l4_15 ∧ sm_pt (g14 68) (g14 69) (g14 70) = sm_pt (S 68) (S 69) (S 70)) → (0 ≤ (if l4_15 < p1 then p1 - l4_15 else 0)) ∧ (((p1 ≤ l4_15) → (sm_pt (g14 68) (g14 69) (g14 70) = sm_pt (S 68) (S 69) (S 70))) ∧ ((¬ (p1 ≤ l4_15)) → (0 ≤ (647793 : Int) ∧ (647793 : Int) < 647800) ∧ (∀ g22 : sv_S, (635639 ≤ (647793 : Int) → sm_pt (g22 68) (g22 69) (g22 70) = sm_pt (g14 68) (g14 69) (g14 70)) → ((0 ≤ (0 : Int) ∧ (0 : Int) ≤ (S 1071 0) ∧ sm_pt (g22 68) (g22 69) (g22 70) = sm_pt (S 68) (S 69) (S 70)) ∧ (∀ l5_29 : Int, sv_R l5_29 → ∀ g28 : sv_S, (0 ≤ l5_29 ∧ l5_29 ≤ (S 1071 0) ∧ sm_pt (g22 68) (g28 69) (g28 70) = sm_pt (S 68) (S 69) (S 70)) → (0 ≤ (S 1071 0) - l5_29) ∧ (sv_R (S 1071 0) → ((((S 1071 0) ≤ l5_29) → (0 ≤ (647793 : Int) ∧ (647793 : Int) < 647800 ∧ 635639 ≤ p2 ∧ p2 < 647800) ∧ (∀ g38 : sv_S, (sm_pt (g38 68) (g38 69) (g38 70) = sm_pt (g22 68) (g28 69) (g28 70)) → (sv_R (l4_15 + (1 : Int))) ∧ ((0 ≤ (l4_15 + (1 : Int)) ∧ sm_pt (g38 68) (g38 69) (g38 70) = sm_pt (S 68) (S 69) (S 70)) ∧ ((if (l4_15 + (1 : Int)) < p1 then p1 - (l4_15 + (1 : Int)) else 0)) < ((if l4_15 < p1 then p1 - l4_15 else 0))))) ∧ ((¬ ((S 1071 0) ≤ l5_29)) → (sv_RL (g28 69 p2) → (sv_RL (g28 70 p2) → (0 ≤ l5_29 ∧ l5_29 < 128) ∧ (∀ r52 : Int, sv_R r52 → (r52 = sm_in (g28 69 p2) (g28 70 p2) l5_29 ∧ (r52 = 0 ∨ r52 = 1)) → (((¬ r52 = (0 : Int)) → (sv_RL (g28 69 (647793 : Int)) → (29 ≤ (S 1071 0) ∧ (S 1071 0) ≤ 127 ∧ 31 ≤ (S 1008 0) ∧ (S 1008 0) ≤ 90 ∧ 1 ≤ (S 1032 0) ∧ (S 1032 0) ≤ 11 ∧ 0 ≤ (S 1055 0) ∧ (S 1055 0) ≤ 19 ∧ (S 1071 0) = 29 + 6 * ((S 1032 0) - 1) + 2 * (S 1055 0) ∧ 0 ≤ (S 1046 0) ∧ (S 1046 0) + 2 * (S 1032 0) ≤ 500 ∧ sm_PD (S 1046 0) (S 1032 0) (S 1071 0) (S 1008 0) ∧ 0 ≤ (S 1071 0) * ((S 1008 0) + 1) ∧ (S 1071 0) * ((S 1008 0) + 1) ≤ 11557 ∧ 0 ≤ (639 : Int) ∧ ((639 : Int) = 639 ∨ (639 : Int) < (S 1046 0) + 2 * (S 1032 0)) ∧ 0 ≤ l5_29 ∧ (l5_29 < (S 1071 0) ∨ ((639 : Int) = 639 ∧ l5_29 < 128))) ∧ (∀ r59 : Int, sv_R r59 → (((639 : Int) = 639 → r59 = 15000 + l5_29) ∧ (¬ (639 : Int) = 639 → 0 ≤ r59 ∧ r59 < 14520)) → (0 ≤ r59 ∧ r59 < 15128) ∧ (sv_RL (S 85 r59) → (∀ r62 : Int, sv_RL r62 → (sv_RL (g28 70 (647793 : Int)) → (∀ r72 : Int, sv_R r72 → (((639 : Int) = 639 → r72 = 15000 + l5_29) ∧ (¬ (639 : Int) = 639 → 0 ≤ r72 ∧ r72 < 14520)) → (0 ≤ r72 ∧ r72 < 15128) ∧ (sv_RL (S 86 r72) → (∀ r75 : Int, sv_RL r75 → (sv_R (l5_29 + (1 : Int))) ∧ ((0 ≤ (l5_29 + (1 : Int)) ∧ (l5_29 + (1 : Int)) ≤ (S 1071 0) ∧ sm_pt (g22 68) (fun i' : Int => if i' = (647793 : Int) then r62 else (g28 69) i') (fun i' : Int => if i' = (647793 : Int) then r75 else (g28 70) i') = sm_pt (S 68) (S 69) (S 70)) ∧ ((S 1071 0) - (l5_29 + (1 : Int))) < ((S 1071 0) - l5_29))))))))))) ∧ ((¬ (¬ r52 = (0 : Int))) → (sv_R (l5_29 + (1 : Int))) ∧ ((0 ≤ (l5_29 + (1 : Int)) ∧ (l5_29 + (1 : Int)) ≤ (S 1071 0) ∧ sm_pt (g22 68) (g28 69) (g28 70) = sm_pt (S 68) (S 69) (S 70)) ∧ ((S 1071 0) - (l5_29 + (1 : Int))) < ((S 1071 0) - l5_29)))))))))))))))))))) := by
  intro p1
  intro p2
  intro S
  intro h1_
  intro h2_
  intro h3_
  rintro ⟨h4_, ⟨h5_, ⟨h6_, ⟨h7_, ⟨h8_, ⟨h9_, ⟨h10_, ⟨h11_, ⟨h12_, ⟨h13_, ⟨h14_, ⟨h15_, ⟨h16_, ⟨h17_, ⟨h18_, ⟨h19_, h20_⟩⟩⟩⟩⟩⟩⟩⟩⟩⟩⟩⟩⟩⟩⟩⟩
  refine ⟨(la_scopesAt_0 h18_ h19_), ?_⟩
  intro g2
  intro h21_
  have h22_ := (h21_ h18_)
  refine ⟨la_scopesAt_1, ?_⟩
  intro h23_
  intro h24_
  refine ⟨?_, ?_⟩
  · skip
    refine ⟨la_scopesAt_2, ?_⟩
    have e25_ : sm_pt (g2 68) (fun i' : Int => (if i' = p2 then S 76 639 else (g2 69) i')) (fun i' : Int => (if i' = p2 then S 77 639 else (g2 70) i')) = sm_pt (g2 68) (fun i' : Int => (if i' = p2 then S 76 639 else (g2 69) i')) (g2 70) := sm_pt_H h18_
    have e26_ : sm_pt (g2 68) (fun i' : Int => (if i' = p2 then S 76 639 else (g2 69) i')) (g2 70) = sm_pt (g2 68) (g2 69) (g2 70) := sm_pt_L h18_
    exact (la_scopesAt_3 h22_ e25_ e26_)
  intro l4_15
  intro h27_
  intro g14
  rintro ⟨h28_, h29_⟩
  refine ⟨?_, ?_⟩
  · skip
    by_cases c30_ : l4_15 < p1
    · skip
      have e31_ : (if l4_15 < p1 then p1 - l4_15 else 0 : Int) = p1 - l4_15 := if_pos c30_
      exact (la_scopesAt_4 c30_ e31_)
    · skip
      have e32_ : (if l4_15 < p1 then p1 - l4_15 else 0 : Int) = 0 := if_neg c30_
      exact (la_scopesAt_5 e32_)
  refine ⟨(la_scopesAt_6 h29_), ?_⟩
  intro h33_
  refine ⟨la_scopesAt_7, ?_⟩
  intro g22
  intro h34_
  have h35_ := (h34_ la_scopesAt_8)
  refine ⟨(la_scopesAt_9 h4_ h29_ h35_), ?_⟩
  intro l5_29
  intro h36_
  intro g28
  rintro ⟨h37_, ⟨h38_, h39_⟩⟩
  refine ⟨(la_scopesAt_10 h38_), ?_⟩
  intro h40_
  refine ⟨?_, ?_⟩
  · skip
    intro h41_
    refine ⟨(la_scopesAt_11 h18_ h19_), ?_⟩
    intro g38
    intro h42_
    refine ⟨(la_scopesAt_12 h2_ h28_ h33_), ?_⟩
    refine ⟨(la_scopesAt_13 h28_ h39_ h42_), ?_⟩
    have e43_ : (if l4_15 < p1 then p1 - l4_15 else 0 : Int) = p1 - l4_15 := if_pos (la_scopesAt_14 h33_)
    by_cases c44_ : l4_15 + 1 < p1
    · skip
      have e45_ : (if l4_15 + 1 < p1 then p1 - (l4_15 + 1) else 0 : Int) = p1 - (l4_15 + 1) := if_pos c44_
      exact (la_scopesAt_15 e43_ e45_)
    · skip
      have e46_ : (if l4_15 + 1 < p1 then p1 - (l4_15 + 1) else 0 : Int) = 0 := if_neg c44_
      exact (la_scopesAt_16 h33_ e43_ e46_)
  intro h47_
  intro h48_
  intro h49_
  refine ⟨(la_scopesAt_17 h5_ h37_ h47_), ?_⟩
  intro r52
  intro h50_
  rintro ⟨h51_, h52_⟩
  refine ⟨?_, ?_⟩
  · skip
    intro h53_
    have h54_ := (h52_.resolve_left h53_)
    intro h55_
    refine ⟨⟨h4_, ⟨h5_, ⟨h6_, ⟨h7_, ⟨h8_, ⟨h9_, ⟨h10_, ⟨h11_, ⟨h12_, ⟨h13_, ⟨h14_, ⟨h15_, (la_scopesAt_20 h5_ h16_ h17_ h37_ h47_)⟩⟩⟩⟩⟩⟩⟩⟩⟩⟩⟩⟩, ?_⟩
    intro r59
    intro h56_
    rintro ⟨h57_, h58_⟩
    have h59_ := (h57_ la_scopesAt_21)
    refine ⟨(la_scopesAt_23 h5_ h37_ h47_ h59_), ?_⟩
    intro h60_
    intro r62
    intro h61_
    intro h62_
    intro r72
    intro h63_
    rintro ⟨h64_, h65_⟩
    have h66_ := (h64_ la_scopesAt_21)
    refine ⟨(la_scopesAt_23 h5_ h37_ h47_ h66_), ?_⟩
    intro h67_
    intro r75
    intro h68_
    refine ⟨(la_scopesAt_24 h5_ h37_ h47_), ?_⟩
    refine ⟨?_, ?_⟩
    · skip
      refine ⟨(la_scopesAt_25 h37_), ?_⟩
      refine ⟨(la_scopesAt_26 h47_), ?_⟩
      have e69_ : sm_pt (g22 68) (fun i' : Int => (if i' = 647793 then r62 else (g28 69) i')) (fun i' : Int => (if i' = 647793 then r75 else (g28 70) i')) = sm_pt (g22 68) (fun i' : Int => (if i' = 647793 then r62 else (g28 69) i')) (g28 70) := sm_pt_H la_scopesAt_8
      have e70_ : sm_pt (g22 68) (fun i' : Int => (if i' = 647793 then r62 else (g28 69) i')) (g28 70) = sm_pt (g22 68) (g28 69) (g28 70) := sm_pt_L la_scopesAt_8
      exact (la_scopesAt_3 h39_ e69_ e70_)
    exact la_scopesAt_27
  intro h71_
  have h72_ := (h52_.resolve_right (la_scopesAt_28 h71_))
  refine ⟨(la_scopesAt_24 h5_ h37_ h47_), ?_⟩
  refine ⟨(la_scopesAt_29 h37_ h39_ h47_), ?_⟩
  exact la_scopesAt_27
set_option maxRecDepth 8000 in
set_option maxHeartbeats 2000000 in
theorem t_scopesAt : ∀ (p1 : Int) (p2 : Int) (S : sv_S), sm_ok S → sv_R p1 → sv_R p2 → (29 ≤ (S 1071 0) ∧ (S 1071 0) ≤ 127 ∧ 31 ≤ (S 1008 0) ∧ (S 1008 0) ≤ 90 ∧ 1 ≤ (S 1032 0) ∧ (S 1032 0) ≤ 11 ∧ 0 ≤ (S 1055 0) ∧ (S 1055 0) ≤ 19 ∧ (S 1071 0) = 29 + 6 * ((S 1032 0) - 1) + 2 * (S 1055 0) ∧ 0 ≤ (S 1046 0) ∧ (S 1046 0) + 2 * (S 1032 0) ≤ 500 ∧ sm_PD (S 1046 0) (S 1032 0) (S 1071 0) (S 1008 0) ∧ 0 ≤ (S 1071 0) * ((S 1008 0) + 1) ∧ (S 1071 0) * ((S 1008 0) + 1) ≤ 11557 ∧ 635639 ≤ p2 ∧ p2 < 647790 ∧ 0 ≤ p1) → sv_T sm_XS sm_cs sm_L sm_sh 2 (q_scopesAt p1 p2 S) 264 0 (lv_args 0 [.ref 0, sv_I p1, sv_I p2]) [] S := by
  intro p1 p2 S hok hp1 hp2 hpre
  have h := f_scopesAt p1 p2 S hok hp1 hp2 hpre
  have hM := sm_h264
  show sv_T sm_XS sm_cs sm_L sm_sh 2 (q_scopesAt p1 p2 S) 264 0 [(0, .ref 0), (1, sv_I p1), (2, sv_I p2)] [] S
  refine sv_aload_n hM dX12_scopesAt_0 rfl rfl ?_
  refine sv_iload_n hM dX12_scopesAt_1 rfl rfl ?_
  obtain ⟨o1, h⟩ := h
  refine sv_callV hM dX12_scopesAt_2 sm_iv_1066 (by decide) (sm_a0 _) rfl rfl (Nat.le_of_ble_eq_true rfl) sm_h206 (Nat.le_of_ble_eq_true rfl) (Nat.le_of_ble_eq_true rfl) (F' := 0) (Nat.le_of_ble_eq_true rfl) rfl (t_empty p2 S hok hp2 o1) (fun v S1 hq => ?_)
  obtain ⟨rfl, ok3, md4, hpo5⟩ := hq
  obtain ⟨g2, rfl⟩ : ∃ g, S1 = sv_sts S [68, 69, 70] g := ⟨_, md4.eq⟩
  show sv_T sm_XS sm_cs sm_L sm_sh 2 (q_scopesAt p1 p2 S) 264 5 [(0, .ref 0), (1, sv_I p1), (2, sv_I p2)] [] (sv_sts S [68, 69, 70] g2)
  have md6 : sv_mod [68, 69, 70] S (sv_sts S [68, 69, 70] g2) := sv_mod.sts sv_mod.rf (by decide)
  have h := h g2 hpo5
  refine sv_aload_n hM dX12_scopesAt_5 rfl rfl ?_
  refine sv_getA hM dX12_scopesAt_6 sm_fl_220 (sm_a0 _) sm_k117 rfl ?_
  refine sv_iload_n hM dX12_scopesAt_9 rfl rfl ?_
  refine sv_aload_n hM dX12_scopesAt_10 rfl rfl ?_
  refine sv_getA hM dX12_scopesAt_11 sm_fl_241 (sm_a0 _) sm_k128 rfl ?_
  refine sv_sipush (d := (639 : Int)) hM dX12_scopesAt_14 rfl rfl ?_
  obtain ⟨o7, h⟩ := h
  have k8 : sv_RL (S 76 (639 : Int)) := sm_okJ ok3 sm_r76 (639 : Int)
  have h := h k8
  refine sv_lald hM dX12_scopesAt_17 (sm_a76 _) (by decide) o7.1 o7.2 rfl (x := (S 76 (639 : Int))) rfl ?_
  refine sv_last sm_X hM dX12_scopesAt_18 (sm_a69 _) (by decide) o1.1 o1.2 rfl ?_
  have ok9 : sm_ok (sv_up (sv_sts S [68, 69, 70] g2) 69 p2 (S 76 (639 : Int))) := sm_upJ ok3 sm_r69 k8
  have md10 : sv_mod [68, 69, 70] S (sv_up (sv_sts S [68, 69, 70] g2) 69 p2 (S 76 (639 : Int))) := sv_mod.up md6 (by decide)
  refine sv_aload_n hM dX12_scopesAt_19 rfl rfl ?_
  refine sv_getA hM dX12_scopesAt_20 sm_fl_223 (sm_a0 _) sm_k118 rfl ?_
  refine sv_iload_n hM dX12_scopesAt_23 rfl rfl ?_
  refine sv_aload_n hM dX12_scopesAt_24 rfl rfl ?_
  refine sv_getA hM dX12_scopesAt_25 sm_fl_244 (sm_a0 _) sm_k129 rfl ?_
  refine sv_sipush (d := (639 : Int)) hM dX12_scopesAt_28 rfl rfl ?_
  have k11 : sv_RL (S 77 (639 : Int)) := sm_okJ ok9 sm_r77 (639 : Int)
  have h := h k11
  refine sv_lald hM dX12_scopesAt_31 (sm_a77 _) (by decide) o7.1 o7.2 rfl (x := (S 77 (639 : Int))) rfl ?_
  refine sv_last sm_X hM dX12_scopesAt_32 (sm_a70 _) (by decide) o1.1 o1.2 rfl ?_
  have ok12 : sm_ok (sv_up (sv_up (sv_sts S [68, 69, 70] g2) 69 p2 (S 76 (639 : Int))) 70 p2 (S 77 (639 : Int))) := sm_upJ ok9 sm_r70 k11
  have md13 : sv_mod [68, 69, 70] S (sv_up (sv_up (sv_sts S [68, 69, 70] g2) 69 p2 (S 76 (639 : Int))) 70 p2 (S 77 (639 : Int))) := sv_mod.up md10 (by decide)
  refine sv_ldc_w (d := (647793 : Int)) hM dX12_scopesAt_33 sm_ck_1217 rfl rfl ?_
  refine sv_istore_n hM dX12_scopesAt_36 (by decide) rfl ?_
  show sv_T sm_XS sm_cs sm_L sm_sh 2 (q_scopesAt p1 p2 S) 264 37 [(0, .ref 0), (1, sv_I p1), (2, sv_I p2), (3, sv_I (647793 : Int))] [] (sv_up (sv_up (sv_sts S [68, 69, 70] g2) 69 p2 (S 76 (639 : Int))) 70 p2 (S 77 (639 : Int)))
  refine sv_iconst (d := (0 : Int)) hM dX12_scopesAt_37 rfl rfl ?_
  refine sv_istore hM dX12_scopesAt_38 (by decide) rfl ?_
  show sv_T sm_XS sm_cs sm_L sm_sh 2 (q_scopesAt p1 p2 S) 264 40 [(0, .ref 0), (1, sv_I p1), (2, sv_I p2), (3, sv_I (647793 : Int)), (4, sv_I (0 : Int))] [] (sv_up (sv_up (sv_sts S [68, 69, 70] g2) 69 p2 (S 76 (639 : Int))) 70 p2 (S 77 (639 : Int)))
  obtain ⟨hin17, h⟩ := h
  have hJ : ∀ a : Int × sv_S, (sv_R a.1 ∧ sm_ok (sv_sts (sv_up (sv_up (sv_sts S [68, 69, 70] g2) 69 p2 (S 76 (639 : Int))) 70 p2 (S 77 (639 : Int))) [68, 69, 70] a.2) ∧ (0 ≤ a.1 ∧ sm_pt (a.2 68) (a.2 69) (a.2 70) = sm_pt (S 68) (S 69) (S 70))) → sv_T sm_XS sm_cs sm_L sm_sh 2 (q_scopesAt p1 p2 S) 264 40 [(0, .ref 0), (1, sv_I p1), (2, sv_I p2), (3, sv_I (647793 : Int)), (4, sv_I a.1)] [] (sv_sts (sv_up (sv_up (sv_sts S [68, 69, 70] g2) 69 p2 (S 76 (639 : Int))) 70 p2 (S 77 (639 : Int))) [68, 69, 70] a.2) := by
    refine sv_loop (α := Int × sv_S) (fun a => sv_R a.1 ∧ sm_ok (sv_sts (sv_up (sv_up (sv_sts S [68, 69, 70] g2) 69 p2 (S 76 (639 : Int))) 70 p2 (S 77 (639 : Int))) [68, 69, 70] a.2) ∧ (0 ≤ a.1 ∧ sm_pt (a.2 68) (a.2 69) (a.2 70) = sm_pt (S 68) (S 69) (S 70))) (fun a => (if a.1 < p1 then p1 - a.1 else 0)) (fun a => sv_T sm_XS sm_cs sm_L sm_sh 2 (q_scopesAt p1 p2 S) 264 40 [(0, .ref 0), (1, sv_I p1), (2, sv_I p2), (3, sv_I (647793 : Int)), (4, sv_I a.1)] [] (sv_sts (sv_up (sv_up (sv_sts S [68, 69, 70] g2) 69 p2 (S 76 (639 : Int))) 70 p2 (S 77 (639 : Int))) [68, 69, 70] a.2)) (fun a q => (h a.1 q.1 a.2 q.2.2).1) (fun a q ih16 => ?_)
    obtain ⟨l4_15, g14⟩ := a
    obtain ⟨hl4_15, ok18, hin17i⟩ := q
    have h := (h l4_15 hl4_15 g14 hin17i).2
    show sv_T sm_XS sm_cs sm_L sm_sh 2 (q_scopesAt p1 p2 S) 264 40 [(0, .ref 0), (1, sv_I p1), (2, sv_I p2), (3, sv_I (647793 : Int)), (4, sv_I l4_15)] [] (sv_sts (sv_up (sv_up (sv_sts S [68, 69, 70] g2) 69 p2 (S 76 (639 : Int))) 70 p2 (S 77 (639 : Int))) [68, 69, 70] g14)
    have md19 : sv_mod [68, 69, 70] S (sv_sts (sv_up (sv_up (sv_sts S [68, 69, 70] g2) 69 p2 (S 76 (639 : Int))) 70 p2 (S 77 (639 : Int))) [68, 69, 70] g14) := sv_mod.sts md13 (by decide)
    have md20 : sv_mod [68, 69, 70] (sv_up (sv_up (sv_sts S [68, 69, 70] g2) 69 p2 (S 76 (639 : Int))) 70 p2 (S 77 (639 : Int))) (sv_sts (sv_up (sv_up (sv_sts S [68, 69, 70] g2) 69 p2 (S 76 (639 : Int))) 70 p2 (S 77 (639 : Int))) [68, 69, 70] g14) := sv_mod.sts sv_mod.rf (by decide)
    refine sv_iload hM dX12_scopesAt_40 rfl rfl ?_
    refine sv_iload_n hM dX12_scopesAt_42 rfl rfl ?_
    refine sv_icmp_ge hM dX12_scopesAt_43 hl4_15 hp1 (t := 158) rfl rfl (fun hc => ?_) (fun hc => ?_)
    · have h := h.1 (hc)
      exact sv_vret hM dX12_scopesAt_158 rfl ⟨rfl, ok18, md19, h⟩
    · have h := h.2 (hc)
      refine sv_aload_n hM dX12_scopesAt_46 rfl rfl ?_
      refine sv_iload_n hM dX12_scopesAt_47 rfl rfl ?_
      obtain ⟨o21, h⟩ := h
      refine sv_callV hM dX12_scopesAt_48 sm_iv_1066 (by decide) (sm_a0 _) rfl rfl (Nat.le_of_ble_eq_true rfl) sm_h206 (Nat.le_of_ble_eq_true rfl) (Nat.le_of_ble_eq_true rfl) (F' := 0) (Nat.le_of_ble_eq_true rfl) rfl (t_empty (647793 : Int) (sv_sts (sv_up (sv_up (sv_sts S [68, 69, 70] g2) 69 p2 (S 76 (639 : Int))) 70 p2 (S 77 (639 : Int))) [68, 69, 70] g14) ok18 (⟨by decide, by decide⟩ : sv_R (647793 : Int)) o21) (fun v S1 hq => ?_)
      obtain ⟨rfl, ok23, md24, hpo25⟩ := hq
      obtain ⟨g22, rfl⟩ : ∃ g, S1 = sv_sts (sv_sts (sv_up (sv_up (sv_sts S [68, 69, 70] g2) 69 p2 (S 76 (639 : Int))) 70 p2 (S 77 (639 : Int))) [68, 69, 70] g14) [68, 69, 70] g := ⟨_, md24.eq⟩
      show sv_T sm_XS sm_cs sm_L sm_sh 2 (q_scopesAt p1 p2 S) 264 51 [(0, .ref 0), (1, sv_I p1), (2, sv_I p2), (3, sv_I (647793 : Int)), (4, sv_I l4_15)] [] (sv_sts (sv_sts (sv_up (sv_up (sv_sts S [68, 69, 70] g2) 69 p2 (S 76 (639 : Int))) 70 p2 (S 77 (639 : Int))) [68, 69, 70] g14) [68, 69, 70] g22)
      have md26 : sv_mod [68, 69, 70] S (sv_sts (sv_sts (sv_up (sv_up (sv_sts S [68, 69, 70] g2) 69 p2 (S 76 (639 : Int))) 70 p2 (S 77 (639 : Int))) [68, 69, 70] g14) [68, 69, 70] g22) := sv_mod.sts md19 (by decide)
      have md27 : sv_mod [68, 69, 70] (sv_up (sv_up (sv_sts S [68, 69, 70] g2) 69 p2 (S 76 (639 : Int))) 70 p2 (S 77 (639 : Int))) (sv_sts (sv_sts (sv_up (sv_up (sv_sts S [68, 69, 70] g2) 69 p2 (S 76 (639 : Int))) 70 p2 (S 77 (639 : Int))) [68, 69, 70] g14) [68, 69, 70] g22) := sv_mod.sts md20 (by decide)
      have h := h g22 hpo25
      refine sv_iconst (d := (0 : Int)) hM dX12_scopesAt_51 rfl rfl ?_
      refine sv_istore hM dX12_scopesAt_52 (by decide) rfl ?_
      show sv_T sm_XS sm_cs sm_L sm_sh 2 (q_scopesAt p1 p2 S) 264 54 [(0, .ref 0), (1, sv_I p1), (2, sv_I p2), (3, sv_I (647793 : Int)), (4, sv_I l4_15), (5, sv_I (0 : Int))] [] (sv_sts (sv_sts (sv_up (sv_up (sv_sts S [68, 69, 70] g2) 69 p2 (S 76 (639 : Int))) 70 p2 (S 77 (639 : Int))) [68, 69, 70] g14) [68, 69, 70] g22)
      obtain ⟨hin31, h⟩ := h
      have hJ : ∀ a : Int × sv_S, (sv_R a.1 ∧ sm_ok (sv_sts (sv_sts (sv_sts (sv_up (sv_up (sv_sts S [68, 69, 70] g2) 69 p2 (S 76 (639 : Int))) 70 p2 (S 77 (639 : Int))) [68, 69, 70] g14) [68, 69, 70] g22) [69, 70] a.2) ∧ (0 ≤ a.1 ∧ a.1 ≤ (S 1071 0) ∧ sm_pt (g22 68) (a.2 69) (a.2 70) = sm_pt (S 68) (S 69) (S 70))) → sv_T sm_XS sm_cs sm_L sm_sh 2 (q_scopesAt p1 p2 S) 264 54 [(0, .ref 0), (1, sv_I p1), (2, sv_I p2), (3, sv_I (647793 : Int)), (4, sv_I l4_15), (5, sv_I a.1)] [] (sv_sts (sv_sts (sv_sts (sv_up (sv_up (sv_sts S [68, 69, 70] g2) 69 p2 (S 76 (639 : Int))) 70 p2 (S 77 (639 : Int))) [68, 69, 70] g14) [68, 69, 70] g22) [69, 70] a.2) := by
        refine sv_loop (α := Int × sv_S) (fun a => sv_R a.1 ∧ sm_ok (sv_sts (sv_sts (sv_sts (sv_up (sv_up (sv_sts S [68, 69, 70] g2) 69 p2 (S 76 (639 : Int))) 70 p2 (S 77 (639 : Int))) [68, 69, 70] g14) [68, 69, 70] g22) [69, 70] a.2) ∧ (0 ≤ a.1 ∧ a.1 ≤ (S 1071 0) ∧ sm_pt (g22 68) (a.2 69) (a.2 70) = sm_pt (S 68) (S 69) (S 70))) (fun a => (S 1071 0) - a.1) (fun a => sv_T sm_XS sm_cs sm_L sm_sh 2 (q_scopesAt p1 p2 S) 264 54 [(0, .ref 0), (1, sv_I p1), (2, sv_I p2), (3, sv_I (647793 : Int)), (4, sv_I l4_15), (5, sv_I a.1)] [] (sv_sts (sv_sts (sv_sts (sv_up (sv_up (sv_sts S [68, 69, 70] g2) 69 p2 (S 76 (639 : Int))) 70 p2 (S 77 (639 : Int))) [68, 69, 70] g14) [68, 69, 70] g22) [69, 70] a.2)) (fun a q => (h a.1 q.1 a.2 q.2.2).1) (fun a q ih30 => ?_)
        obtain ⟨l5_29, g28⟩ := a
        obtain ⟨hl5_29, ok32, hin31i⟩ := q
        have h := (h l5_29 hl5_29 g28 hin31i).2
        show sv_T sm_XS sm_cs sm_L sm_sh 2 (q_scopesAt p1 p2 S) 264 54 [(0, .ref 0), (1, sv_I p1), (2, sv_I p2), (3, sv_I (647793 : Int)), (4, sv_I l4_15), (5, sv_I l5_29)] [] (sv_sts (sv_sts (sv_sts (sv_up (sv_up (sv_sts S [68, 69, 70] g2) 69 p2 (S 76 (639 : Int))) 70 p2 (S 77 (639 : Int))) [68, 69, 70] g14) [68, 69, 70] g22) [69, 70] g28)
        have md33 : sv_mod [68, 69, 70] S (sv_sts (sv_sts (sv_sts (sv_up (sv_up (sv_sts S [68, 69, 70] g2) 69 p2 (S 76 (639 : Int))) 70 p2 (S 77 (639 : Int))) [68, 69, 70] g14) [68, 69, 70] g22) [69, 70] g28) := sv_mod.sts md26 (by decide)
        have md34 : sv_mod [68, 69, 70] (sv_up (sv_up (sv_sts S [68, 69, 70] g2) 69 p2 (S 76 (639 : Int))) 70 p2 (S 77 (639 : Int))) (sv_sts (sv_sts (sv_sts (sv_up (sv_up (sv_sts S [68, 69, 70] g2) 69 p2 (S 76 (639 : Int))) 70 p2 (S 77 (639 : Int))) [68, 69, 70] g14) [68, 69, 70] g22) [69, 70] g28) := sv_mod.sts md27 (by decide)
        have md35 : sv_mod [69, 70] (sv_sts (sv_sts (sv_up (sv_up (sv_sts S [68, 69, 70] g2) 69 p2 (S 76 (639 : Int))) 70 p2 (S 77 (639 : Int))) [68, 69, 70] g14) [68, 69, 70] g22) (sv_sts (sv_sts (sv_sts (sv_up (sv_up (sv_sts S [68, 69, 70] g2) 69 p2 (S 76 (639 : Int))) 70 p2 (S 77 (639 : Int))) [68, 69, 70] g14) [68, 69, 70] g22) [69, 70] g28) := sv_mod.sts sv_mod.rf (by decide)
        refine sv_iload hM dX12_scopesAt_54 rfl rfl ?_
        refine sv_aload_n hM dX12_scopesAt_56 rfl rfl ?_
        have k36 : sv_R (S 1071 0) := sm_okI ok32 sm_r1071 0
        have h := h k36
        refine sv_getI hM dX12_scopesAt_57 sm_fl_765 (sm_a0 _) sm_k71 rfl (x := (S 1071 0)) rfl ?_
        refine sv_icmp_ge hM dX12_scopesAt_60 hl5_29 k36 (t := 146) rfl rfl (fun hc => ?_) (fun hc => ?_)
        · have h := h.1 (hc)
          refine sv_aload_n hM dX12_scopesAt_146 rfl rfl ?_
          refine sv_iload_n hM dX12_scopesAt_147 rfl rfl ?_
          refine sv_iload_n hM dX12_scopesAt_148 rfl rfl ?_
          obtain ⟨o37, h⟩ := h
          refine sv_callV hM dX12_scopesAt_149 sm_iv_1092 (by decide) (sm_a0 _) rfl rfl (Nat.le_of_ble_eq_true rfl) sm_h207 (Nat.le_of_ble_eq_true rfl) (Nat.le_of_ble_eq_true rfl) (F' := 0) (Nat.le_of_ble_eq_true rfl) rfl (t_copySet (647793 : Int) p2 (sv_sts (sv_sts (sv_sts (sv_up (sv_up (sv_sts S [68, 69, 70] g2) 69 p2 (S 76 (639 : Int))) 70 p2 (S 77 (639 : Int))) [68, 69, 70] g14) [68, 69, 70] g22) [69, 70] g28) ok32 (⟨by decide, by decide⟩ : sv_R (647793 : Int)) hp2 o37) (fun v S1 hq => ?_)
          obtain ⟨rfl, ok39, md40, hpo41⟩ := hq
          obtain ⟨g38, rfl⟩ : ∃ g, S1 = sv_sts (sv_sts (sv_sts (sv_sts (sv_up (sv_up (sv_sts S [68, 69, 70] g2) 69 p2 (S 76 (639 : Int))) 70 p2 (S 77 (639 : Int))) [68, 69, 70] g14) [68, 69, 70] g22) [69, 70] g28) [68, 69, 70] g := ⟨_, md40.eq⟩
          show sv_T sm_XS sm_cs sm_L sm_sh 2 (q_scopesAt p1 p2 S) 264 152 [(0, .ref 0), (1, sv_I p1), (2, sv_I p2), (3, sv_I (647793 : Int)), (4, sv_I l4_15), (5, sv_I l5_29)] [] (sv_sts (sv_sts (sv_sts (sv_sts (sv_up (sv_up (sv_sts S [68, 69, 70] g2) 69 p2 (S 76 (639 : Int))) 70 p2 (S 77 (639 : Int))) [68, 69, 70] g14) [68, 69, 70] g22) [69, 70] g28) [68, 69, 70] g38)
          have md42 : sv_mod [68, 69, 70] S (sv_sts (sv_sts (sv_sts (sv_sts (sv_up (sv_up (sv_sts S [68, 69, 70] g2) 69 p2 (S 76 (639 : Int))) 70 p2 (S 77 (639 : Int))) [68, 69, 70] g14) [68, 69, 70] g22) [69, 70] g28) [68, 69, 70] g38) := sv_mod.sts md33 (by decide)
          have md43 : sv_mod [68, 69, 70] (sv_up (sv_up (sv_sts S [68, 69, 70] g2) 69 p2 (S 76 (639 : Int))) 70 p2 (S 77 (639 : Int))) (sv_sts (sv_sts (sv_sts (sv_sts (sv_up (sv_up (sv_sts S [68, 69, 70] g2) 69 p2 (S 76 (639 : Int))) 70 p2 (S 77 (639 : Int))) [68, 69, 70] g14) [68, 69, 70] g22) [69, 70] g28) [68, 69, 70] g38) := sv_mod.sts md34 (by decide)
          have h := h g38 hpo41
          refine sv_iinc (d := (1 : Int)) hM dX12_scopesAt_152 rfl (by decide) rfl rfl ?_
          show sv_T sm_XS sm_cs sm_L sm_sh 2 (q_scopesAt p1 p2 S) 264 155 [(0, .ref 0), (1, sv_I p1), (2, sv_I p2), (3, sv_I (647793 : Int)), (4, sv_I (l4_15 + (1 : Int))), (5, sv_I l5_29)] [] (sv_sts (sv_sts (sv_sts (sv_sts (sv_up (sv_up (sv_sts S [68, 69, 70] g2) 69 p2 (S 76 (639 : Int))) 70 p2 (S 77 (639 : Int))) [68, 69, 70] g14) [68, 69, 70] g22) [69, 70] g28) [68, 69, 70] g38)
          refine sv_goto hM dX12_scopesAt_155 (pc' := 40) rfl ?_
          obtain ⟨o44, h⟩ := h
          have eS := sv_mod.eq md43
          have hb := ih16 ((l4_15 + (1 : Int)), (sv_sts (sv_sts (sv_sts (sv_sts (sv_up (sv_up (sv_sts S [68, 69, 70] g2) 69 p2 (S 76 (639 : Int))) 70 p2 (S 77 (639 : Int))) [68, 69, 70] g14) [68, 69, 70] g22) [69, 70] g28) [68, 69, 70] g38)) ⟨o44, (by rw [← eS]; exact ok39), h.1⟩ h.2
          have hb : sv_T sm_XS sm_cs sm_L sm_sh 2 (q_scopesAt p1 p2 S) 264 40 [(0, .ref 0), (1, sv_I p1), (2, sv_I p2), (3, sv_I (647793 : Int)), (4, sv_I (l4_15 + (1 : Int)))] [] (sv_sts (sv_sts (sv_sts (sv_sts (sv_up (sv_up (sv_sts S [68, 69, 70] g2) 69 p2 (S 76 (639 : Int))) 70 p2 (S 77 (639 : Int))) [68, 69, 70] g14) [68, 69, 70] g22) [69, 70] g28) [68, 69, 70] g38) := Eq.mpr (congrArg (fun Z => sv_T sm_XS sm_cs sm_L sm_sh 2 (q_scopesAt p1 p2 S) 264 40 [(0, .ref 0), (1, sv_I p1), (2, sv_I p2), (3, sv_I (647793 : Int)), (4, sv_I (l4_15 + (1 : Int)))] [] Z) eS) hb
          exact sv_less (lv := [(0, .ref 0), (1, sv_I p1), (2, sv_I p2), (3, sv_I (647793 : Int)), (4, sv_I (l4_15 + (1 : Int)))]) (sv_Sub_cons rfl (sv_Sub_cons rfl (sv_Sub_cons rfl (sv_Sub_cons rfl (sv_Sub_cons rfl sv_Sub_nil))))) hb
        · have h := h.2 (hc)
          refine sv_aload_n hM dX12_scopesAt_63 rfl rfl ?_
          refine sv_getA hM dX12_scopesAt_64 sm_fl_220 (sm_a0 _) sm_k117 rfl ?_
          refine sv_iload_n hM dX12_scopesAt_67 rfl rfl ?_
          have k45 : sv_RL (g28 69 p2) := sm_okJ ok32 sm_r69 p2
          have h := h k45
          refine sv_lald hM dX12_scopesAt_68 (sm_a69 _) (by decide) o1.1 o1.2 rfl (x := (g28 69 p2)) rfl ?_
          refine sv_aload_n hM dX12_scopesAt_69 rfl rfl ?_
          refine sv_getA hM dX12_scopesAt_70 sm_fl_223 (sm_a0 _) sm_k118 rfl ?_
          refine sv_iload_n hM dX12_scopesAt_73 rfl rfl ?_
          have k46 : sv_RL (g28 70 p2) := sm_okJ ok32 sm_r70 p2
          have h := h k46
          refine sv_lald hM dX12_scopesAt_74 (sm_a70 _) (by decide) o1.1 o1.2 rfl (x := (g28 70 p2)) rfl ?_
          refine sv_iload hM dX12_scopesAt_75 rfl rfl ?_
          obtain ⟨o47, h⟩ := h
          refine sv_callS hM dX12_scopesAt_77 sm_iv_1125 (Nat.le_of_ble_eq_true rfl) rfl rfl (Nat.le_of_ble_eq_true rfl) sm_h217 (Nat.le_of_ble_eq_true rfl) (Nat.le_of_ble_eq_true rfl) (F' := 0) (Nat.le_of_ble_eq_true rfl) rfl (t_isIn (g28 69 p2) (g28 70 p2) l5_29 (sv_sts (sv_sts (sv_sts (sv_up (sv_up (sv_sts S [68, 69, 70] g2) 69 p2 (S 76 (639 : Int))) 70 p2 (S 77 (639 : Int))) [68, 69, 70] g14) [68, 69, 70] g22) [69, 70] g28) ok32 k45 k46 hl5_29 o47) (fun v S1 hq => ?_)
          obtain ⟨r52, rfl, hr52, ok49, md50, hpo51⟩ := hq
          obtain rfl : (sv_sts (sv_sts (sv_sts (sv_up (sv_up (sv_sts S [68, 69, 70] g2) 69 p2 (S 76 (639 : Int))) 70 p2 (S 77 (639 : Int))) [68, 69, 70] g14) [68, 69, 70] g22) [69, 70] g28) = S1 := (funext fun j => md50 j (by intro q; cases q)).symm
          show sv_T sm_XS sm_cs sm_L sm_sh 2 (q_scopesAt p1 p2 S) 264 80 [(0, .ref 0), (1, sv_I p1), (2, sv_I p2), (3, sv_I (647793 : Int)), (4, sv_I l4_15), (5, sv_I l5_29)] [sv_I r52] (sv_sts (sv_sts (sv_sts (sv_up (sv_up (sv_sts S [68, 69, 70] g2) 69 p2 (S 76 (639 : Int))) 70 p2 (S 77 (639 : Int))) [68, 69, 70] g14) [68, 69, 70] g22) [69, 70] g28)
          have h := h r52 hr52 hpo51
          refine sv_cond_ne hM dX12_scopesAt_80 hr52 (t := 86) rfl rfl (fun hc => ?_) (fun hc => ?_)
          · have h := h.1 (hc)
            refine sv_aload_n hM dX12_scopesAt_86 rfl rfl ?_
            refine sv_getA hM dX12_scopesAt_87 sm_fl_220 (sm_a0 _) sm_k117 rfl ?_
            refine sv_iload_n hM dX12_scopesAt_90 rfl rfl ?_
            refine sv_aload_n hM dX12_scopesAt_91 rfl rfl ?_
            refine sv_getA hM dX12_scopesAt_92 sm_fl_220 (sm_a0 _) sm_k117 rfl ?_
            refine sv_iload_n hM dX12_scopesAt_95 rfl rfl ?_
            have k53 : sv_RL (g28 69 (647793 : Int)) := sm_okJ ok49 sm_r69 (647793 : Int)
            have h := h k53
            refine sv_lald hM dX12_scopesAt_96 (sm_a69 _) (by decide) o21.1 o21.2 rfl (x := (g28 69 (647793 : Int))) rfl ?_
            refine sv_aload_n hM dX12_scopesAt_97 rfl rfl ?_
            refine sv_getA hM dX12_scopesAt_98 sm_fl_268 (sm_a0 _) sm_k137 rfl ?_
            refine sv_aload_n hM dX12_scopesAt_101 rfl rfl ?_
            refine sv_sipush (d := (639 : Int)) hM dX12_scopesAt_102 rfl rfl ?_
            refine sv_iload hM dX12_scopesAt_105 rfl rfl ?_
            obtain ⟨o54, h⟩ := h
            refine sv_callV hM dX12_scopesAt_107 sm_iv_1101 (by decide) (sm_a0 _) rfl rfl (Nat.le_of_ble_eq_true rfl) sm_h226 (Nat.le_of_ble_eq_true rfl) (Nat.le_of_ble_eq_true rfl) (F' := 1) (Nat.le_of_ble_eq_true rfl) rfl (t_of (639 : Int) l5_29 (sv_sts (sv_sts (sv_sts (sv_up (sv_up (sv_sts S [68, 69, 70] g2) 69 p2 (S 76 (639 : Int))) 70 p2 (S 77 (639 : Int))) [68, 69, 70] g14) [68, 69, 70] g22) [69, 70] g28) ok49 (⟨by decide, by decide⟩ : sv_R (639 : Int)) hl5_29 o54) (fun v S1 hq => ?_)
            obtain ⟨r59, rfl, hr59, ok56, md57, hpo58⟩ := hq
            obtain rfl : (sv_sts (sv_sts (sv_sts (sv_up (sv_up (sv_sts S [68, 69, 70] g2) 69 p2 (S 76 (639 : Int))) 70 p2 (S 77 (639 : Int))) [68, 69, 70] g14) [68, 69, 70] g22) [69, 70] g28) = S1 := (funext fun j => md57 j (by intro q; cases q)).symm
            show sv_T sm_XS sm_cs sm_L sm_sh 2 (q_scopesAt p1 p2 S) 264 110 [(0, .ref 0), (1, sv_I p1), (2, sv_I p2), (3, sv_I (647793 : Int)), (4, sv_I l4_15), (5, sv_I l5_29)] [sv_I r59, .ref 85, sv_L (g28 69 (647793 : Int)), sv_I (647793 : Int), .ref 69] (sv_sts (sv_sts (sv_sts (sv_up (sv_up (sv_sts S [68, 69, 70] g2) 69 p2 (S 76 (639 : Int))) 70 p2 (S 77 (639 : Int))) [68, 69, 70] g14) [68, 69, 70] g22) [69, 70] g28)
            have h := h r59 hr59 hpo58
            obtain ⟨o60, h⟩ := h
            have k61 : sv_RL (S 85 r59) := sm_okJ ok56 sm_r85 r59
            have h := h k61
            refine sv_lald hM dX12_scopesAt_110 (sm_a85 _) (by decide) o60.1 o60.2 rfl (x := (S 85 r59)) rfl ?_
            refine sv_anyL hM dX12_scopesAt_111 rfl rfl (fun r62 hr62 _ => ?_)
            have h := h r62 hr62
            refine sv_last sm_X hM dX12_scopesAt_112 (sm_a69 _) (by decide) o21.1 o21.2 rfl ?_
            have ok63 : sm_ok (sv_up (sv_sts (sv_sts (sv_sts (sv_up (sv_up (sv_sts S [68, 69, 70] g2) 69 p2 (S 76 (639 : Int))) 70 p2 (S 77 (639 : Int))) [68, 69, 70] g14) [68, 69, 70] g22) [69, 70] g28) 69 (647793 : Int) r62) := sm_upJ ok56 sm_r69 hr62
            have md64 : sv_mod [68, 69, 70] S (sv_up (sv_sts (sv_sts (sv_sts (sv_up (sv_up (sv_sts S [68, 69, 70] g2) 69 p2 (S 76 (639 : Int))) 70 p2 (S 77 (639 : Int))) [68, 69, 70] g14) [68, 69, 70] g22) [69, 70] g28) 69 (647793 : Int) r62) := sv_mod.up md33 (by decide)
            have md65 : sv_mod [68, 69, 70] (sv_up (sv_up (sv_sts S [68, 69, 70] g2) 69 p2 (S 76 (639 : Int))) 70 p2 (S 77 (639 : Int))) (sv_up (sv_sts (sv_sts (sv_sts (sv_up (sv_up (sv_sts S [68, 69, 70] g2) 69 p2 (S 76 (639 : Int))) 70 p2 (S 77 (639 : Int))) [68, 69, 70] g14) [68, 69, 70] g22) [69, 70] g28) 69 (647793 : Int) r62) := sv_mod.up md34 (by decide)
            have md66 : sv_mod [69, 70] (sv_sts (sv_sts (sv_up (sv_up (sv_sts S [68, 69, 70] g2) 69 p2 (S 76 (639 : Int))) 70 p2 (S 77 (639 : Int))) [68, 69, 70] g14) [68, 69, 70] g22) (sv_up (sv_sts (sv_sts (sv_sts (sv_up (sv_up (sv_sts S [68, 69, 70] g2) 69 p2 (S 76 (639 : Int))) 70 p2 (S 77 (639 : Int))) [68, 69, 70] g14) [68, 69, 70] g22) [69, 70] g28) 69 (647793 : Int) r62) := sv_mod.up md35 (by decide)
            refine sv_aload_n hM dX12_scopesAt_113 rfl rfl ?_
            refine sv_getA hM dX12_scopesAt_114 sm_fl_223 (sm_a0 _) sm_k118 rfl ?_
            refine sv_iload_n hM dX12_scopesAt_117 rfl rfl ?_
            refine sv_aload_n hM dX12_scopesAt_118 rfl rfl ?_
            refine sv_getA hM dX12_scopesAt_119 sm_fl_223 (sm_a0 _) sm_k118 rfl ?_
            refine sv_iload_n hM dX12_scopesAt_122 rfl rfl ?_
            have k67 : sv_RL (g28 70 (647793 : Int)) := sm_okJ ok63 sm_r70 (647793 : Int)
            have h := h k67
            refine sv_lald hM dX12_scopesAt_123 (sm_a70 _) (by decide) o21.1 o21.2 rfl (x := (g28 70 (647793 : Int))) rfl ?_
            refine sv_aload_n hM dX12_scopesAt_124 rfl rfl ?_
            refine sv_getA hM dX12_scopesAt_125 sm_fl_271 (sm_a0 _) sm_k138 rfl ?_
            refine sv_aload_n hM dX12_scopesAt_128 rfl rfl ?_
            refine sv_sipush (d := (639 : Int)) hM dX12_scopesAt_129 rfl rfl ?_
            refine sv_iload hM dX12_scopesAt_132 rfl rfl ?_
            refine sv_callV hM dX12_scopesAt_134 sm_iv_1101 (by decide) (sm_a0 _) rfl rfl (Nat.le_of_ble_eq_true rfl) sm_h226 (Nat.le_of_ble_eq_true rfl) (Nat.le_of_ble_eq_true rfl) (F' := 1) (Nat.le_of_ble_eq_true rfl) rfl (t_of (639 : Int) l5_29 (sv_up (sv_sts (sv_sts (sv_sts (sv_up (sv_up (sv_sts S [68, 69, 70] g2) 69 p2 (S 76 (639 : Int))) 70 p2 (S 77 (639 : Int))) [68, 69, 70] g14) [68, 69, 70] g22) [69, 70] g28) 69 (647793 : Int) r62) ok63 (⟨by decide, by decide⟩ : sv_R (639 : Int)) hl5_29 o54) (fun v S1 hq => ?_)
            obtain ⟨r72, rfl, hr72, ok69, md70, hpo71⟩ := hq
            obtain rfl : (sv_up (sv_sts (sv_sts (sv_sts (sv_up (sv_up (sv_sts S [68, 69, 70] g2) 69 p2 (S 76 (639 : Int))) 70 p2 (S 77 (639 : Int))) [68, 69, 70] g14) [68, 69, 70] g22) [69, 70] g28) 69 (647793 : Int) r62) = S1 := (funext fun j => md70 j (by intro q; cases q)).symm
            show sv_T sm_XS sm_cs sm_L sm_sh 2 (q_scopesAt p1 p2 S) 264 137 [(0, .ref 0), (1, sv_I p1), (2, sv_I p2), (3, sv_I (647793 : Int)), (4, sv_I l4_15), (5, sv_I l5_29)] [sv_I r72, .ref 86, sv_L (g28 70 (647793 : Int)), sv_I (647793 : Int), .ref 70] (sv_up (sv_sts (sv_sts (sv_sts (sv_up (sv_up (sv_sts S [68, 69, 70] g2) 69 p2 (S 76 (639 : Int))) 70 p2 (S 77 (639 : Int))) [68, 69, 70] g14) [68, 69, 70] g22) [69, 70] g28) 69 (647793 : Int) r62)
            have h := h r72 hr72 hpo71
            obtain ⟨o73, h⟩ := h
            have k74 : sv_RL (S 86 r72) := sm_okJ ok69 sm_r86 r72
            have h := h k74
            refine sv_lald hM dX12_scopesAt_137 (sm_a86 _) (by decide) o73.1 o73.2 rfl (x := (S 86 r72)) rfl ?_
            refine sv_anyL hM dX12_scopesAt_138 rfl rfl (fun r75 hr75 _ => ?_)
            have h := h r75 hr75
            refine sv_last sm_X hM dX12_scopesAt_139 (sm_a70 _) (by decide) o21.1 o21.2 rfl ?_
            have ok76 : sm_ok (sv_up (sv_up (sv_sts (sv_sts (sv_sts (sv_up (sv_up (sv_sts S [68, 69, 70] g2) 69 p2 (S 76 (639 : Int))) 70 p2 (S 77 (639 : Int))) [68, 69, 70] g14) [68, 69, 70] g22) [69, 70] g28) 69 (647793 : Int) r62) 70 (647793 : Int) r75) := sm_upJ ok69 sm_r70 hr75
            have md77 : sv_mod [68, 69, 70] S (sv_up (sv_up (sv_sts (sv_sts (sv_sts (sv_up (sv_up (sv_sts S [68, 69, 70] g2) 69 p2 (S 76 (639 : Int))) 70 p2 (S 77 (639 : Int))) [68, 69, 70] g14) [68, 69, 70] g22) [69, 70] g28) 69 (647793 : Int) r62) 70 (647793 : Int) r75) := sv_mod.up md64 (by decide)
            have md78 : sv_mod [68, 69, 70] (sv_up (sv_up (sv_sts S [68, 69, 70] g2) 69 p2 (S 76 (639 : Int))) 70 p2 (S 77 (639 : Int))) (sv_up (sv_up (sv_sts (sv_sts (sv_sts (sv_up (sv_up (sv_sts S [68, 69, 70] g2) 69 p2 (S 76 (639 : Int))) 70 p2 (S 77 (639 : Int))) [68, 69, 70] g14) [68, 69, 70] g22) [69, 70] g28) 69 (647793 : Int) r62) 70 (647793 : Int) r75) := sv_mod.up md65 (by decide)
            have md79 : sv_mod [69, 70] (sv_sts (sv_sts (sv_up (sv_up (sv_sts S [68, 69, 70] g2) 69 p2 (S 76 (639 : Int))) 70 p2 (S 77 (639 : Int))) [68, 69, 70] g14) [68, 69, 70] g22) (sv_up (sv_up (sv_sts (sv_sts (sv_sts (sv_up (sv_up (sv_sts S [68, 69, 70] g2) 69 p2 (S 76 (639 : Int))) 70 p2 (S 77 (639 : Int))) [68, 69, 70] g14) [68, 69, 70] g22) [69, 70] g28) 69 (647793 : Int) r62) 70 (647793 : Int) r75) := sv_mod.up md66 (by decide)
            refine sv_iinc (d := (1 : Int)) hM dX12_scopesAt_140 rfl (by decide) rfl rfl ?_
            show sv_T sm_XS sm_cs sm_L sm_sh 2 (q_scopesAt p1 p2 S) 264 143 [(0, .ref 0), (1, sv_I p1), (2, sv_I p2), (3, sv_I (647793 : Int)), (4, sv_I l4_15), (5, sv_I (l5_29 + (1 : Int)))] [] (sv_up (sv_up (sv_sts (sv_sts (sv_sts (sv_up (sv_up (sv_sts S [68, 69, 70] g2) 69 p2 (S 76 (639 : Int))) 70 p2 (S 77 (639 : Int))) [68, 69, 70] g14) [68, 69, 70] g22) [69, 70] g28) 69 (647793 : Int) r62) 70 (647793 : Int) r75)
            refine sv_goto hM dX12_scopesAt_143 (pc' := 54) rfl ?_
            obtain ⟨o80, h⟩ := h
            have eS := sv_mod.eq md79
            have hb := ih30 ((l5_29 + (1 : Int)), (sv_up (sv_up (sv_sts (sv_sts (sv_sts (sv_up (sv_up (sv_sts S [68, 69, 70] g2) 69 p2 (S 76 (639 : Int))) 70 p2 (S 77 (639 : Int))) [68, 69, 70] g14) [68, 69, 70] g22) [69, 70] g28) 69 (647793 : Int) r62) 70 (647793 : Int) r75)) ⟨o80, (by rw [← eS]; exact ok76), h.1⟩ h.2
            have hb : sv_T sm_XS sm_cs sm_L sm_sh 2 (q_scopesAt p1 p2 S) 264 54 [(0, .ref 0), (1, sv_I p1), (2, sv_I p2), (3, sv_I (647793 : Int)), (4, sv_I l4_15), (5, sv_I (l5_29 + (1 : Int)))] [] (sv_up (sv_up (sv_sts (sv_sts (sv_sts (sv_up (sv_up (sv_sts S [68, 69, 70] g2) 69 p2 (S 76 (639 : Int))) 70 p2 (S 77 (639 : Int))) [68, 69, 70] g14) [68, 69, 70] g22) [69, 70] g28) 69 (647793 : Int) r62) 70 (647793 : Int) r75) := Eq.mpr (congrArg (fun Z => sv_T sm_XS sm_cs sm_L sm_sh 2 (q_scopesAt p1 p2 S) 264 54 [(0, .ref 0), (1, sv_I p1), (2, sv_I p2), (3, sv_I (647793 : Int)), (4, sv_I l4_15), (5, sv_I (l5_29 + (1 : Int)))] [] Z) eS) hb
            exact sv_less (lv := [(0, .ref 0), (1, sv_I p1), (2, sv_I p2), (3, sv_I (647793 : Int)), (4, sv_I l4_15), (5, sv_I (l5_29 + (1 : Int)))]) (sv_Sub_cons rfl (sv_Sub_cons rfl (sv_Sub_cons rfl (sv_Sub_cons rfl (sv_Sub_cons rfl (sv_Sub_cons rfl sv_Sub_nil)))))) hb
          · have h := h.2 (hc)
            refine sv_goto hM dX12_scopesAt_83 (pc' := 140) rfl ?_
            refine sv_iinc (d := (1 : Int)) hM dX12_scopesAt_140 rfl (by decide) rfl rfl ?_
            show sv_T sm_XS sm_cs sm_L sm_sh 2 (q_scopesAt p1 p2 S) 264 143 [(0, .ref 0), (1, sv_I p1), (2, sv_I p2), (3, sv_I (647793 : Int)), (4, sv_I l4_15), (5, sv_I (l5_29 + (1 : Int)))] [] (sv_sts (sv_sts (sv_sts (sv_up (sv_up (sv_sts S [68, 69, 70] g2) 69 p2 (S 76 (639 : Int))) 70 p2 (S 77 (639 : Int))) [68, 69, 70] g14) [68, 69, 70] g22) [69, 70] g28)
            refine sv_goto hM dX12_scopesAt_143 (pc' := 54) rfl ?_
            obtain ⟨o81, h⟩ := h
            have eS := sv_mod.eq md35
            have hb := ih30 ((l5_29 + (1 : Int)), (sv_sts (sv_sts (sv_sts (sv_up (sv_up (sv_sts S [68, 69, 70] g2) 69 p2 (S 76 (639 : Int))) 70 p2 (S 77 (639 : Int))) [68, 69, 70] g14) [68, 69, 70] g22) [69, 70] g28)) ⟨o81, (by rw [← eS]; exact ok49), h.1⟩ h.2
            have hb : sv_T sm_XS sm_cs sm_L sm_sh 2 (q_scopesAt p1 p2 S) 264 54 [(0, .ref 0), (1, sv_I p1), (2, sv_I p2), (3, sv_I (647793 : Int)), (4, sv_I l4_15), (5, sv_I (l5_29 + (1 : Int)))] [] (sv_sts (sv_sts (sv_sts (sv_up (sv_up (sv_sts S [68, 69, 70] g2) 69 p2 (S 76 (639 : Int))) 70 p2 (S 77 (639 : Int))) [68, 69, 70] g14) [68, 69, 70] g22) [69, 70] g28) := Eq.mpr (congrArg (fun Z => sv_T sm_XS sm_cs sm_L sm_sh 2 (q_scopesAt p1 p2 S) 264 54 [(0, .ref 0), (1, sv_I p1), (2, sv_I p2), (3, sv_I (647793 : Int)), (4, sv_I l4_15), (5, sv_I (l5_29 + (1 : Int)))] [] Z) eS) hb
            exact sv_less (lv := [(0, .ref 0), (1, sv_I p1), (2, sv_I p2), (3, sv_I (647793 : Int)), (4, sv_I l4_15), (5, sv_I (l5_29 + (1 : Int)))]) (sv_Sub_cons rfl (sv_Sub_cons rfl (sv_Sub_cons rfl (sv_Sub_cons rfl (sv_Sub_cons rfl (sv_Sub_cons rfl sv_Sub_nil)))))) hb
      have eS := sv_mod.eq (sv_mod.rf (l := [69, 70]) (S := (sv_sts (sv_sts (sv_up (sv_up (sv_sts S [68, 69, 70] g2) 69 p2 (S 76 (639 : Int))) 70 p2 (S 77 (639 : Int))) [68, 69, 70] g14) [68, 69, 70] g22)))
      have hb := hJ ((0 : Int), (sv_sts (sv_sts (sv_up (sv_up (sv_sts S [68, 69, 70] g2) 69 p2 (S 76 (639 : Int))) 70 p2 (S 77 (639 : Int))) [68, 69, 70] g14) [68, 69, 70] g22)) ⟨(⟨by decide, by decide⟩ : sv_R (0 : Int)), (by rw [← eS]; exact ok23), hin31⟩
      have hb : sv_T sm_XS sm_cs sm_L sm_sh 2 (q_scopesAt p1 p2 S) 264 54 [(0, .ref 0), (1, sv_I p1), (2, sv_I p2), (3, sv_I (647793 : Int)), (4, sv_I l4_15), (5, sv_I (0 : Int))] [] (sv_sts (sv_sts (sv_up (sv_up (sv_sts S [68, 69, 70] g2) 69 p2 (S 76 (639 : Int))) 70 p2 (S 77 (639 : Int))) [68, 69, 70] g14) [68, 69, 70] g22) := Eq.mpr (congrArg (fun Z => sv_T sm_XS sm_cs sm_L sm_sh 2 (q_scopesAt p1 p2 S) 264 54 [(0, .ref 0), (1, sv_I p1), (2, sv_I p2), (3, sv_I (647793 : Int)), (4, sv_I l4_15), (5, sv_I (0 : Int))] [] Z) eS) hb
      exact hb
  have eS := sv_mod.eq (sv_mod.rf (l := [68, 69, 70]) (S := (sv_up (sv_up (sv_sts S [68, 69, 70] g2) 69 p2 (S 76 (639 : Int))) 70 p2 (S 77 (639 : Int)))))
  have hb := hJ ((0 : Int), (sv_up (sv_up (sv_sts S [68, 69, 70] g2) 69 p2 (S 76 (639 : Int))) 70 p2 (S 77 (639 : Int)))) ⟨(⟨by decide, by decide⟩ : sv_R (0 : Int)), (by rw [← eS]; exact ok12), hin17⟩
  have hb : sv_T sm_XS sm_cs sm_L sm_sh 2 (q_scopesAt p1 p2 S) 264 40 [(0, .ref 0), (1, sv_I p1), (2, sv_I p2), (3, sv_I (647793 : Int)), (4, sv_I (0 : Int))] [] (sv_up (sv_up (sv_sts S [68, 69, 70] g2) 69 p2 (S 76 (639 : Int))) 70 p2 (S 77 (639 : Int))) := Eq.mpr (congrArg (fun Z => sv_T sm_XS sm_cs sm_L sm_sh 2 (q_scopesAt p1 p2 S) 264 40 [(0, .ref 0), (1, sv_I p1), (2, sv_I p2), (3, sv_I (647793 : Int)), (4, sv_I (0 : Int))] [] Z) eS) hb
  exact hb
def q_typesOf (p1 : Int) (p2 : Int) (S : sv_S) : Option Value → sv_S → Prop := fun v S' => v = none ∧ sm_ok S' ∧ sv_mod [68, 69, 70] S S' ∧ (sm_pt (S' 68) (S' 69) (S' 70) = sm_pt (S 68) (S 69) (S 70))
theorem la_typesOf_0 {x0 : Int} (h0 : 0 ≤ x0) (h1 : x0 < 647800) : 0 ≤ x0 ∧ x0 < 647800 := by omega
theorem la_typesOf_1 {x0 x1 x2 : Int} (h0 : 29 ≤ x0) (h1 : x1 = x2) : (0 : Int) ≤ 0 ∧ 0 ≤ x0 ∧ x1 = x2 := by omega
theorem la_typesOf_2 {x0 x1 : Int} (h0 : x0 ≤ x1) : 0 ≤ x1 - x0 := by omega
theorem la_typesOf_3 {x0 x1 x2 x3 : Int} (h0 : x0 = x1) : x2 ≤ x3 → x0 = x1 := by omega
theorem la_typesOf_4 {x0 x1 : Int} (h0 : x0 ≤ 127) (h1 : 0 ≤ x1) (h2 : ¬ x0 ≤ x1) : 0 ≤ x1 ∧ x1 < 128 := by omega
theorem la_typesOf_5 {x0 x1 x2 x3 x4 : Int} (h0 : x0 ≤ 127) (h1 : 0 ≤ x1) (h2 : x2 = x3) (h3 : ¬ x0 ≤ x1) : x4 = 0 → sv_R (x1 + 1) ∧ (0 ≤ x1 + 1 ∧ x1 + 1 ≤ x0 ∧ x2 = x3) ∧ x0 - (x1 + 1) < x0 - x1 := by omega
theorem la_typesOf_6 {x0 : Int} (h0 : x0 = 1) : 0 ≤ x0 := by omega
theorem la_typesOf_7 {x0 : Int} (h0 : 0 ≤ x0) (h1 : ¬ x0 = 0) : 0 < x0 := by omega
theorem la_typesOf_8 {x0 x1 x2 : Int} (h0 : x0 ≤ 127) (h1 : 1 ≤ x1) (h2 : x1 ≤ 11) (h3 : 0 ≤ x2) (h4 : ¬ x0 ≤ x2) : 1 ≤ x1 ∧ x1 ≤ 11 ∧ 0 ≤ x2 ∧ x2 ≤ 200 := by omega
theorem la_typesOf_9 {x0 : Int} (h0 : x0 = 0) : ¬ x0 = 1 := by omega
theorem la_typesOf_10 {x0 : Int} (h0 : 635639 ≤ x0) (h1 : x0 < 647790) : 635639 ≤ x0 ∧ x0 < 647790 := by omega
theorem la_typesOf_11 {x0 x1 : Int} (h0 : x0 ≤ 127) (h1 : 0 ≤ x1) (h2 : ¬ x0 ≤ x1) : sv_R (x1 + 1) := by omega
theorem la_typesOf_12 {x0 x1 x2 x3 x4 : Int} (h0 : 0 ≤ x0) (h1 : x1 = x2) (h2 : ¬ x3 ≤ x0) (h3 : x4 = x1) : 0 ≤ x0 + 1 ∧ x0 + 1 ≤ x3 ∧ x4 = x2 := by omega
theorem la_typesOf_13 {x0 x1 : Int} : x0 - (x1 + 1) < x0 - x1 := by omega
theorem la_typesOf_14 {x0 x1 x2 : Int} (h0 : x0 = x1) : x2 = 0 → x0 = x1 := by omega
theorem la_typesOf_15 {x0 x1 x2 : Int} (h0 : x0 = x1) (h1 : x2 = x0) : x2 = x1 := by omega
theorem la_typesOf_16 {x0 x1 : Int} : x0 % 2 = 0 → x1 = x1 := by omega
theorem la_typesOf_17 {x0 : Int} : 0 ≤ x0 % 2 := by omega
theorem la_typesOf_18 {x0 : Int} (h0 : 0 ≤ x0 % 2) (h1 : ¬ x0 % 2 = 0) : 0 < x0 % 2 := by omega
set_option maxHeartbeats 2000000 in
theorem f_typesOf : ∀ (p1 : Int) (p2 : Int) (S : sv_S), sm_ok S → sv_R p1 → sv_R p2 → (29 ≤ (S 1071 0) ∧ (S 1071 0) ≤ 127 ∧ 31 ≤ (S 1008 0) ∧ (S 1008 0) ≤ 90 ∧ 1 ≤ (S 1032 0) ∧ (S 1032 0) ≤ 11 ∧ 0 ≤ (S 1055 0) ∧ (S 1055 0) ≤ 19 ∧ (S 1071 0) = 29 + 6 * ((S 1032 0) - 1) + 2 * (S 1055 0) ∧ 0 ≤ (S 1046 0) ∧ (S 1046 0) + 2 * (S 1032 0) ≤ 500 ∧ sm_PD (S 1046 0) (S 1032 0) (S 1071 0) (S 1008 0) ∧ 0 ≤ (S 1071 0) * ((S 1008 0) + 1) ∧ (S 1071 0) * ((S 1008 0) + 1) ≤ 11557 ∧ 0 ≤ p1 ∧ p1 < 647800 ∧ 635639 ≤ p2 ∧ p2 < 647790) → (0 ≤ p1 ∧ p1 < 647800) ∧ (∀ r6 : Int, sv_R r6 → (r6 = (S 68 p1) % 1024 ∧ 0 ≤ r6 ∧ r6 ≤ 1023) → ((∀ g7 : sv_S, (sm_pt (g7 68) (g7 69) (g7 70) = sm_pt (S 68) (S 69) (S 70)) → ((∀ g12 : sv_S, (sm_pt (g12 68) (g12 69) (g12 70) = sm_pt (S 68) (S 69) (S 70)) → ((∀ g17 : sv_S, (sm_pt (g17 68) (g17 69) (g17 70) = sm_pt (S 68) (S 69) (S 70)) → ((∀ g22 : sv_S, (sm_pt (g22 68) (g22 69) (g22 70) = sm_pt (S 68) (S 69) (S 70)) → ((∀ g27 : sv_S, (sm_pt (g27 68) (g27 69) (g27 70) = sm_pt (S 68) (S 69) (S 70)) → ((0 ≤ (0 : Int) ∧ (0 : Int) ≤ (S 1071 0) ∧ sm_pt (g27 68) (g27 69) (g27 70) = sm_pt (S 68) (S 69) (S 70)) ∧ (∀ l4_33 : Int, sv_R l4_33 → ∀ g32 : sv_S, (0 ≤ l4_33 ∧ l4_33 ≤ (S 1071 0) ∧ sm_pt (g32 68) (g32 69) (g32 70) = sm_pt (S 68) (S 69) (S 70)) → (0 ≤ (S 1071 0) - l4_33) ∧ (sv_R (S 1071 0) → ((((S 1071 0) ≤ l4_33) → (sm_pt (g32 68) (g32 69) (g32 70) = sm_pt (S 68) (S 69) (S 70))) ∧ ((¬ ((S 1071 0) ≤ l4_33)) → (sv_RL (g32 69 p1) → (sv_RL (g32 70 p1) → (0 ≤ l4_33 ∧ l4_33 < 128) ∧ (∀ r47 : Int, sv_R r47 → (r47 = sm_in (g32 69 p1) (g32 70 p1) l4_33 ∧ (r47 = 0 ∨ r47 = 1)) → (((r47 = (0 : Int)) → (sv_R (l4_33 + (1 : Int))) ∧ ((0 ≤ (l4_33 + (1 : Int)) ∧ (l4_33 + (1 : Int)) ≤ (S 1071 0) ∧ sm_pt (g32 68) (g32 69) (g32 70) = sm_pt (S 68) (S 69) (S 70)) ∧ ((S 1071 0) - (l4_33 + (1 : Int))) < ((S 1071 0) - l4_33))) ∧ ((¬ (r47 = (0 : Int))) → (1 ≤ (S 1032 0) ∧ (S 1032 0) ≤ 11 ∧ 0 ≤ l4_33 ∧ l4_33 ≤ 200) ∧ (∀ r54 : Int, sv_R r54 → ((r54 = 0 ∨ r54 = 1) ∧ (r54 = 1 → l4_33 < 29 + 6 * ((S 1032 0) - 1))) → (((r54 = (0 : Int)) → (635639 ≤ p2 ∧ p2 < 647790) ∧ (∀ g56 : sv_S, (sm_pt (g56 68) (g56 69) (g56 70) = sm_pt (g32 68) (g32 69) (g32 70)) → (sv_R (l4_33 + (1 : Int))) ∧ ((0 ≤ (l4_33 + (1 : Int)) ∧ (l4_33 + (1 : Int)) ≤ (S 1071 0) ∧ sm_pt (g56 68) (g56 69) (g56 70) = sm_pt (S 68) (S 69) (S 70)) ∧ ((S 1071 0) - (l4_33 + (1 : Int))) < ((S 1071 0) - l4_33)))) ∧ ((¬ (r54 = (0 : Int))) → (635639 ≤ p2 ∧ p2 < 647790) ∧ (∀ g64 : sv_S, (sm_pt (g64 68) (g64 69) (g64 70) = sm_pt (g32 68) (g32 69) (g32 70)) → (sv_R (l4_33 + (1 : Int))) ∧ ((0 ≤ (l4_33 + (1 : Int)) ∧ (l4_33 + (1 : Int)) ≤ (S 1071 0) ∧ sm_pt (g64 68) (g64 69) (g64 70) = sm_pt (S 68) (S 69) (S 70)) ∧ ((S 1071 0) - (l4_33 + (1 : Int))) < ((S 1071 0) - l4_33))))))))))))))))) ∧ (∀ r72 : Int, (0 ≤ r72 ∧ r72 ≤ (384 : Int)) → (((r72 = (0 : Int)) → (sm_pt (g22 68) (g22 69) (g22 70) = sm_pt (S 68) (S 69) (S 70))) ∧ ((¬ (r72 = (0 : Int))) → (635639 ≤ p2 ∧ p2 < 647790) ∧ (∀ g74 : sv_S, (sm_pt (g74 68) (g74 69) (g74 70) = sm_pt (g22 68) (g22 69) (g22 70)) → (sm_pt (g74 68) (g74 69) (g74 70) = sm_pt (S 68) (S 69) (S 70)))))))) ∧ (∀ r81 : Int, (0 ≤ r81 ∧ r81 ≤ (112 : Int)) → (((r81 = (0 : Int)) → (sm_pt (g17 68) (g17 69) (g17 70) = sm_pt (S 68) (S 69) (S 70))) ∧ ((¬ (r81 = (0 : Int))) → (635639 ≤ p2 ∧ p2 < 647790) ∧ (∀ g83 : sv_S, (sm_pt (g83 68) (g83 69) (g83 70) = sm_pt (g17 68) (g17 69) (g17 70)) → (sm_pt (g83 68) (g83 69) (g83 70) = sm_pt (S 68) (S 69) (S 70)))))))) ∧ (∀ r90 : Int, (0 ≤ r90 ∧ r90 ≤ (12 : Int)) → (((r90 = (0 : Int)) → (sm_pt (g12 68) (g12 69) (g12 70) = sm_pt (S 68) (S 69) (S 70))) ∧ ((¬ (r90 = (0 : Int))) → (635639 ≤ p2 ∧ p2 < 647790) ∧ (∀ g92 : sv_S, (sm_pt (g92 68) (g92 69) (g92 70) = sm_pt (g12 68) (g12 69) (g12 70)) → (sm_pt (g92 68) (g92 69) (g92 70) = sm_pt (S 68) (S 69) (S 70)))))))) ∧ (∀ r99 : Int, (0 ≤ r99 ∧ r99 ≤ (2 : Int)) → (((r99 = (0 : Int)) → (sm_pt (g7 68) (g7 69) (g7 70) = sm_pt (S 68) (S 69) (S 70))) ∧ ((¬ (r99 = (0 : Int))) → (635639 ≤ p2 ∧ p2 < 647790) ∧ (∀ g101 : sv_S, (sm_pt (g101 68) (g101 69) (g101 70) = sm_pt (g7 68) (g7 69) (g7 70)) → (sm_pt (g101 68) (g101 69) (g101 70) = sm_pt (S 68) (S 69) (S 70)))))))) ∧ ((((r6 % 2) = (0 : Int)) → (sm_pt (S 68) (S 69) (S 70) = sm_pt (S 68) (S 69) (S 70))) ∧ ((¬ ((r6 % 2) = (0 : Int))) → (635639 ≤ p2 ∧ p2 < 647790) ∧ (∀ g109 : sv_S, (sm_pt (g109 68) (g109 69) (g109 70) = sm_pt (S 68) (S 69) (S 70)) → (sm_pt (g109 68) (g109 69) (g109 70) = sm_pt (S 68) (S 69) (S 70))))))) := by
  intro p1
  intro p2
  intro S
  intro h1_
  intro h2_
  intro h3_
  rintro ⟨h4_, ⟨h5_, ⟨h6_, ⟨h7_, ⟨h8_, ⟨h9_, ⟨h10_, ⟨h11_, ⟨h12_, ⟨h13_, ⟨h14_, ⟨h15_, ⟨h16_, ⟨h17_, ⟨h18_, ⟨h19_, ⟨h20_, h21_⟩⟩⟩⟩⟩⟩⟩⟩⟩⟩⟩⟩⟩⟩⟩⟩⟩
  refine ⟨(la_typesOf_0 h18_ h19_), ?_⟩
  intro r6
  intro h22_
  rintro ⟨h23_, ⟨h24_, h25_⟩⟩
  refine ⟨?_, ?_⟩
  · skip
    intro g7
    intro h26_
    refine ⟨?_, ?_⟩
    · skip
      intro g12
      intro h27_
      refine ⟨?_, ?_⟩
      · skip
        intro g17
        intro h28_
        refine ⟨?_, ?_⟩
        · skip
          intro g22
          intro h29_
          refine ⟨?_, ?_⟩
          · skip
            intro g27
            intro h30_
            refine ⟨(la_typesOf_1 h4_ h30_), ?_⟩
            intro l4_33
            intro h31_
            intro g32
            rintro ⟨h32_, ⟨h33_, h34_⟩⟩
            refine ⟨(la_typesOf_2 h33_), ?_⟩
            intro h35_
            refine ⟨(la_typesOf_3 h34_), ?_⟩
            intro h36_
            intro h37_
            intro h38_
            refine ⟨(la_typesOf_4 h5_ h32_ h36_), ?_⟩
            intro r47
            intro h39_
            rintro ⟨h40_, h41_⟩
            refine ⟨(la_typesOf_5 h5_ h32_ h34_ h36_), ?_⟩
            intro h42_
            have h43_ := (h41_.resolve_left h42_)
            refine ⟨(la_typesOf_8 h5_ h8_ h9_ h32_ h36_), ?_⟩
            intro r54
            intro h44_
            rintro ⟨h45_, h46_⟩
            refine ⟨?_, ?_⟩
            · skip
              intro h47_
              have h48_ := (h45_.resolve_right (la_typesOf_9 h47_))
              refine ⟨(la_typesOf_10 h20_ h21_), ?_⟩
              intro g56
              intro h49_
              refine ⟨(la_typesOf_11 h5_ h32_ h36_), ?_⟩
              refine ⟨(la_typesOf_12 h32_ h34_ h36_ h49_), ?_⟩
              exact la_typesOf_13
            intro h50_
            have h51_ := (h45_.resolve_left h50_)
            have h52_ := (h46_ h51_)
            refine ⟨(la_typesOf_10 h20_ h21_), ?_⟩
            intro g64
            intro h53_
            refine ⟨(la_typesOf_11 h5_ h32_ h36_), ?_⟩
            refine ⟨(la_typesOf_12 h32_ h34_ h36_ h53_), ?_⟩
            exact la_typesOf_13
          intro r72
          rintro ⟨h54_, h55_⟩
          refine ⟨(la_typesOf_14 h29_), ?_⟩
          intro h56_
          refine ⟨(la_typesOf_10 h20_ h21_), ?_⟩
          intro g74
          intro h57_
          exact (la_typesOf_15 h29_ h57_)
        intro r81
        rintro ⟨h58_, h59_⟩
        refine ⟨(la_typesOf_14 h28_), ?_⟩
        intro h60_
        refine ⟨(la_typesOf_10 h20_ h21_), ?_⟩
        intro g83
        intro h61_
        exact (la_typesOf_15 h28_ h61_)
      intro r90
      rintro ⟨h62_, h63_⟩
      refine ⟨(la_typesOf_14 h27_), ?_⟩
      intro h64_
      refine ⟨(la_typesOf_10 h20_ h21_), ?_⟩
      intro g92
      intro h65_
      exact (la_typesOf_15 h27_ h65_)
    intro r99
    rintro ⟨h66_, h67_⟩
    refine ⟨(la_typesOf_14 h26_), ?_⟩
    intro h68_
    refine ⟨(la_typesOf_10 h20_ h21_), ?_⟩
    intro g101
    intro h69_
    exact (la_typesOf_15 h26_ h69_)
  refine ⟨la_typesOf_16, ?_⟩
  intro h70_
  refine ⟨(la_typesOf_10 h20_ h21_), ?_⟩
  intro g109
  intro h71_
  exact h71_
set_option maxRecDepth 8000 in
set_option maxHeartbeats 2000000 in
theorem t_typesOf : ∀ (p1 : Int) (p2 : Int) (S : sv_S), sm_ok S → sv_R p1 → sv_R p2 → (29 ≤ (S 1071 0) ∧ (S 1071 0) ≤ 127 ∧ 31 ≤ (S 1008 0) ∧ (S 1008 0) ≤ 90 ∧ 1 ≤ (S 1032 0) ∧ (S 1032 0) ≤ 11 ∧ 0 ≤ (S 1055 0) ∧ (S 1055 0) ≤ 19 ∧ (S 1071 0) = 29 + 6 * ((S 1032 0) - 1) + 2 * (S 1055 0) ∧ 0 ≤ (S 1046 0) ∧ (S 1046 0) + 2 * (S 1032 0) ≤ 500 ∧ sm_PD (S 1046 0) (S 1032 0) (S 1071 0) (S 1008 0) ∧ 0 ≤ (S 1071 0) * ((S 1008 0) + 1) ∧ (S 1071 0) * ((S 1008 0) + 1) ≤ 11557 ∧ 0 ≤ p1 ∧ p1 < 647800 ∧ 635639 ≤ p2 ∧ p2 < 647790) → sv_T sm_XS sm_cs sm_L sm_sh 3 (q_typesOf p1 p2 S) 271 0 (lv_args 0 [.ref 0, sv_I p1, sv_I p2]) [] S := by
  intro p1 p2 S hok hp1 hp2 hpre
  have h := f_typesOf p1 p2 S hok hp1 hp2 hpre
  have hM := sm_h271
  show sv_T sm_XS sm_cs sm_L sm_sh 3 (q_typesOf p1 p2 S) 271 0 [(0, .ref 0), (1, sv_I p1), (2, sv_I p2)] [] S
  refine sv_aload_n hM dX12_typesOf_0 rfl rfl ?_
  refine sv_iload_n hM dX12_typesOf_1 rfl rfl ?_
  obtain ⟨o1, h⟩ := h
  refine sv_callV hM dX12_typesOf_2 sm_iv_1047 (by decide) (sm_a0 _) rfl rfl (Nat.le_of_ble_eq_true rfl) sm_h202 (Nat.le_of_ble_eq_true rfl) (Nat.le_of_ble_eq_true rfl) (F' := 0) (Nat.le_of_ble_eq_true rfl) rfl (t_has p1 S hok hp1 o1) (fun v S1 hq => ?_)
  obtain ⟨r6, rfl, hr6, ok3, md4, hpo5⟩ := hq
  obtain rfl : S = S1 := (funext fun j => md4 j (by intro q; cases q)).symm
  show sv_T sm_XS sm_cs sm_L sm_sh 3 (q_typesOf p1 p2 S) 271 5 [(0, .ref 0), (1, sv_I p1), (2, sv_I p2)] [sv_I r6] S
  have h := h r6 hr6 hpo5
  refine sv_istore_n hM dX12_typesOf_5 (by decide) rfl ?_
  show sv_T sm_XS sm_cs sm_L sm_sh 3 (q_typesOf p1 p2 S) 271 6 [(0, .ref 0), (1, sv_I p1), (2, sv_I p2), (3, sv_I r6)] [] S
  have J107 : ∀ g7 : sv_S, sm_ok (sv_sts S [68, 69, 70] g7) → (sm_pt (g7 68) (g7 69) (g7 70) = sm_pt (S 68) (S 69) (S 70)) → sv_T sm_XS sm_cs sm_L sm_sh 3 (q_typesOf p1 p2 S) 271 19 [(0, .ref 0), (1, sv_I p1), (2, sv_I p2), (3, sv_I r6)] [] (sv_sts S [68, 69, 70] g7) := by
    intro  g7 ok8 hin9
    have h := h.1 g7 hin9
    have md10 : sv_mod [68, 69, 70] S (sv_sts S [68, 69, 70] g7) := sv_mod.sts sv_mod.rf (by decide)
    have md11 : sv_mod [68, 69, 70] S (sv_sts S [68, 69, 70] g7) := sv_mod.sts sv_mod.rf (by decide)
    have J98 : ∀ g12 : sv_S, sm_ok (sv_sts (sv_sts S [68, 69, 70] g7) [68, 69, 70] g12) → (sm_pt (g12 68) (g12 69) (g12 70) = sm_pt (S 68) (S 69) (S 70)) → sv_T sm_XS sm_cs sm_L sm_sh 3 (q_typesOf p1 p2 S) 271 32 [(0, .ref 0), (1, sv_I p1), (2, sv_I p2), (3, sv_I r6)] [] (sv_sts (sv_sts S [68, 69, 70] g7) [68, 69, 70] g12) := by
      intro  g12 ok13 hin14
      have h := h.1 g12 hin14
      have md15 : sv_mod [68, 69, 70] S (sv_sts (sv_sts S [68, 69, 70] g7) [68, 69, 70] g12) := sv_mod.sts md10 (by decide)
      have md16 : sv_mod [68, 69, 70] (sv_sts S [68, 69, 70] g7) (sv_sts (sv_sts S [68, 69, 70] g7) [68, 69, 70] g12) := sv_mod.sts sv_mod.rf (by decide)
      have J89 : ∀ g17 : sv_S, sm_ok (sv_sts (sv_sts (sv_sts S [68, 69, 70] g7) [68, 69, 70] g12) [68, 69, 70] g17) → (sm_pt (g17 68) (g17 69) (g17 70) = sm_pt (S 68) (S 69) (S 70)) → sv_T sm_XS sm_cs sm_L sm_sh 3 (q_typesOf p1 p2 S) 271 46 [(0, .ref 0), (1, sv_I p1), (2, sv_I p2), (3, sv_I r6)] [] (sv_sts (sv_sts (sv_sts S [68, 69, 70] g7) [68, 69, 70] g12) [68, 69, 70] g17) := by
        intro  g17 ok18 hin19
        have h := h.1 g17 hin19
        have md20 : sv_mod [68, 69, 70] S (sv_sts (sv_sts (sv_sts S [68, 69, 70] g7) [68, 69, 70] g12) [68, 69, 70] g17) := sv_mod.sts md15 (by decide)
        have md21 : sv_mod [68, 69, 70] (sv_sts (sv_sts S [68, 69, 70] g7) [68, 69, 70] g12) (sv_sts (sv_sts (sv_sts S [68, 69, 70] g7) [68, 69, 70] g12) [68, 69, 70] g17) := sv_mod.sts sv_mod.rf (by decide)
        have J80 : ∀ g22 : sv_S, sm_ok (sv_sts (sv_sts (sv_sts (sv_sts S [68, 69, 70] g7) [68, 69, 70] g12) [68, 69, 70] g17) [68, 69, 70] g22) → (sm_pt (g22 68) (g22 69) (g22 70) = sm_pt (S 68) (S 69) (S 70)) → sv_T sm_XS sm_cs sm_L sm_sh 3 (q_typesOf p1 p2 S) 271 60 [(0, .ref 0), (1, sv_I p1), (2, sv_I p2), (3, sv_I r6)] [] (sv_sts (sv_sts (sv_sts (sv_sts S [68, 69, 70] g7) [68, 69, 70] g12) [68, 69, 70] g17) [68, 69, 70] g22) := by
          intro  g22 ok23 hin24
          have h := h.1 g22 hin24
          have md25 : sv_mod [68, 69, 70] S (sv_sts (sv_sts (sv_sts (sv_sts S [68, 69, 70] g7) [68, 69, 70] g12) [68, 69, 70] g17) [68, 69, 70] g22) := sv_mod.sts md20 (by decide)
          have md26 : sv_mod [68, 69, 70] (sv_sts (sv_sts (sv_sts S [68, 69, 70] g7) [68, 69, 70] g12) [68, 69, 70] g17) (sv_sts (sv_sts (sv_sts (sv_sts S [68, 69, 70] g7) [68, 69, 70] g12) [68, 69, 70] g17) [68, 69, 70] g22) := sv_mod.sts sv_mod.rf (by decide)
          have J71 : ∀ g27 : sv_S, sm_ok (sv_sts (sv_sts (sv_sts (sv_sts (sv_sts S [68, 69, 70] g7) [68, 69, 70] g12) [68, 69, 70] g17) [68, 69, 70] g22) [68, 69, 70] g27) → (sm_pt (g27 68) (g27 69) (g27 70) = sm_pt (S 68) (S 69) (S 70)) → sv_T sm_XS sm_cs sm_L sm_sh 3 (q_typesOf p1 p2 S) 271 75 [(0, .ref 0), (1, sv_I p1), (2, sv_I p2), (3, sv_I r6)] [] (sv_sts (sv_sts (sv_sts (sv_sts (sv_sts S [68, 69, 70] g7) [68, 69, 70] g12) [68, 69, 70] g17) [68, 69, 70] g22) [68, 69, 70] g27) := by
            intro  g27 ok28 hin29
            have h := h.1 g27 hin29
            have md30 : sv_mod [68, 69, 70] S (sv_sts (sv_sts (sv_sts (sv_sts (sv_sts S [68, 69, 70] g7) [68, 69, 70] g12) [68, 69, 70] g17) [68, 69, 70] g22) [68, 69, 70] g27) := sv_mod.sts md25 (by decide)
            have md31 : sv_mod [68, 69, 70] (sv_sts (sv_sts (sv_sts (sv_sts S [68, 69, 70] g7) [68, 69, 70] g12) [68, 69, 70] g17) [68, 69, 70] g22) (sv_sts (sv_sts (sv_sts (sv_sts (sv_sts S [68, 69, 70] g7) [68, 69, 70] g12) [68, 69, 70] g17) [68, 69, 70] g22) [68, 69, 70] g27) := sv_mod.sts sv_mod.rf (by decide)
            refine sv_iconst (d := (0 : Int)) hM dX12_typesOf_75 rfl rfl ?_
            refine sv_istore hM dX12_typesOf_76 (by decide) rfl ?_
            show sv_T sm_XS sm_cs sm_L sm_sh 3 (q_typesOf p1 p2 S) 271 78 [(0, .ref 0), (1, sv_I p1), (2, sv_I p2), (3, sv_I r6), (4, sv_I (0 : Int))] [] (sv_sts (sv_sts (sv_sts (sv_sts (sv_sts S [68, 69, 70] g7) [68, 69, 70] g12) [68, 69, 70] g17) [68, 69, 70] g22) [68, 69, 70] g27)
            obtain ⟨hin35, h⟩ := h
            have hJ : ∀ a : Int × sv_S, (sv_R a.1 ∧ sm_ok (sv_sts (sv_sts (sv_sts (sv_sts (sv_sts (sv_sts S [68, 69, 70] g7) [68, 69, 70] g12) [68, 69, 70] g17) [68, 69, 70] g22) [68, 69, 70] g27) [68, 69, 70] a.2) ∧ (0 ≤ a.1 ∧ a.1 ≤ (S 1071 0) ∧ sm_pt (a.2 68) (a.2 69) (a.2 70) = sm_pt (S 68) (S 69) (S 70))) → sv_T sm_XS sm_cs sm_L sm_sh 3 (q_typesOf p1 p2 S) 271 78 [(0, .ref 0), (1, sv_I p1), (2, sv_I p2), (3, sv_I r6), (4, sv_I a.1)] [] (sv_sts (sv_sts (sv_sts (sv_sts (sv_sts (sv_sts S [68, 69, 70] g7) [68, 69, 70] g12) [68, 69, 70] g17) [68, 69, 70] g22) [68, 69, 70] g27) [68, 69, 70] a.2) := by
              refine sv_loop (α := Int × sv_S) (fun a => sv_R a.1 ∧ sm_ok (sv_sts (sv_sts (sv_sts (sv_sts (sv_sts (sv_sts S [68, 69, 70] g7) [68, 69, 70] g12) [68, 69, 70] g17) [68, 69, 70] g22) [68, 69, 70] g27) [68, 69, 70] a.2) ∧ (0 ≤ a.1 ∧ a.1 ≤ (S 1071 0) ∧ sm_pt (a.2 68) (a.2 69) (a.2 70) = sm_pt (S 68) (S 69) (S 70))) (fun a => (S 1071 0) - a.1) (fun a => sv_T sm_XS sm_cs sm_L sm_sh 3 (q_typesOf p1 p2 S) 271 78 [(0, .ref 0), (1, sv_I p1), (2, sv_I p2), (3, sv_I r6), (4, sv_I a.1)] [] (sv_sts (sv_sts (sv_sts (sv_sts (sv_sts (sv_sts S [68, 69, 70] g7) [68, 69, 70] g12) [68, 69, 70] g17) [68, 69, 70] g22) [68, 69, 70] g27) [68, 69, 70] a.2)) (fun a q => (h a.1 q.1 a.2 q.2.2).1) (fun a q ih34 => ?_)
              obtain ⟨l4_33, g32⟩ := a
              obtain ⟨hl4_33, ok36, hin35i⟩ := q
              have h := (h l4_33 hl4_33 g32 hin35i).2
              show sv_T sm_XS sm_cs sm_L sm_sh 3 (q_typesOf p1 p2 S) 271 78 [(0, .ref 0), (1, sv_I p1), (2, sv_I p2), (3, sv_I r6), (4, sv_I l4_33)] [] (sv_sts (sv_sts (sv_sts (sv_sts (sv_sts (sv_sts S [68, 69, 70] g7) [68, 69, 70] g12) [68, 69, 70] g17) [68, 69, 70] g22) [68, 69, 70] g27) [68, 69, 70] g32)
              have md37 : sv_mod [68, 69, 70] S (sv_sts (sv_sts (sv_sts (sv_sts (sv_sts (sv_sts S [68, 69, 70] g7) [68, 69, 70] g12) [68, 69, 70] g17) [68, 69, 70] g22) [68, 69, 70] g27) [68, 69, 70] g32) := sv_mod.sts md30 (by decide)
              have md38 : sv_mod [68, 69, 70] (sv_sts (sv_sts (sv_sts (sv_sts (sv_sts S [68, 69, 70] g7) [68, 69, 70] g12) [68, 69, 70] g17) [68, 69, 70] g22) [68, 69, 70] g27) (sv_sts (sv_sts (sv_sts (sv_sts (sv_sts (sv_sts S [68, 69, 70] g7) [68, 69, 70] g12) [68, 69, 70] g17) [68, 69, 70] g22) [68, 69, 70] g27) [68, 69, 70] g32) := sv_mod.sts sv_mod.rf (by decide)
              refine sv_iload hM dX12_typesOf_78 rfl rfl ?_
              refine sv_aload_n hM dX12_typesOf_80 rfl rfl ?_
              have k39 : sv_R (S 1071 0) := sm_okI ok36 sm_r1071 0
              have h := h k39
              refine sv_getI hM dX12_typesOf_81 sm_fl_765 (sm_a0 _) sm_k71 rfl (x := (S 1071 0)) rfl ?_
              refine sv_icmp_ge hM dX12_typesOf_84 hl4_33 k39 (t := 134) rfl rfl (fun hc => ?_) (fun hc => ?_)
              · have h := h.1 (hc)
                exact sv_vret hM dX12_typesOf_134 rfl ⟨rfl, ok36, md37, h⟩
              · have h := h.2 (hc)
                refine sv_aload_n hM dX12_typesOf_87 rfl rfl ?_
                refine sv_getA hM dX12_typesOf_88 sm_fl_220 (sm_a0 _) sm_k117 rfl ?_
                refine sv_iload_n hM dX12_typesOf_91 rfl rfl ?_
                have k40 : sv_RL (g32 69 p1) := sm_okJ ok36 sm_r69 p1
                have h := h k40
                refine sv_lald hM dX12_typesOf_92 (sm_a69 _) (by decide) o1.1 o1.2 rfl (x := (g32 69 p1)) rfl ?_
                refine sv_aload_n hM dX12_typesOf_93 rfl rfl ?_
                refine sv_getA hM dX12_typesOf_94 sm_fl_223 (sm_a0 _) sm_k118 rfl ?_
                refine sv_iload_n hM dX12_typesOf_97 rfl rfl ?_
                have k41 : sv_RL (g32 70 p1) := sm_okJ ok36 sm_r70 p1
                have h := h k41
                refine sv_lald hM dX12_typesOf_98 (sm_a70 _) (by decide) o1.1 o1.2 rfl (x := (g32 70 p1)) rfl ?_
                refine sv_iload hM dX12_typesOf_99 rfl rfl ?_
                obtain ⟨o42, h⟩ := h
                refine sv_callS hM dX12_typesOf_101 sm_iv_1125 (Nat.le_of_ble_eq_true rfl) rfl rfl (Nat.le_of_ble_eq_true rfl) sm_h217 (Nat.le_of_ble_eq_true rfl) (Nat.le_of_ble_eq_true rfl) (F' := 0) (Nat.le_of_ble_eq_true rfl) rfl (t_isIn (g32 69 p1) (g32 70 p1) l4_33 (sv_sts (sv_sts (sv_sts (sv_sts (sv_sts (sv_sts S [68, 69, 70] g7) [68, 69, 70] g12) [68, 69, 70] g17) [68, 69, 70] g22) [68, 69, 70] g27) [68, 69, 70] g32) ok36 k40 k41 hl4_33 o42) (fun v S1 hq => ?_)
                obtain ⟨r47, rfl, hr47, ok44, md45, hpo46⟩ := hq
                obtain rfl : (sv_sts (sv_sts (sv_sts (sv_sts (sv_sts (sv_sts S [68, 69, 70] g7) [68, 69, 70] g12) [68, 69, 70] g17) [68, 69, 70] g22) [68, 69, 70] g27) [68, 69, 70] g32) = S1 := (funext fun j => md45 j (by intro q; cases q)).symm
                show sv_T sm_XS sm_cs sm_L sm_sh 3 (q_typesOf p1 p2 S) 271 104 [(0, .ref 0), (1, sv_I p1), (2, sv_I p2), (3, sv_I r6), (4, sv_I l4_33)] [sv_I r47] (sv_sts (sv_sts (sv_sts (sv_sts (sv_sts (sv_sts S [68, 69, 70] g7) [68, 69, 70] g12) [68, 69, 70] g17) [68, 69, 70] g22) [68, 69, 70] g27) [68, 69, 70] g32)
                have h := h r47 hr47 hpo46
                refine sv_cond_eq hM dX12_typesOf_104 hr47 (t := 128) rfl rfl (fun hc => ?_) (fun hc => ?_)
                · have h := h.1 (hc)
                  refine sv_iinc (d := (1 : Int)) hM dX12_typesOf_128 rfl (by decide) rfl rfl ?_
                  show sv_T sm_XS sm_cs sm_L sm_sh 3 (q_typesOf p1 p2 S) 271 131 [(0, .ref 0), (1, sv_I p1), (2, sv_I p2), (3, sv_I r6), (4, sv_I (l4_33 + (1 : Int)))] [] (sv_sts (sv_sts (sv_sts (sv_sts (sv_sts (sv_sts S [68, 69, 70] g7) [68, 69, 70] g12) [68, 69, 70] g17) [68, 69, 70] g22) [68, 69, 70] g27) [68, 69, 70] g32)
                  refine sv_goto hM dX12_typesOf_131 (pc' := 78) rfl ?_
                  obtain ⟨o48, h⟩ := h
                  have eS := sv_mod.eq md38
                  have hb := ih34 ((l4_33 + (1 : Int)), (sv_sts (sv_sts (sv_sts (sv_sts (sv_sts (sv_sts S [68, 69, 70] g7) [68, 69, 70] g12) [68, 69, 70] g17) [68, 69, 70] g22) [68, 69, 70] g27) [68, 69, 70] g32)) ⟨o48, (by rw [← eS]; exact ok44), h.1⟩ h.2
                  have hb : sv_T sm_XS sm_cs sm_L sm_sh 3 (q_typesOf p1 p2 S) 271 78 [(0, .ref 0), (1, sv_I p1), (2, sv_I p2), (3, sv_I r6), (4, sv_I (l4_33 + (1 : Int)))] [] (sv_sts (sv_sts (sv_sts (sv_sts (sv_sts (sv_sts S [68, 69, 70] g7) [68, 69, 70] g12) [68, 69, 70] g17) [68, 69, 70] g22) [68, 69, 70] g27) [68, 69, 70] g32) := Eq.mpr (congrArg (fun Z => sv_T sm_XS sm_cs sm_L sm_sh 3 (q_typesOf p1 p2 S) 271 78 [(0, .ref 0), (1, sv_I p1), (2, sv_I p2), (3, sv_I r6), (4, sv_I (l4_33 + (1 : Int)))] [] Z) eS) hb
                  exact sv_less (lv := [(0, .ref 0), (1, sv_I p1), (2, sv_I p2), (3, sv_I r6), (4, sv_I (l4_33 + (1 : Int)))]) (sv_Sub_cons rfl (sv_Sub_cons rfl (sv_Sub_cons rfl (sv_Sub_cons rfl (sv_Sub_cons rfl sv_Sub_nil))))) hb
                · have h := h.2 (hc)
                  refine sv_aload_n hM dX12_typesOf_107 rfl rfl ?_
                  refine sv_iload_n hM dX12_typesOf_108 rfl rfl ?_
                  refine sv_aload_n hM dX12_typesOf_109 rfl rfl ?_
                  refine sv_iload hM dX12_typesOf_110 rfl rfl ?_
                  obtain ⟨o49, h⟩ := h
                  refine sv_callV hM dX12_typesOf_112 sm_iv_1115 (by decide) (sm_a0 _) rfl rfl (Nat.le_of_ble_eq_true rfl) sm_h237 (Nat.le_of_ble_eq_true rfl) (Nat.le_of_ble_eq_true rfl) (F' := 0) (Nat.le_of_ble_eq_true rfl) rfl (t_isFunctionLabel l4_33 (sv_sts (sv_sts (sv_sts (sv_sts (sv_sts (sv_sts S [68, 69, 70] g7) [68, 69, 70] g12) [68, 69, 70] g17) [68, 69, 70] g22) [68, 69, 70] g27) [68, 69, 70] g32) ok44 hl4_33 o49) (fun v S1 hq => ?_)
                  obtain ⟨r54, rfl, hr54, ok51, md52, hpo53⟩ := hq
                  obtain rfl : (sv_sts (sv_sts (sv_sts (sv_sts (sv_sts (sv_sts S [68, 69, 70] g7) [68, 69, 70] g12) [68, 69, 70] g17) [68, 69, 70] g22) [68, 69, 70] g27) [68, 69, 70] g32) = S1 := (funext fun j => md52 j (by intro q; cases q)).symm
                  show sv_T sm_XS sm_cs sm_L sm_sh 3 (q_typesOf p1 p2 S) 271 115 [(0, .ref 0), (1, sv_I p1), (2, sv_I p2), (3, sv_I r6), (4, sv_I l4_33)] [sv_I r54, sv_I p2, .ref 0] (sv_sts (sv_sts (sv_sts (sv_sts (sv_sts (sv_sts S [68, 69, 70] g7) [68, 69, 70] g12) [68, 69, 70] g17) [68, 69, 70] g22) [68, 69, 70] g27) [68, 69, 70] g32)
                  have h := h r54 hr54 hpo53
                  refine sv_cond_eq hM dX12_typesOf_115 hr54 (t := 123) rfl rfl (fun hc => ?_) (fun hc => ?_)
                  · have h := h.1 (hc)
                    refine sv_bipush (d := (20 : Int)) hM dX12_typesOf_123 rfl rfl ?_
                    obtain ⟨o55, h⟩ := h
                    refine sv_callV hM dX12_typesOf_125 sm_iv_1078 (by decide) (sm_a0 _) rfl rfl (Nat.le_of_ble_eq_true rfl) sm_h215 (Nat.le_of_ble_eq_true rfl) (Nat.le_of_ble_eq_true rfl) (F' := 2) (Nat.le_of_ble_eq_true rfl) rfl (t_addString p2 (20 : Int) (sv_sts (sv_sts (sv_sts (sv_sts (sv_sts (sv_sts S [68, 69, 70] g7) [68, 69, 70] g12) [68, 69, 70] g17) [68, 69, 70] g22) [68, 69, 70] g27) [68, 69, 70] g32) ok51 hp2 (⟨by decide, by decide⟩ : sv_R (20 : Int)) o55) (fun v S1 hq => ?_)
                    obtain ⟨rfl, ok57, md58, hpo59⟩ := hq
                    obtain ⟨g56, rfl⟩ : ∃ g, S1 = sv_sts (sv_sts (sv_sts (sv_sts (sv_sts (sv_sts (sv_sts S [68, 69, 70] g7) [68, 69, 70] g12) [68, 69, 70] g17) [68, 69, 70] g22) [68, 69, 70] g27) [68, 69, 70] g32) [68, 69, 70] g := ⟨_, md58.eq⟩
                    show sv_T sm_XS sm_cs sm_L sm_sh 3 (q_typesOf p1 p2 S) 271 128 [(0, .ref 0), (1, sv_I p1), (2, sv_I p2), (3, sv_I r6), (4, sv_I l4_33)] [] (sv_sts (sv_sts (sv_sts (sv_sts (sv_sts (sv_sts (sv_sts S [68, 69, 70] g7) [68, 69, 70] g12) [68, 69, 70] g17) [68, 69, 70] g22) [68, 69, 70] g27) [68, 69, 70] g32) [68, 69, 70] g56)
                    have md60 : sv_mod [68, 69, 70] S (sv_sts (sv_sts (sv_sts (sv_sts (sv_sts (sv_sts (sv_sts S [68, 69, 70] g7) [68, 69, 70] g12) [68, 69, 70] g17) [68, 69, 70] g22) [68, 69, 70] g27) [68, 69, 70] g32) [68, 69, 70] g56) := sv_mod.sts md37 (by decide)
                    have md61 : sv_mod [68, 69, 70] (sv_sts (sv_sts (sv_sts (sv_sts (sv_sts S [68, 69, 70] g7) [68, 69, 70] g12) [68, 69, 70] g17) [68, 69, 70] g22) [68, 69, 70] g27) (sv_sts (sv_sts (sv_sts (sv_sts (sv_sts (sv_sts (sv_sts S [68, 69, 70] g7) [68, 69, 70] g12) [68, 69, 70] g17) [68, 69, 70] g22) [68, 69, 70] g27) [68, 69, 70] g32) [68, 69, 70] g56) := sv_mod.sts md38 (by decide)
                    have h := h g56 hpo59
                    refine sv_iinc (d := (1 : Int)) hM dX12_typesOf_128 rfl (by decide) rfl rfl ?_
                    show sv_T sm_XS sm_cs sm_L sm_sh 3 (q_typesOf p1 p2 S) 271 131 [(0, .ref 0), (1, sv_I p1), (2, sv_I p2), (3, sv_I r6), (4, sv_I (l4_33 + (1 : Int)))] [] (sv_sts (sv_sts (sv_sts (sv_sts (sv_sts (sv_sts (sv_sts S [68, 69, 70] g7) [68, 69, 70] g12) [68, 69, 70] g17) [68, 69, 70] g22) [68, 69, 70] g27) [68, 69, 70] g32) [68, 69, 70] g56)
                    refine sv_goto hM dX12_typesOf_131 (pc' := 78) rfl ?_
                    obtain ⟨o62, h⟩ := h
                    have eS := sv_mod.eq md61
                    have hb := ih34 ((l4_33 + (1 : Int)), (sv_sts (sv_sts (sv_sts (sv_sts (sv_sts (sv_sts (sv_sts S [68, 69, 70] g7) [68, 69, 70] g12) [68, 69, 70] g17) [68, 69, 70] g22) [68, 69, 70] g27) [68, 69, 70] g32) [68, 69, 70] g56)) ⟨o62, (by rw [← eS]; exact ok57), h.1⟩ h.2
                    have hb : sv_T sm_XS sm_cs sm_L sm_sh 3 (q_typesOf p1 p2 S) 271 78 [(0, .ref 0), (1, sv_I p1), (2, sv_I p2), (3, sv_I r6), (4, sv_I (l4_33 + (1 : Int)))] [] (sv_sts (sv_sts (sv_sts (sv_sts (sv_sts (sv_sts (sv_sts S [68, 69, 70] g7) [68, 69, 70] g12) [68, 69, 70] g17) [68, 69, 70] g22) [68, 69, 70] g27) [68, 69, 70] g32) [68, 69, 70] g56) := Eq.mpr (congrArg (fun Z => sv_T sm_XS sm_cs sm_L sm_sh 3 (q_typesOf p1 p2 S) 271 78 [(0, .ref 0), (1, sv_I p1), (2, sv_I p2), (3, sv_I r6), (4, sv_I (l4_33 + (1 : Int)))] [] Z) eS) hb
                    exact sv_less (lv := [(0, .ref 0), (1, sv_I p1), (2, sv_I p2), (3, sv_I r6), (4, sv_I (l4_33 + (1 : Int)))]) (sv_Sub_cons rfl (sv_Sub_cons rfl (sv_Sub_cons rfl (sv_Sub_cons rfl (sv_Sub_cons rfl sv_Sub_nil))))) hb
                  · have h := h.2 (hc)
                    refine sv_bipush (d := (24 : Int)) hM dX12_typesOf_118 rfl rfl ?_
                    refine sv_goto hM dX12_typesOf_120 (pc' := 125) rfl ?_
                    obtain ⟨o63, h⟩ := h
                    refine sv_callV hM dX12_typesOf_125 sm_iv_1078 (by decide) (sm_a0 _) rfl rfl (Nat.le_of_ble_eq_true rfl) sm_h215 (Nat.le_of_ble_eq_true rfl) (Nat.le_of_ble_eq_true rfl) (F' := 2) (Nat.le_of_ble_eq_true rfl) rfl (t_addString p2 (24 : Int) (sv_sts (sv_sts (sv_sts (sv_sts (sv_sts (sv_sts S [68, 69, 70] g7) [68, 69, 70] g12) [68, 69, 70] g17) [68, 69, 70] g22) [68, 69, 70] g27) [68, 69, 70] g32) ok51 hp2 (⟨by decide, by decide⟩ : sv_R (24 : Int)) o63) (fun v S1 hq => ?_)
                    obtain ⟨rfl, ok65, md66, hpo67⟩ := hq
                    obtain ⟨g64, rfl⟩ : ∃ g, S1 = sv_sts (sv_sts (sv_sts (sv_sts (sv_sts (sv_sts (sv_sts S [68, 69, 70] g7) [68, 69, 70] g12) [68, 69, 70] g17) [68, 69, 70] g22) [68, 69, 70] g27) [68, 69, 70] g32) [68, 69, 70] g := ⟨_, md66.eq⟩
                    show sv_T sm_XS sm_cs sm_L sm_sh 3 (q_typesOf p1 p2 S) 271 128 [(0, .ref 0), (1, sv_I p1), (2, sv_I p2), (3, sv_I r6), (4, sv_I l4_33)] [] (sv_sts (sv_sts (sv_sts (sv_sts (sv_sts (sv_sts (sv_sts S [68, 69, 70] g7) [68, 69, 70] g12) [68, 69, 70] g17) [68, 69, 70] g22) [68, 69, 70] g27) [68, 69, 70] g32) [68, 69, 70] g64)
                    have md68 : sv_mod [68, 69, 70] S (sv_sts (sv_sts (sv_sts (sv_sts (sv_sts (sv_sts (sv_sts S [68, 69, 70] g7) [68, 69, 70] g12) [68, 69, 70] g17) [68, 69, 70] g22) [68, 69, 70] g27) [68, 69, 70] g32) [68, 69, 70] g64) := sv_mod.sts md37 (by decide)
                    have md69 : sv_mod [68, 69, 70] (sv_sts (sv_sts (sv_sts (sv_sts (sv_sts S [68, 69, 70] g7) [68, 69, 70] g12) [68, 69, 70] g17) [68, 69, 70] g22) [68, 69, 70] g27) (sv_sts (sv_sts (sv_sts (sv_sts (sv_sts (sv_sts (sv_sts S [68, 69, 70] g7) [68, 69, 70] g12) [68, 69, 70] g17) [68, 69, 70] g22) [68, 69, 70] g27) [68, 69, 70] g32) [68, 69, 70] g64) := sv_mod.sts md38 (by decide)
                    have h := h g64 hpo67
                    refine sv_iinc (d := (1 : Int)) hM dX12_typesOf_128 rfl (by decide) rfl rfl ?_
                    show sv_T sm_XS sm_cs sm_L sm_sh 3 (q_typesOf p1 p2 S) 271 131 [(0, .ref 0), (1, sv_I p1), (2, sv_I p2), (3, sv_I r6), (4, sv_I (l4_33 + (1 : Int)))] [] (sv_sts (sv_sts (sv_sts (sv_sts (sv_sts (sv_sts (sv_sts S [68, 69, 70] g7) [68, 69, 70] g12) [68, 69, 70] g17) [68, 69, 70] g22) [68, 69, 70] g27) [68, 69, 70] g32) [68, 69, 70] g64)
                    refine sv_goto hM dX12_typesOf_131 (pc' := 78) rfl ?_
                    obtain ⟨o70, h⟩ := h
                    have eS := sv_mod.eq md69
                    have hb := ih34 ((l4_33 + (1 : Int)), (sv_sts (sv_sts (sv_sts (sv_sts (sv_sts (sv_sts (sv_sts S [68, 69, 70] g7) [68, 69, 70] g12) [68, 69, 70] g17) [68, 69, 70] g22) [68, 69, 70] g27) [68, 69, 70] g32) [68, 69, 70] g64)) ⟨o70, (by rw [← eS]; exact ok65), h.1⟩ h.2
                    have hb : sv_T sm_XS sm_cs sm_L sm_sh 3 (q_typesOf p1 p2 S) 271 78 [(0, .ref 0), (1, sv_I p1), (2, sv_I p2), (3, sv_I r6), (4, sv_I (l4_33 + (1 : Int)))] [] (sv_sts (sv_sts (sv_sts (sv_sts (sv_sts (sv_sts (sv_sts S [68, 69, 70] g7) [68, 69, 70] g12) [68, 69, 70] g17) [68, 69, 70] g22) [68, 69, 70] g27) [68, 69, 70] g32) [68, 69, 70] g64) := Eq.mpr (congrArg (fun Z => sv_T sm_XS sm_cs sm_L sm_sh 3 (q_typesOf p1 p2 S) 271 78 [(0, .ref 0), (1, sv_I p1), (2, sv_I p2), (3, sv_I r6), (4, sv_I (l4_33 + (1 : Int)))] [] Z) eS) hb
                    exact sv_less (lv := [(0, .ref 0), (1, sv_I p1), (2, sv_I p2), (3, sv_I r6), (4, sv_I (l4_33 + (1 : Int)))]) (sv_Sub_cons rfl (sv_Sub_cons rfl (sv_Sub_cons rfl (sv_Sub_cons rfl (sv_Sub_cons rfl sv_Sub_nil))))) hb
            have eS := sv_mod.eq (sv_mod.rf (l := [68, 69, 70]) (S := (sv_sts (sv_sts (sv_sts (sv_sts (sv_sts S [68, 69, 70] g7) [68, 69, 70] g12) [68, 69, 70] g17) [68, 69, 70] g22) [68, 69, 70] g27)))
            have hb := hJ ((0 : Int), (sv_sts (sv_sts (sv_sts (sv_sts (sv_sts S [68, 69, 70] g7) [68, 69, 70] g12) [68, 69, 70] g17) [68, 69, 70] g22) [68, 69, 70] g27)) ⟨(⟨by decide, by decide⟩ : sv_R (0 : Int)), (by rw [← eS]; exact ok28), hin35⟩
            have hb : sv_T sm_XS sm_cs sm_L sm_sh 3 (q_typesOf p1 p2 S) 271 78 [(0, .ref 0), (1, sv_I p1), (2, sv_I p2), (3, sv_I r6), (4, sv_I (0 : Int))] [] (sv_sts (sv_sts (sv_sts (sv_sts (sv_sts S [68, 69, 70] g7) [68, 69, 70] g12) [68, 69, 70] g17) [68, 69, 70] g22) [68, 69, 70] g27) := Eq.mpr (congrArg (fun Z => sv_T sm_XS sm_cs sm_L sm_sh 3 (q_typesOf p1 p2 S) 271 78 [(0, .ref 0), (1, sv_I p1), (2, sv_I p2), (3, sv_I r6), (4, sv_I (0 : Int))] [] Z) eS) hb
            exact hb
          have h := h.2
          refine sv_iload_n hM dX12_typesOf_60 rfl rfl ?_
          refine sv_sipush (d := (384 : Int)) hM dX12_typesOf_61 rfl rfl ?_
          refine sv_iand hM dX12_typesOf_64 ⟨by decide, by decide⟩ rfl (fun r72 hr72 => ?_)
          have h := h r72 hr72
          refine sv_cond_eq hM dX12_typesOf_65 (⟨by omega, by omega⟩ : sv_R r72) (t := 75) rfl rfl (fun hc => ?_) (fun hc => ?_)
          · have h := h.1 (hc)
            have eS := sv_mod.eq (sv_mod.rf (l := [68, 69, 70]) (S := (sv_sts (sv_sts (sv_sts (sv_sts S [68, 69, 70] g7) [68, 69, 70] g12) [68, 69, 70] g17) [68, 69, 70] g22)))
            have hb := J71 (sv_sts (sv_sts (sv_sts (sv_sts S [68, 69, 70] g7) [68, 69, 70] g12) [68, 69, 70] g17) [68, 69, 70] g22) (by rw [← eS]; exact ok23) h
            have hb : sv_T sm_XS sm_cs sm_L sm_sh 3 (q_typesOf p1 p2 S) 271 75 [(0, .ref 0), (1, sv_I p1), (2, sv_I p2), (3, sv_I r6)] [] (sv_sts (sv_sts (sv_sts (sv_sts S [68, 69, 70] g7) [68, 69, 70] g12) [68, 69, 70] g17) [68, 69, 70] g22) := Eq.mpr (congrArg (fun Z => sv_T sm_XS sm_cs sm_L sm_sh 3 (q_typesOf p1 p2 S) 271 75 [(0, .ref 0), (1, sv_I p1), (2, sv_I p2), (3, sv_I r6)] [] Z) eS) hb
            exact sv_less (lv := [(0, .ref 0), (1, sv_I p1), (2, sv_I p2), (3, sv_I r6)]) (sv_Sub_cons rfl (sv_Sub_cons rfl (sv_Sub_cons rfl (sv_Sub_cons rfl sv_Sub_nil)))) hb
          · have h := h.2 (hc)
            refine sv_aload_n hM dX12_typesOf_68 rfl rfl ?_
            refine sv_iload_n hM dX12_typesOf_69 rfl rfl ?_
            refine sv_bipush (d := (23 : Int)) hM dX12_typesOf_70 rfl rfl ?_
            obtain ⟨o73, h⟩ := h
            refine sv_callV hM dX12_typesOf_72 sm_iv_1078 (by decide) (sm_a0 _) rfl rfl (Nat.le_of_ble_eq_true rfl) sm_h215 (Nat.le_of_ble_eq_true rfl) (Nat.le_of_ble_eq_true rfl) (F' := 2) (Nat.le_of_ble_eq_true rfl) rfl (t_addString p2 (23 : Int) (sv_sts (sv_sts (sv_sts (sv_sts S [68, 69, 70] g7) [68, 69, 70] g12) [68, 69, 70] g17) [68, 69, 70] g22) ok23 hp2 (⟨by decide, by decide⟩ : sv_R (23 : Int)) o73) (fun v S1 hq => ?_)
            obtain ⟨rfl, ok75, md76, hpo77⟩ := hq
            obtain ⟨g74, rfl⟩ : ∃ g, S1 = sv_sts (sv_sts (sv_sts (sv_sts (sv_sts S [68, 69, 70] g7) [68, 69, 70] g12) [68, 69, 70] g17) [68, 69, 70] g22) [68, 69, 70] g := ⟨_, md76.eq⟩
            show sv_T sm_XS sm_cs sm_L sm_sh 3 (q_typesOf p1 p2 S) 271 75 [(0, .ref 0), (1, sv_I p1), (2, sv_I p2), (3, sv_I r6)] [] (sv_sts (sv_sts (sv_sts (sv_sts (sv_sts S [68, 69, 70] g7) [68, 69, 70] g12) [68, 69, 70] g17) [68, 69, 70] g22) [68, 69, 70] g74)
            have md78 : sv_mod [68, 69, 70] S (sv_sts (sv_sts (sv_sts (sv_sts (sv_sts S [68, 69, 70] g7) [68, 69, 70] g12) [68, 69, 70] g17) [68, 69, 70] g22) [68, 69, 70] g74) := sv_mod.sts md25 (by decide)
            have md79 : sv_mod [68, 69, 70] (sv_sts (sv_sts (sv_sts (sv_sts S [68, 69, 70] g7) [68, 69, 70] g12) [68, 69, 70] g17) [68, 69, 70] g22) (sv_sts (sv_sts (sv_sts (sv_sts (sv_sts S [68, 69, 70] g7) [68, 69, 70] g12) [68, 69, 70] g17) [68, 69, 70] g22) [68, 69, 70] g74) := sv_mod.sts (sv_mod.rf (l := [68, 69, 70]) (S := (sv_sts (sv_sts (sv_sts (sv_sts S [68, 69, 70] g7) [68, 69, 70] g12) [68, 69, 70] g17) [68, 69, 70] g22))) (by decide)
            have h := h g74 hpo77
            have eS := sv_mod.eq md79
            have hb := J71 (sv_sts (sv_sts (sv_sts (sv_sts (sv_sts S [68, 69, 70] g7) [68, 69, 70] g12) [68, 69, 70] g17) [68, 69, 70] g22) [68, 69, 70] g74) (by rw [← eS]; exact ok75) h
            have hb : sv_T sm_XS sm_cs sm_L sm_sh 3 (q_typesOf p1 p2 S) 271 75 [(0, .ref 0), (1, sv_I p1), (2, sv_I p2), (3, sv_I r6)] [] (sv_sts (sv_sts (sv_sts (sv_sts (sv_sts S [68, 69, 70] g7) [68, 69, 70] g12) [68, 69, 70] g17) [68, 69, 70] g22) [68, 69, 70] g74) := Eq.mpr (congrArg (fun Z => sv_T sm_XS sm_cs sm_L sm_sh 3 (q_typesOf p1 p2 S) 271 75 [(0, .ref 0), (1, sv_I p1), (2, sv_I p2), (3, sv_I r6)] [] Z) eS) hb
            exact sv_less (lv := [(0, .ref 0), (1, sv_I p1), (2, sv_I p2), (3, sv_I r6)]) (sv_Sub_cons rfl (sv_Sub_cons rfl (sv_Sub_cons rfl (sv_Sub_cons rfl sv_Sub_nil)))) hb
        have h := h.2
        refine sv_iload_n hM dX12_typesOf_46 rfl rfl ?_
        refine sv_bipush (d := (112 : Int)) hM dX12_typesOf_47 rfl rfl ?_
        refine sv_iand hM dX12_typesOf_49 ⟨by decide, by decide⟩ rfl (fun r81 hr81 => ?_)
        have h := h r81 hr81
        refine sv_cond_eq hM dX12_typesOf_50 (⟨by omega, by omega⟩ : sv_R r81) (t := 60) rfl rfl (fun hc => ?_) (fun hc => ?_)
        · have h := h.1 (hc)
          have eS := sv_mod.eq (sv_mod.rf (l := [68, 69, 70]) (S := (sv_sts (sv_sts (sv_sts S [68, 69, 70] g7) [68, 69, 70] g12) [68, 69, 70] g17)))
          have hb := J80 (sv_sts (sv_sts (sv_sts S [68, 69, 70] g7) [68, 69, 70] g12) [68, 69, 70] g17) (by rw [← eS]; exact ok18) h
          have hb : sv_T sm_XS sm_cs sm_L sm_sh 3 (q_typesOf p1 p2 S) 271 60 [(0, .ref 0), (1, sv_I p1), (2, sv_I p2), (3, sv_I r6)] [] (sv_sts (sv_sts (sv_sts S [68, 69, 70] g7) [68, 69, 70] g12) [68, 69, 70] g17) := Eq.mpr (congrArg (fun Z => sv_T sm_XS sm_cs sm_L sm_sh 3 (q_typesOf p1 p2 S) 271 60 [(0, .ref 0), (1, sv_I p1), (2, sv_I p2), (3, sv_I r6)] [] Z) eS) hb
          exact sv_less (lv := [(0, .ref 0), (1, sv_I p1), (2, sv_I p2), (3, sv_I r6)]) (sv_Sub_cons rfl (sv_Sub_cons rfl (sv_Sub_cons rfl (sv_Sub_cons rfl sv_Sub_nil)))) hb
        · have h := h.2 (hc)
          refine sv_aload_n hM dX12_typesOf_53 rfl rfl ?_
          refine sv_iload_n hM dX12_typesOf_54 rfl rfl ?_
          refine sv_bipush (d := (22 : Int)) hM dX12_typesOf_55 rfl rfl ?_
          obtain ⟨o82, h⟩ := h
          refine sv_callV hM dX12_typesOf_57 sm_iv_1078 (by decide) (sm_a0 _) rfl rfl (Nat.le_of_ble_eq_true rfl) sm_h215 (Nat.le_of_ble_eq_true rfl) (Nat.le_of_ble_eq_true rfl) (F' := 2) (Nat.le_of_ble_eq_true rfl) rfl (t_addString p2 (22 : Int) (sv_sts (sv_sts (sv_sts S [68, 69, 70] g7) [68, 69, 70] g12) [68, 69, 70] g17) ok18 hp2 (⟨by decide, by decide⟩ : sv_R (22 : Int)) o82) (fun v S1 hq => ?_)
          obtain ⟨rfl, ok84, md85, hpo86⟩ := hq
          obtain ⟨g83, rfl⟩ : ∃ g, S1 = sv_sts (sv_sts (sv_sts (sv_sts S [68, 69, 70] g7) [68, 69, 70] g12) [68, 69, 70] g17) [68, 69, 70] g := ⟨_, md85.eq⟩
          show sv_T sm_XS sm_cs sm_L sm_sh 3 (q_typesOf p1 p2 S) 271 60 [(0, .ref 0), (1, sv_I p1), (2, sv_I p2), (3, sv_I r6)] [] (sv_sts (sv_sts (sv_sts (sv_sts S [68, 69, 70] g7) [68, 69, 70] g12) [68, 69, 70] g17) [68, 69, 70] g83)
          have md87 : sv_mod [68, 69, 70] S (sv_sts (sv_sts (sv_sts (sv_sts S [68, 69, 70] g7) [68, 69, 70] g12) [68, 69, 70] g17) [68, 69, 70] g83) := sv_mod.sts md20 (by decide)
          have md88 : sv_mod [68, 69, 70] (sv_sts (sv_sts (sv_sts S [68, 69, 70] g7) [68, 69, 70] g12) [68, 69, 70] g17) (sv_sts (sv_sts (sv_sts (sv_sts S [68, 69, 70] g7) [68, 69, 70] g12) [68, 69, 70] g17) [68, 69, 70] g83) := sv_mod.sts (sv_mod.rf (l := [68, 69, 70]) (S := (sv_sts (sv_sts (sv_sts S [68, 69, 70] g7) [68, 69, 70] g12) [68, 69, 70] g17))) (by decide)
          have h := h g83 hpo86
          have eS := sv_mod.eq md88
          have hb := J80 (sv_sts (sv_sts (sv_sts (sv_sts S [68, 69, 70] g7) [68, 69, 70] g12) [68, 69, 70] g17) [68, 69, 70] g83) (by rw [← eS]; exact ok84) h
          have hb : sv_T sm_XS sm_cs sm_L sm_sh 3 (q_typesOf p1 p2 S) 271 60 [(0, .ref 0), (1, sv_I p1), (2, sv_I p2), (3, sv_I r6)] [] (sv_sts (sv_sts (sv_sts (sv_sts S [68, 69, 70] g7) [68, 69, 70] g12) [68, 69, 70] g17) [68, 69, 70] g83) := Eq.mpr (congrArg (fun Z => sv_T sm_XS sm_cs sm_L sm_sh 3 (q_typesOf p1 p2 S) 271 60 [(0, .ref 0), (1, sv_I p1), (2, sv_I p2), (3, sv_I r6)] [] Z) eS) hb
          exact sv_less (lv := [(0, .ref 0), (1, sv_I p1), (2, sv_I p2), (3, sv_I r6)]) (sv_Sub_cons rfl (sv_Sub_cons rfl (sv_Sub_cons rfl (sv_Sub_cons rfl sv_Sub_nil)))) hb
      have h := h.2
      refine sv_iload_n hM dX12_typesOf_32 rfl rfl ?_
      refine sv_bipush (d := (12 : Int)) hM dX12_typesOf_33 rfl rfl ?_
      refine sv_iand hM dX12_typesOf_35 ⟨by decide, by decide⟩ rfl (fun r90 hr90 => ?_)
      have h := h r90 hr90
      refine sv_cond_eq hM dX12_typesOf_36 (⟨by omega, by omega⟩ : sv_R r90) (t := 46) rfl rfl (fun hc => ?_) (fun hc => ?_)
      · have h := h.1 (hc)
        have eS := sv_mod.eq (sv_mod.rf (l := [68, 69, 70]) (S := (sv_sts (sv_sts S [68, 69, 70] g7) [68, 69, 70] g12)))
        have hb := J89 (sv_sts (sv_sts S [68, 69, 70] g7) [68, 69, 70] g12) (by rw [← eS]; exact ok13) h
        have hb : sv_T sm_XS sm_cs sm_L sm_sh 3 (q_typesOf p1 p2 S) 271 46 [(0, .ref 0), (1, sv_I p1), (2, sv_I p2), (3, sv_I r6)] [] (sv_sts (sv_sts S [68, 69, 70] g7) [68, 69, 70] g12) := Eq.mpr (congrArg (fun Z => sv_T sm_XS sm_cs sm_L sm_sh 3 (q_typesOf p1 p2 S) 271 46 [(0, .ref 0), (1, sv_I p1), (2, sv_I p2), (3, sv_I r6)] [] Z) eS) hb
        exact sv_less (lv := [(0, .ref 0), (1, sv_I p1), (2, sv_I p2), (3, sv_I r6)]) (sv_Sub_cons rfl (sv_Sub_cons rfl (sv_Sub_cons rfl (sv_Sub_cons rfl sv_Sub_nil)))) hb
      · have h := h.2 (hc)
        refine sv_aload_n hM dX12_typesOf_39 rfl rfl ?_
        refine sv_iload_n hM dX12_typesOf_40 rfl rfl ?_
        refine sv_bipush (d := (21 : Int)) hM dX12_typesOf_41 rfl rfl ?_
        obtain ⟨o91, h⟩ := h
        refine sv_callV hM dX12_typesOf_43 sm_iv_1078 (by decide) (sm_a0 _) rfl rfl (Nat.le_of_ble_eq_true rfl) sm_h215 (Nat.le_of_ble_eq_true rfl) (Nat.le_of_ble_eq_true rfl) (F' := 2) (Nat.le_of_ble_eq_true rfl) rfl (t_addString p2 (21 : Int) (sv_sts (sv_sts S [68, 69, 70] g7) [68, 69, 70] g12) ok13 hp2 (⟨by decide, by decide⟩ : sv_R (21 : Int)) o91) (fun v S1 hq => ?_)
        obtain ⟨rfl, ok93, md94, hpo95⟩ := hq
        obtain ⟨g92, rfl⟩ : ∃ g, S1 = sv_sts (sv_sts (sv_sts S [68, 69, 70] g7) [68, 69, 70] g12) [68, 69, 70] g := ⟨_, md94.eq⟩
        show sv_T sm_XS sm_cs sm_L sm_sh 3 (q_typesOf p1 p2 S) 271 46 [(0, .ref 0), (1, sv_I p1), (2, sv_I p2), (3, sv_I r6)] [] (sv_sts (sv_sts (sv_sts S [68, 69, 70] g7) [68, 69, 70] g12) [68, 69, 70] g92)
        have md96 : sv_mod [68, 69, 70] S (sv_sts (sv_sts (sv_sts S [68, 69, 70] g7) [68, 69, 70] g12) [68, 69, 70] g92) := sv_mod.sts md15 (by decide)
        have md97 : sv_mod [68, 69, 70] (sv_sts (sv_sts S [68, 69, 70] g7) [68, 69, 70] g12) (sv_sts (sv_sts (sv_sts S [68, 69, 70] g7) [68, 69, 70] g12) [68, 69, 70] g92) := sv_mod.sts (sv_mod.rf (l := [68, 69, 70]) (S := (sv_sts (sv_sts S [68, 69, 70] g7) [68, 69, 70] g12))) (by decide)
        have h := h g92 hpo95
        have eS := sv_mod.eq md97
        have hb := J89 (sv_sts (sv_sts (sv_sts S [68, 69, 70] g7) [68, 69, 70] g12) [68, 69, 70] g92) (by rw [← eS]; exact ok93) h
        have hb : sv_T sm_XS sm_cs sm_L sm_sh 3 (q_typesOf p1 p2 S) 271 46 [(0, .ref 0), (1, sv_I p1), (2, sv_I p2), (3, sv_I r6)] [] (sv_sts (sv_sts (sv_sts S [68, 69, 70] g7) [68, 69, 70] g12) [68, 69, 70] g92) := Eq.mpr (congrArg (fun Z => sv_T sm_XS sm_cs sm_L sm_sh 3 (q_typesOf p1 p2 S) 271 46 [(0, .ref 0), (1, sv_I p1), (2, sv_I p2), (3, sv_I r6)] [] Z) eS) hb
        exact sv_less (lv := [(0, .ref 0), (1, sv_I p1), (2, sv_I p2), (3, sv_I r6)]) (sv_Sub_cons rfl (sv_Sub_cons rfl (sv_Sub_cons rfl (sv_Sub_cons rfl sv_Sub_nil)))) hb
    have h := h.2
    refine sv_iload_n hM dX12_typesOf_19 rfl rfl ?_
    refine sv_iconst (d := (2 : Int)) hM dX12_typesOf_20 rfl rfl ?_
    refine sv_iand hM dX12_typesOf_21 ⟨by decide, by decide⟩ rfl (fun r99 hr99 => ?_)
    have h := h r99 hr99
    refine sv_cond_eq hM dX12_typesOf_22 (⟨by omega, by omega⟩ : sv_R r99) (t := 32) rfl rfl (fun hc => ?_) (fun hc => ?_)
    · have h := h.1 (hc)
      have eS := sv_mod.eq (sv_mod.rf (l := [68, 69, 70]) (S := (sv_sts S [68, 69, 70] g7)))
      have hb := J98 (sv_sts S [68, 69, 70] g7) (by rw [← eS]; exact ok8) h
      have hb : sv_T sm_XS sm_cs sm_L sm_sh 3 (q_typesOf p1 p2 S) 271 32 [(0, .ref 0), (1, sv_I p1), (2, sv_I p2), (3, sv_I r6)] [] (sv_sts S [68, 69, 70] g7) := Eq.mpr (congrArg (fun Z => sv_T sm_XS sm_cs sm_L sm_sh 3 (q_typesOf p1 p2 S) 271 32 [(0, .ref 0), (1, sv_I p1), (2, sv_I p2), (3, sv_I r6)] [] Z) eS) hb
      exact sv_less (lv := [(0, .ref 0), (1, sv_I p1), (2, sv_I p2), (3, sv_I r6)]) (sv_Sub_cons rfl (sv_Sub_cons rfl (sv_Sub_cons rfl (sv_Sub_cons rfl sv_Sub_nil)))) hb
    · have h := h.2 (hc)
      refine sv_aload_n hM dX12_typesOf_25 rfl rfl ?_
      refine sv_iload_n hM dX12_typesOf_26 rfl rfl ?_
      refine sv_bipush (d := (20 : Int)) hM dX12_typesOf_27 rfl rfl ?_
      obtain ⟨o100, h⟩ := h
      refine sv_callV hM dX12_typesOf_29 sm_iv_1078 (by decide) (sm_a0 _) rfl rfl (Nat.le_of_ble_eq_true rfl) sm_h215 (Nat.le_of_ble_eq_true rfl) (Nat.le_of_ble_eq_true rfl) (F' := 2) (Nat.le_of_ble_eq_true rfl) rfl (t_addString p2 (20 : Int) (sv_sts S [68, 69, 70] g7) ok8 hp2 (⟨by decide, by decide⟩ : sv_R (20 : Int)) o100) (fun v S1 hq => ?_)
      obtain ⟨rfl, ok102, md103, hpo104⟩ := hq
      obtain ⟨g101, rfl⟩ : ∃ g, S1 = sv_sts (sv_sts S [68, 69, 70] g7) [68, 69, 70] g := ⟨_, md103.eq⟩
      show sv_T sm_XS sm_cs sm_L sm_sh 3 (q_typesOf p1 p2 S) 271 32 [(0, .ref 0), (1, sv_I p1), (2, sv_I p2), (3, sv_I r6)] [] (sv_sts (sv_sts S [68, 69, 70] g7) [68, 69, 70] g101)
      have md105 : sv_mod [68, 69, 70] S (sv_sts (sv_sts S [68, 69, 70] g7) [68, 69, 70] g101) := sv_mod.sts md10 (by decide)
      have md106 : sv_mod [68, 69, 70] (sv_sts S [68, 69, 70] g7) (sv_sts (sv_sts S [68, 69, 70] g7) [68, 69, 70] g101) := sv_mod.sts (sv_mod.rf (l := [68, 69, 70]) (S := (sv_sts S [68, 69, 70] g7))) (by decide)
      have h := h g101 hpo104
      have eS := sv_mod.eq md106
      have hb := J98 (sv_sts (sv_sts S [68, 69, 70] g7) [68, 69, 70] g101) (by rw [← eS]; exact ok102) h
      have hb : sv_T sm_XS sm_cs sm_L sm_sh 3 (q_typesOf p1 p2 S) 271 32 [(0, .ref 0), (1, sv_I p1), (2, sv_I p2), (3, sv_I r6)] [] (sv_sts (sv_sts S [68, 69, 70] g7) [68, 69, 70] g101) := Eq.mpr (congrArg (fun Z => sv_T sm_XS sm_cs sm_L sm_sh 3 (q_typesOf p1 p2 S) 271 32 [(0, .ref 0), (1, sv_I p1), (2, sv_I p2), (3, sv_I r6)] [] Z) eS) hb
      exact sv_less (lv := [(0, .ref 0), (1, sv_I p1), (2, sv_I p2), (3, sv_I r6)]) (sv_Sub_cons rfl (sv_Sub_cons rfl (sv_Sub_cons rfl (sv_Sub_cons rfl sv_Sub_nil)))) hb
  have h := h.2
  refine sv_iload_n hM dX12_typesOf_6 rfl rfl ?_
  refine sv_iconst (d := (1 : Int)) hM dX12_typesOf_7 rfl rfl ?_
  refine sv_iandm 1 (m := 2) (by decide) (by decide) (by decide) hM dX12_typesOf_8 rfl ?_
  refine sv_cond_eq hM dX12_typesOf_9 (⟨by omega, by omega⟩ : sv_R (r6 % 2)) (t := 19) rfl rfl (fun hc => ?_) (fun hc => ?_)
  · have h := h.1 (hc)
    have eS := sv_mod.eq (sv_mod.rf (l := [68, 69, 70]) (S := S))
    have hb := J107 S (by rw [← eS]; exact ok3) h
    have hb : sv_T sm_XS sm_cs sm_L sm_sh 3 (q_typesOf p1 p2 S) 271 19 [(0, .ref 0), (1, sv_I p1), (2, sv_I p2), (3, sv_I r6)] [] S := Eq.mpr (congrArg (fun Z => sv_T sm_XS sm_cs sm_L sm_sh 3 (q_typesOf p1 p2 S) 271 19 [(0, .ref 0), (1, sv_I p1), (2, sv_I p2), (3, sv_I r6)] [] Z) eS) hb
    exact sv_less (lv := [(0, .ref 0), (1, sv_I p1), (2, sv_I p2), (3, sv_I r6)]) (sv_Sub_cons rfl (sv_Sub_cons rfl (sv_Sub_cons rfl (sv_Sub_cons rfl sv_Sub_nil)))) hb
  · have h := h.2 (hc)
    refine sv_aload_n hM dX12_typesOf_12 rfl rfl ?_
    refine sv_iload_n hM dX12_typesOf_13 rfl rfl ?_
    refine sv_bipush (d := (19 : Int)) hM dX12_typesOf_14 rfl rfl ?_
    obtain ⟨o108, h⟩ := h
    refine sv_callV hM dX12_typesOf_16 sm_iv_1078 (by decide) (sm_a0 _) rfl rfl (Nat.le_of_ble_eq_true rfl) sm_h215 (Nat.le_of_ble_eq_true rfl) (Nat.le_of_ble_eq_true rfl) (F' := 2) (Nat.le_of_ble_eq_true rfl) rfl (t_addString p2 (19 : Int) S ok3 hp2 (⟨by decide, by decide⟩ : sv_R (19 : Int)) o108) (fun v S1 hq => ?_)
    obtain ⟨rfl, ok110, md111, hpo112⟩ := hq
    obtain ⟨g109, rfl⟩ : ∃ g, S1 = sv_sts S [68, 69, 70] g := ⟨_, md111.eq⟩
    show sv_T sm_XS sm_cs sm_L sm_sh 3 (q_typesOf p1 p2 S) 271 19 [(0, .ref 0), (1, sv_I p1), (2, sv_I p2), (3, sv_I r6)] [] (sv_sts S [68, 69, 70] g109)
    have md113 : sv_mod [68, 69, 70] S (sv_sts S [68, 69, 70] g109) := sv_mod.sts sv_mod.rf (by decide)
    have md114 : sv_mod [68, 69, 70] S (sv_sts S [68, 69, 70] g109) := sv_mod.sts (sv_mod.rf (l := [68, 69, 70]) (S := S)) (by decide)
    have h := h g109 hpo112
    have eS := sv_mod.eq md114
    have hb := J107 (sv_sts S [68, 69, 70] g109) (by rw [← eS]; exact ok110) h
    have hb : sv_T sm_XS sm_cs sm_L sm_sh 3 (q_typesOf p1 p2 S) 271 19 [(0, .ref 0), (1, sv_I p1), (2, sv_I p2), (3, sv_I r6)] [] (sv_sts S [68, 69, 70] g109) := Eq.mpr (congrArg (fun Z => sv_T sm_XS sm_cs sm_L sm_sh 3 (q_typesOf p1 p2 S) 271 19 [(0, .ref 0), (1, sv_I p1), (2, sv_I p2), (3, sv_I r6)] [] Z) eS) hb
    exact sv_less (lv := [(0, .ref 0), (1, sv_I p1), (2, sv_I p2), (3, sv_I r6)]) (sv_Sub_cons rfl (sv_Sub_cons rfl (sv_Sub_cons rfl (sv_Sub_cons rfl sv_Sub_nil)))) hb
