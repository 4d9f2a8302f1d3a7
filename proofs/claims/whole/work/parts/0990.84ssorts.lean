theorem dX12_findSorts_0 : decode cX12_findSorts 0 = .ok (.iconst 0, 1) := by decide +kernel
theorem dX12_findSorts_1 : decode cX12_findSorts 1 = .ok (.istore_n 1, 1) := by decide +kernel
theorem dX12_findSorts_2 : decode cX12_findSorts 2 = .ok (.iload_n 1, 1) := by decide +kernel
theorem dX12_findSorts_3 : decode cX12_findSorts 3 = .ok (.aload_n 0, 1) := by decide +kernel
theorem dX12_findSorts_4 : decode cX12_findSorts 4 = .ok (.getfield 762, 3) := by decide +kernel
theorem dX12_findSorts_7 : decode cX12_findSorts 7 = .ok (.if_icmp .ge 174, 3) := by decide +kernel
theorem dX12_findSorts_10 : decode cX12_findSorts 10 = .ok (.aload_n 0, 1) := by decide +kernel
theorem dX12_findSorts_11 : decode cX12_findSorts 11 = .ok (.getfield 277, 3) := by decide +kernel
theorem dX12_findSorts_14 : decode cX12_findSorts 14 = .ok (.iload_n 1, 1) := by decide +kernel
theorem dX12_findSorts_15 : decode cX12_findSorts 15 = .ok (.aload_n 0, 1) := by decide +kernel
theorem dX12_findSorts_16 : decode cX12_findSorts 16 = .ok (.iload_n 1, 1) := by decide +kernel
theorem dX12_findSorts_17 : decode cX12_findSorts 17 = .ok (.invokevirtual 975, 3) := by decide +kernel
theorem dX12_findSorts_20 : decode cX12_findSorts 20 = .ok (.iconst (-1), 1) := by decide +kernel
theorem dX12_findSorts_21 : decode cX12_findSorts 21 = .ok (.if_icmp .eq 7, 3) := by decide +kernel
theorem dX12_findSorts_24 : decode cX12_findSorts 24 = .ok (.iconst 1, 1) := by decide +kernel
theorem dX12_findSorts_25 : decode cX12_findSorts 25 = .ok (.goto 4, 3) := by decide +kernel
theorem dX12_findSorts_28 : decode cX12_findSorts 28 = .ok (.iconst 0, 1) := by decide +kernel
theorem dX12_findSorts_29 : decode cX12_findSorts 29 = .ok (.bastore, 1) := by decide +kernel
theorem dX12_findSorts_30 : decode cX12_findSorts 30 = .ok (.aload_n 0, 1) := by decide +kernel
theorem dX12_findSorts_31 : decode cX12_findSorts 31 = .ok (.getfield 280, 3) := by decide +kernel
theorem dX12_findSorts_34 : decode cX12_findSorts 34 = .ok (.iload_n 1, 1) := by decide +kernel
theorem dX12_findSorts_35 : decode cX12_findSorts 35 = .ok (.aload_n 0, 1) := by decide +kernel
theorem dX12_findSorts_36 : decode cX12_findSorts 36 = .ok (.getfield 20, 3) := by decide +kernel
theorem dX12_findSorts_39 : decode cX12_findSorts 39 = .ok (.iload_n 1, 1) := by decide +kernel
theorem dX12_findSorts_40 : decode cX12_findSorts 40 = .ok (.iaload, 1) := by decide +kernel
theorem dX12_findSorts_41 : decode cX12_findSorts 41 = .ok (.iconst 3, 1) := by decide +kernel
theorem dX12_findSorts_42 : decode cX12_findSorts 42 = .ok (.if_icmp .ne 53, 3) := by decide +kernel
theorem dX12_findSorts_45 : decode cX12_findSorts 45 = .ok (.aload_n 0, 1) := by decide +kernel
theorem dX12_findSorts_46 : decode cX12_findSorts 46 = .ok (.getfield 16, 3) := by decide +kernel
theorem dX12_findSorts_49 : decode cX12_findSorts 49 = .ok (.bipush 60, 2) := by decide +kernel
theorem dX12_findSorts_51 : decode cX12_findSorts 51 = .ok (.iload_n 1, 1) := by decide +kernel
theorem dX12_findSorts_52 : decode cX12_findSorts 52 = .ok (.imul, 1) := by decide +kernel
theorem dX12_findSorts_53 : decode cX12_findSorts 53 = .ok (.caload, 1) := by decide +kernel
theorem dX12_findSorts_54 : decode cX12_findSorts 54 = .ok (.bipush 49, 2) := by decide +kernel
theorem dX12_findSorts_56 : decode cX12_findSorts 56 = .ok (.if_icmp .ne 39, 3) := by decide +kernel
theorem dX12_findSorts_59 : decode cX12_findSorts 59 = .ok (.aload_n 0, 1) := by decide +kernel
theorem dX12_findSorts_60 : decode cX12_findSorts 60 = .ok (.getfield 16, 3) := by decide +kernel
theorem dX12_findSorts_63 : decode cX12_findSorts 63 = .ok (.bipush 60, 2) := by decide +kernel
theorem dX12_findSorts_65 : decode cX12_findSorts 65 = .ok (.iload_n 1, 1) := by decide +kernel
theorem dX12_findSorts_66 : decode cX12_findSorts 66 = .ok (.imul, 1) := by decide +kernel
theorem dX12_findSorts_67 : decode cX12_findSorts 67 = .ok (.iconst 1, 1) := by decide +kernel
theorem dX12_findSorts_68 : decode cX12_findSorts 68 = .ok (.iadd, 1) := by decide +kernel
theorem dX12_findSorts_69 : decode cX12_findSorts 69 = .ok (.caload, 1) := by decide +kernel
theorem dX12_findSorts_70 : decode cX12_findSorts 70 = .ok (.bipush 48, 2) := by decide +kernel
theorem dX12_findSorts_72 : decode cX12_findSorts 72 = .ok (.if_icmp .ne 23, 3) := by decide +kernel
theorem dX12_findSorts_75 : decode cX12_findSorts 75 = .ok (.aload_n 0, 1) := by decide +kernel
theorem dX12_findSorts_76 : decode cX12_findSorts 76 = .ok (.getfield 16, 3) := by decide +kernel
theorem dX12_findSorts_79 : decode cX12_findSorts 79 = .ok (.bipush 60, 2) := by decide +kernel
theorem dX12_findSorts_81 : decode cX12_findSorts 81 = .ok (.iload_n 1, 1) := by decide +kernel
theorem dX12_findSorts_82 : decode cX12_findSorts 82 = .ok (.imul, 1) := by decide +kernel
theorem dX12_findSorts_83 : decode cX12_findSorts 83 = .ok (.iconst 2, 1) := by decide +kernel
theorem dX12_findSorts_84 : decode cX12_findSorts 84 = .ok (.iadd, 1) := by decide +kernel
theorem dX12_findSorts_85 : decode cX12_findSorts 85 = .ok (.caload, 1) := by decide +kernel
theorem dX12_findSorts_86 : decode cX12_findSorts 86 = .ok (.bipush 48, 2) := by decide +kernel
theorem dX12_findSorts_88 : decode cX12_findSorts 88 = .ok (.if_icmp .ne 7, 3) := by decide +kernel
theorem dX12_findSorts_91 : decode cX12_findSorts 91 = .ok (.iconst 1, 1) := by decide +kernel
theorem dX12_findSorts_92 : decode cX12_findSorts 92 = .ok (.goto 4, 3) := by decide +kernel
theorem dX12_findSorts_95 : decode cX12_findSorts 95 = .ok (.iconst 0, 1) := by decide +kernel
theorem dX12_findSorts_96 : decode cX12_findSorts 96 = .ok (.bastore, 1) := by decide +kernel
theorem dX12_findSorts_97 : decode cX12_findSorts 97 = .ok (.aload_n 0, 1) := by decide +kernel
theorem dX12_findSorts_98 : decode cX12_findSorts 98 = .ok (.getfield 20, 3) := by decide +kernel
theorem dX12_findSorts_101 : decode cX12_findSorts 101 = .ok (.iload_n 1, 1) := by decide +kernel
theorem dX12_findSorts_102 : decode cX12_findSorts 102 = .ok (.iaload, 1) := by decide +kernel
theorem dX12_findSorts_103 : decode cX12_findSorts 103 = .ok (.ifCond .le 11, 3) := by decide +kernel
theorem dX12_findSorts_106 : decode cX12_findSorts 106 = .ok (.aload_n 0, 1) := by decide +kernel
theorem dX12_findSorts_107 : decode cX12_findSorts 107 = .ok (.iload_n 1, 1) := by decide +kernel
theorem dX12_findSorts_108 : decode cX12_findSorts 108 = .ok (.invokevirtual 809, 3) := by decide +kernel
theorem dX12_findSorts_111 : decode cX12_findSorts 111 = .ok (.goto 4, 3) := by decide +kernel
theorem dX12_findSorts_114 : decode cX12_findSorts 114 = .ok (.iconst 0, 1) := by decide +kernel
theorem dX12_findSorts_115 : decode cX12_findSorts 115 = .ok (.istore_n 2, 1) := by decide +kernel
theorem dX12_findSorts_116 : decode cX12_findSorts 116 = .ok (.aload_n 0, 1) := by decide +kernel
theorem dX12_findSorts_117 : decode cX12_findSorts 117 = .ok (.getfield 20, 3) := by decide +kernel
theorem dX12_findSorts_120 : decode cX12_findSorts 120 = .ok (.iload_n 1, 1) := by decide +kernel
theorem dX12_findSorts_121 : decode cX12_findSorts 121 = .ok (.iaload, 1) := by decide +kernel
theorem dX12_findSorts_122 : decode cX12_findSorts 122 = .ok (.ifCond .le 14, 3) := by decide +kernel
theorem dX12_findSorts_125 : decode cX12_findSorts 125 = .ok (.aload_n 0, 1) := by decide +kernel
theorem dX12_findSorts_126 : decode cX12_findSorts 126 = .ok (.getfield 806, 3) := by decide +kernel
theorem dX12_findSorts_129 : decode cX12_findSorts 129 = .ok (.ifCond .eq 7, 3) := by decide +kernel
theorem dX12_findSorts_132 : decode cX12_findSorts 132 = .ok (.iconst 1, 1) := by decide +kernel
theorem dX12_findSorts_133 : decode cX12_findSorts 133 = .ok (.goto 4, 3) := by decide +kernel
theorem dX12_findSorts_136 : decode cX12_findSorts 136 = .ok (.iconst 0, 1) := by decide +kernel
theorem dX12_findSorts_137 : decode cX12_findSorts 137 = .ok (.istore_n 3, 1) := by decide +kernel
theorem dX12_findSorts_138 : decode cX12_findSorts 138 = .ok (.aload_n 0, 1) := by decide +kernel
theorem dX12_findSorts_139 : decode cX12_findSorts 139 = .ok (.iconst 0, 1) := by decide +kernel
theorem dX12_findSorts_140 : decode cX12_findSorts 140 = .ok (.putfield 299, 3) := by decide +kernel
theorem dX12_findSorts_143 : decode cX12_findSorts 143 = .ok (.iload_n 3, 1) := by decide +kernel
theorem dX12_findSorts_144 : decode cX12_findSorts 144 = .ok (.ifCond .eq 8, 3) := by decide +kernel
theorem dX12_findSorts_147 : decode cX12_findSorts 147 = .ok (.aload_n 0, 1) := by decide +kernel
theorem dX12_findSorts_148 : decode cX12_findSorts 148 = .ok (.iload_n 2, 1) := by decide +kernel
theorem dX12_findSorts_149 : decode cX12_findSorts 149 = .ok (.invokevirtual 410, 3) := by decide +kernel
theorem dX12_findSorts_152 : decode cX12_findSorts 152 = .ok (.aload_n 0, 1) := by decide +kernel
theorem dX12_findSorts_153 : decode cX12_findSorts 153 = .ok (.getfield 274, 3) := by decide +kernel
theorem dX12_findSorts_156 : decode cX12_findSorts 156 = .ok (.iload_n 1, 1) := by decide +kernel
theorem dX12_findSorts_157 : decode cX12_findSorts 157 = .ok (.iload_n 3, 1) := by decide +kernel
theorem dX12_findSorts_158 : decode cX12_findSorts 158 = .ok (.ifCond .eq 15, 3) := by decide +kernel
theorem dX12_findSorts_161 : decode cX12_findSorts 161 = .ok (.aload_n 0, 1) := by decide +kernel
theorem dX12_findSorts_162 : decode cX12_findSorts 162 = .ok (.invokevirtual 302, 3) := by decide +kernel
theorem dX12_findSorts_165 : decode cX12_findSorts 165 = .ok (.iload_n 1, 1) := by decide +kernel
theorem dX12_findSorts_166 : decode cX12_findSorts 166 = .ok (.if_icmp .ne 7, 3) := by decide +kernel
theorem dX12_findSorts_169 : decode cX12_findSorts 169 = .ok (.iconst 1, 1) := by decide +kernel
theorem dX12_findSorts_170 : decode cX12_findSorts 170 = .ok (.goto 4, 3) := by decide +kernel
theorem dX12_findSorts_173 : decode cX12_findSorts 173 = .ok (.iconst 0, 1) := by decide +kernel
theorem dX12_findSorts_174 : decode cX12_findSorts 174 = .ok (.bastore, 1) := by decide +kernel
theorem dX12_findSorts_175 : decode cX12_findSorts 175 = .ok (.iinc 1 1, 3) := by decide +kernel
theorem dX12_findSorts_178 : decode cX12_findSorts 178 = .ok (.goto (-176), 3) := by decide +kernel
theorem dX12_findSorts_181 : decode cX12_findSorts 181 = .ok (.iconst 0, 1) := by decide +kernel
theorem dX12_findSorts_182 : decode cX12_findSorts 182 = .ok (.istore_n 1, 1) := by decide +kernel
theorem dX12_findSorts_183 : decode cX12_findSorts 183 = .ok (.iload_n 1, 1) := by decide +kernel
theorem dX12_findSorts_184 : decode cX12_findSorts 184 = .ok (.aload_n 0, 1) := by decide +kernel
theorem dX12_findSorts_185 : decode cX12_findSorts 185 = .ok (.getfield 606, 3) := by decide +kernel
theorem dX12_findSorts_188 : decode cX12_findSorts 188 = .ok (.if_icmp .ge 81, 3) := by decide +kernel
theorem dX12_findSorts_191 : decode cX12_findSorts 191 = .ok (.aload_n 0, 1) := by decide +kernel
theorem dX12_findSorts_192 : decode cX12_findSorts 192 = .ok (.getfield 89, 3) := by decide +kernel
theorem dX12_findSorts_195 : decode cX12_findSorts 195 = .ok (.iload_n 1, 1) := by decide +kernel
theorem dX12_findSorts_196 : decode cX12_findSorts 196 = .ok (.iaload, 1) := by decide +kernel
theorem dX12_findSorts_197 : decode cX12_findSorts 197 = .ok (.bipush 8, 2) := by decide +kernel
theorem dX12_findSorts_199 : decode cX12_findSorts 199 = .ok (.if_icmp .eq 14, 3) := by decide +kernel
theorem dX12_findSorts_202 : decode cX12_findSorts 202 = .ok (.aload_n 0, 1) := by decide +kernel
theorem dX12_findSorts_203 : decode cX12_findSorts 203 = .ok (.getfield 89, 3) := by decide +kernel
theorem dX12_findSorts_206 : decode cX12_findSorts 206 = .ok (.iload_n 1, 1) := by decide +kernel
theorem dX12_findSorts_207 : decode cX12_findSorts 207 = .ok (.iaload, 1) := by decide +kernel
theorem dX12_findSorts_208 : decode cX12_findSorts 208 = .ok (.bipush 7, 2) := by decide +kernel
theorem dX12_findSorts_210 : decode cX12_findSorts 210 = .ok (.if_icmp .ne 30, 3) := by decide +kernel
theorem dX12_findSorts_213 : decode cX12_findSorts 213 = .ok (.aload_n 0, 1) := by decide +kernel
theorem dX12_findSorts_214 : decode cX12_findSorts 214 = .ok (.getfield 283, 3) := by decide +kernel
theorem dX12_findSorts_217 : decode cX12_findSorts 217 = .ok (.aload_n 0, 1) := by decide +kernel
theorem dX12_findSorts_218 : decode cX12_findSorts 218 = .ok (.getfield 92, 3) := by decide +kernel
theorem dX12_findSorts_221 : decode cX12_findSorts 221 = .ok (.iload_n 1, 1) := by decide +kernel
theorem dX12_findSorts_222 : decode cX12_findSorts 222 = .ok (.iaload, 1) := by decide +kernel
theorem dX12_findSorts_223 : decode cX12_findSorts 223 = .ok (.aload_n 0, 1) := by decide +kernel
theorem dX12_findSorts_224 : decode cX12_findSorts 224 = .ok (.getfield 89, 3) := by decide +kernel
theorem dX12_findSorts_227 : decode cX12_findSorts 227 = .ok (.iload_n 1, 1) := by decide +kernel
theorem dX12_findSorts_228 : decode cX12_findSorts 228 = .ok (.iaload, 1) := by decide +kernel
theorem dX12_findSorts_229 : decode cX12_findSorts 229 = .ok (.bipush 8, 2) := by decide +kernel
theorem dX12_findSorts_231 : decode cX12_findSorts 231 = .ok (.if_icmp .ne 7, 3) := by decide +kernel
theorem dX12_findSorts_234 : decode cX12_findSorts 234 = .ok (.iconst 1, 1) := by decide +kernel
theorem dX12_findSorts_235 : decode cX12_findSorts 235 = .ok (.goto 4, 3) := by decide +kernel
theorem dX12_findSorts_238 : decode cX12_findSorts 238 = .ok (.iconst 0, 1) := by decide +kernel
theorem dX12_findSorts_239 : decode cX12_findSorts 239 = .ok (.bastore, 1) := by decide +kernel
theorem dX12_findSorts_240 : decode cX12_findSorts 240 = .ok (.aload_n 0, 1) := by decide +kernel
theorem dX12_findSorts_241 : decode cX12_findSorts 241 = .ok (.getfield 89, 3) := by decide +kernel
theorem dX12_findSorts_244 : decode cX12_findSorts 244 = .ok (.iload_n 1, 1) := by decide +kernel
theorem dX12_findSorts_245 : decode cX12_findSorts 245 = .ok (.iaload, 1) := by decide +kernel
theorem dX12_findSorts_246 : decode cX12_findSorts 246 = .ok (.bipush 16, 2) := by decide +kernel
theorem dX12_findSorts_248 : decode cX12_findSorts 248 = .ok (.if_icmp .ne 15, 3) := by decide +kernel
theorem dX12_findSorts_251 : decode cX12_findSorts 251 = .ok (.aload_n 0, 1) := by decide +kernel
theorem dX12_findSorts_252 : decode cX12_findSorts 252 = .ok (.getfield 283, 3) := by decide +kernel
theorem dX12_findSorts_255 : decode cX12_findSorts 255 = .ok (.aload_n 0, 1) := by decide +kernel
theorem dX12_findSorts_256 : decode cX12_findSorts 256 = .ok (.getfield 95, 3) := by decide +kernel
theorem dX12_findSorts_259 : decode cX12_findSorts 259 = .ok (.iload_n 1, 1) := by decide +kernel
theorem dX12_findSorts_260 : decode cX12_findSorts 260 = .ok (.iaload, 1) := by decide +kernel
theorem dX12_findSorts_261 : decode cX12_findSorts 261 = .ok (.iconst 0, 1) := by decide +kernel
theorem dX12_findSorts_262 : decode cX12_findSorts 262 = .ok (.bastore, 1) := by decide +kernel
theorem dX12_findSorts_263 : decode cX12_findSorts 263 = .ok (.iinc 1 1, 3) := by decide +kernel
theorem dX12_findSorts_266 : decode cX12_findSorts 266 = .ok (.goto (-83), 3) := by decide +kernel
theorem dX12_findSorts_269 : decode cX12_findSorts 269 = .ok (.return_, 1) := by decide +kernel
theorem dX12_beginWork_0 : decode cX12_beginWork 0 = .ok (.aload_n 0, 1) := by decide +kernel
theorem dX12_beginWork_1 : decode cX12_beginWork 1 = .ok (.sipush 639, 3) := by decide +kernel
theorem dX12_beginWork_4 : decode cX12_beginWork 4 = .ok (.invokevirtual 1104, 3) := by decide +kernel
theorem dX12_beginWork_7 : decode cX12_beginWork 7 = .ok (.aload_n 0, 1) := by decide +kernel
theorem dX12_beginWork_8 : decode cX12_beginWork 8 = .ok (.getfield 235, 3) := by decide +kernel
theorem dX12_beginWork_11 : decode cX12_beginWork 11 = .ok (.sipush 639, 3) := by decide +kernel
theorem dX12_beginWork_14 : decode cX12_beginWork 14 = .ok (.iconst 0, 1) := by decide +kernel
theorem dX12_beginWork_15 : decode cX12_beginWork 15 = .ok (.iastore, 1) := by decide +kernel
theorem dX12_beginWork_16 : decode cX12_beginWork 16 = .ok (.aload_n 0, 1) := by decide +kernel
theorem dX12_beginWork_17 : decode cX12_beginWork 17 = .ok (.getfield 247, 3) := by decide +kernel
theorem dX12_beginWork_20 : decode cX12_beginWork 20 = .ok (.sipush 639, 3) := by decide +kernel
theorem dX12_beginWork_23 : decode cX12_beginWork 23 = .ok (.iconst 0, 1) := by decide +kernel
theorem dX12_beginWork_24 : decode cX12_beginWork 24 = .ok (.iastore, 1) := by decide +kernel
theorem dX12_beginWork_25 : decode cX12_beginWork 25 = .ok (.iconst 0, 1) := by decide +kernel
theorem dX12_beginWork_26 : decode cX12_beginWork 26 = .ok (.istore_n 1, 1) := by decide +kernel
theorem dX12_beginWork_27 : decode cX12_beginWork 27 = .ok (.iload_n 1, 1) := by decide +kernel
theorem dX12_beginWork_28 : decode cX12_beginWork 28 = .ok (.bipush 23, 2) := by decide +kernel
theorem dX12_beginWork_30 : decode cX12_beginWork 30 = .ok (.if_icmp .ge 44, 3) := by decide +kernel
theorem dX12_beginWork_33 : decode cX12_beginWork 33 = .ok (.aload_n 0, 1) := by decide +kernel
theorem dX12_beginWork_34 : decode cX12_beginWork 34 = .ok (.iload_n 1, 1) := by decide +kernel
theorem dX12_beginWork_35 : decode cX12_beginWork 35 = .ok (.iload_n 1, 1) := by decide +kernel
theorem dX12_beginWork_36 : decode cX12_beginWork 36 = .ok (.iconst 1, 1) := by decide +kernel
theorem dX12_beginWork_37 : decode cX12_beginWork 37 = .ok (.if_icmp .ne 7, 3) := by decide +kernel
theorem dX12_beginWork_40 : decode cX12_beginWork 40 = .ok (.iconst (-1), 1) := by decide +kernel
theorem dX12_beginWork_41 : decode cX12_beginWork 41 = .ok (.goto 24, 3) := by decide +kernel
theorem dX12_beginWork_44 : decode cX12_beginWork 44 = .ok (.iload_n 1, 1) := by decide +kernel
theorem dX12_beginWork_45 : decode cX12_beginWork 45 = .ok (.bipush 6, 2) := by decide +kernel
theorem dX12_beginWork_47 : decode cX12_beginWork 47 = .ok (.if_icmp .ge 7, 3) := by decide +kernel
theorem dX12_beginWork_50 : decode cX12_beginWork 50 = .ok (.iconst 1, 1) := by decide +kernel
theorem dX12_beginWork_51 : decode cX12_beginWork 51 = .ok (.goto 14, 3) := by decide +kernel
theorem dX12_beginWork_54 : decode cX12_beginWork 54 = .ok (.iload_n 1, 1) := by decide +kernel
theorem dX12_beginWork_55 : decode cX12_beginWork 55 = .ok (.bipush 9, 2) := by decide +kernel
theorem dX12_beginWork_57 : decode cX12_beginWork 57 = .ok (.if_icmp .ge 7, 3) := by decide +kernel
theorem dX12_beginWork_60 : decode cX12_beginWork 60 = .ok (.iconst 5, 1) := by decide +kernel
theorem dX12_beginWork_61 : decode cX12_beginWork 61 = .ok (.goto 4, 3) := by decide +kernel
theorem dX12_beginWork_64 : decode cX12_beginWork 64 = .ok (.iconst 2, 1) := by decide +kernel
theorem dX12_beginWork_65 : decode cX12_beginWork 65 = .ok (.invokevirtual 1182, 3) := by decide +kernel
theorem dX12_beginWork_68 : decode cX12_beginWork 68 = .ok (.iinc 1 1, 3) := by decide +kernel
theorem dX12_beginWork_71 : decode cX12_beginWork 71 = .ok (.goto (-44), 3) := by decide +kernel
theorem dX12_beginWork_74 : decode cX12_beginWork 74 = .ok (.iconst 0, 1) := by decide +kernel
theorem dX12_beginWork_75 : decode cX12_beginWork 75 = .ok (.istore_n 1, 1) := by decide +kernel
theorem dX12_beginWork_76 : decode cX12_beginWork 76 = .ok (.iload_n 1, 1) := by decide +kernel
theorem dX12_beginWork_77 : decode cX12_beginWork 77 = .ok (.bipush 9, 2) := by decide +kernel
theorem dX12_beginWork_79 : decode cX12_beginWork 79 = .ok (.if_icmp .ge 21, 3) := by decide +kernel
theorem dX12_beginWork_82 : decode cX12_beginWork 82 = .ok (.aload_n 0, 1) := by decide +kernel
theorem dX12_beginWork_83 : decode cX12_beginWork 83 = .ok (.iconst 0, 1) := by decide +kernel
theorem dX12_beginWork_84 : decode cX12_beginWork 84 = .ok (.iconst 5, 1) := by decide +kernel
theorem dX12_beginWork_85 : decode cX12_beginWork 85 = .ok (.iload_n 1, 1) := by decide +kernel
theorem dX12_beginWork_86 : decode cX12_beginWork 86 = .ok (.iadd, 1) := by decide +kernel
theorem dX12_beginWork_87 : decode cX12_beginWork 87 = .ok (.bipush 9, 2) := by decide +kernel
theorem dX12_beginWork_89 : decode cX12_beginWork 89 = .ok (.iload_n 1, 1) := by decide +kernel
theorem dX12_beginWork_90 : decode cX12_beginWork 90 = .ok (.iadd, 1) := by decide +kernel
theorem dX12_beginWork_91 : decode cX12_beginWork 91 = .ok (.invokevirtual 1370, 3) := by decide +kernel
theorem dX12_beginWork_94 : decode cX12_beginWork 94 = .ok (.iinc 1 1, 3) := by decide +kernel
theorem dX12_beginWork_97 : decode cX12_beginWork 97 = .ok (.goto (-21), 3) := by decide +kernel
theorem dX12_beginWork_100 : decode cX12_beginWork 100 = .ok (.aload_n 0, 1) := by decide +kernel
theorem dX12_beginWork_101 : decode cX12_beginWork 101 = .ok (.iconst 1, 1) := by decide +kernel
theorem dX12_beginWork_102 : decode cX12_beginWork 102 = .ok (.iconst 2, 1) := by decide +kernel
theorem dX12_beginWork_103 : decode cX12_beginWork 103 = .ok (.bipush 10, 2) := by decide +kernel
theorem dX12_beginWork_105 : decode cX12_beginWork 105 = .ok (.invokevirtual 1370, 3) := by decide +kernel
theorem dX12_beginWork_108 : decode cX12_beginWork 108 = .ok (.aload_n 0, 1) := by decide +kernel
theorem dX12_beginWork_109 : decode cX12_beginWork 109 = .ok (.iconst 1, 1) := by decide +kernel
theorem dX12_beginWork_110 : decode cX12_beginWork 110 = .ok (.bipush 17, 2) := by decide +kernel
theorem dX12_beginWork_112 : decode cX12_beginWork 112 = .ok (.bipush 21, 2) := by decide +kernel
theorem dX12_beginWork_114 : decode cX12_beginWork 114 = .ok (.invokevirtual 1370, 3) := by decide +kernel
theorem dX12_beginWork_117 : decode cX12_beginWork 117 = .ok (.aload_n 0, 1) := by decide +kernel
theorem dX12_beginWork_118 : decode cX12_beginWork 118 = .ok (.iconst 2, 1) := by decide +kernel
theorem dX12_beginWork_119 : decode cX12_beginWork 119 = .ok (.bipush 16, 2) := by decide +kernel
theorem dX12_beginWork_121 : decode cX12_beginWork 121 = .ok (.bipush 20, 2) := by decide +kernel
theorem dX12_beginWork_123 : decode cX12_beginWork 123 = .ok (.invokevirtual 1370, 3) := by decide +kernel
theorem dX12_beginWork_126 : decode cX12_beginWork 126 = .ok (.aload_n 0, 1) := by decide +kernel
theorem dX12_beginWork_127 : decode cX12_beginWork 127 = .ok (.iconst 3, 1) := by decide +kernel
theorem dX12_beginWork_128 : decode cX12_beginWork 128 = .ok (.iconst 2, 1) := by decide +kernel
theorem dX12_beginWork_129 : decode cX12_beginWork 129 = .ok (.bipush 11, 2) := by decide +kernel
theorem dX12_beginWork_131 : decode cX12_beginWork 131 = .ok (.invokevirtual 1370, 3) := by decide +kernel
theorem dX12_beginWork_134 : decode cX12_beginWork 134 = .ok (.aload_n 0, 1) := by decide +kernel
theorem dX12_beginWork_135 : decode cX12_beginWork 135 = .ok (.iconst 3, 1) := by decide +kernel
theorem dX12_beginWork_136 : decode cX12_beginWork 136 = .ok (.bipush 14, 2) := by decide +kernel
theorem dX12_beginWork_138 : decode cX12_beginWork 138 = .ok (.bipush 18, 2) := by decide +kernel
theorem dX12_beginWork_140 : decode cX12_beginWork 140 = .ok (.invokevirtual 1370, 3) := by decide +kernel
theorem dX12_beginWork_143 : decode cX12_beginWork 143 = .ok (.aload_n 0, 1) := by decide +kernel
theorem dX12_beginWork_144 : decode cX12_beginWork 144 = .ok (.iconst 3, 1) := by decide +kernel
theorem dX12_beginWork_145 : decode cX12_beginWork 145 = .ok (.bipush 15, 2) := by decide +kernel
theorem dX12_beginWork_147 : decode cX12_beginWork 147 = .ok (.bipush 19, 2) := by decide +kernel
theorem dX12_beginWork_149 : decode cX12_beginWork 149 = .ok (.invokevirtual 1370, 3) := by decide +kernel
theorem dX12_beginWork_152 : decode cX12_beginWork 152 = .ok (.aload_n 0, 1) := by decide +kernel
theorem dX12_beginWork_153 : decode cX12_beginWork 153 = .ok (.iconst 4, 1) := by decide +kernel
theorem dX12_beginWork_154 : decode cX12_beginWork 154 = .ok (.iconst 2, 1) := by decide +kernel
theorem dX12_beginWork_155 : decode cX12_beginWork 155 = .ok (.bipush 12, 2) := by decide +kernel
theorem dX12_beginWork_157 : decode cX12_beginWork 157 = .ok (.invokevirtual 1370, 3) := by decide +kernel
theorem dX12_beginWork_160 : decode cX12_beginWork 160 = .ok (.aload_n 0, 1) := by decide +kernel
theorem dX12_beginWork_161 : decode cX12_beginWork 161 = .ok (.iconst 4, 1) := by decide +kernel
theorem dX12_beginWork_162 : decode cX12_beginWork 162 = .ok (.bipush 18, 2) := by decide +kernel
theorem dX12_beginWork_164 : decode cX12_beginWork 164 = .ok (.bipush 22, 2) := by decide +kernel
theorem dX12_beginWork_166 : decode cX12_beginWork 166 = .ok (.invokevirtual 1370, 3) := by decide +kernel
theorem dX12_beginWork_169 : decode cX12_beginWork 169 = .ok (.iconst 0, 1) := by decide +kernel
theorem dX12_beginWork_170 : decode cX12_beginWork 170 = .ok (.istore_n 1, 1) := by decide +kernel
theorem dX12_beginWork_171 : decode cX12_beginWork 171 = .ok (.iload_n 1, 1) := by decide +kernel
theorem dX12_beginWork_172 : decode cX12_beginWork 172 = .ok (.iconst 4, 1) := by decide +kernel
theorem dX12_beginWork_173 : decode cX12_beginWork 173 = .ok (.if_icmp .ge 49, 3) := by decide +kernel
theorem dX12_beginWork_176 : decode cX12_beginWork 176 = .ok (.aload_n 0, 1) := by decide +kernel
theorem dX12_beginWork_177 : decode cX12_beginWork 177 = .ok (.iconst 5, 1) := by decide +kernel
theorem dX12_beginWork_178 : decode cX12_beginWork 178 = .ok (.iload_n 1, 1) := by decide +kernel
theorem dX12_beginWork_179 : decode cX12_beginWork 179 = .ok (.iadd, 1) := by decide +kernel
theorem dX12_beginWork_180 : decode cX12_beginWork 180 = .ok (.iconst 2, 1) := by decide +kernel
theorem dX12_beginWork_181 : decode cX12_beginWork 181 = .ok (.bipush 14, 2) := by decide +kernel
theorem dX12_beginWork_183 : decode cX12_beginWork 183 = .ok (.iload_n 1, 1) := by decide +kernel
theorem dX12_beginWork_184 : decode cX12_beginWork 184 = .ok (.iadd, 1) := by decide +kernel
theorem dX12_beginWork_185 : decode cX12_beginWork 185 = .ok (.invokevirtual 1370, 3) := by decide +kernel
theorem dX12_beginWork_188 : decode cX12_beginWork 188 = .ok (.aload_n 0, 1) := by decide +kernel
theorem dX12_beginWork_189 : decode cX12_beginWork 189 = .ok (.aload_n 0, 1) := by decide +kernel
theorem dX12_beginWork_190 : decode cX12_beginWork 190 = .ok (.iconst 5, 1) := by decide +kernel
theorem dX12_beginWork_191 : decode cX12_beginWork 191 = .ok (.iload_n 1, 1) := by decide +kernel
theorem dX12_beginWork_192 : decode cX12_beginWork 192 = .ok (.iadd, 1) := by decide +kernel
theorem dX12_beginWork_193 : decode cX12_beginWork 193 = .ok (.iconst 4, 1) := by decide +kernel
theorem dX12_beginWork_194 : decode cX12_beginWork 194 = .ok (.invokevirtual 1244, 3) := by decide +kernel
theorem dX12_beginWork_197 : decode cX12_beginWork 197 = .ok (.bipush 10, 2) := by decide +kernel
theorem dX12_beginWork_199 : decode cX12_beginWork 199 = .ok (.iload_n 1, 1) := by decide +kernel
theorem dX12_beginWork_200 : decode cX12_beginWork 200 = .ok (.iadd, 1) := by decide +kernel
theorem dX12_beginWork_201 : decode cX12_beginWork 201 = .ok (.invokevirtual 1078, 3) := by decide +kernel
theorem dX12_beginWork_204 : decode cX12_beginWork 204 = .ok (.aload_n 0, 1) := by decide +kernel
theorem dX12_beginWork_205 : decode cX12_beginWork 205 = .ok (.bipush 14, 2) := by decide +kernel
theorem dX12_beginWork_207 : decode cX12_beginWork 207 = .ok (.iload_n 1, 1) := by decide +kernel
theorem dX12_beginWork_208 : decode cX12_beginWork 208 = .ok (.iadd, 1) := by decide +kernel
theorem dX12_beginWork_209 : decode cX12_beginWork 209 = .ok (.iconst 1, 1) := by decide +kernel
theorem dX12_beginWork_210 : decode cX12_beginWork 210 = .ok (.iconst 5, 1) := by decide +kernel
theorem dX12_beginWork_211 : decode cX12_beginWork 211 = .ok (.iload_n 1, 1) := by decide +kernel
theorem dX12_beginWork_212 : decode cX12_beginWork 212 = .ok (.iadd, 1) := by decide +kernel
theorem dX12_beginWork_213 : decode cX12_beginWork 213 = .ok (.invokevirtual 1370, 3) := by decide +kernel
theorem dX12_beginWork_216 : decode cX12_beginWork 216 = .ok (.iinc 1 1, 3) := by decide +kernel
theorem dX12_beginWork_219 : decode cX12_beginWork 219 = .ok (.goto (-48), 3) := by decide +kernel
theorem dX12_beginWork_222 : decode cX12_beginWork 222 = .ok (.aload_n 0, 1) := by decide +kernel
theorem dX12_beginWork_223 : decode cX12_beginWork 223 = .ok (.bipush 10, 2) := by decide +kernel
theorem dX12_beginWork_225 : decode cX12_beginWork 225 = .ok (.iconst 1, 1) := by decide +kernel
theorem dX12_beginWork_226 : decode cX12_beginWork 226 = .ok (.iconst 1, 1) := by decide +kernel
theorem dX12_beginWork_227 : decode cX12_beginWork 227 = .ok (.invokevirtual 1370, 3) := by decide +kernel
theorem dX12_beginWork_230 : decode cX12_beginWork 230 = .ok (.aload_n 0, 1) := by decide +kernel
theorem dX12_beginWork_231 : decode cX12_beginWork 231 = .ok (.bipush 11, 2) := by decide +kernel
theorem dX12_beginWork_233 : decode cX12_beginWork 233 = .ok (.iconst 1, 1) := by decide +kernel
theorem dX12_beginWork_234 : decode cX12_beginWork 234 = .ok (.iconst 3, 1) := by decide +kernel
theorem dX12_beginWork_235 : decode cX12_beginWork 235 = .ok (.invokevirtual 1370, 3) := by decide +kernel
theorem dX12_beginWork_238 : decode cX12_beginWork 238 = .ok (.aload_n 0, 1) := by decide +kernel
theorem dX12_beginWork_239 : decode cX12_beginWork 239 = .ok (.bipush 12, 2) := by decide +kernel
theorem dX12_beginWork_241 : decode cX12_beginWork 241 = .ok (.iconst 1, 1) := by decide +kernel
theorem dX12_beginWork_242 : decode cX12_beginWork 242 = .ok (.iconst 4, 1) := by decide +kernel
theorem dX12_beginWork_243 : decode cX12_beginWork 243 = .ok (.invokevirtual 1370, 3) := by decide +kernel
theorem dX12_beginWork_246 : decode cX12_beginWork 246 = .ok (.aload_n 0, 1) := by decide +kernel
theorem dX12_beginWork_247 : decode cX12_beginWork 247 = .ok (.aload_n 0, 1) := by decide +kernel
theorem dX12_beginWork_248 : decode cX12_beginWork 248 = .ok (.sipush 639, 3) := by decide +kernel
theorem dX12_beginWork_251 : decode cX12_beginWork 251 = .ok (.invokevirtual 1098, 3) := by decide +kernel
theorem dX12_beginWork_254 : decode cX12_beginWork 254 = .ok (.iconst 1, 1) := by decide +kernel
theorem dX12_beginWork_255 : decode cX12_beginWork 255 = .ok (.invokevirtual 1072, 3) := by decide +kernel
theorem dX12_beginWork_258 : decode cX12_beginWork 258 = .ok (.return_, 1) := by decide +kernel

def q_findSorts (S : sv_S) : Option Value → sv_S → Prop := fun v S' => v = none ∧ sm_ok S' ∧ sv_mod [88, 89, 87, 1113, 5, 1011, 90] S S' ∧ (True)
theorem la_findSorts_0 {x0 : Int} (h0 : 31 ≤ x0) : (0 : Int) ≤ 0 ∧ 0 ≤ x0 := by omega
theorem la_findSorts_1 {x0 x1 : Int} (h0 : x0 ≤ x1) : 0 ≤ x1 - x0 := by omega
theorem la_findSorts_2 {x0 : Int} (h0 : 0 ≤ x0) : (0 : Int) ≤ 0 ∧ 0 ≤ x0 := by omega
theorem la_findSorts_3 {x0 x1 : Int} (h0 : ¬ x0 ≤ x1) : x1 < x0 := by omega
theorem la_findSorts_4 {x0 x1 x2 : Int} (h0 : 1 ≤ x0) (h1 : x1 + 2 * x0 ≤ 500) (h2 : 0 ≤ x2) (h3 : ¬ x1 ≤ x2) : 0 ≤ x2 ∧ x2 < 600 := by omega
theorem la_findSorts_5 {x0 x1 x2 x3 x4 x5 x6 x7 x8 x9 x10 x11 x12 x13 x14 x15 x16 : Int} (h0 : 1 ≤ x0) (h1 : x1 ≤ 19) (h2 : x2 + 2 * x0 ≤ 500) (h3 : 0 ≤ x3) (h4 : ¬ x2 ≤ x3) (h5 : x4 = 7 ∨ x4 = 8 → (0 ≤ x5 ∧ x5 < x1) ∧ (0 ≤ x6 ∧ (0 ≤ x7 → x8 ≤ x6) ∧ (0 ≤ x9 → x10 ≤ x6)) ∧ 0 ≤ x3 + 1 ∧ x3 + 1 < x2 ∧ x11 = x12 ∧ x13 = x6 + 1 ∧ x14 = x7 ∧ x15 = x9) : x4 = 8 → sv_R x5 → (¬ x4 = 8 → (0 ≤ x5 ∧ x5 < 20) ∧ (¬ x4 = 16 → sv_R (x3 + 1) ∧ (0 ≤ x3 + 1 ∧ x3 + 1 ≤ x2) ∧ x2 - (x3 + 1) < x2 - x3) ∧ (¬ ¬ x4 = 16 → sv_R x16 → (0 ≤ x16 ∧ x16 < 20) ∧ sv_R (x3 + 1) ∧ (0 ≤ x3 + 1 ∧ x3 + 1 ≤ x2) ∧ x2 - (x3 + 1) < x2 - x3)) ∧ (¬ ¬ x4 = 8 → (0 ≤ x5 ∧ x5 < 20) ∧ (¬ x4 = 16 → sv_R (x3 + 1) ∧ (0 ≤ x3 + 1 ∧ x3 + 1 ≤ x2) ∧ x2 - (x3 + 1) < x2 - x3) ∧ (¬ ¬ x4 = 16 → sv_R x16 → (0 ≤ x16 ∧ x16 < 20) ∧ sv_R (x3 + 1) ∧ (0 ≤ x3 + 1 ∧ x3 + 1 ≤ x2) ∧ x2 - (x3 + 1) < x2 - x3)) := by omega
theorem la_findSorts_6 {x0 x1 x2 x3 x4 x5 x6 x7 x8 x9 x10 x11 x12 x13 x14 x15 x16 : Int} (h0 : 1 ≤ x0) (h1 : x1 ≤ 19) (h2 : x2 + 2 * x0 ≤ 500) (h3 : 0 ≤ x3) (h4 : ¬ x2 ≤ x3) (h5 : x4 = 16 → (0 ≤ x5 ∧ x5 ≤ 8 ∧ 0 ≤ x6 ∧ x6 < x1) ∧ (0 ≤ x7 - x5 - 1 ∧ (0 ≤ x8 → x9 ≤ x7 - x5 - 1) ∧ (0 ≤ x10 → x11 ≤ x7 - x5 - 1)) ∧ 0 ≤ x3 + 1 ∧ x3 + 1 < x2 ∧ x12 = x13 ∧ x14 = x7 - x5 ∧ x15 = x8 ∧ x16 = x10) : ¬ x4 = 7 → (¬ x4 = 16 → sv_R (x3 + 1) ∧ (0 ≤ x3 + 1 ∧ x3 + 1 ≤ x2) ∧ x2 - (x3 + 1) < x2 - x3) ∧ (¬ ¬ x4 = 16 → sv_R x6 → (0 ≤ x6 ∧ x6 < 20) ∧ sv_R (x3 + 1) ∧ (0 ≤ x3 + 1 ∧ x3 + 1 ≤ x2) ∧ x2 - (x3 + 1) < x2 - x3) := by omega
theorem la_findSorts_7 {x0 : Int} (h0 : ¬ ¬ x0 = 7) : x0 = 7 ∨ x0 = 8 := by omega
theorem la_findSorts_8 {x0 : Int} (h0 : ¬ ¬ x0 = 7) : ¬ x0 = 16 := by omega
theorem la_findSorts_9 {x0 : Int} (h0 : ¬ ¬ x0 = 7) : x0 ≤ 8 := by omega
theorem la_findSorts_10 {x0 : Int} (h0 : x0 ≤ 8) (h1 : ¬ x0 = 8) : x0 < 8 := by omega
theorem la_findSorts_11 {x0 x1 x2 x3 x4 x5 x6 : Int} (h0 : 1 ≤ x0) (h1 : x1 ≤ 19) (h2 : x2 + 2 * x0 ≤ 500) (h3 : 0 ≤ x3) (h4 : ¬ ¬ x4 = 7) (h5 : 0 ≤ x5) (h6 : x5 < x1) (h7 : x3 + 1 < x2) (h8 : x4 < 8) : ¬ x4 = 8 → (0 ≤ x5 ∧ x5 < 20) ∧ (¬ x4 = 16 → sv_R (x3 + 1) ∧ (0 ≤ x3 + 1 ∧ x3 + 1 ≤ x2) ∧ x2 - (x3 + 1) < x2 - x3) ∧ (¬ ¬ x4 = 16 → sv_R x6 → (0 ≤ x6 ∧ x6 < 20) ∧ sv_R (x3 + 1) ∧ (0 ≤ x3 + 1 ∧ x3 + 1 ≤ x2) ∧ x2 - (x3 + 1) < x2 - x3) := by omega
theorem la_findSorts_12 {x0 x1 : Int} (h0 : x0 ≤ 19) (h1 : 0 ≤ x1) (h2 : x1 < x0) : 0 ≤ x1 ∧ x1 < 20 := by omega
theorem la_findSorts_13 {x0 x1 x2 x3 : Int} (h0 : 1 ≤ x0) (h1 : x1 + 2 * x0 ≤ 500) (h2 : 0 ≤ x2) (h3 : ¬ ¬ x3 = 7) (h4 : x2 + 1 < x1) : ¬ x3 = 16 → sv_R (x2 + 1) ∧ (0 ≤ x2 + 1 ∧ x2 + 1 ≤ x1) ∧ x1 - (x2 + 1) < x1 - x2 := by omega
theorem la_findSorts_14 {x0 : Int} (h0 : ¬ ¬ x0 = 7) (h1 : ¬ ¬ x0 = 16) : False := by omega
theorem la_findSorts_15 {x0 x1 x2 : Int} (h0 : 1 ≤ x0) (h1 : x1 + 2 * x0 ≤ 500) (h2 : 0 ≤ x2) (h3 : x2 + 1 < x1) : sv_R (x2 + 1) := by omega
theorem la_findSorts_16 {x0 x1 : Int} (h0 : 0 ≤ x0) (h1 : x0 + 1 < x1) : 0 ≤ x0 + 1 ∧ x0 + 1 ≤ x1 := by omega
theorem la_findSorts_17 {x0 x1 : Int} : x0 - (x1 + 1) < x0 - x1 := by omega
theorem la_findSorts_18 {x0 x1 : Int} (h0 : x0 ≤ 90) (h1 : 0 ≤ x1) (h2 : ¬ x0 ≤ x1) : 0 ≤ x1 ∧ x1 < 400 := by omega
theorem la_findSorts_19 {x0 x1 : Int} (h0 : x0 ≤ 90) (h1 : 0 ≤ x1) (h2 : ¬ x0 ≤ x1) : 0 ≤ x1 ∧ x1 < 90 := by omega
theorem la_findSorts_20 {x0 x1 x2 : Int} (h0 : x0 ≤ 90) (h1 : 0 ≤ x1) (h2 : ¬ x0 ≤ x1) : x2 = 0 → sv_R (x1 + 1) ∧ (0 ≤ x1 + 1 ∧ x1 + 1 ≤ x0) ∧ x0 - (x1 + 1) < x0 - x1 := by omega
theorem la_findSorts_21 {x0 : Int} (h0 : x0 = 1) : 0 ≤ x0 := by omega
theorem la_findSorts_22 {x0 : Int} (h0 : 0 ≤ x0) (h1 : ¬ x0 = 0) : 0 < x0 := by omega
theorem la_findSorts_23 {x0 : Int} (h0 : 31 ≤ x0) : 0 ≤ x0 := by omega
theorem la_findSorts_24 {x0 : Int} (h0 : 0 ≤ x0) (h1 : x0 ≤ 200) : 0 ≤ x0 ∧ x0 ≤ 200 := by omega
theorem la_findSorts_25 {x0 x1 x2 : Int} (h0 : x0 ≤ 90) (h1 : 0 ≤ x1) (h2 : ¬ x0 ≤ x1) : ¬ x2 = x1 → sv_R (x1 + 1) ∧ (0 ≤ x1 + 1 ∧ x1 + 1 ≤ x0) ∧ x0 - (x1 + 1) < x0 - x1 := by omega
theorem la_findSorts_26 {x0 x1 : Int} (h0 : 0 ≤ x0) (h1 : ¬ ¬ x1 = x0) : ¬ x1 = (-1) := by omega
theorem la_findSorts_27 {x0 x1 : Int} (h0 : x0 ≤ 90) (h1 : 0 ≤ x1) (h2 : ¬ x0 ≤ x1) : sv_R (x1 + 1) := by omega
theorem la_findSorts_28 {x0 x1 : Int} (h0 : 0 ≤ x0) (h1 : ¬ x1 ≤ x0) : 0 ≤ x0 + 1 ∧ x0 + 1 ≤ x1 := by omega
theorem la_findSorts_29 {x0 : Int} : x0 = 0 → (0 : Int) ≤ 0 ∧ (0 : Int) ≤ 200 := by omega
theorem la_findSorts_30 : (0 : Int) ≤ 0 ∧ (0 : Int) ≤ 188 := by omega
theorem la_findSorts_31 {x0 : Int} (h0 : x0 ≤ 0 + 11) : x0 ≤ 200 := by omega
theorem la_findSorts_32 {x0 : Int} : x0 ≤ 0 → (0 : Int) = 0 ∨ (0 : Int) = 1 := by omega
theorem la_findSorts_33 {x0 : Int} : x0 = 0 → (0 : Int) = 0 ∨ (0 : Int) = 1 := by omega
theorem la_findSorts_34 : (1 : Int) = 0 ∨ (1 : Int) = 1 := by omega
theorem la_findSorts_35 {x0 : Int} (h0 : x0 ≤ 0) : x0 ≤ 3 := by omega
theorem la_findSorts_36 {x0 : Int} (h0 : x0 ≤ 3) (h1 : ¬ x0 = 3) : x0 < 3 := by omega
theorem la_findSorts_37 {x0 x1 : Int} (h0 : x0 ≤ 90) (h1 : 0 ≤ x1) (h2 : ¬ x0 ≤ x1) : 0 ≤ 60 * x1 ∧ 60 * x1 < 24000 := by omega
theorem la_findSorts_38 {x0 x1 : Int} (h0 : x0 ≤ 90) (h1 : 0 ≤ x1) (h2 : ¬ x0 ≤ x1) : 0 ≤ 60 * x1 + 1 ∧ 60 * x1 + 1 < 24000 := by omega
theorem la_findSorts_39 {x0 x1 : Int} (h0 : x0 ≤ 90) (h1 : 0 ≤ x1) (h2 : ¬ x0 ≤ x1) : 0 ≤ 60 * x1 + 2 ∧ 60 * x1 + 2 < 24000 := by omega
theorem la_findSorts_40 {x0 : Int} (h0 : (-1) ≤ x0) (h1 : ¬ x0 = (-1)) : (-1) < x0 := by omega
set_option maxHeartbeats 2000000 in
theorem f_findSorts : ∀ (S : sv_S), sm_ok S → (29 ≤ (S 1071 0) ∧ (S 1071 0) ≤ 127 ∧ 31 ≤ (S 1008 0) ∧ (S 1008 0) ≤ 90 ∧ 1 ≤ (S 1032 0) ∧ (S 1032 0) ≤ 11 ∧ 0 ≤ (S 1055 0) ∧ (S 1055 0) ≤ 19 ∧ (S 1071 0) = 29 + 6 * ((S 1032 0) - 1) + 2 * (S 1055 0) ∧ 0 ≤ (S 1046 0) ∧ (S 1046 0) + 2 * (S 1032 0) ≤ 500 ∧ sm_PD (S 1046 0) (S 1032 0) (S 1071 0) (S 1008 0) ∧ 0 ≤ (S 1071 0) * ((S 1008 0) + 1) ∧ (S 1071 0) * ((S 1008 0) + 1) ≤ 11557 ∧ 31 ≤ (S 1007 0) ∧ (S 1007 0) ≤ 400 ∧ sm_LN (S 4) 400 (S 1007 0) ∧ sm_CT (S 26) (S 27) (S 28) (S 29) (S 1100007) (S 1100023) (S 1100024) (S 1100025) (S 21) (S 1046 0) (S 1032 0) (S 1008 0) (S 1055 0)) → ((0 ≤ (0 : Int) ∧ (0 : Int) ≤ (S 1008 0)) ∧ (∀ l1_2 : Int, sv_R l1_2 → ∀ g1 : sv_S, (0 ≤ l1_2 ∧ l1_2 ≤ (S 1008 0)) → (0 ≤ (S 1008 0) - l1_2) ∧ (sv_R (S 1008 0) → ((((S 1008 0) ≤ l1_2) → ((0 ≤ (0 : Int) ∧ (0 : Int) ≤ (S 1046 0)) ∧ (∀ l1_10 : Int, sv_R l1_10 → ∀ g9 : sv_S, (0 ≤ l1_10 ∧ l1_10 ≤ (S 1046 0)) → (0 ≤ (S 1046 0) - l1_10) ∧ (sv_R (S 1046 0) → ((((S 1046 0) ≤ l1_10) → (True)) ∧ ((¬ ((S 1046 0) ≤ l1_10)) → ((sm_CT (S 26) (S 27) (S 28) (S 29) (S 1100007) (S 1100023) (S 1100024) (S 1100025) (S 21) (S 1046 0) (S 1032 0) (S 1008 0) (S 1055 0) → 0 ≤ l1_10 → l1_10 < (S 1046 0) → (((S 26 l1_10) = 7 ∨ (S 26 l1_10) = 8) → (0 ≤ (S 27 l1_10) ∧ (S 27 l1_10) < (S 1055 0)) ∧ (0 ≤ ((S 1100007 l1_10)) ∧ (0 ≤ (S 1100023 l1_10) → (S 1100007 (S 1100023 l1_10)) ≤ ((S 1100007 l1_10))) ∧ (0 ≤ (S 1100025 l1_10) → (S 1100007 (S 1100025 l1_10)) ≤ ((S 1100007 l1_10)))) ∧ (0 ≤ (l1_10 + 1) ∧ (l1_10 + 1) < (S 1046 0) ∧ (S 29 (l1_10 + 1)) = ((S 29 l1_10)) ∧ (S 1100007 (l1_10 + 1)) = ((S 1100007 l1_10) + 1) ∧ (S 1100023 (l1_10 + 1)) = ((S 1100023 l1_10)) ∧ (S 1100025 (l1_10 + 1)) = ((S 1100025 l1_10))))) → ((sm_CT (S 26) (S 27) (S 28) (S 29) (S 1100007) (S 1100023) (S 1100024) (S 1100025) (S 21) (S 1046 0) (S 1032 0) (S 1008 0) (S 1055 0) → 0 ≤ l1_10 → l1_10 < (S 1046 0) → ((S 26 l1_10) = 16 → (0 ≤ (S 27 l1_10) ∧ (S 27 l1_10) ≤ 8 ∧ 0 ≤ (S 28 l1_10) ∧ (S 28 l1_10) < (S 1055 0)) ∧ (0 ≤ ((S 1100007 l1_10) - (S 27 l1_10) - 1) ∧ (0 ≤ (S 1100023 l1_10) → (S 1100007 (S 1100023 l1_10)) ≤ ((S 1100007 l1_10) - (S 27 l1_10) - 1)) ∧ (0 ≤ (S 1100025 l1_10) → (S 1100007 (S 1100025 l1_10)) ≤ ((S 1100007 l1_10) - (S 27 l1_10) - 1))) ∧ (0 ≤ (l1_10 + 1) ∧ (l1_10 + 1) < (S 1046 0) ∧ (S 29 (l1_10 + 1)) = ((S 29 l1_10)) ∧ (S 1100007 (l1_10 + 1)) = ((S 1100007 l1_10) - (S 27 l1_10)) ∧ (S 1100023 (l1_10 + 1)) = ((S 1100023 l1_10)) ∧ (S 1100025 (l1_10 + 1)) = ((S 1100025 l1_10))))) → (0 ≤ l1_10 ∧ l1_10 < 600) ∧ (sv_R (S 26 l1_10) → ((((S 26 l1_10) = (8 : Int)) → (sv_R (S 27 l1_10) → (((¬ (S 26 l1_10) = (8 : Int)) → (0 ≤ (S 27 l1_10) ∧ (S 27 l1_10) < 20) ∧ (((¬ (S 26 l1_10) = (16 : Int)) → (sv_R (l1_10 + (1 : Int))) ∧ ((0 ≤ (l1_10 + (1 : Int)) ∧ (l1_10 + (1 : Int)) ≤ (S 1046 0)) ∧ ((S 1046 0) - (l1_10 + (1 : Int))) < ((S 1046 0) - l1_10))) ∧ ((¬ (¬ (S 26 l1_10) = (16 : Int))) → (sv_R (S 28 l1_10) → (0 ≤ (S 28 l1_10) ∧ (S 28 l1_10) < 20) ∧ (sv_R (l1_10 + (1 : Int))) ∧ ((0 ≤ (l1_10 + (1 : Int)) ∧ (l1_10 + (1 : Int)) ≤ (S 1046 0)) ∧ ((S 1046 0) - (l1_10 + (1 : Int))) < ((S 1046 0) - l1_10)))))) ∧ ((¬ (¬ (S 26 l1_10) = (8 : Int))) → (0 ≤ (S 27 l1_10) ∧ (S 27 l1_10) < 20) ∧ (((¬ (S 26 l1_10) = (16 : Int)) → (sv_R (l1_10 + (1 : Int))) ∧ ((0 ≤ (l1_10 + (1 : Int)) ∧ (l1_10 + (1 : Int)) ≤ (S 1046 0)) ∧ ((S 1046 0) - (l1_10 + (1 : Int))) < ((S 1046 0) - l1_10))) ∧ ((¬ (¬ (S 26 l1_10) = (16 : Int))) → (sv_R (S 28 l1_10) → (0 ≤ (S 28 l1_10) ∧ (S 28 l1_10) < 20) ∧ (sv_R (l1_10 + (1 : Int))) ∧ ((0 ≤ (l1_10 + (1 : Int)) ∧ (l1_10 + (1 : Int)) ≤ (S 1046 0)) ∧ ((S 1046 0) - (l1_10 + (1 : Int))) < ((S 1046 0) - l1_10))))))))) ∧ ((¬ ((S 26 l1_10) = (8 : Int))) → (((¬ (S 26 l1_10) = (7 : Int)) → (((¬ (S 26 l1_10) = (16 : Int)) → (sv_R (l1_10 + (1 : Int))) ∧ ((0 ≤ (l1_10 + (1 : Int)) ∧ (l1_10 + (1 : Int)) ≤ (S 1046 0)) ∧ ((S 1046 0) - (l1_10 + (1 : Int))) < ((S 1046 0) - l1_10))) ∧ ((¬ (¬ (S 26 l1_10) = (16 : Int))) → (sv_R (S 28 l1_10) → (0 ≤ (S 28 l1_10) ∧ (S 28 l1_10) < 20) ∧ (sv_R (l1_10 + (1 : Int))) ∧ ((0 ≤ (l1_10 + (1 : Int)) ∧ (l1_10 + (1 : Int)) ≤ (S 1046 0)) ∧ ((S 1046 0) - (l1_10 + (1 : Int))) < ((S 1046 0) - l1_10)))))) ∧ ((¬ (¬ (S 26 l1_10) = (7 : Int))) → (sv_R (S 27 l1_10) → (((¬ (S 26 l1_10) = (8 : Int)) → (0 ≤ (S 27 l1_10) ∧ (S 27 l1_10) < 20) ∧ (((¬ (S 26 l1_10) = (16 : Int)) → (sv_R (l1_10 + (1 : Int))) ∧ ((0 ≤ (l1_10 + (1 : Int)) ∧ (l1_10 + (1 : Int)) ≤ (S 1046 0)) ∧ ((S 1046 0) - (l1_10 + (1 : Int))) < ((S 1046 0) - l1_10))) ∧ ((¬ (¬ (S 26 l1_10) = (16 : Int))) → (sv_R (S 28 l1_10) → (0 ≤ (S 28 l1_10) ∧ (S 28 l1_10) < 20) ∧ (sv_R (l1_10 + (1 : Int))) ∧ ((0 ≤ (l1_10 + (1 : Int)) ∧ (l1_10 + (1 : Int)) ≤ (S 1046 0)) ∧ ((S 1046 0) - (l1_10 + (1 : Int))) < ((S 1046 0) - l1_10)))))) ∧ ((¬ (¬ (S 26 l1_10) = (8 : Int))) → (0 ≤ (S 27 l1_10) ∧ (S 27 l1_10) < 20) ∧ (((¬ (S 26 l1_10) = (16 : Int)) → (sv_R (l1_10 + (1 : Int))) ∧ ((0 ≤ (l1_10 + (1 : Int)) ∧ (l1_10 + (1 : Int)) ≤ (S 1046 0)) ∧ ((S 1046 0) - (l1_10 + (1 : Int))) < ((S 1046 0) - l1_10))) ∧ ((¬ (¬ (S 26 l1_10) = (16 : Int))) → (sv_R (S 28 l1_10) → (0 ≤ (S 28 l1_10) ∧ (S 28 l1_10) < 20) ∧ (sv_R (l1_10 + (1 : Int))) ∧ ((0 ≤ (l1_10 + (1 : Int)) ∧ (l1_10 + (1 : Int)) ≤ (S 1046 0)) ∧ ((S 1046 0) - (l1_10 + (1 : Int))) < ((S 1046 0) - l1_10))))))))))))))))))))) ∧ ((¬ ((S 1008 0) ≤ l1_2)) → (31 ≤ (S 1007 0) ∧ (S 1007 0) ≤ 400 ∧ sm_LN (S 4) 400 (S 1007 0) ∧ 0 ≤ l1_2 ∧ l1_2 < 400) ∧ (∀ r79 : Int, sv_R r79 → (-1 ≤ r79 ∧ r79 ≤ 99) → (((r79 = (-1 : Int)) → (0 ≤ l1_2 ∧ l1_2 < 90) ∧ (0 ≤ l1_2 ∧ l1_2 < 400) ∧ (sv_R (S 4 l1_2) → (((¬ (S 4 l1_2) = (3 : Int)) → ((∀ s90 : Int, sv_R s90 → ∀ g89 : sv_S, (True) → ((∀ s96 : Int, sv_R s96 → (s96 = 0 ∨ s96 = 1) → ((∀ g101 : sv_S, (0 ≤ (g101 1011 0) ∧ (g101 1011 0) ≤ 200) → (((s96 = (0 : Int)) → (sv_R (l1_2 + (1 : Int))) ∧ ((0 ≤ (l1_2 + (1 : Int)) ∧ (l1_2 + (1 : Int)) ≤ (S 1008 0)) ∧ ((S 1008 0) - (l1_2 + (1 : Int))) < ((S 1008 0) - l1_2))) ∧ ((¬ (s96 = (0 : Int))) → (0 ≤ (S 1007 0) ∧ (S 1007 0) ≤ 400 ∧ sm_LN (S 4) 400 (S 1007 0) ∧ 0 ≤ (g101 1011 0) ∧ (g101 1011 0) ≤ 200) ∧ (∀ r116 : Int, sv_R r116 → (r116 = -1 ∨ (0 ≤ r116 ∧ r116 < (S 1007 0) ∧ (S 4 r116) = (g101 1011 0))) → (((¬ r116 = l1_2) → (sv_R (l1_2 + (1 : Int))) ∧ ((0 ≤ (l1_2 + (1 : Int)) ∧ (l1_2 + (1 : Int)) ≤ (S 1008 0)) ∧ ((S 1008 0) - (l1_2 + (1 : Int))) < ((S 1008 0) - l1_2))) ∧ ((¬ (¬ r116 = l1_2)) → (sv_R (l1_2 + (1 : Int))) ∧ ((0 ≤ (l1_2 + (1 : Int)) ∧ (l1_2 + (1 : Int)) ≤ (S 1008 0)) ∧ ((S 1008 0) - (l1_2 + (1 : Int))) < ((S 1008 0) - l1_2)))))))) ∧ (((s96 = (0 : Int)) → (0 ≤ (0 : Int) ∧ (0 : Int) ≤ 200)) ∧ ((¬ (s96 = (0 : Int))) → (0 ≤ (0 : Int) ∧ (0 : Int) ≤ 188) ∧ (∀ g127 : sv_S, (0 ≤ (g127 1011 0) ∧ (0 : Int) ≤ (g127 1011 0) ∧ (g127 1011 0) ≤ (0 : Int) + 11 ∧ (0 ≤ s90 → s90 ≤ 100 → (g127 1011 0) ≤ (0 : Int) + 3)) → (0 ≤ (g127 1011 0) ∧ (g127 1011 0) ≤ 200)))))) ∧ ((((S 4 l1_2) ≤ (0 : Int)) → ((0 : Int) = 0 ∨ (0 : Int) = 1)) ∧ ((¬ ((S 4 l1_2) ≤ (0 : Int))) → ((0 ≤ (g89 1113 0) ∧ (g89 1113 0) ≤ 1) → ((((g89 1113 0) = (0 : Int)) → ((0 : Int) = 0 ∨ (0 : Int) = 1)) ∧ ((¬ ((g89 1113 0) = (0 : Int))) → ((1 : Int) = 0 ∨ (1 : Int) = 1)))))))) ∧ ((((S 4 l1_2) ≤ (0 : Int)) → (True)) ∧ ((¬ ((S 4 l1_2) ≤ (0 : Int))) → (∀ r141 : Int, sv_R r141 → ∀ g137 : sv_S, (True) → (True)))))) ∧ ((¬ (¬ (S 4 l1_2) = (3 : Int))) → (0 ≤ ((60 : Int) * l1_2) ∧ ((60 : Int) * l1_2) < 24000) ∧ ((0 ≤ (S 3 ((60 : Int) * l1_2)) ∧ (S 3 ((60 : Int) * l1_2)) ≤ 65535) → (((¬ (S 3 ((60 : Int) * l1_2)) = (49 : Int)) → ((∀ s151 : Int, sv_R s151 → ∀ g150 : sv_S, (True) → ((∀ s157 : Int, sv_R s157 → (s157 = 0 ∨ s157 = 1) → ((∀ g162 : sv_S, (0 ≤ (g162 1011 0) ∧ (g162 1011 0) ≤ 200) → (((s157 = (0 : Int)) → (sv_R (l1_2 + (1 : Int))) ∧ ((0 ≤ (l1_2 + (1 : Int)) ∧ (l1_2 + (1 : Int)) ≤ (S 1008 0)) ∧ ((S 1008 0) - (l1_2 + (1 : Int))) < ((S 1008 0) - l1_2))) ∧ ((¬ (s157 = (0 : Int))) → (0 ≤ (S 1007 0) ∧ (S 1007 0) ≤ 400 ∧ sm_LN (S 4) 400 (S 1007 0) ∧ 0 ≤ (g162 1011 0) ∧ (g162 1011 0) ≤ 200) ∧ (∀ r177 : Int, sv_R r177 → (r177 = -1 ∨ (0 ≤ r177 ∧ r177 < (S 1007 0) ∧ (S 4 r177) = (g162 1011 0))) → (((¬ r177 = l1_2) → (sv_R (l1_2 + (1 : Int))) ∧ ((0 ≤ (l1_2 + (1 : Int)) ∧ (l1_2 + (1 : Int)) ≤ (S 1008 0)) ∧ ((S 1008 0) - (l1_2 + (1 : Int))) < ((S 1008 0) - l1_2))) ∧ ((¬ (¬ r177 = l1_2)) → (sv_R (l1_2 + (1 : Int))) ∧ ((0 ≤ (l1_2 + (1 : Int)) ∧ (l1_2 + (1 : Int)) ≤ (S 1008 0)) ∧ ((S 1008 0) - (l1_2 + (1 : Int))) < ((S 1008 0) - l1_2)))))))) ∧ (((s157 = (0 : Int)) → (0 ≤ (0 : Int) ∧ (0 : Int) ≤ 200)) ∧ ((¬ (s157 = (0 : Int))) → (0 ≤ (0 : Int) ∧ (0 : Int) ≤ 188) ∧ (∀ g188 : sv_S, (0 ≤ (g188 1011 0) ∧ (0 : Int) ≤ (g188 1011 0) ∧ (g188 1011 0) ≤ (0 : Int) + 11 ∧ (0 ≤ s151 → s151 ≤ 100 → (g188 1011 0) ≤ (0 : Int) + 3)) → (0 ≤ (g188 1011 0) ∧ (g188 1011 0) ≤ 200)))))) ∧ ((((S 4 l1_2) ≤ (0 : Int)) → ((0 : Int) = 0 ∨ (0 : Int) = 1)) ∧ ((¬ ((S 4 l1_2) ≤ (0 : Int))) → ((0 ≤ (g150 1113 0) ∧ (g150 1113 0) ≤ 1) → ((((g150 1113 0) = (0 : Int)) → ((0 : Int) = 0 ∨ (0 : Int) = 1)) ∧ ((¬ ((g150 1113 0) = (0 : Int))) → ((1 : Int) = 0 ∨ (1 : Int) = 1)))))))) ∧ ((((S 4 l1_2) ≤ (0 : Int)) → (True)) ∧ ((¬ ((S 4 l1_2) ≤ (0 : Int))) → (∀ r202 : Int, sv_R r202 → ∀ g198 : sv_S, (True) → (True)))))) ∧ ((¬ (¬ (S 3 ((60 : Int) * l1_2)) = (49 : Int))) → (0 ≤ (((60 : Int) * l1_2) + (1 : Int)) ∧ (((60 : Int) * l1_2) + (1 : Int)) < 24000) ∧ ((0 ≤ (S 3 (((60 : Int) * l1_2) + (1 : Int))) ∧ (S 3 (((60 : Int) * l1_2) + (1 : Int))) ≤ 65535) → (((¬ (S 3 (((60 : Int) * l1_2) + (1 : Int))) = (48 : Int)) → ((∀ s212 : Int, sv_R s212 → ∀ g211 : sv_S, (True) → ((∀ s218 : Int, sv_R s218 → (s218 = 0 ∨ s218 = 1) → ((∀ g223 : sv_S, (0 ≤ (g223 1011 0) ∧ (g223 1011 0) ≤ 200) → (((s218 = (0 : Int)) → (sv_R (l1_2 + (1 : Int))) ∧ ((0 ≤ (l1_2 + (1 : Int)) ∧ (l1_2 + (1 : Int)) ≤ (S 1008 0)) ∧ ((S 1008 0) - (l1_2 + (1 : Int))) < ((S 1008 0) - l1_2))) ∧ ((¬ (s218 = (0 : Int))) → (0 ≤ (S 1007 0) ∧ (S 1007 0) ≤ 400 ∧ sm_LN (S 4) 400 (S 1007 0) ∧ 0 ≤ (g223 1011 0) ∧ (g223 1011 0) ≤ 200) ∧ (∀ r238 : Int, sv_R r238 → (r238 = -1 ∨ (0 ≤ r238 ∧ r238 < (S 1007 0) ∧ (S 4 r238) = (g223 1011 0))) → (((¬ r238 = l1_2) → (sv_R (l1_2 + (1 : Int))) ∧ ((0 ≤ (l1_2 + (1 : Int)) ∧ (l1_2 + (1 : Int)) ≤ (S 1008 0)) ∧ ((S 1008 0) - (l1_2 + (1 : Int))) < ((S 1008 0) - l1_2))) ∧ ((¬ (¬ r238 = l1_2)) → (sv_R (l1_2 + (1 : Int))) ∧ ((0 ≤ (l1_2 + (1 : Int)) ∧ (l1_2 + (1 : Int)) ≤ (S 1008 0)) ∧ ((S 1008 0) - (l1_2 + (1 : Int))) < ((S 1008 0) - l1_2)))))))) ∧ (((s218 = (0 : Int)) → (0 ≤ (0 : Int) ∧ (0 : Int) ≤ 200)) ∧ ((¬ (s218 = (0 : Int))) → (0 ≤ (0 : Int) ∧ (0 : Int) ≤ 188) ∧ (∀ g249 : sv_S, (0 ≤ (g249 1011 0) ∧ (0 : Int) ≤ (g249 1011 0) ∧ (g249 1011 0) ≤ (0 : Int) + 11 ∧ (0 ≤ s212 → s212 ≤ 100 → (g249 1011 0) ≤ (0 : Int) + 3)) → (0 ≤ (g249 1011 0) ∧ (g249 1011 0) ≤ 200)))))) ∧ ((((S 4 l1_2) ≤ (0 : Int)) → ((0 : Int) = 0 ∨ (0 : Int) = 1)) ∧ ((¬ ((S 4 l1_2) ≤ (0 : Int))) → ((0 ≤ (g211 1113 0) ∧ (g211 1113 0) ≤ 1) → ((((g211 1113 0) = (0 : Int)) → ((0 : Int) = 0 ∨ (0 : Int) = 1)) ∧ ((¬ ((g211 1113 0) = (0 : Int))) → ((1 : Int) = 0 ∨ (1 : Int) = 1)))))))) ∧ ((((S 4 l1_2) ≤ (0 : Int)) → (True)) ∧ ((¬ ((S 4 l1_2) ≤ (0 : Int))) → (∀ r263 : Int, sv_R r263 → ∀ g259 : sv_S, (True) → (True)))))) ∧ ((¬ (¬ (S 3 (((60 : Int) * l1_2) + (1 : Int))) = (48 : Int))) → (0 ≤ (((60 : Int) * l1_2) + (2 : Int)) ∧ (((60 : Int) * l1_2) + (2 : Int)) < 24000) ∧ ((0 ≤ (S 3 (((60 : Int) * l1_2) + (2 : Int))) ∧ (S 3 (((60 : Int) * l1_2) + (2 : Int))) ≤ 65535) → (((¬ (S 3 (((60 : Int) * l1_2) + (2 : Int))) = (48 : Int)) → ((∀ s273 : Int, sv_R s273 → ∀ g272 : sv_S, (True) → ((∀ s279 : Int, sv_R s279 → (s279 = 0 ∨ s279 = 1) → ((∀ g284 : sv_S, (0 ≤ (g284 1011 0) ∧ (g284 1011 0) ≤ 200) → (((s279 = (0 : Int)) → (sv_R (l1_2 + (1 : Int))) ∧ ((0 ≤ (l1_2 + (1 : Int)) ∧ (l1_2 + (1 : Int)) ≤ (S 1008 0)) ∧ ((S 1008 0) - (l1_2 + (1 : Int))) < ((S 1008 0) - l1_2))) ∧ ((¬ (s279 = (0 : Int))) → (0 ≤ (S 1007 0) ∧ (S 1007 0) ≤ 400 ∧ sm_LN (S 4) 400 (S 1007 0) ∧ 0 ≤ (g284 1011 0) ∧ (g284 1011 0) ≤ 200) ∧ (∀ r299 : Int, sv_R r299 → (r299 = -1 ∨ (0 ≤ r299 ∧ r299 < (S 1007 0) ∧ (S 4 r299) = (g284 1011 0))) → (((¬ r299 = l1_2) → (sv_R (l1_2 + (1 : Int))) ∧ ((0 ≤ (l1_2 + (1 : Int)) ∧ (l1_2 + (1 : Int)) ≤ (S 1008 0)) ∧ ((S 1008 0) - (l1_2 + (1 : Int))) < ((S 1008 0) - l1_2))) ∧ ((¬ (¬ r299 = l1_2)) → (sv_R (l1_2 + (1 : Int))) ∧ ((0 ≤ (l1_2 + (1 : Int)) ∧ (l1_2 + (1 : Int)) ≤ (S 1008 0)) ∧ ((S 1008 0) - (l1_2 + (1 : Int))) < ((S 1008 0) - l1_2)))))))) ∧ (((s279 = (0 : Int)) → (0 ≤ (0 : Int) ∧ (0 : Int) ≤ 200)) ∧ ((¬ (s279 = (0 : Int))) → (0 ≤ (0 : Int) ∧ (0 : Int) ≤ 188) ∧ (∀ g310 : sv_S, (0 ≤ (g310 1011 0) ∧ (0 : Int) ≤ (g310 1011 0) ∧ (g310 1011 0) ≤ (0 : Int) + 11 ∧ (0 ≤ s273 → s273 ≤ 100 → (g310 1011 0) ≤ (0 : Int) + 3)) → (0 ≤ (g310 1011 0) ∧ (g310 1011 0) ≤ 200)))))) ∧ ((((S 4 l1_2) ≤ (0 : Int)) → ((0 : Int) = 0 ∨ (0 : Int) = 1)) ∧ ((¬ ((S 4 l1_2) ≤ (0 : Int))) → ((0 ≤ (g272 1113 0) ∧ (g272 1113 0) ≤ 1) → ((((g272 1113 0) = (0 : Int)) → ((0 : Int) = 0 ∨ (0 : Int) = 1)) ∧ ((¬ ((g272 1113 0) = (0 : Int))) → ((1 : Int) = 0 ∨ (1 : Int) = 1)))))))) ∧ ((((S 4 l1_2) ≤ (0 : Int)) → (True)) ∧ ((¬ ((S 4 l1_2) ≤ (0 : Int))) → (∀ r324 : Int, sv_R r324 → ∀ g320 : sv_S, (True) → (True)))))) ∧ ((¬ (¬ (S 3 (((60 : Int) * l1_2) + (2 : Int))) = (48 : Int))) → ((∀ s332 : Int, sv_R s332 → ∀ g331 : sv_S, (True) → ((∀ s338 : Int, sv_R s338 → (s338 = 0 ∨ s338 = 1) → ((∀ g343 : sv_S, (0 ≤ (g343 1011 0) ∧ (g343 1011 0) ≤ 200) → (((s338 = (0 : Int)) → (sv_R (l1_2 + (1 : Int))) ∧ ((0 ≤ (l1_2 + (1 : Int)) ∧ (l1_2 + (1 : Int)) ≤ (S 1008 0)) ∧ ((S 1008 0) - (l1_2 + (1 : Int))) < ((S 1008 0) - l1_2))) ∧ ((¬ (s338 = (0 : Int))) → (0 ≤ (S 1007 0) ∧ (S 1007 0) ≤ 400 ∧ sm_LN (S 4) 400 (S 1007 0) ∧ 0 ≤ (g343 1011 0) ∧ (g343 1011 0) ≤ 200) ∧ (∀ r358 : Int, sv_R r358 → (r358 = -1 ∨ (0 ≤ r358 ∧ r358 < (S 1007 0) ∧ (S 4 r358) = (g343 1011 0))) → (((¬ r358 = l1_2) → (sv_R (l1_2 + (1 : Int))) ∧ ((0 ≤ (l1_2 + (1 : Int)) ∧ (l1_2 + (1 : Int)) ≤ (S 1008 0)) ∧ ((S 1008 0) - (l1_2 + (1 : Int))) < ((S 1008 0) - l1_2))) ∧ ((¬ (¬ r358 = l1_2)) → (sv_R (l1_2 + (1 : Int))) ∧ ((0 ≤ (l1_2 + (1 : Int)) ∧ (l1_2 + (1 : Int)) ≤ (S 1008 0)) ∧ ((S 1008 0) - (l1_2 + (1 : Int))) < ((S 1008 0) - l1_2)))))))) ∧ (((s338 = (0 : Int)) → (0 ≤ (0 : Int) ∧ (0 : Int) ≤ 200)) ∧ ((¬ (s338 = (0 : Int))) → (0 ≤ (0 : Int) ∧ (0 : Int) ≤ 188) ∧ (∀ g369 : sv_S, (0 ≤ (g369 1011 0) ∧ (0 : Int) ≤ (g369 1011 0) ∧ (g369 1011 0) ≤ (0 : Int) + 11 ∧ (0 ≤ s332 → s332 ≤ 100 → (g369 1011 0) ≤ (0 : Int) + 3)) → (0 ≤ (g369 1011 0) ∧ (g369 1011 0) ≤ 200)))))) ∧ ((((S 4 l1_2) ≤ (0 : Int)) → ((0 : Int) = 0 ∨ (0 : Int) = 1)) ∧ ((¬ ((S 4 l1_2) ≤ (0 : Int))) → ((0 ≤ (g331 1113 0) ∧ (g331 1113 0) ≤ 1) → ((((g331 1113 0) = (0 : Int)) → ((0 : Int) = 0 ∨ (0 : Int) = 1)) ∧ ((¬ ((g331 1113 0) = (0 : Int))) → ((1 : Int) = 0 ∨ (1 : Int) = 1)))))))) ∧ ((((S 4 l1_2) ≤ (0 : Int)) → (True)) ∧ ((¬ ((S 4 l1_2) ≤ (0 : Int))) → (∀ r383 : Int, sv_R r383 → ∀ g379 : sv_S, (True) → (True)))))))))))))))))) ∧ ((¬ (r79 = (-1 : Int))) → (0 ≤ l1_2 ∧ l1_2 < 90) ∧ (0 ≤ l1_2 ∧ l1_2 < 400) ∧ (sv_R (S 4 l1_2) → (((¬ (S 4 l1_2) = (3 : Int)) → ((∀ s397 : Int, sv_R s397 → ∀ g396 : sv_S, (True) → ((∀ s403 : Int, sv_R s403 → (s403 = 0 ∨ s403 = 1) → ((∀ g408 : sv_S, (0 ≤ (g408 1011 0) ∧ (g408 1011 0) ≤ 200) → (((s403 = (0 : Int)) → (sv_R (l1_2 + (1 : Int))) ∧ ((0 ≤ (l1_2 + (1 : Int)) ∧ (l1_2 + (1 : Int)) ≤ (S 1008 0)) ∧ ((S 1008 0) - (l1_2 + (1 : Int))) < ((S 1008 0) - l1_2))) ∧ ((¬ (s403 = (0 : Int))) → (0 ≤ (S 1007 0) ∧ (S 1007 0) ≤ 400 ∧ sm_LN (S 4) 400 (S 1007 0) ∧ 0 ≤ (g408 1011 0) ∧ (g408 1011 0) ≤ 200) ∧ (∀ r423 : Int, sv_R r423 → (r423 = -1 ∨ (0 ≤ r423 ∧ r423 < (S 1007 0) ∧ (S 4 r423) = (g408 1011 0))) → (((¬ r423 = l1_2) → (sv_R (l1_2 + (1 : Int))) ∧ ((0 ≤ (l1_2 + (1 : Int)) ∧ (l1_2 + (1 : Int)) ≤ (S 1008 0)) ∧ ((S 1008 0) - (l1_2 + (1 : Int))) < ((S 1008 0) - l1_2))) ∧ ((¬ (¬ r423 = l1_2)) → (sv_R (l1_2 + (1 : Int))) ∧ ((0 ≤ (l1_2 + (1 : Int)) ∧ (l1_2 + (1 : Int)) ≤ (S 1008 0)) ∧ ((S 1008 0) - (l1_2 + (1 : Int))) < ((S 1008 0) - l1_2)))))))) ∧ (((s403 = (0 : Int)) → (0 ≤ (0 : Int) ∧ (0 : Int) ≤ 200)) ∧ ((¬ (s403 = (0 : Int))) → (0 ≤ (0 : Int) ∧ (0 : Int) ≤ 188) ∧ (∀ g434 : sv_S, (0 ≤ (g434 1011 0) ∧ (0 : Int) ≤ (g434 1011 0) ∧ (g434 1011 0) ≤ (0 : Int) + 11 ∧ (0 ≤ s397 → s397 ≤ 100 → (g434 1011 0) ≤ (0 : Int) + 3)) → (0 ≤ (g434 1011 0) ∧ (g434 1011 0) ≤ 200)))))) ∧ ((((S 4 l1_2) ≤ (0 : Int)) → ((0 : Int) = 0 ∨ (0 : Int) = 1)) ∧ ((¬ ((S 4 l1_2) ≤ (0 : Int))) → ((0 ≤ (g396 1113 0) ∧ (g396 1113 0) ≤ 1) → ((((g396 1113 0) = (0 : Int)) → ((0 : Int) = 0 ∨ (0 : Int) = 1)) ∧ ((¬ ((g396 1113 0) = (0 : Int))) → ((1 : Int) = 0 ∨ (1 : Int) = 1)))))))) ∧ ((((S 4 l1_2) ≤ (0 : Int)) → (True)) ∧ ((¬ ((S 4 l1_2) ≤ (0 : Int))) → (∀ r448 : Int, sv_R r448 → ∀ g444 : sv_S, (True) → (True)))))) ∧ ((¬ (¬ (S 4 l1_2) = (3 : Int))) → (0 ≤ ((60 : Int) * l1_2) ∧ ((60 : Int) * l1_2) < 24000) ∧ ((0 ≤ (S 3 ((60 : Int) * l1_2)) ∧ (S 3 ((60 : Int) * l1_2)) ≤ 65535) → (((¬ (S 3 ((60 : Int) * l1_2)) = (49 : Int)) → ((∀ s458 : Int, sv_R s458 → ∀ g457 : sv_S, (True) → ((∀ s464 : Int, sv_R s464 → (s464 = 0 ∨ s464 = 1) → ((∀ g469 : sv_S, (0 ≤ (g469 1011 0) ∧ (g469 1011 0) ≤ 200) → (((s464 = (0 : Int)) → (sv_R (l1_2 + (1 : Int))) ∧ ((0 ≤ (l1_2 + (1 : Int)) ∧ (l1_2 + (1 : Int)) ≤ (S 1008 0)) ∧ ((S 1008 0) - (l1_2 + (1 : Int))) < ((S 1008 0) - l1_2))) ∧ ((¬ (s464 = (0 : Int))) → (0 ≤ (S 1007 0) ∧ (S 1007 0) ≤ 400 ∧ sm_LN (S 4) 400 (S 1007 0) ∧ 0 ≤ (g469 1011 0) ∧ (g469 1011 0) ≤ 200) ∧ (∀ r484 : Int, sv_R r484 → (r484 = -1 ∨ (0 ≤ r484 ∧ r484 < (S 1007 0) ∧ (S 4 r484) = (g469 1011 0))) → (((¬ r484 = l1_2) → (sv_R (l1_2 + (1 : Int))) ∧ ((0 ≤ (l1_2 + (1 : Int)) ∧ (l1_2 + (1 : Int)) ≤ (S 1008 0)) ∧ ((S 1008 0) - (l1_2 + (1 : Int))) < ((S 1008 0) - l1_2))) ∧ ((¬ (¬ r484 = l1_2)) → (sv_R (l1_2 + (1 : Int))) ∧ ((0 ≤ (l1_2 + (1 : Int)) ∧ (l1_2 + (1 : Int)) ≤ (S 1008 0)) ∧ ((S 1008 0) - (l1_2 + (1 : Int))) < ((S 1008 0) - l1_2)))))))) ∧ (((s464 = (0 : Int)) → (0 ≤ (0 : Int) ∧ (0 : Int) ≤ 200)) ∧ ((¬ (s464 = (0 : Int))) → (0 ≤ (0 : Int) ∧ (0 : Int) ≤ 188) ∧ (∀ g495 : sv_S, (0 ≤ (g495 1011 0) ∧ (0 : Int) ≤ (g495 1011 0) ∧ (g495 1011 0) ≤ (0 : Int) + 11 ∧ (0 ≤ s458 → s458 ≤ 100 → (g495 1011 0) ≤ (0 : Int) + 3)) → (0 ≤ (g495 1011 0) ∧ (g495 1011 0) ≤ 200)))))) ∧ ((((S 4 l1_2) ≤ (0 : Int)) → ((0 : Int) = 0 ∨ (0 : Int) = 1)) ∧ ((¬ ((S 4 l1_2) ≤ (0 : Int))) → ((0 ≤ (g457 1113 0) ∧ (g457 1113 0) ≤ 1) → ((((g457 1113 0) = (0 : Int)) → ((0 : Int) = 0 ∨ (0 : Int) = 1)) ∧ ((¬ ((g457 1113 0) = (0 : Int))) → ((1 : Int) = 0 ∨ (1 : Int) = 1)))))))) ∧ ((((S 4 l1_2) ≤ (0 : Int)) → (True)) ∧ ((¬ ((S 4 l1_2) ≤ (0 : Int))) → (∀ r509 : Int, sv_R r509 → ∀ g505 : sv_S, (True) → (True)))))) ∧ ((¬ (¬ (S 3 ((60 : Int) * l1_2)) = (49 : Int))) → (0 ≤ (((60 : Int) * l1_2) + (1 : Int)) ∧ (((60 : Int) * l1_2) + (1 : Int)) < 24000) ∧ ((0 ≤ (S 3 (((60 : Int) * l1_2) + (1 : Int))) ∧ (S 3 (((60 : Int) * l1_2) + (1 : Int))) ≤ 65535) → (((¬ (S 3 (((60 : Int) * l1_2) + (1 : Int))) = (48 : Int)) → ((∀ s519 : Int, sv_R s519 → ∀ g518 : sv_S, (True) → ((∀ s525 : Int, sv_R s525 → (s525 = 0 ∨ s525 = 1) → ((∀ g530 : sv_S, (0 ≤ (g530 1011 0) ∧ (g530 1011 0) ≤ 200) → (((s525 = (0 : Int)) → (sv_R (l1_2 + (1 : Int))) ∧ ((0 ≤ (l1_2 + (1 : Int)) ∧ (l1_2 + (1 : Int)) ≤ (S 1008 0)) ∧ ((S 1008 0) - (l1_2 + (1 : Int))) < ((S 1008 0) - l1_2))) ∧ ((¬ (s525 = (0 : Int))) → (0 ≤ (S 1007 0) ∧ (S 1007 0) ≤ 400 ∧ sm_LN (S 4) 400 (S 1007 0) ∧ 0 ≤ (g530 1011 0) ∧ (g530 1011 0) ≤ 200) ∧ (∀ r545 : Int, sv_R r545 → (r545 = -1 ∨ (0 ≤ r545 ∧ r545 < (S 1007 0) ∧ (S 4 r545) = (g530 1011 0))) → (((¬ r545 = l1_2) → (sv_R (l1_2 + (1 : Int))) ∧ ((0 ≤ (l1_2 + (1 : Int)) ∧ (l1_2 + (1 : Int)) ≤ (S 1008 0)) ∧ ((S 1008 0) - (l1_2 + (1 : Int))) < ((S 1008 0) - l1_2))) ∧ ((¬ (¬ r545 = l1_2)) → (sv_R (l1_2 + (1 : Int))) ∧ ((0 ≤ (l1_2 + (1 : Int)) ∧ (l1_2 + (1 : Int)) ≤ (S 1008 0)) ∧ ((S 1008 0) - (l1_2 + (1 : Int))) < ((S 1008 0) - l1_2)))))))) ∧ (((s525 = (0 : Int)) → (0 ≤ (0 : Int) ∧ (0 : Int) ≤ 200)) ∧ ((¬ (s525 = (0 : Int))) → (0 ≤ (0 : Int) ∧ (0 : Int) ≤ 188) ∧ (∀ g556 : sv_S, (0 ≤ (g556 1011 0) ∧ (0 : Int) ≤ (g556 1011 0) ∧ (g556 1011 0) ≤ (0 : Int) + 11 ∧ (0 ≤ s519 → s519 ≤ 100 → (g556 1011 0) ≤ (0 : Int) + 3)) → (0 ≤ (g556 1011 0) ∧ (g556 1011 0) ≤ 200)))))) ∧ ((((S 4 l1_2) ≤ (0 : Int)) → ((0 : Int) = 0 ∨ (0 : Int) = 1)) ∧ ((¬ ((S 4 l1_2) ≤ (0 : Int))) → ((0 ≤ (g518 1113 0) ∧ (g518 1113 0) ≤ 1) → ((((g518 1113 0) = (0 : Int)) → ((0 : Int) = 0 ∨ (0 : Int) = 1)) ∧ ((¬ ((g518 1113 0) = (0 : Int))) → ((1 : Int) = 0 ∨ (1 : Int) = 1)))))))) ∧ ((((S 4 l1_2) ≤ (0 : Int)) → (True)) ∧ ((¬ ((S 4 l1_2) ≤ (0 : Int))) → (∀ r570 : Int, sv_R r570 → ∀ g566 : sv_S, (True) → (True)))))) ∧ ((¬ (¬ (S 3 (((60 : Int) * l1_2) + (1 : Int))) = (48 : Int))) → (0 ≤ (((60 : Int) * l1_2) + (2 : Int)) ∧ (((60 : Int) * l1_2) + (2 : Int)) < 24000) ∧ ((0 ≤ (S 3 (((60 : Int) * l1_2) + (2 : Int))) ∧ (S 3 (((60 : Int) * l1_2) + (2 : Int))) ≤ 65535) → (((¬ (S 3 (((60 : Int) * l1_2) + (2 : Int))) = (48 : Int)) → ((∀ s580 : Int, sv_R s580 → ∀ g579 : sv_S, (True) → ((∀ s586 : Int, sv_R s586 → (s586 = 0 ∨ s586 = 1) → ((∀ g591 : sv_S, (0 ≤ (g591 1011 0) ∧ (g591 1011 0) ≤ 200) → (((s586 = (0 : Int)) → (sv_R (l1_2 + (1 : Int))) ∧ ((0 ≤ (l1_2 + (1 : Int)) ∧ (l1_2 + (1 : Int)) ≤ (S 1008 0)) ∧ ((S 1008 0) - (l1_2 + (1 : Int))) < ((S 1008 0) - l1_2))) ∧ ((¬ (s586 = (0 : Int))) → (0 ≤ (S 1007 0) ∧ (S 1007 0) ≤ 400 ∧ sm_LN (S 4) 400 (S 1007 0) ∧ 0 ≤ (g591 1011 0) ∧ (g591 1011 0) ≤ 200) ∧ (∀ r606 : Int, sv_R r606 → (r606 = -1 ∨ (0 ≤ r606 ∧ r606 < (S 1007 0) ∧ (S 4 r606) = (g591 1011 0))) → (((¬ r606 = l1_2) → (sv_R (l1_2 + (1 : Int))) ∧ ((0 ≤ (l1_2 + (1 : Int)) ∧ (l1_2 + (1 : Int)) ≤ (S 1008 0)) ∧ ((S 1008 0) - (l1_2 + (1 : Int))) < ((S 1008 0) - l1_2))) ∧ ((¬ (¬ r606 = l1_2)) → (sv_R (l1_2 + (1 : Int))) ∧ ((0 ≤ (l1_2 + (1 : Int)) ∧ (l1_2 + (1 : Int)) ≤ (S 1008 0)) ∧ ((S 1008 0) - (l1_2 + (1 : Int))) < ((S 1008 0) - l1_2)))))))) ∧ (((s586 = (0 : Int)) → (0 ≤ (0 : Int) ∧ (0 : Int) ≤ 200)) ∧ ((¬ (s586 = (0 : Int))) → (0 ≤ (0 : Int) ∧ (0 : Int) ≤ 188) ∧ (∀ g617 : sv_S, (0 ≤ (g617 1011 0) ∧ (0 : Int) ≤ (g617 1011 0) ∧ (g617 1011 0) ≤ (0 : Int) + 11 ∧ (0 ≤ s580 → s580 ≤ 100 → (g617 1011 0) ≤ (0 : Int) + 3)) → (0 ≤ (g617 1011 0) ∧ (g617 1011 0) ≤ 200)))))) ∧ ((((S 4 l1_2) ≤ (0 : Int)) → ((0 : Int) = 0 ∨ (0 : Int) = 1)) ∧ ((¬ ((S 4 l1_2) ≤ (0 : Int))) → ((0 ≤ (g579 1113 0) ∧ (g579 1113 0) ≤ 1) → ((((g579 1113 0) = (0 : Int)) → ((0 : Int) = 0 ∨ (0 : Int) = 1)) ∧ ((¬ ((g579 1113 0) = (0 : Int))) → ((1 : Int) = 0 ∨ (1 : Int) = 1)))))))) ∧ ((((S 4 l1_2) ≤ (0 : Int)) → (True)) ∧ ((¬ ((S 4 l1_2) ≤ (0 : Int))) → (∀ r631 : Int, sv_R r631 → ∀ g627 : sv_S, (True) → (True)))))) ∧ ((¬ (¬ (S 3 (((60 : Int) * l1_2) + (2 : Int))) = (48 : Int))) → ((∀ s639 : Int, sv_R s639 → ∀ g638 : sv_S, (True) → ((∀ s645 : Int, sv_R s645 → (s645 = 0 ∨ s645 = 1) → ((∀ g650 : sv_S, (0 ≤ (g650 1011 0) ∧ (g650 1011 0) ≤ 200) → (((s645 = (0 : Int)) → (sv_R (l1_2 + (1 : Int))) ∧ ((0 ≤ (l1_2 + (1 : Int)) ∧ (l1_2 + (1 : Int)) ≤ (S 1008 0)) ∧ ((S 1008 0) - (l1_2 + (1 : Int))) < ((S 1008 0) - l1_2))) ∧ ((¬ (s645 = (0 : Int))) → (0 ≤ (S 1007 0) ∧ (S 1007 0) ≤ 400 ∧ sm_LN (S 4) 400 (S 1007 0) ∧ 0 ≤ (g650 1011 0) ∧ (g650 1011 0) ≤ 200) ∧ (∀ r665 : Int, sv_R r665 → (r665 = -1 ∨ (0 ≤ r665 ∧ r665 < (S 1007 0) ∧ (S 4 r665) = (g650 1011 0))) → (((¬ r665 = l1_2) → (sv_R (l1_2 + (1 : Int))) ∧ ((0 ≤ (l1_2 + (1 : Int)) ∧ (l1_2 + (1 : Int)) ≤ (S 1008 0)) ∧ ((S 1008 0) - (l1_2 + (1 : Int))) < ((S 1008 0) - l1_2))) ∧ ((¬ (¬ r665 = l1_2)) → (sv_R (l1_2 + (1 : Int))) ∧ ((0 ≤ (l1_2 + (1 : Int)) ∧ (l1_2 + (1 : Int)) ≤ (S 1008 0)) ∧ ((S 1008 0) - (l1_2 + (1 : Int))) < ((S 1008 0) - l1_2)))))))) ∧ (((s645 = (0 : Int)) → (0 ≤ (0 : Int) ∧ (0 : Int) ≤ 200)) ∧ ((¬ (s645 = (0 : Int))) → (0 ≤ (0 : Int) ∧ (0 : Int) ≤ 188) ∧ (∀ g676 : sv_S, (0 ≤ (g676 1011 0) ∧ (0 : Int) ≤ (g676 1011 0) ∧ (g676 1011 0) ≤ (0 : Int) + 11 ∧ (0 ≤ s639 → s639 ≤ 100 → (g676 1011 0) ≤ (0 : Int) + 3)) → (0 ≤ (g676 1011 0) ∧ (g676 1011 0) ≤ 200)))))) ∧ ((((S 4 l1_2) ≤ (0 : Int)) → ((0 : Int) = 0 ∨ (0 : Int) = 1)) ∧ ((¬ ((S 4 l1_2) ≤ (0 : Int))) → ((0 ≤ (g638 1113 0) ∧ (g638 1113 0) ≤ 1) → ((((g638 1113 0) = (0 : Int)) → ((0 : Int) = 0 ∨ (0 : Int) = 1)) ∧ ((¬ ((g638 1113 0) = (0 : Int))) → ((1 : Int) = 0 ∨ (1 : Int) = 1)))))))) ∧ ((((S 4 l1_2) ≤ (0 : Int)) → (True)) ∧ ((¬ ((S 4 l1_2) ≤ (0 : Int))) → (∀ r690 : Int, sv_R r690 → ∀ g686 : sv_S, (True) → (True))))))))))))))))))))))))) := by
  intro S
  intro h1_
  rintro ⟨h2_, ⟨h3_, ⟨h4_, ⟨h5_, ⟨h6_, ⟨h7_, ⟨h8_, ⟨h9_, ⟨h10_, ⟨h11_, ⟨h12_, ⟨h13_, ⟨h14_, ⟨h15_, ⟨h16_, ⟨h17_, ⟨h18_, h19_⟩⟩⟩⟩⟩⟩⟩⟩⟩⟩⟩⟩⟩⟩⟩⟩⟩
  refine ⟨(la_findSorts_0 h4_), ?_⟩
  intro l1_2
  intro h20_
  intro g1
  rintro ⟨h21_, h22_⟩
  refine ⟨(la_findSorts_1 h22_), ?_⟩
  intro h23_
  refine ⟨?_, ?_⟩
  · skip
    intro h24_
    refine ⟨(la_findSorts_2 h11_), ?_⟩
    intro l1_10
    intro h25_
    intro g9
    rintro ⟨h26_, h27_⟩
    refine ⟨(la_findSorts_1 h27_), ?_⟩
    intro h28_
    refine ⟨?_, ?_⟩
    · skip
      intro h29_
      exact trivial
    intro h30_
    intro h31_
    have h32_ := (h31_ h19_)
    have h33_ := (h32_ h26_)
    have h34_ := (h33_ (la_findSorts_3 h30_))
    intro h35_
    have h36_ := (h35_ h19_)
    have h37_ := (h36_ h26_)
    have h38_ := (h37_ (la_findSorts_3 h30_))
    refine ⟨(la_findSorts_4 h6_ h12_ h26_ h30_), ?_⟩
    intro h39_
    refine ⟨(la_findSorts_5 h6_ h9_ h12_ h26_ h30_ h34_), ?_⟩
    intro h40_
    refine ⟨(la_findSorts_6 h6_ h9_ h12_ h26_ h30_ h38_), ?_⟩
    intro h41_
    obtain ⟨⟨h42_, h43_⟩, ⟨⟨h44_, ⟨h45_, h46_⟩⟩, ⟨h47_, ⟨h48_, ⟨h49_, ⟨h50_, ⟨h51_, h52_⟩⟩⟩⟩⟩⟩⟩ := (h34_ (la_findSorts_7 h41_))
    intro h53_
    refine ⟨(la_findSorts_11 h6_ h9_ h12_ h26_ h41_ h42_ h43_ h48_ (la_findSorts_10 (la_findSorts_9 h41_) h40_)), ?_⟩
    intro h54_
    refine ⟨(la_findSorts_12 h9_ h42_ h43_), ?_⟩
    refine ⟨(la_findSorts_13 h6_ h12_ h26_ h41_ h48_), ?_⟩
    intro h55_
    intro h56_
    refine ⟨?_, ?_⟩
    · skip
      refine ⟨?_, ?_⟩
      · skip
        exact ((la_findSorts_14 h41_ h55_)).elim
      exact ((la_findSorts_14 h41_ h55_)).elim
    refine ⟨(la_findSorts_15 h6_ h12_ h26_ h48_), ?_⟩
    refine ⟨(la_findSorts_16 h26_ h48_), ?_⟩
    exact la_findSorts_17
  intro h57_
  refine ⟨⟨h16_, ⟨h17_, ⟨h18_, (la_findSorts_18 h5_ h21_ h57_)⟩⟩⟩, ?_⟩
  intro r79
  intro h58_
  rintro ⟨h59_, h60_⟩
  refine ⟨?_, ?_⟩
  · skip
    intro h61_
    refine ⟨(la_findSorts_19 h5_ h21_ h57_), ?_⟩
    refine ⟨(la_findSorts_18 h5_ h21_ h57_), ?_⟩
    intro h62_
    refine ⟨?_, ?_⟩
    · skip
      intro h63_
      refine ⟨?_, ?_⟩
      · skip
        intro s90
        intro h64_
        intro g89
        intro _
        refine ⟨?_, ?_⟩
        · skip
          intro s96
          intro h65_
          intro h66_
          refine ⟨?_, ?_⟩
          · skip
            intro g101
            rintro ⟨h67_, h68_⟩
            refine ⟨(la_findSorts_20 h5_ h21_ h57_), ?_⟩
            intro h69_
            have h70_ := (h66_.resolve_left h69_)
            refine ⟨⟨(la_findSorts_23 h16_), ⟨h17_, ⟨h18_, (la_findSorts_24 h67_ h68_)⟩⟩⟩, ?_⟩
            intro r116
            intro h71_
            intro h72_
            refine ⟨(la_findSorts_25 h5_ h21_ h57_), ?_⟩
            intro h73_
            obtain ⟨h74_, ⟨h75_, h76_⟩⟩ := (h72_.resolve_left (la_findSorts_26 h21_ h73_))
            refine ⟨(la_findSorts_27 h5_ h21_ h57_), ?_⟩
            refine ⟨(la_findSorts_28 h21_ h57_), ?_⟩
            exact la_findSorts_17
          refine ⟨la_findSorts_29, ?_⟩
          intro h77_
          have h78_ := (h66_.resolve_left h77_)
          refine ⟨la_findSorts_30, ?_⟩
          intro g127
          rintro ⟨h79_, ⟨h80_, ⟨h81_, h82_⟩⟩⟩
          refine ⟨h79_, ?_⟩
          exact (la_findSorts_31 h81_)
        refine ⟨la_findSorts_32, ?_⟩
        intro h83_
        rintro ⟨h84_, h85_⟩
        refine ⟨la_findSorts_33, ?_⟩
        intro h86_
        exact la_findSorts_34
      refine ⟨?_, ?_⟩
      · skip
        intro h87_
        exact trivial
      intro h88_
      intro r141
      intro h89_
      intro g137
      intro _
      exact trivial
    intro h90_
    refine ⟨(la_findSorts_37 h5_ h21_ h57_), ?_⟩
    rintro ⟨h91_, h92_⟩
    refine ⟨?_, ?_⟩
    · skip
      intro h93_
      refine ⟨?_, ?_⟩
      · skip
        intro s151
        intro h94_
        intro g150
        intro _
        refine ⟨?_, ?_⟩
        · skip
          intro s157
          intro h95_
          intro h96_
          refine ⟨?_, ?_⟩
          · skip
            intro g162
            rintro ⟨h97_, h98_⟩
            refine ⟨(la_findSorts_20 h5_ h21_ h57_), ?_⟩
            intro h99_
            have h100_ := (h96_.resolve_left h99_)
            refine ⟨⟨(la_findSorts_23 h16_), ⟨h17_, ⟨h18_, (la_findSorts_24 h97_ h98_)⟩⟩⟩, ?_⟩
            intro r177
            intro h101_
            intro h102_
            refine ⟨(la_findSorts_25 h5_ h21_ h57_), ?_⟩
            intro h103_
            obtain ⟨h104_, ⟨h105_, h106_⟩⟩ := (h102_.resolve_left (la_findSorts_26 h21_ h103_))
            refine ⟨(la_findSorts_27 h5_ h21_ h57_), ?_⟩
            refine ⟨(la_findSorts_28 h21_ h57_), ?_⟩
            exact la_findSorts_17
          refine ⟨la_findSorts_29, ?_⟩
          intro h107_
          have h108_ := (h96_.resolve_left h107_)
          refine ⟨la_findSorts_30, ?_⟩
          intro g188
          rintro ⟨h109_, ⟨h110_, ⟨h111_, h112_⟩⟩⟩
          refine ⟨h109_, ?_⟩
          exact (la_findSorts_31 h111_)
        refine ⟨la_findSorts_32, ?_⟩
        intro h113_
        rintro ⟨h114_, h115_⟩
        refine ⟨la_findSorts_33, ?_⟩
        intro h116_
        exact la_findSorts_34
      refine ⟨?_, ?_⟩
      · skip
        intro h117_
        exact trivial
      intro h118_
      intro r202
      intro h119_
      intro g198
      intro _
      exact trivial
    intro h120_
    refine ⟨(la_findSorts_38 h5_ h21_ h57_), ?_⟩
    rintro ⟨h121_, h122_⟩
    refine ⟨?_, ?_⟩
    · skip
      intro h123_
      refine ⟨?_, ?_⟩
      · skip
        intro s212
        intro h124_
        intro g211
        intro _
        refine ⟨?_, ?_⟩
        · skip
          intro s218
          intro h125_
          intro h126_
          refine ⟨?_, ?_⟩
          · skip
            intro g223
            rintro ⟨h127_, h128_⟩
            refine ⟨(la_findSorts_20 h5_ h21_ h57_), ?_⟩
            intro h129_
            have h130_ := (h126_.resolve_left h129_)
            refine ⟨⟨(la_findSorts_23 h16_), ⟨h17_, ⟨h18_, (la_findSorts_24 h127_ h128_)⟩⟩⟩, ?_⟩
            intro r238
            intro h131_
            intro h132_
            refine ⟨(la_findSorts_25 h5_ h21_ h57_), ?_⟩
            intro h133_
            obtain ⟨h134_, ⟨h135_, h136_⟩⟩ := (h132_.resolve_left (la_findSorts_26 h21_ h133_))
            refine ⟨(la_findSorts_27 h5_ h21_ h57_), ?_⟩
            refine ⟨(la_findSorts_28 h21_ h57_), ?_⟩
            exact la_findSorts_17
          refine ⟨la_findSorts_29, ?_⟩
          intro h137_
          have h138_ := (h126_.resolve_left h137_)
          refine ⟨la_findSorts_30, ?_⟩
          intro g249
          rintro ⟨h139_, ⟨h140_, ⟨h141_, h142_⟩⟩⟩
          refine ⟨h139_, ?_⟩
          exact (la_findSorts_31 h141_)
        refine ⟨la_findSorts_32, ?_⟩
        intro h143_
        rintro ⟨h144_, h145_⟩
        refine ⟨la_findSorts_33, ?_⟩
        intro h146_
        exact la_findSorts_34
      refine ⟨?_, ?_⟩
      · skip
        intro h147_
        exact trivial
      intro h148_
      intro r263
      intro h149_
      intro g259
      intro _
      exact trivial
    intro h150_
    refine ⟨(la_findSorts_39 h5_ h21_ h57_), ?_⟩
    rintro ⟨h151_, h152_⟩
    refine ⟨?_, ?_⟩
    · skip
      intro h153_
      refine ⟨?_, ?_⟩
      · skip
        intro s273
        intro h154_
        intro g272
        intro _
        refine ⟨?_, ?_⟩
        · skip
          intro s279
          intro h155_
          intro h156_
          refine ⟨?_, ?_⟩
          · skip
            intro g284
            rintro ⟨h157_, h158_⟩
            refine ⟨(la_findSorts_20 h5_ h21_ h57_), ?_⟩
            intro h159_
            have h160_ := (h156_.resolve_left h159_)
            refine ⟨⟨(la_findSorts_23 h16_), ⟨h17_, ⟨h18_, (la_findSorts_24 h157_ h158_)⟩⟩⟩, ?_⟩
            intro r299
            intro h161_
            intro h162_
            refine ⟨(la_findSorts_25 h5_ h21_ h57_), ?_⟩
            intro h163_
            obtain ⟨h164_, ⟨h165_, h166_⟩⟩ := (h162_.resolve_left (la_findSorts_26 h21_ h163_))
            refine ⟨(la_findSorts_27 h5_ h21_ h57_), ?_⟩
            refine ⟨(la_findSorts_28 h21_ h57_), ?_⟩
            exact la_findSorts_17
          refine ⟨la_findSorts_29, ?_⟩
          intro h167_
          have h168_ := (h156_.resolve_left h167_)
          refine ⟨la_findSorts_30, ?_⟩
          intro g310
          rintro ⟨h169_, ⟨h170_, ⟨h171_, h172_⟩⟩⟩
          refine ⟨h169_, ?_⟩
          exact (la_findSorts_31 h171_)
        refine ⟨la_findSorts_32, ?_⟩
        intro h173_
        rintro ⟨h174_, h175_⟩
        refine ⟨la_findSorts_33, ?_⟩
        intro h176_
        exact la_findSorts_34
      refine ⟨?_, ?_⟩
      · skip
        intro h177_
        exact trivial
      intro h178_
      intro r324
      intro h179_
      intro g320
      intro _
      exact trivial
    intro h180_
    refine ⟨?_, ?_⟩
    · skip
      intro s332
      intro h181_
      intro g331
      intro _
      refine ⟨?_, ?_⟩
      · skip
        intro s338
        intro h182_
        intro h183_
        refine ⟨?_, ?_⟩
        · skip
          intro g343
          rintro ⟨h184_, h185_⟩
          refine ⟨(la_findSorts_20 h5_ h21_ h57_), ?_⟩
          intro h186_
          have h187_ := (h183_.resolve_left h186_)
          refine ⟨⟨(la_findSorts_23 h16_), ⟨h17_, ⟨h18_, (la_findSorts_24 h184_ h185_)⟩⟩⟩, ?_⟩
          intro r358
          intro h188_
          intro h189_
          refine ⟨(la_findSorts_25 h5_ h21_ h57_), ?_⟩
          intro h190_
          obtain ⟨h191_, ⟨h192_, h193_⟩⟩ := (h189_.resolve_left (la_findSorts_26 h21_ h190_))
          refine ⟨(la_findSorts_27 h5_ h21_ h57_), ?_⟩
          refine ⟨(la_findSorts_28 h21_ h57_), ?_⟩
          exact la_findSorts_17
        refine ⟨la_findSorts_29, ?_⟩
        intro h194_
        have h195_ := (h183_.resolve_left h194_)
        refine ⟨la_findSorts_30, ?_⟩
        intro g369
        rintro ⟨h196_, ⟨h197_, ⟨h198_, h199_⟩⟩⟩
        refine ⟨h196_, ?_⟩
        exact (la_findSorts_31 h198_)
      refine ⟨la_findSorts_32, ?_⟩
      intro h200_
      rintro ⟨h201_, h202_⟩
      refine ⟨la_findSorts_33, ?_⟩
      intro h203_
      exact la_findSorts_34
    refine ⟨?_, ?_⟩
    · skip
      intro h204_
      exact trivial
    intro h205_
    intro r383
    intro h206_
    intro g379
    intro _
    exact trivial
  intro h207_
  refine ⟨(la_findSorts_19 h5_ h21_ h57_), ?_⟩
  refine ⟨(la_findSorts_18 h5_ h21_ h57_), ?_⟩
  intro h208_
  refine ⟨?_, ?_⟩
  · skip
    intro h209_
    refine ⟨?_, ?_⟩
    · skip
      intro s397
      intro h210_
      intro g396
      intro _
      refine ⟨?_, ?_⟩
      · skip
        intro s403
        intro h211_
        intro h212_
        refine ⟨?_, ?_⟩
        · skip
          intro g408
          rintro ⟨h213_, h214_⟩
          refine ⟨(la_findSorts_20 h5_ h21_ h57_), ?_⟩
          intro h215_
          have h216_ := (h212_.resolve_left h215_)
          refine ⟨⟨(la_findSorts_23 h16_), ⟨h17_, ⟨h18_, (la_findSorts_24 h213_ h214_)⟩⟩⟩, ?_⟩
          intro r423
          intro h217_
          intro h218_
          refine ⟨(la_findSorts_25 h5_ h21_ h57_), ?_⟩
          intro h219_
          obtain ⟨h220_, ⟨h221_, h222_⟩⟩ := (h218_.resolve_left (la_findSorts_26 h21_ h219_))
          refine ⟨(la_findSorts_27 h5_ h21_ h57_), ?_⟩
          refine ⟨(la_findSorts_28 h21_ h57_), ?_⟩
          exact la_findSorts_17
        refine ⟨la_findSorts_29, ?_⟩
        intro h223_
        have h224_ := (h212_.resolve_left h223_)
        refine ⟨la_findSorts_30, ?_⟩
        intro g434
        rintro ⟨h225_, ⟨h226_, ⟨h227_, h228_⟩⟩⟩
        refine ⟨h225_, ?_⟩
        exact (la_findSorts_31 h227_)
      refine ⟨la_findSorts_32, ?_⟩
      intro h229_
      rintro ⟨h230_, h231_⟩
      refine ⟨la_findSorts_33, ?_⟩
      intro h232_
      exact la_findSorts_34
    refine ⟨?_, ?_⟩
    · skip
      intro h233_
      exact trivial
    intro h234_
    intro r448
    intro h235_
    intro g444
    intro _
    exact trivial
  intro h236_
  refine ⟨(la_findSorts_37 h5_ h21_ h57_), ?_⟩
  rintro ⟨h237_, h238_⟩
  refine ⟨?_, ?_⟩
  · skip
    intro h239_
    refine ⟨?_, ?_⟩
    · skip
      intro s458
      intro h240_
      intro g457
      intro _
      refine ⟨?_, ?_⟩
      · skip
        intro s464
        intro h241_
        intro h242_
        refine ⟨?_, ?_⟩
        · skip
          intro g469
          rintro ⟨h243_, h244_⟩
          refine ⟨(la_findSorts_20 h5_ h21_ h57_), ?_⟩
          intro h245_
          have h246_ := (h242_.resolve_left h245_)
          refine ⟨⟨(la_findSorts_23 h16_), ⟨h17_, ⟨h18_, (la_findSorts_24 h243_ h244_)⟩⟩⟩, ?_⟩
          intro r484
          intro h247_
          intro h248_
          refine ⟨(la_findSorts_25 h5_ h21_ h57_), ?_⟩
          intro h249_
          obtain ⟨h250_, ⟨h251_, h252_⟩⟩ := (h248_.resolve_left (la_findSorts_26 h21_ h249_))
          refine ⟨(la_findSorts_27 h5_ h21_ h57_), ?_⟩
          refine ⟨(la_findSorts_28 h21_ h57_), ?_⟩
          exact la_findSorts_17
        refine ⟨la_findSorts_29, ?_⟩
        intro h253_
        have h254_ := (h242_.resolve_left h253_)
        refine ⟨la_findSorts_30, ?_⟩
        intro g495
        rintro ⟨h255_, ⟨h256_, ⟨h257_, h258_⟩⟩⟩
        refine ⟨h255_, ?_⟩
        exact (la_findSorts_31 h257_)
      refine ⟨la_findSorts_32, ?_⟩
      intro h259_
      rintro ⟨h260_, h261_⟩
      refine ⟨la_findSorts_33, ?_⟩
      intro h262_
      exact la_findSorts_34
    refine ⟨?_, ?_⟩
    · skip
      intro h263_
      exact trivial
    intro h264_
    intro r509
    intro h265_
    intro g505
    intro _
    exact trivial
  intro h266_
  refine ⟨(la_findSorts_38 h5_ h21_ h57_), ?_⟩
  rintro ⟨h267_, h268_⟩
  refine ⟨?_, ?_⟩
  · skip
    intro h269_
    refine ⟨?_, ?_⟩
    · skip
      intro s519
      intro h270_
      intro g518
      intro _
      refine ⟨?_, ?_⟩
      · skip
        intro s525
        intro h271_
        intro h272_
        refine ⟨?_, ?_⟩
        · skip
          intro g530
          rintro ⟨h273_, h274_⟩
          refine ⟨(la_findSorts_20 h5_ h21_ h57_), ?_⟩
          intro h275_
          have h276_ := (h272_.resolve_left h275_)
          refine ⟨⟨(la_findSorts_23 h16_), ⟨h17_, ⟨h18_, (la_findSorts_24 h273_ h274_)⟩⟩⟩, ?_⟩
          intro r545
          intro h277_
          intro h278_
          refine ⟨(la_findSorts_25 h5_ h21_ h57_), ?_⟩
          intro h279_
          obtain ⟨h280_, ⟨h281_, h282_⟩⟩ := (h278_.resolve_left (la_findSorts_26 h21_ h279_))
          refine ⟨(la_findSorts_27 h5_ h21_ h57_), ?_⟩
          refine ⟨(la_findSorts_28 h21_ h57_), ?_⟩
          exact la_findSorts_17
        refine ⟨la_findSorts_29, ?_⟩
        intro h283_
        have h284_ := (h272_.resolve_left h283_)
        refine ⟨la_findSorts_30, ?_⟩
        intro g556
        rintro ⟨h285_, ⟨h286_, ⟨h287_, h288_⟩⟩⟩
        refine ⟨h285_, ?_⟩
        exact (la_findSorts_31 h287_)
      refine ⟨la_findSorts_32, ?_⟩
      intro h289_
      rintro ⟨h290_, h291_⟩
      refine ⟨la_findSorts_33, ?_⟩
      intro h292_
      exact la_findSorts_34
    refine ⟨?_, ?_⟩
    · skip
      intro h293_
      exact trivial
    intro h294_
    intro r570
    intro h295_
    intro g566
    intro _
    exact trivial
  intro h296_
  refine ⟨(la_findSorts_39 h5_ h21_ h57_), ?_⟩
  rintro ⟨h297_, h298_⟩
  refine ⟨?_, ?_⟩
  · skip
    intro h299_
    refine ⟨?_, ?_⟩
    · skip
      intro s580
      intro h300_
      intro g579
      intro _
      refine ⟨?_, ?_⟩
      · skip
        intro s586
        intro h301_
        intro h302_
        refine ⟨?_, ?_⟩
        · skip
          intro g591
          rintro ⟨h303_, h304_⟩
          refine ⟨(la_findSorts_20 h5_ h21_ h57_), ?_⟩
          intro h305_
          have h306_ := (h302_.resolve_left h305_)
          refine ⟨⟨(la_findSorts_23 h16_), ⟨h17_, ⟨h18_, (la_findSorts_24 h303_ h304_)⟩⟩⟩, ?_⟩
          intro r606
          intro h307_
          intro h308_
          refine ⟨(la_findSorts_25 h5_ h21_ h57_), ?_⟩
          intro h309_
          obtain ⟨h310_, ⟨h311_, h312_⟩⟩ := (h308_.resolve_left (la_findSorts_26 h21_ h309_))
          refine ⟨(la_findSorts_27 h5_ h21_ h57_), ?_⟩
          refine ⟨(la_findSorts_28 h21_ h57_), ?_⟩
          exact la_findSorts_17
        refine ⟨la_findSorts_29, ?_⟩
        intro h313_
        have h314_ := (h302_.resolve_left h313_)
        refine ⟨la_findSorts_30, ?_⟩
        intro g617
        rintro ⟨h315_, ⟨h316_, ⟨h317_, h318_⟩⟩⟩
        refine ⟨h315_, ?_⟩
        exact (la_findSorts_31 h317_)
      refine ⟨la_findSorts_32, ?_⟩
      intro h319_
      rintro ⟨h320_, h321_⟩
      refine ⟨la_findSorts_33, ?_⟩
      intro h322_
      exact la_findSorts_34
    refine ⟨?_, ?_⟩
    · skip
      intro h323_
      exact trivial
    intro h324_
    intro r631
    intro h325_
    intro g627
    intro _
    exact trivial
  intro h326_
  refine ⟨?_, ?_⟩
  · skip
    intro s639
    intro h327_
    intro g638
    intro _
    refine ⟨?_, ?_⟩
    · skip
      intro s645
      intro h328_
      intro h329_
      refine ⟨?_, ?_⟩
      · skip
        intro g650
        rintro ⟨h330_, h331_⟩
        refine ⟨(la_findSorts_20 h5_ h21_ h57_), ?_⟩
        intro h332_
        have h333_ := (h329_.resolve_left h332_)
        refine ⟨⟨(la_findSorts_23 h16_), ⟨h17_, ⟨h18_, (la_findSorts_24 h330_ h331_)⟩⟩⟩, ?_⟩
        intro r665
        intro h334_
        intro h335_
        refine ⟨(la_findSorts_25 h5_ h21_ h57_), ?_⟩
        intro h336_
        obtain ⟨h337_, ⟨h338_, h339_⟩⟩ := (h335_.resolve_left (la_findSorts_26 h21_ h336_))
        refine ⟨(la_findSorts_27 h5_ h21_ h57_), ?_⟩
        refine ⟨(la_findSorts_28 h21_ h57_), ?_⟩
        exact la_findSorts_17
      refine ⟨la_findSorts_29, ?_⟩
      intro h340_
      have h341_ := (h329_.resolve_left h340_)
      refine ⟨la_findSorts_30, ?_⟩
      intro g676
      rintro ⟨h342_, ⟨h343_, ⟨h344_, h345_⟩⟩⟩
      refine ⟨h342_, ?_⟩
      exact (la_findSorts_31 h344_)
    refine ⟨la_findSorts_32, ?_⟩
    intro h346_
    rintro ⟨h347_, h348_⟩
    refine ⟨la_findSorts_33, ?_⟩
    intro h349_
    exact la_findSorts_34
  refine ⟨?_, ?_⟩
  · skip
    intro h350_
    exact trivial
  intro h351_
  intro r690
  intro h352_
  intro g686
  intro _
  exact trivial
set_option maxRecDepth 8000 in
set_option maxHeartbeats 2000000 in
theorem t_findSorts : ∀ (S : sv_S), sm_ok S → (29 ≤ (S 1071 0) ∧ (S 1071 0) ≤ 127 ∧ 31 ≤ (S 1008 0) ∧ (S 1008 0) ≤ 90 ∧ 1 ≤ (S 1032 0) ∧ (S 1032 0) ≤ 11 ∧ 0 ≤ (S 1055 0) ∧ (S 1055 0) ≤ 19 ∧ (S 1071 0) = 29 + 6 * ((S 1032 0) - 1) + 2 * (S 1055 0) ∧ 0 ≤ (S 1046 0) ∧ (S 1046 0) + 2 * (S 1032 0) ≤ 500 ∧ sm_PD (S 1046 0) (S 1032 0) (S 1071 0) (S 1008 0) ∧ 0 ≤ (S 1071 0) * ((S 1008 0) + 1) ∧ (S 1071 0) * ((S 1008 0) + 1) ≤ 11557 ∧ 31 ≤ (S 1007 0) ∧ (S 1007 0) ≤ 400 ∧ sm_LN (S 4) 400 (S 1007 0) ∧ sm_CT (S 26) (S 27) (S 28) (S 29) (S 1100007) (S 1100023) (S 1100024) (S 1100025) (S 21) (S 1046 0) (S 1032 0) (S 1008 0) (S 1055 0)) → sv_T sm_XS sm_cs sm_L sm_sh 2 (q_findSorts S) 291 0 (lv_args 0 [.ref 0]) [] S := by
  intro S hok hpre
  have h := f_findSorts S hok hpre
  have hM := sm_h291
  show sv_T sm_XS sm_cs sm_L sm_sh 2 (q_findSorts S) 291 0 [(0, .ref 0)] [] S
  refine sv_iconst (d := (0 : Int)) hM dX12_findSorts_0 rfl rfl ?_
  refine sv_istore_n hM dX12_findSorts_1 (by decide) rfl ?_
  show sv_T sm_XS sm_cs sm_L sm_sh 2 (q_findSorts S) 291 2 [(0, .ref 0), (1, sv_I (0 : Int))] [] S
  obtain ⟨hin4, h⟩ := h
  have hJ : ∀ a : Int × sv_S, (sv_R a.1 ∧ sm_ok (sv_sts S [88, 89, 87, 1113, 5, 1011] a.2) ∧ (0 ≤ a.1 ∧ a.1 ≤ (S 1008 0))) → sv_T sm_XS sm_cs sm_L sm_sh 2 (q_findSorts S) 291 2 [(0, .ref 0), (1, sv_I a.1)] [] (sv_sts S [88, 89, 87, 1113, 5, 1011] a.2) := by
    refine sv_loop (α := Int × sv_S) (fun a => sv_R a.1 ∧ sm_ok (sv_sts S [88, 89, 87, 1113, 5, 1011] a.2) ∧ (0 ≤ a.1 ∧ a.1 ≤ (S 1008 0))) (fun a => (S 1008 0) - a.1) (fun a => sv_T sm_XS sm_cs sm_L sm_sh 2 (q_findSorts S) 291 2 [(0, .ref 0), (1, sv_I a.1)] [] (sv_sts S [88, 89, 87, 1113, 5, 1011] a.2)) (fun a q => (h a.1 q.1 a.2 q.2.2).1) (fun a q ih3 => ?_)
    obtain ⟨l1_2, g1⟩ := a
    obtain ⟨hl1_2, ok5, hin4i⟩ := q
    have h := (h l1_2 hl1_2 g1 hin4i).2
    show sv_T sm_XS sm_cs sm_L sm_sh 2 (q_findSorts S) 291 2 [(0, .ref 0), (1, sv_I l1_2)] [] (sv_sts S [88, 89, 87, 1113, 5, 1011] g1)
    have md6 : sv_mod [88, 89, 87, 1113, 5, 1011, 90] S (sv_sts S [88, 89, 87, 1113, 5, 1011] g1) := sv_mod.sts sv_mod.rf (by decide)
    have md7 : sv_mod [88, 89, 87, 1113, 5, 1011] S (sv_sts S [88, 89, 87, 1113, 5, 1011] g1) := sv_mod.sts sv_mod.rf (by decide)
    refine sv_iload_n hM dX12_findSorts_2 rfl rfl ?_
    refine sv_aload_n hM dX12_findSorts_3 rfl rfl ?_
    have k8 : sv_R (S 1008 0) := sm_okI ok5 sm_r1008 0
    have h := h k8
    refine sv_getI hM dX12_findSorts_4 sm_fl_762 (sm_a0 _) sm_k8 rfl (x := (S 1008 0)) rfl ?_
    refine sv_icmp_ge hM dX12_findSorts_7 hl1_2 k8 (t := 181) rfl rfl (fun hc => ?_) (fun hc => ?_)
    · have h := h.1 (hc)
      refine sv_iconst (d := (0 : Int)) hM dX12_findSorts_181 rfl rfl ?_
      refine sv_istore_n hM dX12_findSorts_182 (by decide) rfl ?_
      show sv_T sm_XS sm_cs sm_L sm_sh 2 (q_findSorts S) 291 183 [(0, .ref 0), (1, sv_I (0 : Int))] [] (sv_sts S [88, 89, 87, 1113, 5, 1011] g1)
      obtain ⟨hin12, h⟩ := h
      have hJ : ∀ a : Int × sv_S, (sv_R a.1 ∧ sm_ok (sv_sts (sv_sts S [88, 89, 87, 1113, 5, 1011] g1) [90] a.2) ∧ (0 ≤ a.1 ∧ a.1 ≤ (S 1046 0))) → sv_T sm_XS sm_cs sm_L sm_sh 2 (q_findSorts S) 291 183 [(0, .ref 0), (1, sv_I a.1)] [] (sv_sts (sv_sts S [88, 89, 87, 1113, 5, 1011] g1) [90] a.2) := by
        refine sv_loop (α := Int × sv_S) (fun a => sv_R a.1 ∧ sm_ok (sv_sts (sv_sts S [88, 89, 87, 1113, 5, 1011] g1) [90] a.2) ∧ (0 ≤ a.1 ∧ a.1 ≤ (S 1046 0))) (fun a => (S 1046 0) - a.1) (fun a => sv_T sm_XS sm_cs sm_L sm_sh 2 (q_findSorts S) 291 183 [(0, .ref 0), (1, sv_I a.1)] [] (sv_sts (sv_sts S [88, 89, 87, 1113, 5, 1011] g1) [90] a.2)) (fun a q => (h a.1 q.1 a.2 q.2.2).1) (fun a q ih11 => ?_)
        obtain ⟨l1_10, g9⟩ := a
        obtain ⟨hl1_10, ok13, hin12i⟩ := q
        have h := (h l1_10 hl1_10 g9 hin12i).2
        show sv_T sm_XS sm_cs sm_L sm_sh 2 (q_findSorts S) 291 183 [(0, .ref 0), (1, sv_I l1_10)] [] (sv_sts (sv_sts S [88, 89, 87, 1113, 5, 1011] g1) [90] g9)
        have md14 : sv_mod [88, 89, 87, 1113, 5, 1011, 90] S (sv_sts (sv_sts S [88, 89, 87, 1113, 5, 1011] g1) [90] g9) := sv_mod.sts md6 (by decide)
        have md15 : sv_mod [90] (sv_sts S [88, 89, 87, 1113, 5, 1011] g1) (sv_sts (sv_sts S [88, 89, 87, 1113, 5, 1011] g1) [90] g9) := sv_mod.sts sv_mod.rf (by decide)
        refine sv_iload_n hM dX12_findSorts_183 rfl rfl ?_
        refine sv_aload_n hM dX12_findSorts_184 rfl rfl ?_
        have k16 : sv_R (S 1046 0) := sm_okI ok13 sm_r1046 0
        have h := h k16
        refine sv_getI hM dX12_findSorts_185 sm_fl_606 (sm_a0 _) sm_k46 rfl (x := (S 1046 0)) rfl ?_
        refine sv_icmp_ge hM dX12_findSorts_188 hl1_10 k16 (t := 269) rfl rfl (fun hc => ?_) (fun hc => ?_)
        · have h := h.1 (hc)
          exact sv_vret hM dX12_findSorts_269 rfl ⟨rfl, ok13, md14, h⟩
        · have h := h.2 (hc)
          have k17 : (sm_CT (S 26) (S 27) (S 28) (S 29) (S 1100007) (S 1100023) (S 1100024) (S 1100025) (S 21) (S 1046 0) (S 1032 0) (S 1008 0) (S 1055 0) → 0 ≤ l1_10 → l1_10 < (S 1046 0) → (((S 26 l1_10) = 7 ∨ (S 26 l1_10) = 8) → (0 ≤ (S 27 l1_10) ∧ (S 27 l1_10) < (S 1055 0)) ∧ (0 ≤ ((S 1100007 l1_10)) ∧ (0 ≤ (S 1100023 l1_10) → (S 1100007 (S 1100023 l1_10)) ≤ ((S 1100007 l1_10))) ∧ (0 ≤ (S 1100025 l1_10) → (S 1100007 (S 1100025 l1_10)) ≤ ((S 1100007 l1_10)))) ∧ (0 ≤ (l1_10 + 1) ∧ (l1_10 + 1) < (S 1046 0) ∧ (S 29 (l1_10 + 1)) = ((S 29 l1_10)) ∧ (S 1100007 (l1_10 + 1)) = ((S 1100007 l1_10) + 1) ∧ (S 1100023 (l1_10 + 1)) = ((S 1100023 l1_10)) ∧ (S 1100025 (l1_10 + 1)) = ((S 1100025 l1_10))))) := fun h h0 h1 => sm_ct_8 h _ h0 h1
          have h := h k17
          have k18 : (sm_CT (S 26) (S 27) (S 28) (S 29) (S 1100007) (S 1100023) (S 1100024) (S 1100025) (S 21) (S 1046 0) (S 1032 0) (S 1008 0) (S 1055 0) → 0 ≤ l1_10 → l1_10 < (S 1046 0) → ((S 26 l1_10) = 16 → (0 ≤ (S 27 l1_10) ∧ (S 27 l1_10) ≤ 8 ∧ 0 ≤ (S 28 l1_10) ∧ (S 28 l1_10) < (S 1055 0)) ∧ (0 ≤ ((S 1100007 l1_10) - (S 27 l1_10) - 1) ∧ (0 ≤ (S 1100023 l1_10) → (S 1100007 (S 1100023 l1_10)) ≤ ((S 1100007 l1_10) - (S 27 l1_10) - 1)) ∧ (0 ≤ (S 1100025 l1_10) → (S 1100007 (S 1100025 l1_10)) ≤ ((S 1100007 l1_10) - (S 27 l1_10) - 1))) ∧ (0 ≤ (l1_10 + 1) ∧ (l1_10 + 1) < (S 1046 0) ∧ (S 29 (l1_10 + 1)) = ((S 29 l1_10)) ∧ (S 1100007 (l1_10 + 1)) = ((S 1100007 l1_10) - (S 27 l1_10)) ∧ (S 1100023 (l1_10 + 1)) = ((S 1100023 l1_10)) ∧ (S 1100025 (l1_10 + 1)) = ((S 1100025 l1_10))))) := fun h h0 h1 => sm_ct_15 h _ h0 h1
          have h := h k18
          refine sv_aload_n hM dX12_findSorts_191 rfl rfl ?_
          refine sv_getA hM dX12_findSorts_192 sm_fl_89 (sm_a0 _) sm_k48 rfl ?_
          refine sv_iload_n hM dX12_findSorts_195 rfl rfl ?_
          obtain ⟨o19, h⟩ := h
          have k20 : sv_R (S 26 l1_10) := sm_okI ok13 sm_r26 l1_10
          have h := h k20
          refine sv_iald hM dX12_findSorts_196 (sm_a26 _) (by decide) o19.1 o19.2 rfl (x := (S 26 l1_10)) rfl ?_
          refine sv_bipush (d := (8 : Int)) hM dX12_findSorts_197 rfl rfl ?_
          refine sv_icmp_eq hM dX12_findSorts_199 k20 (⟨by decide, by decide⟩ : sv_R (8 : Int)) (t := 213) rfl rfl (fun hc => ?_) (fun hc => ?_)
          · have h := h.1 (hc)
            refine sv_aload_n hM dX12_findSorts_213 rfl rfl ?_
            refine sv_getA hM dX12_findSorts_214 sm_fl_283 (sm_a0 _) sm_k142 rfl ?_
            refine sv_aload_n hM dX12_findSorts_217 rfl rfl ?_
            refine sv_getA hM dX12_findSorts_218 sm_fl_92 (sm_a0 _) sm_k49 rfl ?_
            refine sv_iload_n hM dX12_findSorts_221 rfl rfl ?_
            have k21 : sv_R (S 27 l1_10) := sm_okI ok13 sm_r27 l1_10
            have h := h k21
            refine sv_iald hM dX12_findSorts_222 (sm_a27 _) (by decide) o19.1 o19.2 rfl (x := (S 27 l1_10)) rfl ?_
            refine sv_aload_n hM dX12_findSorts_223 rfl rfl ?_
            refine sv_getA hM dX12_findSorts_224 sm_fl_89 (sm_a0 _) sm_k48 rfl ?_
            refine sv_iload_n hM dX12_findSorts_227 rfl rfl ?_
            refine sv_iald hM dX12_findSorts_228 (sm_a26 _) (by decide) o19.1 o19.2 rfl (x := (S 26 l1_10)) rfl ?_
            refine sv_bipush (d := (8 : Int)) hM dX12_findSorts_229 rfl rfl ?_
            refine sv_icmp_ne hM dX12_findSorts_231 k20 (⟨by decide, by decide⟩ : sv_R (8 : Int)) (t := 238) rfl rfl (fun hc => ?_) (fun hc => ?_)
            · have h := h.1 (hc)
              refine sv_iconst (d := (0 : Int)) hM dX12_findSorts_238 rfl rfl ?_
              obtain ⟨o22, h⟩ := h
              refine sv_zast sm_X hM dX12_findSorts_239 (sm_a90 _) (by decide) o22.1 o22.2 (sv_nnZ (⟨by decide, by decide⟩ : 0 ≤ (0 : Int) ∧ (0 : Int) ≤ 1)) rfl ?_
              have ok23 : sm_ok (sv_up (sv_sts (sv_sts S [88, 89, 87, 1113, 5, 1011] g1) [90] g9) 90 (S 27 l1_10) (0 : Int)) := sm_upZ ok13 sm_r90 (⟨by decide, by decide⟩ : 0 ≤ (0 : Int) ∧ (0 : Int) ≤ 1)
              have md24 : sv_mod [88, 89, 87, 1113, 5, 1011, 90] S (sv_up (sv_sts (sv_sts S [88, 89, 87, 1113, 5, 1011] g1) [90] g9) 90 (S 27 l1_10) (0 : Int)) := sv_mod.up md14 (by decide)
              have md25 : sv_mod [90] (sv_sts S [88, 89, 87, 1113, 5, 1011] g1) (sv_up (sv_sts (sv_sts S [88, 89, 87, 1113, 5, 1011] g1) [90] g9) 90 (S 27 l1_10) (0 : Int)) := sv_mod.up md15 (by decide)
              refine sv_aload_n hM dX12_findSorts_240 rfl rfl ?_
              refine sv_getA hM dX12_findSorts_241 sm_fl_89 (sm_a0 _) sm_k48 rfl ?_
              refine sv_iload_n hM dX12_findSorts_244 rfl rfl ?_
              refine sv_iald hM dX12_findSorts_245 (sm_a26 _) (by decide) o19.1 o19.2 rfl (x := (S 26 l1_10)) rfl ?_
              refine sv_bipush (d := (16 : Int)) hM dX12_findSorts_246 rfl rfl ?_
              refine sv_icmp_ne hM dX12_findSorts_248 k20 (⟨by decide, by decide⟩ : sv_R (16 : Int)) (t := 263) rfl rfl (fun hc => ?_) (fun hc => ?_)
              · have h := h.1 (hc)
                refine sv_iinc (d := (1 : Int)) hM dX12_findSorts_263 rfl (by decide) rfl rfl ?_
                show sv_T sm_XS sm_cs sm_L sm_sh 2 (q_findSorts S) 291 266 [(0, .ref 0), (1, sv_I (l1_10 + (1 : Int)))] [] (sv_up (sv_sts (sv_sts S [88, 89, 87, 1113, 5, 1011] g1) [90] g9) 90 (S 27 l1_10) (0 : Int))
                refine sv_goto hM dX12_findSorts_266 (pc' := 183) rfl ?_
                obtain ⟨o26, h⟩ := h
                have eS := sv_mod.eq md25
                have hb := ih11 ((l1_10 + (1 : Int)), (sv_up (sv_sts (sv_sts S [88, 89, 87, 1113, 5, 1011] g1) [90] g9) 90 (S 27 l1_10) (0 : Int))) ⟨o26, (by rw [← eS]; exact ok23), h.1⟩ h.2
                have hb : sv_T sm_XS sm_cs sm_L sm_sh 2 (q_findSorts S) 291 183 [(0, .ref 0), (1, sv_I (l1_10 + (1 : Int)))] [] (sv_up (sv_sts (sv_sts S [88, 89, 87, 1113, 5, 1011] g1) [90] g9) 90 (S 27 l1_10) (0 : Int)) := Eq.mpr (congrArg (fun Z => sv_T sm_XS sm_cs sm_L sm_sh 2 (q_findSorts S) 291 183 [(0, .ref 0), (1, sv_I (l1_10 + (1 : Int)))] [] Z) eS) hb
                exact sv_less (lv := [(0, .ref 0), (1, sv_I (l1_10 + (1 : Int)))]) (sv_Sub_cons rfl (sv_Sub_cons rfl sv_Sub_nil)) hb
              · have h := h.2 (hc)
                refine sv_aload_n hM dX12_findSorts_251 rfl rfl ?_
                refine sv_getA hM dX12_findSorts_252 sm_fl_283 (sm_a0 _) sm_k142 rfl ?_
                refine sv_aload_n hM dX12_findSorts_255 rfl rfl ?_
                refine sv_getA hM dX12_findSorts_256 sm_fl_95 (sm_a0 _) sm_k50 rfl ?_
                refine sv_iload_n hM dX12_findSorts_259 rfl rfl ?_
                have k27 : sv_R (S 28 l1_10) := sm_okI ok23 sm_r28 l1_10
                have h := h k27
                refine sv_iald hM dX12_findSorts_260 (sm_a28 _) (by decide) o19.1 o19.2 rfl (x := (S 28 l1_10)) rfl ?_
                refine sv_iconst (d := (0 : Int)) hM dX12_findSorts_261 rfl rfl ?_
                obtain ⟨o28, h⟩ := h
                refine sv_zast sm_X hM dX12_findSorts_262 (sm_a90 _) (by decide) o28.1 o28.2 (sv_nnZ (⟨by decide, by decide⟩ : 0 ≤ (0 : Int) ∧ (0 : Int) ≤ 1)) rfl ?_
                have ok29 : sm_ok (sv_up (sv_up (sv_sts (sv_sts S [88, 89, 87, 1113, 5, 1011] g1) [90] g9) 90 (S 27 l1_10) (0 : Int)) 90 (S 28 l1_10) (0 : Int)) := sm_upZ ok23 sm_r90 (⟨by decide, by decide⟩ : 0 ≤ (0 : Int) ∧ (0 : Int) ≤ 1)
                have md30 : sv_mod [88, 89, 87, 1113, 5, 1011, 90] S (sv_up (sv_up (sv_sts (sv_sts S [88, 89, 87, 1113, 5, 1011] g1) [90] g9) 90 (S 27 l1_10) (0 : Int)) 90 (S 28 l1_10) (0 : Int)) := sv_mod.up md24 (by decide)
                have md31 : sv_mod [90] (sv_sts S [88, 89, 87, 1113, 5, 1011] g1) (sv_up (sv_up (sv_sts (sv_sts S [88, 89, 87, 1113, 5, 1011] g1) [90] g9) 90 (S 27 l1_10) (0 : Int)) 90 (S 28 l1_10) (0 : Int)) := sv_mod.up md25 (by decide)
                refine sv_iinc (d := (1 : Int)) hM dX12_findSorts_263 rfl (by decide) rfl rfl ?_
                show sv_T sm_XS sm_cs sm_L sm_sh 2 (q_findSorts S) 291 266 [(0, .ref 0), (1, sv_I (l1_10 + (1 : Int)))] [] (sv_up (sv_up (sv_sts (sv_sts S [88, 89, 87, 1113, 5, 1011] g1) [90] g9) 90 (S 27 l1_10) (0 : Int)) 90 (S 28 l1_10) (0 : Int))
                refine sv_goto hM dX12_findSorts_266 (pc' := 183) rfl ?_
                obtain ⟨o32, h⟩ := h
                have eS := sv_mod.eq md31
                have hb := ih11 ((l1_10 + (1 : Int)), (sv_up (sv_up (sv_sts (sv_sts S [88, 89, 87, 1113, 5, 1011] g1) [90] g9) 90 (S 27 l1_10) (0 : Int)) 90 (S 28 l1_10) (0 : Int))) ⟨o32, (by rw [← eS]; exact ok29), h.1⟩ h.2
                have hb : sv_T sm_XS sm_cs sm_L sm_sh 2 (q_findSorts S) 291 183 [(0, .ref 0), (1, sv_I (l1_10 + (1 : Int)))] [] (sv_up (sv_up (sv_sts (sv_sts S [88, 89, 87, 1113, 5, 1011] g1) [90] g9) 90 (S 27 l1_10) (0 : Int)) 90 (S 28 l1_10) (0 : Int)) := Eq.mpr (congrArg (fun Z => sv_T sm_XS sm_cs sm_L sm_sh 2 (q_findSorts S) 291 183 [(0, .ref 0), (1, sv_I (l1_10 + (1 : Int)))] [] Z) eS) hb
                exact sv_less (lv := [(0, .ref 0), (1, sv_I (l1_10 + (1 : Int)))]) (sv_Sub_cons rfl (sv_Sub_cons rfl sv_Sub_nil)) hb
            · have h := h.2 (hc)
              refine sv_iconst (d := (1 : Int)) hM dX12_findSorts_234 rfl rfl ?_
              refine sv_goto hM dX12_findSorts_235 (pc' := 239) rfl ?_
              obtain ⟨o33, h⟩ := h
              refine sv_zast sm_X hM dX12_findSorts_239 (sm_a90 _) (by decide) o33.1 o33.2 (sv_nnZ (⟨by decide, by decide⟩ : 0 ≤ (1 : Int) ∧ (1 : Int) ≤ 1)) rfl ?_
              have ok34 : sm_ok (sv_up (sv_sts (sv_sts S [88, 89, 87, 1113, 5, 1011] g1) [90] g9) 90 (S 27 l1_10) (1 : Int)) := sm_upZ ok13 sm_r90 (⟨by decide, by decide⟩ : 0 ≤ (1 : Int) ∧ (1 : Int) ≤ 1)
              have md35 : sv_mod [88, 89, 87, 1113, 5, 1011, 90] S (sv_up (sv_sts (sv_sts S [88, 89, 87, 1113, 5, 1011] g1) [90] g9) 90 (S 27 l1_10) (1 : Int)) := sv_mod.up md14 (by decide)
              have md36 : sv_mod [90] (sv_sts S [88, 89, 87, 1113, 5, 1011] g1) (sv_up (sv_sts (sv_sts S [88, 89, 87, 1113, 5, 1011] g1) [90] g9) 90 (S 27 l1_10) (1 : Int)) := sv_mod.up md15 (by decide)
              refine sv_aload_n hM dX12_findSorts_240 rfl rfl ?_
              refine sv_getA hM dX12_findSorts_241 sm_fl_89 (sm_a0 _) sm_k48 rfl ?_
              refine sv_iload_n hM dX12_findSorts_244 rfl rfl ?_
              refine sv_iald hM dX12_findSorts_245 (sm_a26 _) (by decide) o19.1 o19.2 rfl (x := (S 26 l1_10)) rfl ?_
              refine sv_bipush (d := (16 : Int)) hM dX12_findSorts_246 rfl rfl ?_
              refine sv_icmp_ne hM dX12_findSorts_248 k20 (⟨by decide, by decide⟩ : sv_R (16 : Int)) (t := 263) rfl rfl (fun hc => ?_) (fun hc => ?_)
              · have h := h.1 (hc)
                refine sv_iinc (d := (1 : Int)) hM dX12_findSorts_263 rfl (by decide) rfl rfl ?_
                show sv_T sm_XS sm_cs sm_L sm_sh 2 (q_findSorts S) 291 266 [(0, .ref 0), (1, sv_I (l1_10 + (1 : Int)))] [] (sv_up (sv_sts (sv_sts S [88, 89, 87, 1113, 5, 1011] g1) [90] g9) 90 (S 27 l1_10) (1 : Int))
                refine sv_goto hM dX12_findSorts_266 (pc' := 183) rfl ?_
                obtain ⟨o37, h⟩ := h
                have eS := sv_mod.eq md36
                have hb := ih11 ((l1_10 + (1 : Int)), (sv_up (sv_sts (sv_sts S [88, 89, 87, 1113, 5, 1011] g1) [90] g9) 90 (S 27 l1_10) (1 : Int))) ⟨o37, (by rw [← eS]; exact ok34), h.1⟩ h.2
                have hb : sv_T sm_XS sm_cs sm_L sm_sh 2 (q_findSorts S) 291 183 [(0, .ref 0), (1, sv_I (l1_10 + (1 : Int)))] [] (sv_up (sv_sts (sv_sts S [88, 89, 87, 1113, 5, 1011] g1) [90] g9) 90 (S 27 l1_10) (1 : Int)) := Eq.mpr (congrArg (fun Z => sv_T sm_XS sm_cs sm_L sm_sh 2 (q_findSorts S) 291 183 [(0, .ref 0), (1, sv_I (l1_10 + (1 : Int)))] [] Z) eS) hb
                exact sv_less (lv := [(0, .ref 0), (1, sv_I (l1_10 + (1 : Int)))]) (sv_Sub_cons rfl (sv_Sub_cons rfl sv_Sub_nil)) hb
              · have h := h.2 (hc)
                refine sv_aload_n hM dX12_findSorts_251 rfl rfl ?_
                refine sv_getA hM dX12_findSorts_252 sm_fl_283 (sm_a0 _) sm_k142 rfl ?_
                refine sv_aload_n hM dX12_findSorts_255 rfl rfl ?_
                refine sv_getA hM dX12_findSorts_256 sm_fl_95 (sm_a0 _) sm_k50 rfl ?_
                refine sv_iload_n hM dX12_findSorts_259 rfl rfl ?_
                have k38 : sv_R (S 28 l1_10) := sm_okI ok34 sm_r28 l1_10
                have h := h k38
                refine sv_iald hM dX12_findSorts_260 (sm_a28 _) (by decide) o19.1 o19.2 rfl (x := (S 28 l1_10)) rfl ?_
                refine sv_iconst (d := (0 : Int)) hM dX12_findSorts_261 rfl rfl ?_
                obtain ⟨o39, h⟩ := h
                refine sv_zast sm_X hM dX12_findSorts_262 (sm_a90 _) (by decide) o39.1 o39.2 (sv_nnZ (⟨by decide, by decide⟩ : 0 ≤ (0 : Int) ∧ (0 : Int) ≤ 1)) rfl ?_
                have ok40 : sm_ok (sv_up (sv_up (sv_sts (sv_sts S [88, 89, 87, 1113, 5, 1011] g1) [90] g9) 90 (S 27 l1_10) (1 : Int)) 90 (S 28 l1_10) (0 : Int)) := sm_upZ ok34 sm_r90 (⟨by decide, by decide⟩ : 0 ≤ (0 : Int) ∧ (0 : Int) ≤ 1)
                have md41 : sv_mod [88, 89, 87, 1113, 5, 1011, 90] S (sv_up (sv_up (sv_sts (sv_sts S [88, 89, 87, 1113, 5, 1011] g1) [90] g9) 90 (S 27 l1_10) (1 : Int)) 90 (S 28 l1_10) (0 : Int)) := sv_mod.up md35 (by decide)
                have md42 : sv_mod [90] (sv_sts S [88, 89, 87, 1113, 5, 1011] g1) (sv_up (sv_up (sv_sts (sv_sts S [88, 89, 87, 1113, 5, 1011] g1) [90] g9) 90 (S 27 l1_10) (1 : Int)) 90 (S 28 l1_10) (0 : Int)) := sv_mod.up md36 (by decide)
                refine sv_iinc (d := (1 : Int)) hM dX12_findSorts_263 rfl (by decide) rfl rfl ?_
                show sv_T sm_XS sm_cs sm_L sm_sh 2 (q_findSorts S) 291 266 [(0, .ref 0), (1, sv_I (l1_10 + (1 : Int)))] [] (sv_up (sv_up (sv_sts (sv_sts S [88, 89, 87, 1113, 5, 1011] g1) [90] g9) 90 (S 27 l1_10) (1 : Int)) 90 (S 28 l1_10) (0 : Int))
                refine sv_goto hM dX12_findSorts_266 (pc' := 183) rfl ?_
                obtain ⟨o43, h⟩ := h
                have eS := sv_mod.eq md42
                have hb := ih11 ((l1_10 + (1 : Int)), (sv_up (sv_up (sv_sts (sv_sts S [88, 89, 87, 1113, 5, 1011] g1) [90] g9) 90 (S 27 l1_10) (1 : Int)) 90 (S 28 l1_10) (0 : Int))) ⟨o43, (by rw [← eS]; exact ok40), h.1⟩ h.2
                have hb : sv_T sm_XS sm_cs sm_L sm_sh 2 (q_findSorts S) 291 183 [(0, .ref 0), (1, sv_I (l1_10 + (1 : Int)))] [] (sv_up (sv_up (sv_sts (sv_sts S [88, 89, 87, 1113, 5, 1011] g1) [90] g9) 90 (S 27 l1_10) (1 : Int)) 90 (S 28 l1_10) (0 : Int)) := Eq.mpr (congrArg (fun Z => sv_T sm_XS sm_cs sm_L sm_sh 2 (q_findSorts S) 291 183 [(0, .ref 0), (1, sv_I (l1_10 + (1 : Int)))] [] Z) eS) hb
                exact sv_less (lv := [(0, .ref 0), (1, sv_I (l1_10 + (1 : Int)))]) (sv_Sub_cons rfl (sv_Sub_cons rfl sv_Sub_nil)) hb
          · have h := h.2 (hc)
            refine sv_aload_n hM dX12_findSorts_202 rfl rfl ?_
            refine sv_getA hM dX12_findSorts_203 sm_fl_89 (sm_a0 _) sm_k48 rfl ?_
            refine sv_iload_n hM dX12_findSorts_206 rfl rfl ?_
            refine sv_iald hM dX12_findSorts_207 (sm_a26 _) (by decide) o19.1 o19.2 rfl (x := (S 26 l1_10)) rfl ?_
            refine sv_bipush (d := (7 : Int)) hM dX12_findSorts_208 rfl rfl ?_
            refine sv_icmp_ne hM dX12_findSorts_210 k20 (⟨by decide, by decide⟩ : sv_R (7 : Int)) (t := 240) rfl rfl (fun hc => ?_) (fun hc => ?_)
            · have h := h.1 (hc)
              refine sv_aload_n hM dX12_findSorts_240 rfl rfl ?_
              refine sv_getA hM dX12_findSorts_241 sm_fl_89 (sm_a0 _) sm_k48 rfl ?_
              refine sv_iload_n hM dX12_findSorts_244 rfl rfl ?_
              refine sv_iald hM dX12_findSorts_245 (sm_a26 _) (by decide) o19.1 o19.2 rfl (x := (S 26 l1_10)) rfl ?_
              refine sv_bipush (d := (16 : Int)) hM dX12_findSorts_246 rfl rfl ?_
              refine sv_icmp_ne hM dX12_findSorts_248 k20 (⟨by decide, by decide⟩ : sv_R (16 : Int)) (t := 263) rfl rfl (fun hc => ?_) (fun hc => ?_)
              · have h := h.1 (hc)
                refine sv_iinc (d := (1 : Int)) hM dX12_findSorts_263 rfl (by decide) rfl rfl ?_
                show sv_T sm_XS sm_cs sm_L sm_sh 2 (q_findSorts S) 291 266 [(0, .ref 0), (1, sv_I (l1_10 + (1 : Int)))] [] (sv_sts (sv_sts S [88, 89, 87, 1113, 5, 1011] g1) [90] g9)
                refine sv_goto hM dX12_findSorts_266 (pc' := 183) rfl ?_
                obtain ⟨o44, h⟩ := h
                have eS := sv_mod.eq md15
                have hb := ih11 ((l1_10 + (1 : Int)), (sv_sts (sv_sts S [88, 89, 87, 1113, 5, 1011] g1) [90] g9)) ⟨o44, (by rw [← eS]; exact ok13), h.1⟩ h.2
                have hb : sv_T sm_XS sm_cs sm_L sm_sh 2 (q_findSorts S) 291 183 [(0, .ref 0), (1, sv_I (l1_10 + (1 : Int)))] [] (sv_sts (sv_sts S [88, 89, 87, 1113, 5, 1011] g1) [90] g9) := Eq.mpr (congrArg (fun Z => sv_T sm_XS sm_cs sm_L sm_sh 2 (q_findSorts S) 291 183 [(0, .ref 0), (1, sv_I (l1_10 + (1 : Int)))] [] Z) eS) hb
                exact sv_less (lv := [(0, .ref 0), (1, sv_I (l1_10 + (1 : Int)))]) (sv_Sub_cons rfl (sv_Sub_cons rfl sv_Sub_nil)) hb
              · have h := h.2 (hc)
                refine sv_aload_n hM dX12_findSorts_251 rfl rfl ?_
                refine sv_getA hM dX12_findSorts_252 sm_fl_283 (sm_a0 _) sm_k142 rfl ?_
                refine sv_aload_n hM dX12_findSorts_255 rfl rfl ?_
                refine sv_getA hM dX12_findSorts_256 sm_fl_95 (sm_a0 _) sm_k50 rfl ?_
                refine sv_iload_n hM dX12_findSorts_259 rfl rfl ?_
                have k45 : sv_R (S 28 l1_10) := sm_okI ok13 sm_r28 l1_10
                have h := h k45
                refine sv_iald hM dX12_findSorts_260 (sm_a28 _) (by decide) o19.1 o19.2 rfl (x := (S 28 l1_10)) rfl ?_
                refine sv_iconst (d := (0 : Int)) hM dX12_findSorts_261 rfl rfl ?_
                obtain ⟨o46, h⟩ := h
                refine sv_zast sm_X hM dX12_findSorts_262 (sm_a90 _) (by decide) o46.1 o46.2 (sv_nnZ (⟨by decide, by decide⟩ : 0 ≤ (0 : Int) ∧ (0 : Int) ≤ 1)) rfl ?_
                have ok47 : sm_ok (sv_up (sv_sts (sv_sts S [88, 89, 87, 1113, 5, 1011] g1) [90] g9) 90 (S 28 l1_10) (0 : Int)) := sm_upZ ok13 sm_r90 (⟨by decide, by decide⟩ : 0 ≤ (0 : Int) ∧ (0 : Int) ≤ 1)
                have md48 : sv_mod [88, 89, 87, 1113, 5, 1011, 90] S (sv_up (sv_sts (sv_sts S [88, 89, 87, 1113, 5, 1011] g1) [90] g9) 90 (S 28 l1_10) (0 : Int)) := sv_mod.up md14 (by decide)
                have md49 : sv_mod [90] (sv_sts S [88, 89, 87, 1113, 5, 1011] g1) (sv_up (sv_sts (sv_sts S [88, 89, 87, 1113, 5, 1011] g1) [90] g9) 90 (S 28 l1_10) (0 : Int)) := sv_mod.up md15 (by decide)
                refine sv_iinc (d := (1 : Int)) hM dX12_findSorts_263 rfl (by decide) rfl rfl ?_
                show sv_T sm_XS sm_cs sm_L sm_sh 2 (q_findSorts S) 291 266 [(0, .ref 0), (1, sv_I (l1_10 + (1 : Int)))] [] (sv_up (sv_sts (sv_sts S [88, 89, 87, 1113, 5, 1011] g1) [90] g9) 90 (S 28 l1_10) (0 : Int))
                refine sv_goto hM dX12_findSorts_266 (pc' := 183) rfl ?_
                obtain ⟨o50, h⟩ := h
                have eS := sv_mod.eq md49
                have hb := ih11 ((l1_10 + (1 : Int)), (sv_up (sv_sts (sv_sts S [88, 89, 87, 1113, 5, 1011] g1) [90] g9) 90 (S 28 l1_10) (0 : Int))) ⟨o50, (by rw [← eS]; exact ok47), h.1⟩ h.2
                have hb : sv_T sm_XS sm_cs sm_L sm_sh 2 (q_findSorts S) 291 183 [(0, .ref 0), (1, sv_I (l1_10 + (1 : Int)))] [] (sv_up (sv_sts (sv_sts S [88, 89, 87, 1113, 5, 1011] g1) [90] g9) 90 (S 28 l1_10) (0 : Int)) := Eq.mpr (congrArg (fun Z => sv_T sm_XS sm_cs sm_L sm_sh 2 (q_findSorts S) 291 183 [(0, .ref 0), (1, sv_I (l1_10 + (1 : Int)))] [] Z) eS) hb
                exact sv_less (lv := [(0, .ref 0), (1, sv_I (l1_10 + (1 : Int)))]) (sv_Sub_cons rfl (sv_Sub_cons rfl sv_Sub_nil)) hb
            · have h := h.2 (hc)
              refine sv_aload_n hM dX12_findSorts_213 rfl rfl ?_
              refine sv_getA hM dX12_findSorts_214 sm_fl_283 (sm_a0 _) sm_k142 rfl ?_
              refine sv_aload_n hM dX12_findSorts_217 rfl rfl ?_
              refine sv_getA hM dX12_findSorts_218 sm_fl_92 (sm_a0 _) sm_k49 rfl ?_
              refine sv_iload_n hM dX12_findSorts_221 rfl rfl ?_
              have k51 : sv_R (S 27 l1_10) := sm_okI ok13 sm_r27 l1_10
              have h := h k51
              refine sv_iald hM dX12_findSorts_222 (sm_a27 _) (by decide) o19.1 o19.2 rfl (x := (S 27 l1_10)) rfl ?_
              refine sv_aload_n hM dX12_findSorts_223 rfl rfl ?_
              refine sv_getA hM dX12_findSorts_224 sm_fl_89 (sm_a0 _) sm_k48 rfl ?_
              refine sv_iload_n hM dX12_findSorts_227 rfl rfl ?_
              refine sv_iald hM dX12_findSorts_228 (sm_a26 _) (by decide) o19.1 o19.2 rfl (x := (S 26 l1_10)) rfl ?_
              refine sv_bipush (d := (8 : Int)) hM dX12_findSorts_229 rfl rfl ?_
              refine sv_icmp_ne hM dX12_findSorts_231 k20 (⟨by decide, by decide⟩ : sv_R (8 : Int)) (t := 238) rfl rfl (fun hc => ?_) (fun hc => ?_)
              · have h := h.1 (hc)
                refine sv_iconst (d := (0 : Int)) hM dX12_findSorts_238 rfl rfl ?_
                obtain ⟨o52, h⟩ := h
                refine sv_zast sm_X hM dX12_findSorts_239 (sm_a90 _) (by decide) o52.1 o52.2 (sv_nnZ (⟨by decide, by decide⟩ : 0 ≤ (0 : Int) ∧ (0 : Int) ≤ 1)) rfl ?_
                have ok53 : sm_ok (sv_up (sv_sts (sv_sts S [88, 89, 87, 1113, 5, 1011] g1) [90] g9) 90 (S 27 l1_10) (0 : Int)) := sm_upZ ok13 sm_r90 (⟨by decide, by decide⟩ : 0 ≤ (0 : Int) ∧ (0 : Int) ≤ 1)
                have md54 : sv_mod [88, 89, 87, 1113, 5, 1011, 90] S (sv_up (sv_sts (sv_sts S [88, 89, 87, 1113, 5, 1011] g1) [90] g9) 90 (S 27 l1_10) (0 : Int)) := sv_mod.up md14 (by decide)
                have md55 : sv_mod [90] (sv_sts S [88, 89, 87, 1113, 5, 1011] g1) (sv_up (sv_sts (sv_sts S [88, 89, 87, 1113, 5, 1011] g1) [90] g9) 90 (S 27 l1_10) (0 : Int)) := sv_mod.up md15 (by decide)
                refine sv_aload_n hM dX12_findSorts_240 rfl rfl ?_
                refine sv_getA hM dX12_findSorts_241 sm_fl_89 (sm_a0 _) sm_k48 rfl ?_
                refine sv_iload_n hM dX12_findSorts_244 rfl rfl ?_
                refine sv_iald hM dX12_findSorts_245 (sm_a26 _) (by decide) o19.1 o19.2 rfl (x := (S 26 l1_10)) rfl ?_
                refine sv_bipush (d := (16 : Int)) hM dX12_findSorts_246 rfl rfl ?_
                refine sv_icmp_ne hM dX12_findSorts_248 k20 (⟨by decide, by decide⟩ : sv_R (16 : Int)) (t := 263) rfl rfl (fun hc => ?_) (fun hc => ?_)
                · have h := h.1 (hc)
                  refine sv_iinc (d := (1 : Int)) hM dX12_findSorts_263 rfl (by decide) rfl rfl ?_
                  show sv_T sm_XS sm_cs sm_L sm_sh 2 (q_findSorts S) 291 266 [(0, .ref 0), (1, sv_I (l1_10 + (1 : Int)))] [] (sv_up (sv_sts (sv_sts S [88, 89, 87, 1113, 5, 1011] g1) [90] g9) 90 (S 27 l1_10) (0 : Int))
                  refine sv_goto hM dX12_findSorts_266 (pc' := 183) rfl ?_
                  obtain ⟨o56, h⟩ := h
                  have eS := sv_mod.eq md55
                  have hb := ih11 ((l1_10 + (1 : Int)), (sv_up (sv_sts (sv_sts S [88, 89, 87, 1113, 5, 1011] g1) [90] g9) 90 (S 27 l1_10) (0 : Int))) ⟨o56, (by rw [← eS]; exact ok53), h.1⟩ h.2
                  have hb : sv_T sm_XS sm_cs sm_L sm_sh 2 (q_findSorts S) 291 183 [(0, .ref 0), (1, sv_I (l1_10 + (1 : Int)))] [] (sv_up (sv_sts (sv_sts S [88, 89, 87, 1113, 5, 1011] g1) [90] g9) 90 (S 27 l1_10) (0 : Int)) := Eq.mpr (congrArg (fun Z => sv_T sm_XS sm_cs sm_L sm_sh 2 (q_findSorts S) 291 183 [(0, .ref 0), (1, sv_I (l1_10 + (1 : Int)))] [] Z) eS) hb
                  exact sv_less (lv := [(0, .ref 0), (1, sv_I (l1_10 + (1 : Int)))]) (sv_Sub_cons rfl (sv_Sub_cons rfl sv_Sub_nil)) hb
                · have h := h.2 (hc)
                  refine sv_aload_n hM dX12_findSorts_251 rfl rfl ?_
                  refine sv_getA hM dX12_findSorts_252 sm_fl_283 (sm_a0 _) sm_k142 rfl ?_
                  refine sv_aload_n hM dX12_findSorts_255 rfl rfl ?_
                  refine sv_getA hM dX12_findSorts_256 sm_fl_95 (sm_a0 _) sm_k50 rfl ?_
                  refine sv_iload_n hM dX12_findSorts_259 rfl rfl ?_
                  have k57 : sv_R (S 28 l1_10) := sm_okI ok53 sm_r28 l1_10
                  have h := h k57
                  refine sv_iald hM dX12_findSorts_260 (sm_a28 _) (by decide) o19.1 o19.2 rfl (x := (S 28 l1_10)) rfl ?_
                  refine sv_iconst (d := (0 : Int)) hM dX12_findSorts_261 rfl rfl ?_
                  obtain ⟨o58, h⟩ := h
                  refine sv_zast sm_X hM dX12_findSorts_262 (sm_a90 _) (by decide) o58.1 o58.2 (sv_nnZ (⟨by decide, by decide⟩ : 0 ≤ (0 : Int) ∧ (0 : Int) ≤ 1)) rfl ?_
                  have ok59 : sm_ok (sv_up (sv_up (sv_sts (sv_sts S [88, 89, 87, 1113, 5, 1011] g1) [90] g9) 90 (S 27 l1_10) (0 : Int)) 90 (S 28 l1_10) (0 : Int)) := sm_upZ ok53 sm_r90 (⟨by decide, by decide⟩ : 0 ≤ (0 : Int) ∧ (0 : Int) ≤ 1)
                  have md60 : sv_mod [88, 89, 87, 1113, 5, 1011, 90] S (sv_up (sv_up (sv_sts (sv_sts S [88, 89, 87, 1113, 5, 1011] g1) [90] g9) 90 (S 27 l1_10) (0 : Int)) 90 (S 28 l1_10) (0 : Int)) := sv_mod.up md54 (by decide)
                  have md61 : sv_mod [90] (sv_sts S [88, 89, 87, 1113, 5, 1011] g1) (sv_up (sv_up (sv_sts (sv_sts S [88, 89, 87, 1113, 5, 1011] g1) [90] g9) 90 (S 27 l1_10) (0 : Int)) 90 (S 28 l1_10) (0 : Int)) := sv_mod.up md55 (by decide)
                  refine sv_iinc (d := (1 : Int)) hM dX12_findSorts_263 rfl (by decide) rfl rfl ?_
                  show sv_T sm_XS sm_cs sm_L sm_sh 2 (q_findSorts S) 291 266 [(0, .ref 0), (1, sv_I (l1_10 + (1 : Int)))] [] (sv_up (sv_up (sv_sts (sv_sts S [88, 89, 87, 1113, 5, 1011] g1) [90] g9) 90 (S 27 l1_10) (0 : Int)) 90 (S 28 l1_10) (0 : Int))
                  refine sv_goto hM dX12_findSorts_266 (pc' := 183) rfl ?_
                  obtain ⟨o62, h⟩ := h
                  have eS := sv_mod.eq md61
                  have hb := ih11 ((l1_10 + (1 : Int)), (sv_up (sv_up (sv_sts (sv_sts S [88, 89, 87, 1113, 5, 1011] g1) [90] g9) 90 (S 27 l1_10) (0 : Int)) 90 (S 28 l1_10) (0 : Int))) ⟨o62, (by rw [← eS]; exact ok59), h.1⟩ h.2
                  have hb : sv_T sm_XS sm_cs sm_L sm_sh 2 (q_findSorts S) 291 183 [(0, .ref 0), (1, sv_I (l1_10 + (1 : Int)))] [] (sv_up (sv_up (sv_sts (sv_sts S [88, 89, 87, 1113, 5, 1011] g1) [90] g9) 90 (S 27 l1_10) (0 : Int)) 90 (S 28 l1_10) (0 : Int)) := Eq.mpr (congrArg (fun Z => sv_T sm_XS sm_cs sm_L sm_sh 2 (q_findSorts S) 291 183 [(0, .ref 0), (1, sv_I (l1_10 + (1 : Int)))] [] Z) eS) hb
                  exact sv_less (lv := [(0, .ref 0), (1, sv_I (l1_10 + (1 : Int)))]) (sv_Sub_cons rfl (sv_Sub_cons rfl sv_Sub_nil)) hb
              · have h := h.2 (hc)
                refine sv_iconst (d := (1 : Int)) hM dX12_findSorts_234 rfl rfl ?_
                refine sv_goto hM dX12_findSorts_235 (pc' := 239) rfl ?_
                obtain ⟨o63, h⟩ := h
                refine sv_zast sm_X hM dX12_findSorts_239 (sm_a90 _) (by decide) o63.1 o63.2 (sv_nnZ (⟨by decide, by decide⟩ : 0 ≤ (1 : Int) ∧ (1 : Int) ≤ 1)) rfl ?_
                have ok64 : sm_ok (sv_up (sv_sts (sv_sts S [88, 89, 87, 1113, 5, 1011] g1) [90] g9) 90 (S 27 l1_10) (1 : Int)) := sm_upZ ok13 sm_r90 (⟨by decide, by decide⟩ : 0 ≤ (1 : Int) ∧ (1 : Int) ≤ 1)
                have md65 : sv_mod [88, 89, 87, 1113, 5, 1011, 90] S (sv_up (sv_sts (sv_sts S [88, 89, 87, 1113, 5, 1011] g1) [90] g9) 90 (S 27 l1_10) (1 : Int)) := sv_mod.up md14 (by decide)
                have md66 : sv_mod [90] (sv_sts S [88, 89, 87, 1113, 5, 1011] g1) (sv_up (sv_sts (sv_sts S [88, 89, 87, 1113, 5, 1011] g1) [90] g9) 90 (S 27 l1_10) (1 : Int)) := sv_mod.up md15 (by decide)
                refine sv_aload_n hM dX12_findSorts_240 rfl rfl ?_
                refine sv_getA hM dX12_findSorts_241 sm_fl_89 (sm_a0 _) sm_k48 rfl ?_
                refine sv_iload_n hM dX12_findSorts_244 rfl rfl ?_
                refine sv_iald hM dX12_findSorts_245 (sm_a26 _) (by decide) o19.1 o19.2 rfl (x := (S 26 l1_10)) rfl ?_
                refine sv_bipush (d := (16 : Int)) hM dX12_findSorts_246 rfl rfl ?_
                refine sv_icmp_ne hM dX12_findSorts_248 k20 (⟨by decide, by decide⟩ : sv_R (16 : Int)) (t := 263) rfl rfl (fun hc => ?_) (fun hc => ?_)
                · have h := h.1 (hc)
                  refine sv_iinc (d := (1 : Int)) hM dX12_findSorts_263 rfl (by decide) rfl rfl ?_
                  show sv_T sm_XS sm_cs sm_L sm_sh 2 (q_findSorts S) 291 266 [(0, .ref 0), (1, sv_I (l1_10 + (1 : Int)))] [] (sv_up (sv_sts (sv_sts S [88, 89, 87, 1113, 5, 1011] g1) [90] g9) 90 (S 27 l1_10) (1 : Int))
                  refine sv_goto hM dX12_findSorts_266 (pc' := 183) rfl ?_
                  obtain ⟨o67, h⟩ := h
                  have eS := sv_mod.eq md66
                  have hb := ih11 ((l1_10 + (1 : Int)), (sv_up (sv_sts (sv_sts S [88, 89, 87, 1113, 5, 1011] g1) [90] g9) 90 (S 27 l1_10) (1 : Int))) ⟨o67, (by rw [← eS]; exact ok64), h.1⟩ h.2
                  have hb : sv_T sm_XS sm_cs sm_L sm_sh 2 (q_findSorts S) 291 183 [(0, .ref 0), (1, sv_I (l1_10 + (1 : Int)))] [] (sv_up (sv_sts (sv_sts S [88, 89, 87, 1113, 5, 1011] g1) [90] g9) 90 (S 27 l1_10) (1 : Int)) := Eq.mpr (congrArg (fun Z => sv_T sm_XS sm_cs sm_L sm_sh 2 (q_findSorts S) 291 183 [(0, .ref 0), (1, sv_I (l1_10 + (1 : Int)))] [] Z) eS) hb
                  exact sv_less (lv := [(0, .ref 0), (1, sv_I (l1_10 + (1 : Int)))]) (sv_Sub_cons rfl (sv_Sub_cons rfl sv_Sub_nil)) hb
                · have h := h.2 (hc)
                  refine sv_aload_n hM dX12_findSorts_251 rfl rfl ?_
                  refine sv_getA hM dX12_findSorts_252 sm_fl_283 (sm_a0 _) sm_k142 rfl ?_
                  refine sv_aload_n hM dX12_findSorts_255 rfl rfl ?_
                  refine sv_getA hM dX12_findSorts_256 sm_fl_95 (sm_a0 _) sm_k50 rfl ?_
                  refine sv_iload_n hM dX12_findSorts_259 rfl rfl ?_
                  have k68 : sv_R (S 28 l1_10) := sm_okI ok64 sm_r28 l1_10
                  have h := h k68
                  refine sv_iald hM dX12_findSorts_260 (sm_a28 _) (by decide) o19.1 o19.2 rfl (x := (S 28 l1_10)) rfl ?_
                  refine sv_iconst (d := (0 : Int)) hM dX12_findSorts_261 rfl rfl ?_
                  obtain ⟨o69, h⟩ := h
                  refine sv_zast sm_X hM dX12_findSorts_262 (sm_a90 _) (by decide) o69.1 o69.2 (sv_nnZ (⟨by decide, by decide⟩ : 0 ≤ (0 : Int) ∧ (0 : Int) ≤ 1)) rfl ?_
                  have ok70 : sm_ok (sv_up (sv_up (sv_sts (sv_sts S [88, 89, 87, 1113, 5, 1011] g1) [90] g9) 90 (S 27 l1_10) (1 : Int)) 90 (S 28 l1_10) (0 : Int)) := sm_upZ ok64 sm_r90 (⟨by decide, by decide⟩ : 0 ≤ (0 : Int) ∧ (0 : Int) ≤ 1)
                  have md71 : sv_mod [88, 89, 87, 1113, 5, 1011, 90] S (sv_up (sv_up (sv_sts (sv_sts S [88, 89, 87, 1113, 5, 1011] g1) [90] g9) 90 (S 27 l1_10) (1 : Int)) 90 (S 28 l1_10) (0 : Int)) := sv_mod.up md65 (by decide)
                  have md72 : sv_mod [90] (sv_sts S [88, 89, 87, 1113, 5, 1011] g1) (sv_up (sv_up (sv_sts (sv_sts S [88, 89, 87, 1113, 5, 1011] g1) [90] g9) 90 (S 27 l1_10) (1 : Int)) 90 (S 28 l1_10) (0 : Int)) := sv_mod.up md66 (by decide)
                  refine sv_iinc (d := (1 : Int)) hM dX12_findSorts_263 rfl (by decide) rfl rfl ?_
                  show sv_T sm_XS sm_cs sm_L sm_sh 2 (q_findSorts S) 291 266 [(0, .ref 0), (1, sv_I (l1_10 + (1 : Int)))] [] (sv_up (sv_up (sv_sts (sv_sts S [88, 89, 87, 1113, 5, 1011] g1) [90] g9) 90 (S 27 l1_10) (1 : Int)) 90 (S 28 l1_10) (0 : Int))
                  refine sv_goto hM dX12_findSorts_266 (pc' := 183) rfl ?_
                  obtain ⟨o73, h⟩ := h
                  have eS := sv_mod.eq md72
                  have hb := ih11 ((l1_10 + (1 : Int)), (sv_up (sv_up (sv_sts (sv_sts S [88, 89, 87, 1113, 5, 1011] g1) [90] g9) 90 (S 27 l1_10) (1 : Int)) 90 (S 28 l1_10) (0 : Int))) ⟨o73, (by rw [← eS]; exact ok70), h.1⟩ h.2
                  have hb : sv_T sm_XS sm_cs sm_L sm_sh 2 (q_findSorts S) 291 183 [(0, .ref 0), (1, sv_I (l1_10 + (1 : Int)))] [] (sv_up (sv_up (sv_sts (sv_sts S [88, 89, 87, 1113, 5, 1011] g1) [90] g9) 90 (S 27 l1_10) (1 : Int)) 90 (S 28 l1_10) (0 : Int)) := Eq.mpr (congrArg (fun Z => sv_T sm_XS sm_cs sm_L sm_sh 2 (q_findSorts S) 291 183 [(0, .ref 0), (1, sv_I (l1_10 + (1 : Int)))] [] Z) eS) hb
                  exact sv_less (lv := [(0, .ref 0), (1, sv_I (l1_10 + (1 : Int)))]) (sv_Sub_cons rfl (sv_Sub_cons rfl sv_Sub_nil)) hb
      have eS := sv_mod.eq (sv_mod.rf (l := [90]) (S := (sv_sts S [88, 89, 87, 1113, 5, 1011] g1)))
      have hb := hJ ((0 : Int), (sv_sts S [88, 89, 87, 1113, 5, 1011] g1)) ⟨(⟨by decide, by decide⟩ : sv_R (0 : Int)), (by rw [← eS]; exact ok5), hin12⟩
      have hb : sv_T sm_XS sm_cs sm_L sm_sh 2 (q_findSorts S) 291 183 [(0, .ref 0), (1, sv_I (0 : Int))] [] (sv_sts S [88, 89, 87, 1113, 5, 1011] g1) := Eq.mpr (congrArg (fun Z => sv_T sm_XS sm_cs sm_L sm_sh 2 (q_findSorts S) 291 183 [(0, .ref 0), (1, sv_I (0 : Int))] [] Z) eS) hb
      exact hb
    · have h := h.2 (hc)
      refine sv_aload_n hM dX12_findSorts_10 rfl rfl ?_
      refine sv_getA hM dX12_findSorts_11 sm_fl_277 (sm_a0 _) sm_k140 rfl ?_
      refine sv_iload_n hM dX12_findSorts_14 rfl rfl ?_
      refine sv_aload_n hM dX12_findSorts_15 rfl rfl ?_
      refine sv_iload_n hM dX12_findSorts_16 rfl rfl ?_
      obtain ⟨o74, h⟩ := h
      refine sv_callV hM dX12_findSorts_17 sm_iv_975 (by decide) (sm_a0 _) rfl rfl (Nat.le_of_ble_eq_true rfl) sm_h145 (Nat.le_of_ble_eq_true rfl) (Nat.le_of_ble_eq_true rfl) (F' := 1) (Nat.le_of_ble_eq_true rfl) rfl (t_indexOf l1_2 (sv_sts S [88, 89, 87, 1113, 5, 1011] g1) ok5 hl1_2 o74) (fun v S1 hq => ?_)
      obtain ⟨r79, rfl, hr79, ok76, md77, hpo78⟩ := hq
      obtain rfl : (sv_sts S [88, 89, 87, 1113, 5, 1011] g1) = S1 := (funext fun j => md77 j (by intro q; cases q)).symm
      show sv_T sm_XS sm_cs sm_L sm_sh 2 (q_findSorts S) 291 20 [(0, .ref 0), (1, sv_I l1_2)] [sv_I r79, sv_I l1_2, .ref 88] (sv_sts S [88, 89, 87, 1113, 5, 1011] g1)
      have h := h r79 hr79 hpo78
      refine sv_iconst (d := (-1 : Int)) hM dX12_findSorts_20 rfl rfl ?_
      refine sv_icmp_eq hM dX12_findSorts_21 hr79 (⟨by decide, by decide⟩ : sv_R (-1 : Int)) (t := 28) rfl rfl (fun hc => ?_) (fun hc => ?_)
      · have h := h.1 (hc)
        refine sv_iconst (d := (0 : Int)) hM dX12_findSorts_28 rfl rfl ?_
        obtain ⟨o80, h⟩ := h
        refine sv_zast sm_X hM dX12_findSorts_29 (sm_a88 _) (by decide) o80.1 o80.2 (sv_nnZ (⟨by decide, by decide⟩ : 0 ≤ (0 : Int) ∧ (0 : Int) ≤ 1)) rfl ?_
        have ok81 : sm_ok (sv_up (sv_sts S [88, 89, 87, 1113, 5, 1011] g1) 88 l1_2 (0 : Int)) := sm_upZ ok76 sm_r88 (⟨by decide, by decide⟩ : 0 ≤ (0 : Int) ∧ (0 : Int) ≤ 1)
        have md82 : sv_mod [88, 89, 87, 1113, 5, 1011, 90] S (sv_up (sv_sts S [88, 89, 87, 1113, 5, 1011] g1) 88 l1_2 (0 : Int)) := sv_mod.up md6 (by decide)
        have md83 : sv_mod [88, 89, 87, 1113, 5, 1011] S (sv_up (sv_sts S [88, 89, 87, 1113, 5, 1011] g1) 88 l1_2 (0 : Int)) := sv_mod.up md7 (by decide)
        refine sv_aload_n hM dX12_findSorts_30 rfl rfl ?_
        refine sv_getA hM dX12_findSorts_31 sm_fl_280 (sm_a0 _) sm_k141 rfl ?_
        refine sv_iload_n hM dX12_findSorts_34 rfl rfl ?_
        refine sv_aload_n hM dX12_findSorts_35 rfl rfl ?_
        refine sv_getA hM dX12_findSorts_36 sm_fl_20 (sm_a0 _) sm_k6 rfl ?_
        refine sv_iload_n hM dX12_findSorts_39 rfl rfl ?_
        obtain ⟨o84, h⟩ := h
        have k85 : sv_R (S 4 l1_2) := sm_okI ok81 sm_r4 l1_2
        have h := h k85
        refine sv_iald hM dX12_findSorts_40 (sm_a4 _) (by decide) o84.1 o84.2 rfl (x := (S 4 l1_2)) rfl ?_
        refine sv_iconst (d := (3 : Int)) hM dX12_findSorts_41 rfl rfl ?_
        refine sv_icmp_ne hM dX12_findSorts_42 k85 (⟨by decide, by decide⟩ : sv_R (3 : Int)) (t := 95) rfl rfl (fun hc => ?_) (fun hc => ?_)
        · have h := h.1 (hc)
          refine sv_iconst (d := (0 : Int)) hM dX12_findSorts_95 rfl rfl ?_
          refine sv_zast sm_X hM dX12_findSorts_96 (sm_a89 _) (by decide) o80.1 o80.2 (sv_nnZ (⟨by decide, by decide⟩ : 0 ≤ (0 : Int) ∧ (0 : Int) ≤ 1)) rfl ?_
          have ok86 : sm_ok (sv_up (sv_up (sv_sts S [88, 89, 87, 1113, 5, 1011] g1) 88 l1_2 (0 : Int)) 89 l1_2 (0 : Int)) := sm_upZ ok81 sm_r89 (⟨by decide, by decide⟩ : 0 ≤ (0 : Int) ∧ (0 : Int) ≤ 1)
          have md87 : sv_mod [88, 89, 87, 1113, 5, 1011, 90] S (sv_up (sv_up (sv_sts S [88, 89, 87, 1113, 5, 1011] g1) 88 l1_2 (0 : Int)) 89 l1_2 (0 : Int)) := sv_mod.up md82 (by decide)
          have md88 : sv_mod [88, 89, 87, 1113, 5, 1011] S (sv_up (sv_up (sv_sts S [88, 89, 87, 1113, 5, 1011] g1) 88 l1_2 (0 : Int)) 89 l1_2 (0 : Int)) := sv_mod.up md83 (by decide)
          have J136 : ∀ s90 : Int, sv_R s90 → ∀ g89 : sv_S, sm_ok (sv_sts (sv_up (sv_up (sv_sts S [88, 89, 87, 1113, 5, 1011] g1) 88 l1_2 (0 : Int)) 89 l1_2 (0 : Int)) [1113] g89) → (True) → sv_T sm_XS sm_cs sm_L sm_sh 2 (q_findSorts S) 291 115 [(0, .ref 0), (1, sv_I l1_2)] [sv_I s90] (sv_sts (sv_up (sv_up (sv_sts S [88, 89, 87, 1113, 5, 1011] g1) 88 l1_2 (0 : Int)) 89 l1_2 (0 : Int)) [1113] g89) := by
            intro s90 hs90 g89 ok91 hin92
            have h := h.1 s90 hs90 g89 hin92
            have md93 : sv_mod [88, 89, 87, 1113, 5, 1011, 90] S (sv_sts (sv_up (sv_up (sv_sts S [88, 89, 87, 1113, 5, 1011] g1) 88 l1_2 (0 : Int)) 89 l1_2 (0 : Int)) [1113] g89) := sv_mod.sts md87 (by decide)
            have md94 : sv_mod [88, 89, 87, 1113, 5, 1011] S (sv_sts (sv_up (sv_up (sv_sts S [88, 89, 87, 1113, 5, 1011] g1) 88 l1_2 (0 : Int)) 89 l1_2 (0 : Int)) [1113] g89) := sv_mod.sts md88 (by decide)
            have md95 : sv_mod [1113] (sv_up (sv_up (sv_sts S [88, 89, 87, 1113, 5, 1011] g1) 88 l1_2 (0 : Int)) 89 l1_2 (0 : Int)) (sv_sts (sv_up (sv_up (sv_sts S [88, 89, 87, 1113, 5, 1011] g1) 88 l1_2 (0 : Int)) 89 l1_2 (0 : Int)) [1113] g89) := sv_mod.sts sv_mod.rf (by decide)
            refine sv_istore_n hM dX12_findSorts_115 (by decide) rfl ?_
            show sv_T sm_XS sm_cs sm_L sm_sh 2 (q_findSorts S) 291 116 [(0, .ref 0), (1, sv_I l1_2), (2, sv_I s90)] [] (sv_sts (sv_up (sv_up (sv_sts S [88, 89, 87, 1113, 5, 1011] g1) 88 l1_2 (0 : Int)) 89 l1_2 (0 : Int)) [1113] g89)
            have J134 : ∀ s96 : Int, sv_R s96 → (s96 = 0 ∨ s96 = 1) → sv_T sm_XS sm_cs sm_L sm_sh 2 (q_findSorts S) 291 137 [(0, .ref 0), (1, sv_I l1_2), (2, sv_I s90)] [sv_I s96] (sv_sts (sv_up (sv_up (sv_sts S [88, 89, 87, 1113, 5, 1011] g1) 88 l1_2 (0 : Int)) 89 l1_2 (0 : Int)) [1113] g89) := by
              intro s96 hs96 hin97
              have h := h.1 s96 hs96 hin97
              refine sv_istore_n hM dX12_findSorts_137 (by decide) rfl ?_
              show sv_T sm_XS sm_cs sm_L sm_sh 2 (q_findSorts S) 291 138 [(0, .ref 0), (1, sv_I l1_2), (2, sv_I s90), (3, sv_I s96)] [] (sv_sts (sv_up (sv_up (sv_sts S [88, 89, 87, 1113, 5, 1011] g1) 88 l1_2 (0 : Int)) 89 l1_2 (0 : Int)) [1113] g89)
              refine sv_aload_n hM dX12_findSorts_138 rfl rfl ?_
              refine sv_iconst (d := (0 : Int)) hM dX12_findSorts_139 rfl rfl ?_
              refine sv_putI sm_X hM dX12_findSorts_140 sm_fp_299 (sm_a0 _) sm_q11 (Or.inl rfl) rfl rfl rfl rfl ?_
              have ok98 : sm_ok (sv_up (sv_sts (sv_up (sv_up (sv_sts S [88, 89, 87, 1113, 5, 1011] g1) 88 l1_2 (0 : Int)) 89 l1_2 (0 : Int)) [1113] g89) 1011 0 (0 : Int)) := sm_upI ok91 sm_r1011 (⟨by decide, by decide⟩ : sv_R (0 : Int))
              have md99 : sv_mod [88, 89, 87, 1113, 5, 1011, 90] S (sv_up (sv_sts (sv_up (sv_up (sv_sts S [88, 89, 87, 1113, 5, 1011] g1) 88 l1_2 (0 : Int)) 89 l1_2 (0 : Int)) [1113] g89) 1011 0 (0 : Int)) := sv_mod.up md93 (by decide)
              have md100 : sv_mod [88, 89, 87, 1113, 5, 1011] S (sv_up (sv_sts (sv_up (sv_up (sv_sts S [88, 89, 87, 1113, 5, 1011] g1) 88 l1_2 (0 : Int)) 89 l1_2 (0 : Int)) [1113] g89) 1011 0 (0 : Int)) := sv_mod.up md94 (by decide)
              have J125 : ∀ g101 : sv_S, sm_ok (sv_sts (sv_up (sv_sts (sv_up (sv_up (sv_sts S [88, 89, 87, 1113, 5, 1011] g1) 88 l1_2 (0 : Int)) 89 l1_2 (0 : Int)) [1113] g89) 1011 0 (0 : Int)) [5, 1011] g101) → (0 ≤ (g101 1011 0) ∧ (g101 1011 0) ≤ 200) → sv_T sm_XS sm_cs sm_L sm_sh 2 (q_findSorts S) 291 152 [(0, .ref 0), (1, sv_I l1_2), (2, sv_I s90), (3, sv_I s96)] [] (sv_sts (sv_up (sv_sts (sv_up (sv_up (sv_sts S [88, 89, 87, 1113, 5, 1011] g1) 88 l1_2 (0 : Int)) 89 l1_2 (0 : Int)) [1113] g89) 1011 0 (0 : Int)) [5, 1011] g101) := by
                intro  g101 ok102 hin103
                have h := h.1 g101 hin103
                have md104 : sv_mod [88, 89, 87, 1113, 5, 1011, 90] S (sv_sts (sv_up (sv_sts (sv_up (sv_up (sv_sts S [88, 89, 87, 1113, 5, 1011] g1) 88 l1_2 (0 : Int)) 89 l1_2 (0 : Int)) [1113] g89) 1011 0 (0 : Int)) [5, 1011] g101) := sv_mod.sts md99 (by decide)
                have md105 : sv_mod [88, 89, 87, 1113, 5, 1011] S (sv_sts (sv_up (sv_sts (sv_up (sv_up (sv_sts S [88, 89, 87, 1113, 5, 1011] g1) 88 l1_2 (0 : Int)) 89 l1_2 (0 : Int)) [1113] g89) 1011 0 (0 : Int)) [5, 1011] g101) := sv_mod.sts md100 (by decide)
                have md106 : sv_mod [5, 1011] (sv_up (sv_sts (sv_up (sv_up (sv_sts S [88, 89, 87, 1113, 5, 1011] g1) 88 l1_2 (0 : Int)) 89 l1_2 (0 : Int)) [1113] g89) 1011 0 (0 : Int)) (sv_sts (sv_up (sv_sts (sv_up (sv_up (sv_sts S [88, 89, 87, 1113, 5, 1011] g1) 88 l1_2 (0 : Int)) 89 l1_2 (0 : Int)) [1113] g89) 1011 0 (0 : Int)) [5, 1011] g101) := sv_mod.sts sv_mod.rf (by decide)
                refine sv_aload_n hM dX12_findSorts_152 rfl rfl ?_
                refine sv_getA hM dX12_findSorts_153 sm_fl_274 (sm_a0 _) sm_k139 rfl ?_
                refine sv_iload_n hM dX12_findSorts_156 rfl rfl ?_
                refine sv_iload_n hM dX12_findSorts_157 rfl rfl ?_
                refine sv_cond_eq hM dX12_findSorts_158 hs96 (t := 173) rfl rfl (fun hc => ?_) (fun hc => ?_)
                · have h := h.1 (hc)
                  refine sv_iconst (d := (0 : Int)) hM dX12_findSorts_173 rfl rfl ?_
                  refine sv_zast sm_X hM dX12_findSorts_174 (sm_a87 _) (by decide) o80.1 o80.2 (sv_nnZ (⟨by decide, by decide⟩ : 0 ≤ (0 : Int) ∧ (0 : Int) ≤ 1)) rfl ?_
                  have ok107 : sm_ok (sv_up (sv_sts (sv_up (sv_sts (sv_up (sv_up (sv_sts S [88, 89, 87, 1113, 5, 1011] g1) 88 l1_2 (0 : Int)) 89 l1_2 (0 : Int)) [1113] g89) 1011 0 (0 : Int)) [5, 1011] g101) 87 l1_2 (0 : Int)) := sm_upZ ok102 sm_r87 (⟨by decide, by decide⟩ : 0 ≤ (0 : Int) ∧ (0 : Int) ≤ 1)
                  have md108 : sv_mod [88, 89, 87, 1113, 5, 1011, 90] S (sv_up (sv_sts (sv_up (sv_sts (sv_up (sv_up (sv_sts S [88, 89, 87, 1113, 5, 1011] g1) 88 l1_2 (0 : Int)) 89 l1_2 (0 : Int)) [1113] g89) 1011 0 (0 : Int)) [5, 1011] g101) 87 l1_2 (0 : Int)) := sv_mod.up md104 (by decide)
                  have md109 : sv_mod [88, 89, 87, 1113, 5, 1011] S (sv_up (sv_sts (sv_up (sv_sts (sv_up (sv_up (sv_sts S [88, 89, 87, 1113, 5, 1011] g1) 88 l1_2 (0 : Int)) 89 l1_2 (0 : Int)) [1113] g89) 1011 0 (0 : Int)) [5, 1011] g101) 87 l1_2 (0 : Int)) := sv_mod.up md105 (by decide)
                  refine sv_iinc (d := (1 : Int)) hM dX12_findSorts_175 rfl (by decide) rfl rfl ?_
                  show sv_T sm_XS sm_cs sm_L sm_sh 2 (q_findSorts S) 291 178 [(0, .ref 0), (1, sv_I (l1_2 + (1 : Int))), (2, sv_I s90), (3, sv_I s96)] [] (sv_up (sv_sts (sv_up (sv_sts (sv_up (sv_up (sv_sts S [88, 89, 87, 1113, 5, 1011] g1) 88 l1_2 (0 : Int)) 89 l1_2 (0 : Int)) [1113] g89) 1011 0 (0 : Int)) [5, 1011] g101) 87 l1_2 (0 : Int))
                  refine sv_goto hM dX12_findSorts_178 (pc' := 2) rfl ?_
                  obtain ⟨o110, h⟩ := h
                  have eS := sv_mod.eq md109
                  have hb := ih3 ((l1_2 + (1 : Int)), (sv_up (sv_sts (sv_up (sv_sts (sv_up (sv_up (sv_sts S [88, 89, 87, 1113, 5, 1011] g1) 88 l1_2 (0 : Int)) 89 l1_2 (0 : Int)) [1113] g89) 1011 0 (0 : Int)) [5, 1011] g101) 87 l1_2 (0 : Int))) ⟨o110, (by rw [← eS]; exact ok107), h.1⟩ h.2
                  have hb : sv_T sm_XS sm_cs sm_L sm_sh 2 (q_findSorts S) 291 2 [(0, .ref 0), (1, sv_I (l1_2 + (1 : Int)))] [] (sv_up (sv_sts (sv_up (sv_sts (sv_up (sv_up (sv_sts S [88, 89, 87, 1113, 5, 1011] g1) 88 l1_2 (0 : Int)) 89 l1_2 (0 : Int)) [1113] g89) 1011 0 (0 : Int)) [5, 1011] g101) 87 l1_2 (0 : Int)) := Eq.mpr (congrArg (fun Z => sv_T sm_XS sm_cs sm_L sm_sh 2 (q_findSorts S) 291 2 [(0, .ref 0), (1, sv_I (l1_2 + (1 : Int)))] [] Z) eS) hb
                  exact sv_less (lv := [(0, .ref 0), (1, sv_I (l1_2 + (1 : Int)))]) (sv_Sub_cons rfl (sv_Sub_cons rfl sv_Sub_nil)) hb
                · have h := h.2 (hc)
                  refine sv_aload_n hM dX12_findSorts_161 rfl rfl ?_
                  obtain ⟨o111, h⟩ := h
                  refine sv_callV hM dX12_findSorts_162 sm_iv_302 (by decide) (sm_a0 _) rfl rfl (Nat.le_of_ble_eq_true rfl) sm_h5 (Nat.le_of_ble_eq_true rfl) (Nat.le_of_ble_eq_true rfl) (F' := 0) (Nat.le_of_ble_eq_true rfl) rfl (t_findText  (sv_sts (sv_up (sv_sts (sv_up (sv_up (sv_sts S [88, 89, 87, 1113, 5, 1011] g1) 88 l1_2 (0 : Int)) 89 l1_2 (0 : Int)) [1113] g89) 1011 0 (0 : Int)) [5, 1011] g101) ok102 o111) (fun v S1 hq => ?_)
                  obtain ⟨r116, rfl, hr116, ok113, md114, hpo115⟩ := hq
                  obtain rfl : (sv_sts (sv_up (sv_sts (sv_up (sv_up (sv_sts S [88, 89, 87, 1113, 5, 1011] g1) 88 l1_2 (0 : Int)) 89 l1_2 (0 : Int)) [1113] g89) 1011 0 (0 : Int)) [5, 1011] g101) = S1 := (funext fun j => md114 j (by intro q; cases q)).symm
                  show sv_T sm_XS sm_cs sm_L sm_sh 2 (q_findSorts S) 291 165 [(0, .ref 0), (1, sv_I l1_2), (2, sv_I s90), (3, sv_I s96)] [sv_I r116, sv_I l1_2, .ref 87] (sv_sts (sv_up (sv_sts (sv_up (sv_up (sv_sts S [88, 89, 87, 1113, 5, 1011] g1) 88 l1_2 (0 : Int)) 89 l1_2 (0 : Int)) [1113] g89) 1011 0 (0 : Int)) [5, 1011] g101)
                  have h := h r116 hr116 hpo115
                  refine sv_iload_n hM dX12_findSorts_165 rfl rfl ?_
                  refine sv_icmp_ne hM dX12_findSorts_166 hr116 hl1_2 (t := 173) rfl rfl (fun hc => ?_) (fun hc => ?_)
                  · have h := h.1 (hc)
                    refine sv_iconst (d := (0 : Int)) hM dX12_findSorts_173 rfl rfl ?_
                    refine sv_zast sm_X hM dX12_findSorts_174 (sm_a87 _) (by decide) o80.1 o80.2 (sv_nnZ (⟨by decide, by decide⟩ : 0 ≤ (0 : Int) ∧ (0 : Int) ≤ 1)) rfl ?_
                    have ok117 : sm_ok (sv_up (sv_sts (sv_up (sv_sts (sv_up (sv_up (sv_sts S [88, 89, 87, 1113, 5, 1011] g1) 88 l1_2 (0 : Int)) 89 l1_2 (0 : Int)) [1113] g89) 1011 0 (0 : Int)) [5, 1011] g101) 87 l1_2 (0 : Int)) := sm_upZ ok113 sm_r87 (⟨by decide, by decide⟩ : 0 ≤ (0 : Int) ∧ (0 : Int) ≤ 1)
                    have md118 : sv_mod [88, 89, 87, 1113, 5, 1011, 90] S (sv_up (sv_sts (sv_up (sv_sts (sv_up (sv_up (sv_sts S [88, 89, 87, 1113, 5, 1011] g1) 88 l1_2 (0 : Int)) 89 l1_2 (0 : Int)) [1113] g89) 1011 0 (0 : Int)) [5, 1011] g101) 87 l1_2 (0 : Int)) := sv_mod.up md104 (by decide)
                    have md119 : sv_mod [88, 89, 87, 1113, 5, 1011] S (sv_up (sv_sts (sv_up (sv_sts (sv_up (sv_up (sv_sts S [88, 89, 87, 1113, 5, 1011] g1) 88 l1_2 (0 : Int)) 89 l1_2 (0 : Int)) [1113] g89) 1011 0 (0 : Int)) [5, 1011] g101) 87 l1_2 (0 : Int)) := sv_mod.up md105 (by decide)
                    refine sv_iinc (d := (1 : Int)) hM dX12_findSorts_175 rfl (by decide) rfl rfl ?_
                    show sv_T sm_XS sm_cs sm_L sm_sh 2 (q_findSorts S) 291 178 [(0, .ref 0), (1, sv_I (l1_2 + (1 : Int))), (2, sv_I s90), (3, sv_I s96)] [] (sv_up (sv_sts (sv_up (sv_sts (sv_up (sv_up (sv_sts S [88, 89, 87, 1113, 5, 1011] g1) 88 l1_2 (0 : Int)) 89 l1_2 (0 : Int)) [1113] g89) 1011 0 (0 : Int)) [5, 1011] g101) 87 l1_2 (0 : Int))
                    refine sv_goto hM dX12_findSorts_178 (pc' := 2) rfl ?_
                    obtain ⟨o120, h⟩ := h
                    have eS := sv_mod.eq md119
                    have hb := ih3 ((l1_2 + (1 : Int)), (sv_up (sv_sts (sv_up (sv_sts (sv_up (sv_up (sv_sts S [88, 89, 87, 1113, 5, 1011] g1) 88 l1_2 (0 : Int)) 89 l1_2 (0 : Int)) [1113] g89) 1011 0 (0 : Int)) [5, 1011] g101) 87 l1_2 (0 : Int))) ⟨o120, (by rw [← eS]; exact ok117), h.1⟩ h.2
                    have hb : sv_T sm_XS sm_cs sm_L sm_sh 2 (q_findSorts S) 291 2 [(0, .ref 0), (1, sv_I (l1_2 + (1 : Int)))] [] (sv_up (sv_sts (sv_up (sv_sts (sv_up (sv_up (sv_sts S [88, 89, 87, 1113, 5, 1011] g1) 88 l1_2 (0 : Int)) 89 l1_2 (0 : Int)) [1113] g89) 1011 0 (0 : Int)) [5, 1011] g101) 87 l1_2 (0 : Int)) := Eq.mpr (congrArg (fun Z => sv_T sm_XS sm_cs sm_L sm_sh 2 (q_findSorts S) 291 2 [(0, .ref 0), (1, sv_I (l1_2 + (1 : Int)))] [] Z) eS) hb
                    exact sv_less (lv := [(0, .ref 0), (1, sv_I (l1_2 + (1 : Int)))]) (sv_Sub_cons rfl (sv_Sub_cons rfl sv_Sub_nil)) hb
                  · have h := h.2 (hc)
                    refine sv_iconst (d := (1 : Int)) hM dX12_findSorts_169 rfl rfl ?_
                    refine sv_goto hM dX12_findSorts_170 (pc' := 174) rfl ?_
                    refine sv_zast sm_X hM dX12_findSorts_174 (sm_a87 _) (by decide) o80.1 o80.2 (sv_nnZ (⟨by decide, by decide⟩ : 0 ≤ (1 : Int) ∧ (1 : Int) ≤ 1)) rfl ?_
                    have ok121 : sm_ok (sv_up (sv_sts (sv_up (sv_sts (sv_up (sv_up (sv_sts S [88, 89, 87, 1113, 5, 1011] g1) 88 l1_2 (0 : Int)) 89 l1_2 (0 : Int)) [1113] g89) 1011 0 (0 : Int)) [5, 1011] g101) 87 l1_2 (1 : Int)) := sm_upZ ok113 sm_r87 (⟨by decide, by decide⟩ : 0 ≤ (1 : Int) ∧ (1 : Int) ≤ 1)
                    have md122 : sv_mod [88, 89, 87, 1113, 5, 1011, 90] S (sv_up (sv_sts (sv_up (sv_sts (sv_up (sv_up (sv_sts S [88, 89, 87, 1113, 5, 1011] g1) 88 l1_2 (0 : Int)) 89 l1_2 (0 : Int)) [1113] g89) 1011 0 (0 : Int)) [5, 1011] g101) 87 l1_2 (1 : Int)) := sv_mod.up md104 (by decide)
                    have md123 : sv_mod [88, 89, 87, 1113, 5, 1011] S (sv_up (sv_sts (sv_up (sv_sts (sv_up (sv_up (sv_sts S [88, 89, 87, 1113, 5, 1011] g1) 88 l1_2 (0 : Int)) 89 l1_2 (0 : Int)) [1113] g89) 1011 0 (0 : Int)) [5, 1011] g101) 87 l1_2 (1 : Int)) := sv_mod.up md105 (by decide)
                    refine sv_iinc (d := (1 : Int)) hM dX12_findSorts_175 rfl (by decide) rfl rfl ?_
                    show sv_T sm_XS sm_cs sm_L sm_sh 2 (q_findSorts S) 291 178 [(0, .ref 0), (1, sv_I (l1_2 + (1 : Int))), (2, sv_I s90), (3, sv_I s96)] [] (sv_up (sv_sts (sv_up (sv_sts (sv_up (sv_up (sv_sts S [88, 89, 87, 1113, 5, 1011] g1) 88 l1_2 (0 : Int)) 89 l1_2 (0 : Int)) [1113] g89) 1011 0 (0 : Int)) [5, 1011] g101) 87 l1_2 (1 : Int))
                    refine sv_goto hM dX12_findSorts_178 (pc' := 2) rfl ?_
                    obtain ⟨o124, h⟩ := h
                    have eS := sv_mod.eq md123
                    have hb := ih3 ((l1_2 + (1 : Int)), (sv_up (sv_sts (sv_up (sv_sts (sv_up (sv_up (sv_sts S [88, 89, 87, 1113, 5, 1011] g1) 88 l1_2 (0 : Int)) 89 l1_2 (0 : Int)) [1113] g89) 1011 0 (0 : Int)) [5, 1011] g101) 87 l1_2 (1 : Int))) ⟨o124, (by rw [← eS]; exact ok121), h.1⟩ h.2
                    have hb : sv_T sm_XS sm_cs sm_L sm_sh 2 (q_findSorts S) 291 2 [(0, .ref 0), (1, sv_I (l1_2 + (1 : Int)))] [] (sv_up (sv_sts (sv_up (sv_sts (sv_up (sv_up (sv_sts S [88, 89, 87, 1113, 5, 1011] g1) 88 l1_2 (0 : Int)) 89 l1_2 (0 : Int)) [1113] g89) 1011 0 (0 : Int)) [5, 1011] g101) 87 l1_2 (1 : Int)) := Eq.mpr (congrArg (fun Z => sv_T sm_XS sm_cs sm_L sm_sh 2 (q_findSorts S) 291 2 [(0, .ref 0), (1, sv_I (l1_2 + (1 : Int)))] [] Z) eS) hb
                    exact sv_less (lv := [(0, .ref 0), (1, sv_I (l1_2 + (1 : Int)))]) (sv_Sub_cons rfl (sv_Sub_cons rfl sv_Sub_nil)) hb
              have h := h.2
              refine sv_iload_n hM dX12_findSorts_143 rfl rfl ?_
              refine sv_cond_eq hM dX12_findSorts_144 hs96 (t := 152) rfl rfl (fun hc => ?_) (fun hc => ?_)
              · have h := h.1 (hc)
                have eS := sv_mod.eq (sv_mod.rf (l := [5, 1011]) (S := (sv_up (sv_sts (sv_up (sv_up (sv_sts S [88, 89, 87, 1113, 5, 1011] g1) 88 l1_2 (0 : Int)) 89 l1_2 (0 : Int)) [1113] g89) 1011 0 (0 : Int))))
                have hb := J125 (sv_up (sv_sts (sv_up (sv_up (sv_sts S [88, 89, 87, 1113, 5, 1011] g1) 88 l1_2 (0 : Int)) 89 l1_2 (0 : Int)) [1113] g89) 1011 0 (0 : Int)) (by rw [← eS]; exact ok98) h
                have hb : sv_T sm_XS sm_cs sm_L sm_sh 2 (q_findSorts S) 291 152 [(0, .ref 0), (1, sv_I l1_2), (2, sv_I s90), (3, sv_I s96)] [] (sv_up (sv_sts (sv_up (sv_up (sv_sts S [88, 89, 87, 1113, 5, 1011] g1) 88 l1_2 (0 : Int)) 89 l1_2 (0 : Int)) [1113] g89) 1011 0 (0 : Int)) := Eq.mpr (congrArg (fun Z => sv_T sm_XS sm_cs sm_L sm_sh 2 (q_findSorts S) 291 152 [(0, .ref 0), (1, sv_I l1_2), (2, sv_I s90), (3, sv_I s96)] [] Z) eS) hb
                exact sv_less (lv := [(0, .ref 0), (1, sv_I l1_2), (2, sv_I s90), (3, sv_I s96)]) (sv_Sub_cons rfl (sv_Sub_cons rfl (sv_Sub_cons rfl (sv_Sub_cons rfl sv_Sub_nil)))) hb
              · have h := h.2 (hc)
                refine sv_aload_n hM dX12_findSorts_147 rfl rfl ?_
                refine sv_iload_n hM dX12_findSorts_148 rfl rfl ?_
                obtain ⟨o126, h⟩ := h
                refine sv_callV hM dX12_findSorts_149 sm_iv_410 (by decide) (sm_a0 _) rfl rfl (Nat.le_of_ble_eq_true rfl) sm_h31 (Nat.le_of_ble_eq_true rfl) (Nat.le_of_ble_eq_true rfl) (F' := 1) (Nat.le_of_ble_eq_true rfl) rfl (t_putNumber s90 (sv_up (sv_sts (sv_up (sv_up (sv_sts S [88, 89, 87, 1113, 5, 1011] g1) 88 l1_2 (0 : Int)) 89 l1_2 (0 : Int)) [1113] g89) 1011 0 (0 : Int)) ok98 hs90 o126) (fun v S1 hq => ?_)
                obtain ⟨rfl, ok128, md129, hpo130⟩ := hq
                obtain ⟨g127, rfl⟩ : ∃ g, S1 = sv_sts (sv_up (sv_sts (sv_up (sv_up (sv_sts S [88, 89, 87, 1113, 5, 1011] g1) 88 l1_2 (0 : Int)) 89 l1_2 (0 : Int)) [1113] g89) 1011 0 (0 : Int)) [5, 1011] g := ⟨_, md129.eq⟩
                show sv_T sm_XS sm_cs sm_L sm_sh 2 (q_findSorts S) 291 152 [(0, .ref 0), (1, sv_I l1_2), (2, sv_I s90), (3, sv_I s96)] [] (sv_sts (sv_up (sv_sts (sv_up (sv_up (sv_sts S [88, 89, 87, 1113, 5, 1011] g1) 88 l1_2 (0 : Int)) 89 l1_2 (0 : Int)) [1113] g89) 1011 0 (0 : Int)) [5, 1011] g127)
                have md131 : sv_mod [88, 89, 87, 1113, 5, 1011, 90] S (sv_sts (sv_up (sv_sts (sv_up (sv_up (sv_sts S [88, 89, 87, 1113, 5, 1011] g1) 88 l1_2 (0 : Int)) 89 l1_2 (0 : Int)) [1113] g89) 1011 0 (0 : Int)) [5, 1011] g127) := sv_mod.sts md99 (by decide)
                have md132 : sv_mod [88, 89, 87, 1113, 5, 1011] S (sv_sts (sv_up (sv_sts (sv_up (sv_up (sv_sts S [88, 89, 87, 1113, 5, 1011] g1) 88 l1_2 (0 : Int)) 89 l1_2 (0 : Int)) [1113] g89) 1011 0 (0 : Int)) [5, 1011] g127) := sv_mod.sts md100 (by decide)
                have md133 : sv_mod [5, 1011] (sv_up (sv_sts (sv_up (sv_up (sv_sts S [88, 89, 87, 1113, 5, 1011] g1) 88 l1_2 (0 : Int)) 89 l1_2 (0 : Int)) [1113] g89) 1011 0 (0 : Int)) (sv_sts (sv_up (sv_sts (sv_up (sv_up (sv_sts S [88, 89, 87, 1113, 5, 1011] g1) 88 l1_2 (0 : Int)) 89 l1_2 (0 : Int)) [1113] g89) 1011 0 (0 : Int)) [5, 1011] g127) := sv_mod.sts (sv_mod.rf (l := [5, 1011]) (S := (sv_up (sv_sts (sv_up (sv_up (sv_sts S [88, 89, 87, 1113, 5, 1011] g1) 88 l1_2 (0 : Int)) 89 l1_2 (0 : Int)) [1113] g89) 1011 0 (0 : Int)))) (by decide)
                have h := h g127 hpo130
                have eS := sv_mod.eq md133
                have hb := J125 (sv_sts (sv_up (sv_sts (sv_up (sv_up (sv_sts S [88, 89, 87, 1113, 5, 1011] g1) 88 l1_2 (0 : Int)) 89 l1_2 (0 : Int)) [1113] g89) 1011 0 (0 : Int)) [5, 1011] g127) (by rw [← eS]; exact ok128) h
                have hb : sv_T sm_XS sm_cs sm_L sm_sh 2 (q_findSorts S) 291 152 [(0, .ref 0), (1, sv_I l1_2), (2, sv_I s90), (3, sv_I s96)] [] (sv_sts (sv_up (sv_sts (sv_up (sv_up (sv_sts S [88, 89, 87, 1113, 5, 1011] g1) 88 l1_2 (0 : Int)) 89 l1_2 (0 : Int)) [1113] g89) 1011 0 (0 : Int)) [5, 1011] g127) := Eq.mpr (congrArg (fun Z => sv_T sm_XS sm_cs sm_L sm_sh 2 (q_findSorts S) 291 152 [(0, .ref 0), (1, sv_I l1_2), (2, sv_I s90), (3, sv_I s96)] [] Z) eS) hb
                exact sv_less (lv := [(0, .ref 0), (1, sv_I l1_2), (2, sv_I s90), (3, sv_I s96)]) (sv_Sub_cons rfl (sv_Sub_cons rfl (sv_Sub_cons rfl (sv_Sub_cons rfl sv_Sub_nil)))) hb
            have h := h.2
            refine sv_aload_n hM dX12_findSorts_116 rfl rfl ?_
            refine sv_getA hM dX12_findSorts_117 sm_fl_20 (sm_a0 _) sm_k6 rfl ?_
            refine sv_iload_n hM dX12_findSorts_120 rfl rfl ?_
            refine sv_iald hM dX12_findSorts_121 (sm_a4 _) (by decide) o84.1 o84.2 rfl (x := (S 4 l1_2)) rfl ?_
            refine sv_cond_le hM dX12_findSorts_122 k85 (t := 136) rfl rfl (fun hc => ?_) (fun hc => ?_)
            · have h := h.1 (hc)
              refine sv_iconst (d := (0 : Int)) hM dX12_findSorts_136 rfl rfl ?_
              have hb := J134 (0 : Int) (⟨by decide, by decide⟩ : sv_R (0 : Int)) h
              exact sv_less (lv := [(0, .ref 0), (1, sv_I l1_2), (2, sv_I s90)]) (sv_Sub_cons rfl (sv_Sub_cons rfl (sv_Sub_cons rfl sv_Sub_nil))) hb
            · have h := h.2 (hc)
              refine sv_aload_n hM dX12_findSorts_125 rfl rfl ?_
              have k135 : (0 ≤ (g89 1113 0) ∧ (g89 1113 0) ≤ 1) := sm_okZ ok91 sm_r1113 0
              have h := h k135
              refine sv_getI hM dX12_findSorts_126 sm_fl_806 (sm_a0 _) sm_k113 rfl (x := (g89 1113 0)) rfl ?_
              refine sv_cond_eq hM dX12_findSorts_129 (sv_R01 k135) (t := 136) rfl rfl (fun hc => ?_) (fun hc => ?_)
              · have h := h.1 (hc)
                refine sv_iconst (d := (0 : Int)) hM dX12_findSorts_136 rfl rfl ?_
                have hb := J134 (0 : Int) (⟨by decide, by decide⟩ : sv_R (0 : Int)) h
                exact sv_less (lv := [(0, .ref 0), (1, sv_I l1_2), (2, sv_I s90)]) (sv_Sub_cons rfl (sv_Sub_cons rfl (sv_Sub_cons rfl sv_Sub_nil))) hb
              · have h := h.2 (hc)
                refine sv_iconst (d := (1 : Int)) hM dX12_findSorts_132 rfl rfl ?_
                refine sv_goto hM dX12_findSorts_133 (pc' := 137) rfl ?_
                have hb := J134 (1 : Int) (⟨by decide, by decide⟩ : sv_R (1 : Int)) h
                exact sv_less (lv := [(0, .ref 0), (1, sv_I l1_2), (2, sv_I s90)]) (sv_Sub_cons rfl (sv_Sub_cons rfl (sv_Sub_cons rfl sv_Sub_nil))) hb
          have h := h.2
          refine sv_aload_n hM dX12_findSorts_97 rfl rfl ?_
          refine sv_getA hM dX12_findSorts_98 sm_fl_20 (sm_a0 _) sm_k6 rfl ?_
          refine sv_iload_n hM dX12_findSorts_101 rfl rfl ?_
          refine sv_iald hM dX12_findSorts_102 (sm_a4 _) (by decide) o84.1 o84.2 rfl (x := (S 4 l1_2)) rfl ?_
          refine sv_cond_le hM dX12_findSorts_103 k85 (t := 114) rfl rfl (fun hc => ?_) (fun hc => ?_)
          · have h := h.1 (hc)
            refine sv_iconst (d := (0 : Int)) hM dX12_findSorts_114 rfl rfl ?_
            have eS := sv_mod.eq (sv_mod.rf (l := [1113]) (S := (sv_up (sv_up (sv_sts S [88, 89, 87, 1113, 5, 1011] g1) 88 l1_2 (0 : Int)) 89 l1_2 (0 : Int))))
            have hb := J136 (0 : Int) (⟨by decide, by decide⟩ : sv_R (0 : Int)) (sv_up (sv_up (sv_sts S [88, 89, 87, 1113, 5, 1011] g1) 88 l1_2 (0 : Int)) 89 l1_2 (0 : Int)) (by rw [← eS]; exact ok86) h
            have hb : sv_T sm_XS sm_cs sm_L sm_sh 2 (q_findSorts S) 291 115 [(0, .ref 0), (1, sv_I l1_2)] [sv_I (0 : Int)] (sv_up (sv_up (sv_sts S [88, 89, 87, 1113, 5, 1011] g1) 88 l1_2 (0 : Int)) 89 l1_2 (0 : Int)) := Eq.mpr (congrArg (fun Z => sv_T sm_XS sm_cs sm_L sm_sh 2 (q_findSorts S) 291 115 [(0, .ref 0), (1, sv_I l1_2)] [sv_I (0 : Int)] Z) eS) hb
            exact sv_less (lv := [(0, .ref 0), (1, sv_I l1_2)]) (sv_Sub_cons rfl (sv_Sub_cons rfl sv_Sub_nil)) hb
          · have h := h.2 (hc)
            refine sv_aload_n hM dX12_findSorts_106 rfl rfl ?_
            refine sv_iload_n hM dX12_findSorts_107 rfl rfl ?_
            refine sv_callV hM dX12_findSorts_108 sm_iv_809 (by decide) (sm_a0 _) rfl rfl (Nat.le_of_ble_eq_true rfl) sm_h128 (Nat.le_of_ble_eq_true rfl) (Nat.le_of_ble_eq_true rfl) (F' := 1) (Nat.le_of_ble_eq_true rfl) rfl (t_numberOfString l1_2 (sv_up (sv_up (sv_sts S [88, 89, 87, 1113, 5, 1011] g1) 88 l1_2 (0 : Int)) 89 l1_2 (0 : Int)) ok86 hl1_2 o74) (fun v S1 hq => ?_)
            obtain ⟨r141, rfl, hr141, ok138, md139, hpo140⟩ := hq
            obtain ⟨g137, rfl⟩ : ∃ g, S1 = sv_sts (sv_up (sv_up (sv_sts S [88, 89, 87, 1113, 5, 1011] g1) 88 l1_2 (0 : Int)) 89 l1_2 (0 : Int)) [1113] g := ⟨_, md139.eq⟩
            show sv_T sm_XS sm_cs sm_L sm_sh 2 (q_findSorts S) 291 111 [(0, .ref 0), (1, sv_I l1_2)] [sv_I r141] (sv_sts (sv_up (sv_up (sv_sts S [88, 89, 87, 1113, 5, 1011] g1) 88 l1_2 (0 : Int)) 89 l1_2 (0 : Int)) [1113] g137)
            have md142 : sv_mod [88, 89, 87, 1113, 5, 1011, 90] S (sv_sts (sv_up (sv_up (sv_sts S [88, 89, 87, 1113, 5, 1011] g1) 88 l1_2 (0 : Int)) 89 l1_2 (0 : Int)) [1113] g137) := sv_mod.sts md87 (by decide)
            have md143 : sv_mod [88, 89, 87, 1113, 5, 1011] S (sv_sts (sv_up (sv_up (sv_sts S [88, 89, 87, 1113, 5, 1011] g1) 88 l1_2 (0 : Int)) 89 l1_2 (0 : Int)) [1113] g137) := sv_mod.sts md88 (by decide)
            have md144 : sv_mod [1113] (sv_up (sv_up (sv_sts S [88, 89, 87, 1113, 5, 1011] g1) 88 l1_2 (0 : Int)) 89 l1_2 (0 : Int)) (sv_sts (sv_up (sv_up (sv_sts S [88, 89, 87, 1113, 5, 1011] g1) 88 l1_2 (0 : Int)) 89 l1_2 (0 : Int)) [1113] g137) := sv_mod.sts (sv_mod.rf (l := [1113]) (S := (sv_up (sv_up (sv_sts S [88, 89, 87, 1113, 5, 1011] g1) 88 l1_2 (0 : Int)) 89 l1_2 (0 : Int)))) (by decide)
            have h := h r141 hr141 g137 hpo140
            refine sv_goto hM dX12_findSorts_111 (pc' := 115) rfl ?_
            have eS := sv_mod.eq md144
            have hb := J136 r141 hr141 (sv_sts (sv_up (sv_up (sv_sts S [88, 89, 87, 1113, 5, 1011] g1) 88 l1_2 (0 : Int)) 89 l1_2 (0 : Int)) [1113] g137) (by rw [← eS]; exact ok138) h
            have hb : sv_T sm_XS sm_cs sm_L sm_sh 2 (q_findSorts S) 291 115 [(0, .ref 0), (1, sv_I l1_2)] [sv_I r141] (sv_sts (sv_up (sv_up (sv_sts S [88, 89, 87, 1113, 5, 1011] g1) 88 l1_2 (0 : Int)) 89 l1_2 (0 : Int)) [1113] g137) := Eq.mpr (congrArg (fun Z => sv_T sm_XS sm_cs sm_L sm_sh 2 (q_findSorts S) 291 115 [(0, .ref 0), (1, sv_I l1_2)] [sv_I r141] Z) eS) hb
            exact sv_less (lv := [(0, .ref 0), (1, sv_I l1_2)]) (sv_Sub_cons rfl (sv_Sub_cons rfl sv_Sub_nil)) hb
        · have h := h.2 (hc)
          refine sv_aload_n hM dX12_findSorts_45 rfl rfl ?_
          refine sv_getA hM dX12_findSorts_46 sm_fl_16 (sm_a0 _) sm_k5 rfl ?_
          refine sv_bipush (d := (60 : Int)) hM dX12_findSorts_49 rfl rfl ?_
          refine sv_iload_n hM dX12_findSorts_51 rfl rfl ?_
          refine sv_imul hM dX12_findSorts_52 rfl ?_
          obtain ⟨o145, h⟩ := h
          have k146 : (0 ≤ (S 3 ((60 : Int) * l1_2)) ∧ (S 3 ((60 : Int) * l1_2)) ≤ 65535) := sm_okC ok81 sm_r3 ((60 : Int) * l1_2)
          have h := h k146
          refine sv_cald hM dX12_findSorts_53 (sm_a3 _) (by decide) o145.1 o145.2 rfl (x := (S 3 ((60 : Int) * l1_2))) rfl ?_
          refine sv_bipush (d := (49 : Int)) hM dX12_findSorts_54 rfl rfl ?_
          refine sv_icmp_ne hM dX12_findSorts_56 (sv_RC k146) (⟨by decide, by decide⟩ : sv_R (49 : Int)) (t := 95) rfl rfl (fun hc => ?_) (fun hc => ?_)
          · have h := h.1 (hc)
            refine sv_iconst (d := (0 : Int)) hM dX12_findSorts_95 rfl rfl ?_
            refine sv_zast sm_X hM dX12_findSorts_96 (sm_a89 _) (by decide) o80.1 o80.2 (sv_nnZ (⟨by decide, by decide⟩ : 0 ≤ (0 : Int) ∧ (0 : Int) ≤ 1)) rfl ?_
            have ok147 : sm_ok (sv_up (sv_up (sv_sts S [88, 89, 87, 1113, 5, 1011] g1) 88 l1_2 (0 : Int)) 89 l1_2 (0 : Int)) := sm_upZ ok81 sm_r89 (⟨by decide, by decide⟩ : 0 ≤ (0 : Int) ∧ (0 : Int) ≤ 1)
            have md148 : sv_mod [88, 89, 87, 1113, 5, 1011, 90] S (sv_up (sv_up (sv_sts S [88, 89, 87, 1113, 5, 1011] g1) 88 l1_2 (0 : Int)) 89 l1_2 (0 : Int)) := sv_mod.up md82 (by decide)
            have md149 : sv_mod [88, 89, 87, 1113, 5, 1011] S (sv_up (sv_up (sv_sts S [88, 89, 87, 1113, 5, 1011] g1) 88 l1_2 (0 : Int)) 89 l1_2 (0 : Int)) := sv_mod.up md83 (by decide)
            have J197 : ∀ s151 : Int, sv_R s151 → ∀ g150 : sv_S, sm_ok (sv_sts (sv_up (sv_up (sv_sts S [88, 89, 87, 1113, 5, 1011] g1) 88 l1_2 (0 : Int)) 89 l1_2 (0 : Int)) [1113] g150) → (True) → sv_T sm_XS sm_cs sm_L sm_sh 2 (q_findSorts S) 291 115 [(0, .ref 0), (1, sv_I l1_2)] [sv_I s151] (sv_sts (sv_up (sv_up (sv_sts S [88, 89, 87, 1113, 5, 1011] g1) 88 l1_2 (0 : Int)) 89 l1_2 (0 : Int)) [1113] g150) := by
              intro s151 hs151 g150 ok152 hin153
              have h := h.1 s151 hs151 g150 hin153
              have md154 : sv_mod [88, 89, 87, 1113, 5, 1011, 90] S (sv_sts (sv_up (sv_up (sv_sts S [88, 89, 87, 1113, 5, 1011] g1) 88 l1_2 (0 : Int)) 89 l1_2 (0 : Int)) [1113] g150) := sv_mod.sts md148 (by decide)
              have md155 : sv_mod [88, 89, 87, 1113, 5, 1011] S (sv_sts (sv_up (sv_up (sv_sts S [88, 89, 87, 1113, 5, 1011] g1) 88 l1_2 (0 : Int)) 89 l1_2 (0 : Int)) [1113] g150) := sv_mod.sts md149 (by decide)
              have md156 : sv_mod [1113] (sv_up (sv_up (sv_sts S [88, 89, 87, 1113, 5, 1011] g1) 88 l1_2 (0 : Int)) 89 l1_2 (0 : Int)) (sv_sts (sv_up (sv_up (sv_sts S [88, 89, 87, 1113, 5, 1011] g1) 88 l1_2 (0 : Int)) 89 l1_2 (0 : Int)) [1113] g150) := sv_mod.sts sv_mod.rf (by decide)
              refine sv_istore_n hM dX12_findSorts_115 (by decide) rfl ?_
              show sv_T sm_XS sm_cs sm_L sm_sh 2 (q_findSorts S) 291 116 [(0, .ref 0), (1, sv_I l1_2), (2, sv_I s151)] [] (sv_sts (sv_up (sv_up (sv_sts S [88, 89, 87, 1113, 5, 1011] g1) 88 l1_2 (0 : Int)) 89 l1_2 (0 : Int)) [1113] g150)
              have J195 : ∀ s157 : Int, sv_R s157 → (s157 = 0 ∨ s157 = 1) → sv_T sm_XS sm_cs sm_L sm_sh 2 (q_findSorts S) 291 137 [(0, .ref 0), (1, sv_I l1_2), (2, sv_I s151)] [sv_I s157] (sv_sts (sv_up (sv_up (sv_sts S [88, 89, 87, 1113, 5, 1011] g1) 88 l1_2 (0 : Int)) 89 l1_2 (0 : Int)) [1113] g150) := by
                intro s157 hs157 hin158
                have h := h.1 s157 hs157 hin158
                refine sv_istore_n hM dX12_findSorts_137 (by decide) rfl ?_
                show sv_T sm_XS sm_cs sm_L sm_sh 2 (q_findSorts S) 291 138 [(0, .ref 0), (1, sv_I l1_2), (2, sv_I s151), (3, sv_I s157)] [] (sv_sts (sv_up (sv_up (sv_sts S [88, 89, 87, 1113, 5, 1011] g1) 88 l1_2 (0 : Int)) 89 l1_2 (0 : Int)) [1113] g150)
                refine sv_aload_n hM dX12_findSorts_138 rfl rfl ?_
                refine sv_iconst (d := (0 : Int)) hM dX12_findSorts_139 rfl rfl ?_
                refine sv_putI sm_X hM dX12_findSorts_140 sm_fp_299 (sm_a0 _) sm_q11 (Or.inl rfl) rfl rfl rfl rfl ?_
                have ok159 : sm_ok (sv_up (sv_sts (sv_up (sv_up (sv_sts S [88, 89, 87, 1113, 5, 1011] g1) 88 l1_2 (0 : Int)) 89 l1_2 (0 : Int)) [1113] g150) 1011 0 (0 : Int)) := sm_upI ok152 sm_r1011 (⟨by decide, by decide⟩ : sv_R (0 : Int))
                have md160 : sv_mod [88, 89, 87, 1113, 5, 1011, 90] S (sv_up (sv_sts (sv_up (sv_up (sv_sts S [88, 89, 87, 1113, 5, 1011] g1) 88 l1_2 (0 : Int)) 89 l1_2 (0 : Int)) [1113] g150) 1011 0 (0 : Int)) := sv_mod.up md154 (by decide)
                have md161 : sv_mod [88, 89, 87, 1113, 5, 1011] S (sv_up (sv_sts (sv_up (sv_up (sv_sts S [88, 89, 87, 1113, 5, 1011] g1) 88 l1_2 (0 : Int)) 89 l1_2 (0 : Int)) [1113] g150) 1011 0 (0 : Int)) := sv_mod.up md155 (by decide)
                have J186 : ∀ g162 : sv_S, sm_ok (sv_sts (sv_up (sv_sts (sv_up (sv_up (sv_sts S [88, 89, 87, 1113, 5, 1011] g1) 88 l1_2 (0 : Int)) 89 l1_2 (0 : Int)) [1113] g150) 1011 0 (0 : Int)) [5, 1011] g162) → (0 ≤ (g162 1011 0) ∧ (g162 1011 0) ≤ 200) → sv_T sm_XS sm_cs sm_L sm_sh 2 (q_findSorts S) 291 152 [(0, .ref 0), (1, sv_I l1_2), (2, sv_I s151), (3, sv_I s157)] [] (sv_sts (sv_up (sv_sts (sv_up (sv_up (sv_sts S [88, 89, 87, 1113, 5, 1011] g1) 88 l1_2 (0 : Int)) 89 l1_2 (0 : Int)) [1113] g150) 1011 0 (0 : Int)) [5, 1011] g162) := by
                  intro  g162 ok163 hin164
                  have h := h.1 g162 hin164
                  have md165 : sv_mod [88, 89, 87, 1113, 5, 1011, 90] S (sv_sts (sv_up (sv_sts (sv_up (sv_up (sv_sts S [88, 89, 87, 1113, 5, 1011] g1) 88 l1_2 (0 : Int)) 89 l1_2 (0 : Int)) [1113] g150) 1011 0 (0 : Int)) [5, 1011] g162) := sv_mod.sts md160 (by decide)
                  have md166 : sv_mod [88, 89, 87, 1113, 5, 1011] S (sv_sts (sv_up (sv_sts (sv_up (sv_up (sv_sts S [88, 89, 87, 1113, 5, 1011] g1) 88 l1_2 (0 : Int)) 89 l1_2 (0 : Int)) [1113] g150) 1011 0 (0 : Int)) [5, 1011] g162) := sv_mod.sts md161 (by decide)
                  have md167 : sv_mod [5, 1011] (sv_up (sv_sts (sv_up (sv_up (sv_sts S [88, 89, 87, 1113, 5, 1011] g1) 88 l1_2 (0 : Int)) 89 l1_2 (0 : Int)) [1113] g150) 1011 0 (0 : Int)) (sv_sts (sv_up (sv_sts (sv_up (sv_up (sv_sts S [88, 89, 87, 1113, 5, 1011] g1) 88 l1_2 (0 : Int)) 89 l1_2 (0 : Int)) [1113] g150) 1011 0 (0 : Int)) [5, 1011] g162) := sv_mod.sts sv_mod.rf (by decide)
                  refine sv_aload_n hM dX12_findSorts_152 rfl rfl ?_
                  refine sv_getA hM dX12_findSorts_153 sm_fl_274 (sm_a0 _) sm_k139 rfl ?_
                  refine sv_iload_n hM dX12_findSorts_156 rfl rfl ?_
                  refine sv_iload_n hM dX12_findSorts_157 rfl rfl ?_
                  refine sv_cond_eq hM dX12_findSorts_158 hs157 (t := 173) rfl rfl (fun hc => ?_) (fun hc => ?_)
                  · have h := h.1 (hc)
                    refine sv_iconst (d := (0 : Int)) hM dX12_findSorts_173 rfl rfl ?_
                    refine sv_zast sm_X hM dX12_findSorts_174 (sm_a87 _) (by decide) o80.1 o80.2 (sv_nnZ (⟨by decide, by decide⟩ : 0 ≤ (0 : Int) ∧ (0 : Int) ≤ 1)) rfl ?_
                    have ok168 : sm_ok (sv_up (sv_sts (sv_up (sv_sts (sv_up (sv_up (sv_sts S [88, 89, 87, 1113, 5, 1011] g1) 88 l1_2 (0 : Int)) 89 l1_2 (0 : Int)) [1113] g150) 1011 0 (0 : Int)) [5, 1011] g162) 87 l1_2 (0 : Int)) := sm_upZ ok163 sm_r87 (⟨by decide, by decide⟩ : 0 ≤ (0 : Int) ∧ (0 : Int) ≤ 1)
                    have md169 : sv_mod [88, 89, 87, 1113, 5, 1011, 90] S (sv_up (sv_sts (sv_up (sv_sts (sv_up (sv_up (sv_sts S [88, 89, 87, 1113, 5, 1011] g1) 88 l1_2 (0 : Int)) 89 l1_2 (0 : Int)) [1113] g150) 1011 0 (0 : Int)) [5, 1011] g162) 87 l1_2 (0 : Int)) := sv_mod.up md165 (by decide)
                    have md170 : sv_mod [88, 89, 87, 1113, 5, 1011] S (sv_up (sv_sts (sv_up (sv_sts (sv_up (sv_up (sv_sts S [88, 89, 87, 1113, 5, 1011] g1) 88 l1_2 (0 : Int)) 89 l1_2 (0 : Int)) [1113] g150) 1011 0 (0 : Int)) [5, 1011] g162) 87 l1_2 (0 : Int)) := sv_mod.up md166 (by decide)
                    refine sv_iinc (d := (1 : Int)) hM dX12_findSorts_175 rfl (by decide) rfl rfl ?_
                    show sv_T sm_XS sm_cs sm_L sm_sh 2 (q_findSorts S) 291 178 [(0, .ref 0), (1, sv_I (l1_2 + (1 : Int))), (2, sv_I s151), (3, sv_I s157)] [] (sv_up (sv_sts (sv_up (sv_sts (sv_up (sv_up (sv_sts S [88, 89, 87, 1113, 5, 1011] g1) 88 l1_2 (0 : Int)) 89 l1_2 (0 : Int)) [1113] g150) 1011 0 (0 : Int)) [5, 1011] g162) 87 l1_2 (0 : Int))
                    refine sv_goto hM dX12_findSorts_178 (pc' := 2) rfl ?_
                    obtain ⟨o171, h⟩ := h
                    have eS := sv_mod.eq md170
                    have hb := ih3 ((l1_2 + (1 : Int)), (sv_up (sv_sts (sv_up (sv_sts (sv_up (sv_up (sv_sts S [88, 89, 87, 1113, 5, 1011] g1) 88 l1_2 (0 : Int)) 89 l1_2 (0 : Int)) [1113] g150) 1011 0 (0 : Int)) [5, 1011] g162) 87 l1_2 (0 : Int))) ⟨o171, (by rw [← eS]; exact ok168), h.1⟩ h.2
                    have hb : sv_T sm_XS sm_cs sm_L sm_sh 2 (q_findSorts S) 291 2 [(0, .ref 0), (1, sv_I (l1_2 + (1 : Int)))] [] (sv_up (sv_sts (sv_up (sv_sts (sv_up (sv_up (sv_sts S [88, 89, 87, 1113, 5, 1011] g1) 88 l1_2 (0 : Int)) 89 l1_2 (0 : Int)) [1113] g150) 1011 0 (0 : Int)) [5, 1011] g162) 87 l1_2 (0 : Int)) := Eq.mpr (congrArg (fun Z => sv_T sm_XS sm_cs sm_L sm_sh 2 (q_findSorts S) 291 2 [(0, .ref 0), (1, sv_I (l1_2 + (1 : Int)))] [] Z) eS) hb
                    exact sv_less (lv := [(0, .ref 0), (1, sv_I (l1_2 + (1 : Int)))]) (sv_Sub_cons rfl (sv_Sub_cons rfl sv_Sub_nil)) hb
                  · have h := h.2 (hc)
                    refine sv_aload_n hM dX12_findSorts_161 rfl rfl ?_
                    obtain ⟨o172, h⟩ := h
                    refine sv_callV hM dX12_findSorts_162 sm_iv_302 (by decide) (sm_a0 _) rfl rfl (Nat.le_of_ble_eq_true rfl) sm_h5 (Nat.le_of_ble_eq_true rfl) (Nat.le_of_ble_eq_true rfl) (F' := 0) (Nat.le_of_ble_eq_true rfl) rfl (t_findText  (sv_sts (sv_up (sv_sts (sv_up (sv_up (sv_sts S [88, 89, 87, 1113, 5, 1011] g1) 88 l1_2 (0 : Int)) 89 l1_2 (0 : Int)) [1113] g150) 1011 0 (0 : Int)) [5, 1011] g162) ok163 o172) (fun v S1 hq => ?_)
                    obtain ⟨r177, rfl, hr177, ok174, md175, hpo176⟩ := hq
                    obtain rfl : (sv_sts (sv_up (sv_sts (sv_up (sv_up (sv_sts S [88, 89, 87, 1113, 5, 1011] g1) 88 l1_2 (0 : Int)) 89 l1_2 (0 : Int)) [1113] g150) 1011 0 (0 : Int)) [5, 1011] g162) = S1 := (funext fun j => md175 j (by intro q; cases q)).symm
                    show sv_T sm_XS sm_cs sm_L sm_sh 2 (q_findSorts S) 291 165 [(0, .ref 0), (1, sv_I l1_2), (2, sv_I s151), (3, sv_I s157)] [sv_I r177, sv_I l1_2, .ref 87] (sv_sts (sv_up (sv_sts (sv_up (sv_up (sv_sts S [88, 89, 87, 1113, 5, 1011] g1) 88 l1_2 (0 : Int)) 89 l1_2 (0 : Int)) [1113] g150) 1011 0 (0 : Int)) [5, 1011] g162)
                    have h := h r177 hr177 hpo176
                    refine sv_iload_n hM dX12_findSorts_165 rfl rfl ?_
                    refine sv_icmp_ne hM dX12_findSorts_166 hr177 hl1_2 (t := 173) rfl rfl (fun hc => ?_) (fun hc => ?_)
                    · have h := h.1 (hc)
                      refine sv_iconst (d := (0 : Int)) hM dX12_findSorts_173 rfl rfl ?_
                      refine sv_zast sm_X hM dX12_findSorts_174 (sm_a87 _) (by decide) o80.1 o80.2 (sv_nnZ (⟨by decide, by decide⟩ : 0 ≤ (0 : Int) ∧ (0 : Int) ≤ 1)) rfl ?_
                      have ok178 : sm_ok (sv_up (sv_sts (sv_up (sv_sts (sv_up (sv_up (sv_sts S [88, 89, 87, 1113, 5, 1011] g1) 88 l1_2 (0 : Int)) 89 l1_2 (0 : Int)) [1113] g150) 1011 0 (0 : Int)) [5, 1011] g162) 87 l1_2 (0 : Int)) := sm_upZ ok174 sm_r87 (⟨by decide, by decide⟩ : 0 ≤ (0 : Int) ∧ (0 : Int) ≤ 1)
                      have md179 : sv_mod [88, 89, 87, 1113, 5, 1011, 90] S (sv_up (sv_sts (sv_up (sv_sts (sv_up (sv_up (sv_sts S [88, 89, 87, 1113, 5, 1011] g1) 88 l1_2 (0 : Int)) 89 l1_2 (0 : Int)) [1113] g150) 1011 0 (0 : Int)) [5, 1011] g162) 87 l1_2 (0 : Int)) := sv_mod.up md165 (by decide)
                      have md180 : sv_mod [88, 89, 87, 1113, 5, 1011] S (sv_up (sv_sts (sv_up (sv_sts (sv_up (sv_up (sv_sts S [88, 89, 87, 1113, 5, 1011] g1) 88 l1_2 (0 : Int)) 89 l1_2 (0 : Int)) [1113] g150) 1011 0 (0 : Int)) [5, 1011] g162) 87 l1_2 (0 : Int)) := sv_mod.up md166 (by decide)
                      refine sv_iinc (d := (1 : Int)) hM dX12_findSorts_175 rfl (by decide) rfl rfl ?_
                      show sv_T sm_XS sm_cs sm_L sm_sh 2 (q_findSorts S) 291 178 [(0, .ref 0), (1, sv_I (l1_2 + (1 : Int))), (2, sv_I s151), (3, sv_I s157)] [] (sv_up (sv_sts (sv_up (sv_sts (sv_up (sv_up (sv_sts S [88, 89, 87, 1113, 5, 1011] g1) 88 l1_2 (0 : Int)) 89 l1_2 (0 : Int)) [1113] g150) 1011 0 (0 : Int)) [5, 1011] g162) 87 l1_2 (0 : Int))
                      refine sv_goto hM dX12_findSorts_178 (pc' := 2) rfl ?_
                      obtain ⟨o181, h⟩ := h
                      have eS := sv_mod.eq md180
                      have hb := ih3 ((l1_2 + (1 : Int)), (sv_up (sv_sts (sv_up (sv_sts (sv_up (sv_up (sv_sts S [88, 89, 87, 1113, 5, 1011] g1) 88 l1_2 (0 : Int)) 89 l1_2 (0 : Int)) [1113] g150) 1011 0 (0 : Int)) [5, 1011] g162) 87 l1_2 (0 : Int))) ⟨o181, (by rw [← eS]; exact ok178), h.1⟩ h.2
                      have hb : sv_T sm_XS sm_cs sm_L sm_sh 2 (q_findSorts S) 291 2 [(0, .ref 0), (1, sv_I (l1_2 + (1 : Int)))] [] (sv_up (sv_sts (sv_up (sv_sts (sv_up (sv_up (sv_sts S [88, 89, 87, 1113, 5, 1011] g1) 88 l1_2 (0 : Int)) 89 l1_2 (0 : Int)) [1113] g150) 1011 0 (0 : Int)) [5, 1011] g162) 87 l1_2 (0 : Int)) := Eq.mpr (congrArg (fun Z => sv_T sm_XS sm_cs sm_L sm_sh 2 (q_findSorts S) 291 2 [(0, .ref 0), (1, sv_I (l1_2 + (1 : Int)))] [] Z) eS) hb
                      exact sv_less (lv := [(0, .ref 0), (1, sv_I (l1_2 + (1 : Int)))]) (sv_Sub_cons rfl (sv_Sub_cons rfl sv_Sub_nil)) hb
                    · have h := h.2 (hc)
                      refine sv_iconst (d := (1 : Int)) hM dX12_findSorts_169 rfl rfl ?_
                      refine sv_goto hM dX12_findSorts_170 (pc' := 174) rfl ?_
                      refine sv_zast sm_X hM dX12_findSorts_174 (sm_a87 _) (by decide) o80.1 o80.2 (sv_nnZ (⟨by decide, by decide⟩ : 0 ≤ (1 : Int) ∧ (1 : Int) ≤ 1)) rfl ?_
                      have ok182 : sm_ok (sv_up (sv_sts (sv_up (sv_sts (sv_up (sv_up (sv_sts S [88, 89, 87, 1113, 5, 1011] g1) 88 l1_2 (0 : Int)) 89 l1_2 (0 : Int)) [1113] g150) 1011 0 (0 : Int)) [5, 1011] g162) 87 l1_2 (1 : Int)) := sm_upZ ok174 sm_r87 (⟨by decide, by decide⟩ : 0 ≤ (1 : Int) ∧ (1 : Int) ≤ 1)
                      have md183 : sv_mod [88, 89, 87, 1113, 5, 1011, 90] S (sv_up (sv_sts (sv_up (sv_sts (sv_up (sv_up (sv_sts S [88, 89, 87, 1113, 5, 1011] g1) 88 l1_2 (0 : Int)) 89 l1_2 (0 : Int)) [1113] g150) 1011 0 (0 : Int)) [5, 1011] g162) 87 l1_2 (1 : Int)) := sv_mod.up md165 (by decide)
                      have md184 : sv_mod [88, 89, 87, 1113, 5, 1011] S (sv_up (sv_sts (sv_up (sv_sts (sv_up (sv_up (sv_sts S [88, 89, 87, 1113, 5, 1011] g1) 88 l1_2 (0 : Int)) 89 l1_2 (0 : Int)) [1113] g150) 1011 0 (0 : Int)) [5, 1011] g162) 87 l1_2 (1 : Int)) := sv_mod.up md166 (by decide)
                      refine sv_iinc (d := (1 : Int)) hM dX12_findSorts_175 rfl (by decide) rfl rfl ?_
                      show sv_T sm_XS sm_cs sm_L sm_sh 2 (q_findSorts S) 291 178 [(0, .ref 0), (1, sv_I (l1_2 + (1 : Int))), (2, sv_I s151), (3, sv_I s157)] [] (sv_up (sv_sts (sv_up (sv_sts (sv_up (sv_up (sv_sts S [88, 89, 87, 1113, 5, 1011] g1) 88 l1_2 (0 : Int)) 89 l1_2 (0 : Int)) [1113] g150) 1011 0 (0 : Int)) [5, 1011] g162) 87 l1_2 (1 : Int))
                      refine sv_goto hM dX12_findSorts_178 (pc' := 2) rfl ?_
                      obtain ⟨o185, h⟩ := h
                      have eS := sv_mod.eq md184
                      have hb := ih3 ((l1_2 + (1 : Int)), (sv_up (sv_sts (sv_up (sv_sts (sv_up (sv_up (sv_sts S [88, 89, 87, 1113, 5, 1011] g1) 88 l1_2 (0 : Int)) 89 l1_2 (0 : Int)) [1113] g150) 1011 0 (0 : Int)) [5, 1011] g162) 87 l1_2 (1 : Int))) ⟨o185, (by rw [← eS]; exact ok182), h.1⟩ h.2
                      have hb : sv_T sm_XS sm_cs sm_L sm_sh 2 (q_findSorts S) 291 2 [(0, .ref 0), (1, sv_I (l1_2 + (1 : Int)))] [] (sv_up (sv_sts (sv_up (sv_sts (sv_up (sv_up (sv_sts S [88, 89, 87, 1113, 5, 1011] g1) 88 l1_2 (0 : Int)) 89 l1_2 (0 : Int)) [1113] g150) 1011 0 (0 : Int)) [5, 1011] g162) 87 l1_2 (1 : Int)) := Eq.mpr (congrArg (fun Z => sv_T sm_XS sm_cs sm_L sm_sh 2 (q_findSorts S) 291 2 [(0, .ref 0), (1, sv_I (l1_2 + (1 : Int)))] [] Z) eS) hb
                      exact sv_less (lv := [(0, .ref 0), (1, sv_I (l1_2 + (1 : Int)))]) (sv_Sub_cons rfl (sv_Sub_cons rfl sv_Sub_nil)) hb
                have h := h.2
                refine sv_iload_n hM dX12_findSorts_143 rfl rfl ?_
                refine sv_cond_eq hM dX12_findSorts_144 hs157 (t := 152) rfl rfl (fun hc => ?_) (fun hc => ?_)
                · have h := h.1 (hc)
                  have eS := sv_mod.eq (sv_mod.rf (l := [5, 1011]) (S := (sv_up (sv_sts (sv_up (sv_up (sv_sts S [88, 89, 87, 1113, 5, 1011] g1) 88 l1_2 (0 : Int)) 89 l1_2 (0 : Int)) [1113] g150) 1011 0 (0 : Int))))
                  have hb := J186 (sv_up (sv_sts (sv_up (sv_up (sv_sts S [88, 89, 87, 1113, 5, 1011] g1) 88 l1_2 (0 : Int)) 89 l1_2 (0 : Int)) [1113] g150) 1011 0 (0 : Int)) (by rw [← eS]; exact ok159) h
                  have hb : sv_T sm_XS sm_cs sm_L sm_sh 2 (q_findSorts S) 291 152 [(0, .ref 0), (1, sv_I l1_2), (2, sv_I s151), (3, sv_I s157)] [] (sv_up (sv_sts (sv_up (sv_up (sv_sts S [88, 89, 87, 1113, 5, 1011] g1) 88 l1_2 (0 : Int)) 89 l1_2 (0 : Int)) [1113] g150) 1011 0 (0 : Int)) := Eq.mpr (congrArg (fun Z => sv_T sm_XS sm_cs sm_L sm_sh 2 (q_findSorts S) 291 152 [(0, .ref 0), (1, sv_I l1_2), (2, sv_I s151), (3, sv_I s157)] [] Z) eS) hb
                  exact sv_less (lv := [(0, .ref 0), (1, sv_I l1_2), (2, sv_I s151), (3, sv_I s157)]) (sv_Sub_cons rfl (sv_Sub_cons rfl (sv_Sub_cons rfl (sv_Sub_cons rfl sv_Sub_nil)))) hb
                · have h := h.2 (hc)
                  refine sv_aload_n hM dX12_findSorts_147 rfl rfl ?_
                  refine sv_iload_n hM dX12_findSorts_148 rfl rfl ?_
                  obtain ⟨o187, h⟩ := h
                  refine sv_callV hM dX12_findSorts_149 sm_iv_410 (by decide) (sm_a0 _) rfl rfl (Nat.le_of_ble_eq_true rfl) sm_h31 (Nat.le_of_ble_eq_true rfl) (Nat.le_of_ble_eq_true rfl) (F' := 1) (Nat.le_of_ble_eq_true rfl) rfl (t_putNumber s151 (sv_up (sv_sts (sv_up (sv_up (sv_sts S [88, 89, 87, 1113, 5, 1011] g1) 88 l1_2 (0 : Int)) 89 l1_2 (0 : Int)) [1113] g150) 1011 0 (0 : Int)) ok159 hs151 o187) (fun v S1 hq => ?_)
                  obtain ⟨rfl, ok189, md190, hpo191⟩ := hq
                  obtain ⟨g188, rfl⟩ : ∃ g, S1 = sv_sts (sv_up (sv_sts (sv_up (sv_up (sv_sts S [88, 89, 87, 1113, 5, 1011] g1) 88 l1_2 (0 : Int)) 89 l1_2 (0 : Int)) [1113] g150) 1011 0 (0 : Int)) [5, 1011] g := ⟨_, md190.eq⟩
                  show sv_T sm_XS sm_cs sm_L sm_sh 2 (q_findSorts S) 291 152 [(0, .ref 0), (1, sv_I l1_2), (2, sv_I s151), (3, sv_I s157)] [] (sv_sts (sv_up (sv_sts (sv_up (sv_up (sv_sts S [88, 89, 87, 1113, 5, 1011] g1) 88 l1_2 (0 : Int)) 89 l1_2 (0 : Int)) [1113] g150) 1011 0 (0 : Int)) [5, 1011] g188)
                  have md192 : sv_mod [88, 89, 87, 1113, 5, 1011, 90] S (sv_sts (sv_up (sv_sts (sv_up (sv_up (sv_sts S [88, 89, 87, 1113, 5, 1011] g1) 88 l1_2 (0 : Int)) 89 l1_2 (0 : Int)) [1113] g150) 1011 0 (0 : Int)) [5, 1011] g188) := sv_mod.sts md160 (by decide)
                  have md193 : sv_mod [88, 89, 87, 1113, 5, 1011] S (sv_sts (sv_up (sv_sts (sv_up (sv_up (sv_sts S [88, 89, 87, 1113, 5, 1011] g1) 88 l1_2 (0 : Int)) 89 l1_2 (0 : Int)) [1113] g150) 1011 0 (0 : Int)) [5, 1011] g188) := sv_mod.sts md161 (by decide)
                  have md194 : sv_mod [5, 1011] (sv_up (sv_sts (sv_up (sv_up (sv_sts S [88, 89, 87, 1113, 5, 1011] g1) 88 l1_2 (0 : Int)) 89 l1_2 (0 : Int)) [1113] g150) 1011 0 (0 : Int)) (sv_sts (sv_up (sv_sts (sv_up (sv_up (sv_sts S [88, 89, 87, 1113, 5, 1011] g1) 88 l1_2 (0 : Int)) 89 l1_2 (0 : Int)) [1113] g150) 1011 0 (0 : Int)) [5, 1011] g188) := sv_mod.sts (sv_mod.rf (l := [5, 1011]) (S := (sv_up (sv_sts (sv_up (sv_up (sv_sts S [88, 89, 87, 1113, 5, 1011] g1) 88 l1_2 (0 : Int)) 89 l1_2 (0 : Int)) [1113] g150) 1011 0 (0 : Int)))) (by decide)
                  have h := h g188 hpo191
                  have eS := sv_mod.eq md194
                  have hb := J186 (sv_sts (sv_up (sv_sts (sv_up (sv_up (sv_sts S [88, 89, 87, 1113, 5, 1011] g1) 88 l1_2 (0 : Int)) 89 l1_2 (0 : Int)) [1113] g150) 1011 0 (0 : Int)) [5, 1011] g188) (by rw [← eS]; exact ok189) h
                  have hb : sv_T sm_XS sm_cs sm_L sm_sh 2 (q_findSorts S) 291 152 [(0, .ref 0), (1, sv_I l1_2), (2, sv_I s151), (3, sv_I s157)] [] (sv_sts (sv_up (sv_sts (sv_up (sv_up (sv_sts S [88, 89, 87, 1113, 5, 1011] g1) 88 l1_2 (0 : Int)) 89 l1_2 (0 : Int)) [1113] g150) 1011 0 (0 : Int)) [5, 1011] g188) := Eq.mpr (congrArg (fun Z => sv_T sm_XS sm_cs sm_L sm_sh 2 (q_findSorts S) 291 152 [(0, .ref 0), (1, sv_I l1_2), (2, sv_I s151), (3, sv_I s157)] [] Z) eS) hb
                  exact sv_less (lv := [(0, .ref 0), (1, sv_I l1_2), (2, sv_I s151), (3, sv_I s157)]) (sv_Sub_cons rfl (sv_Sub_cons rfl (sv_Sub_cons rfl (sv_Sub_cons rfl sv_Sub_nil)))) hb
              have h := h.2
              refine sv_aload_n hM dX12_findSorts_116 rfl rfl ?_
              refine sv_getA hM dX12_findSorts_117 sm_fl_20 (sm_a0 _) sm_k6 rfl ?_
              refine sv_iload_n hM dX12_findSorts_120 rfl rfl ?_
              refine sv_iald hM dX12_findSorts_121 (sm_a4 _) (by decide) o84.1 o84.2 rfl (x := (S 4 l1_2)) rfl ?_
              refine sv_cond_le hM dX12_findSorts_122 k85 (t := 136) rfl rfl (fun hc => ?_) (fun hc => ?_)
              · have h := h.1 (hc)
                refine sv_iconst (d := (0 : Int)) hM dX12_findSorts_136 rfl rfl ?_
                have hb := J195 (0 : Int) (⟨by decide, by decide⟩ : sv_R (0 : Int)) h
                exact sv_less (lv := [(0, .ref 0), (1, sv_I l1_2), (2, sv_I s151)]) (sv_Sub_cons rfl (sv_Sub_cons rfl (sv_Sub_cons rfl sv_Sub_nil))) hb
              · have h := h.2 (hc)
                refine sv_aload_n hM dX12_findSorts_125 rfl rfl ?_
                have k196 : (0 ≤ (g150 1113 0) ∧ (g150 1113 0) ≤ 1) := sm_okZ ok152 sm_r1113 0
                have h := h k196
                refine sv_getI hM dX12_findSorts_126 sm_fl_806 (sm_a0 _) sm_k113 rfl (x := (g150 1113 0)) rfl ?_
                refine sv_cond_eq hM dX12_findSorts_129 (sv_R01 k196) (t := 136) rfl rfl (fun hc => ?_) (fun hc => ?_)
                · have h := h.1 (hc)
                  refine sv_iconst (d := (0 : Int)) hM dX12_findSorts_136 rfl rfl ?_
                  have hb := J195 (0 : Int) (⟨by decide, by decide⟩ : sv_R (0 : Int)) h
                  exact sv_less (lv := [(0, .ref 0), (1, sv_I l1_2), (2, sv_I s151)]) (sv_Sub_cons rfl (sv_Sub_cons rfl (sv_Sub_cons rfl sv_Sub_nil))) hb
                · have h := h.2 (hc)
                  refine sv_iconst (d := (1 : Int)) hM dX12_findSorts_132 rfl rfl ?_
                  refine sv_goto hM dX12_findSorts_133 (pc' := 137) rfl ?_
                  have hb := J195 (1 : Int) (⟨by decide, by decide⟩ : sv_R (1 : Int)) h
                  exact sv_less (lv := [(0, .ref 0), (1, sv_I l1_2), (2, sv_I s151)]) (sv_Sub_cons rfl (sv_Sub_cons rfl (sv_Sub_cons rfl sv_Sub_nil))) hb
            have h := h.2
            refine sv_aload_n hM dX12_findSorts_97 rfl rfl ?_
            refine sv_getA hM dX12_findSorts_98 sm_fl_20 (sm_a0 _) sm_k6 rfl ?_
            refine sv_iload_n hM dX12_findSorts_101 rfl rfl ?_
            refine sv_iald hM dX12_findSorts_102 (sm_a4 _) (by decide) o84.1 o84.2 rfl (x := (S 4 l1_2)) rfl ?_
            refine sv_cond_le hM dX12_findSorts_103 k85 (t := 114) rfl rfl (fun hc => ?_) (fun hc => ?_)
            · have h := h.1 (hc)
              refine sv_iconst (d := (0 : Int)) hM dX12_findSorts_114 rfl rfl ?_
              have eS := sv_mod.eq (sv_mod.rf (l := [1113]) (S := (sv_up (sv_up (sv_sts S [88, 89, 87, 1113, 5, 1011] g1) 88 l1_2 (0 : Int)) 89 l1_2 (0 : Int))))
              have hb := J197 (0 : Int) (⟨by decide, by decide⟩ : sv_R (0 : Int)) (sv_up (sv_up (sv_sts S [88, 89, 87, 1113, 5, 1011] g1) 88 l1_2 (0 : Int)) 89 l1_2 (0 : Int)) (by rw [← eS]; exact ok147) h
              have hb : sv_T sm_XS sm_cs sm_L sm_sh 2 (q_findSorts S) 291 115 [(0, .ref 0), (1, sv_I l1_2)] [sv_I (0 : Int)] (sv_up (sv_up (sv_sts S [88, 89, 87, 1113, 5, 1011] g1) 88 l1_2 (0 : Int)) 89 l1_2 (0 : Int)) := Eq.mpr (congrArg (fun Z => sv_T sm_XS sm_cs sm_L sm_sh 2 (q_findSorts S) 291 115 [(0, .ref 0), (1, sv_I l1_2)] [sv_I (0 : Int)] Z) eS) hb
              exact sv_less (lv := [(0, .ref 0), (1, sv_I l1_2)]) (sv_Sub_cons rfl (sv_Sub_cons rfl sv_Sub_nil)) hb
            · have h := h.2 (hc)
              refine sv_aload_n hM dX12_findSorts_106 rfl rfl ?_
              refine sv_iload_n hM dX12_findSorts_107 rfl rfl ?_
              refine sv_callV hM dX12_findSorts_108 sm_iv_809 (by decide) (sm_a0 _) rfl rfl (Nat.le_of_ble_eq_true rfl) sm_h128 (Nat.le_of_ble_eq_true rfl) (Nat.le_of_ble_eq_true rfl) (F' := 1) (Nat.le_of_ble_eq_true rfl) rfl (t_numberOfString l1_2 (sv_up (sv_up (sv_sts S [88, 89, 87, 1113, 5, 1011] g1) 88 l1_2 (0 : Int)) 89 l1_2 (0 : Int)) ok147 hl1_2 o74) (fun v S1 hq => ?_)
              obtain ⟨r202, rfl, hr202, ok199, md200, hpo201⟩ := hq
              obtain ⟨g198, rfl⟩ : ∃ g, S1 = sv_sts (sv_up (sv_up (sv_sts S [88, 89, 87, 1113, 5, 1011] g1) 88 l1_2 (0 : Int)) 89 l1_2 (0 : Int)) [1113] g := ⟨_, md200.eq⟩
              show sv_T sm_XS sm_cs sm_L sm_sh 2 (q_findSorts S) 291 111 [(0, .ref 0), (1, sv_I l1_2)] [sv_I r202] (sv_sts (sv_up (sv_up (sv_sts S [88, 89, 87, 1113, 5, 1011] g1) 88 l1_2 (0 : Int)) 89 l1_2 (0 : Int)) [1113] g198)
              have md203 : sv_mod [88, 89, 87, 1113, 5, 1011, 90] S (sv_sts (sv_up (sv_up (sv_sts S [88, 89, 87, 1113, 5, 1011] g1) 88 l1_2 (0 : Int)) 89 l1_2 (0 : Int)) [1113] g198) := sv_mod.sts md148 (by decide)
              have md204 : sv_mod [88, 89, 87, 1113, 5, 1011] S (sv_sts (sv_up (sv_up (sv_sts S [88, 89, 87, 1113, 5, 1011] g1) 88 l1_2 (0 : Int)) 89 l1_2 (0 : Int)) [1113] g198) := sv_mod.sts md149 (by decide)
              have md205 : sv_mod [1113] (sv_up (sv_up (sv_sts S [88, 89, 87, 1113, 5, 1011] g1) 88 l1_2 (0 : Int)) 89 l1_2 (0 : Int)) (sv_sts (sv_up (sv_up (sv_sts S [88, 89, 87, 1113, 5, 1011] g1) 88 l1_2 (0 : Int)) 89 l1_2 (0 : Int)) [1113] g198) := sv_mod.sts (sv_mod.rf (l := [1113]) (S := (sv_up (sv_up (sv_sts S [88, 89, 87, 1113, 5, 1011] g1) 88 l1_2 (0 : Int)) 89 l1_2 (0 : Int)))) (by decide)
              have h := h r202 hr202 g198 hpo201
              refine sv_goto hM dX12_findSorts_111 (pc' := 115) rfl ?_
              have eS := sv_mod.eq md205
              have hb := J197 r202 hr202 (sv_sts (sv_up (sv_up (sv_sts S [88, 89, 87, 1113, 5, 1011] g1) 88 l1_2 (0 : Int)) 89 l1_2 (0 : Int)) [1113] g198) (by rw [← eS]; exact ok199) h
              have hb : sv_T sm_XS sm_cs sm_L sm_sh 2 (q_findSorts S) 291 115 [(0, .ref 0), (1, sv_I l1_2)] [sv_I r202] (sv_sts (sv_up (sv_up (sv_sts S [88, 89, 87, 1113, 5, 1011] g1) 88 l1_2 (0 : Int)) 89 l1_2 (0 : Int)) [1113] g198) := Eq.mpr (congrArg (fun Z => sv_T sm_XS sm_cs sm_L sm_sh 2 (q_findSorts S) 291 115 [(0, .ref 0), (1, sv_I l1_2)] [sv_I r202] Z) eS) hb
              exact sv_less (lv := [(0, .ref 0), (1, sv_I l1_2)]) (sv_Sub_cons rfl (sv_Sub_cons rfl sv_Sub_nil)) hb
          · have h := h.2 (hc)
            refine sv_aload_n hM dX12_findSorts_59 rfl rfl ?_
            refine sv_getA hM dX12_findSorts_60 sm_fl_16 (sm_a0 _) sm_k5 rfl ?_
            refine sv_bipush (d := (60 : Int)) hM dX12_findSorts_63 rfl rfl ?_
            refine sv_iload_n hM dX12_findSorts_65 rfl rfl ?_
            refine sv_imul hM dX12_findSorts_66 rfl ?_
            refine sv_iconst (d := (1 : Int)) hM dX12_findSorts_67 rfl rfl ?_
            refine sv_iadd hM dX12_findSorts_68 rfl ?_
            obtain ⟨o206, h⟩ := h
            have k207 : (0 ≤ (S 3 (((60 : Int) * l1_2) + (1 : Int))) ∧ (S 3 (((60 : Int) * l1_2) + (1 : Int))) ≤ 65535) := sm_okC ok81 sm_r3 (((60 : Int) * l1_2) + (1 : Int))
            have h := h k207
            refine sv_cald hM dX12_findSorts_69 (sm_a3 _) (by decide) o206.1 o206.2 rfl (x := (S 3 (((60 : Int) * l1_2) + (1 : Int)))) rfl ?_
            refine sv_bipush (d := (48 : Int)) hM dX12_findSorts_70 rfl rfl ?_
            refine sv_icmp_ne hM dX12_findSorts_72 (sv_RC k207) (⟨by decide, by decide⟩ : sv_R (48 : Int)) (t := 95) rfl rfl (fun hc => ?_) (fun hc => ?_)
            · have h := h.1 (hc)
              refine sv_iconst (d := (0 : Int)) hM dX12_findSorts_95 rfl rfl ?_
              refine sv_zast sm_X hM dX12_findSorts_96 (sm_a89 _) (by decide) o80.1 o80.2 (sv_nnZ (⟨by decide, by decide⟩ : 0 ≤ (0 : Int) ∧ (0 : Int) ≤ 1)) rfl ?_
              have ok208 : sm_ok (sv_up (sv_up (sv_sts S [88, 89, 87, 1113, 5, 1011] g1) 88 l1_2 (0 : Int)) 89 l1_2 (0 : Int)) := sm_upZ ok81 sm_r89 (⟨by decide, by decide⟩ : 0 ≤ (0 : Int) ∧ (0 : Int) ≤ 1)
              have md209 : sv_mod [88, 89, 87, 1113, 5, 1011, 90] S (sv_up (sv_up (sv_sts S [88, 89, 87, 1113, 5, 1011] g1) 88 l1_2 (0 : Int)) 89 l1_2 (0 : Int)) := sv_mod.up md82 (by decide)
              have md210 : sv_mod [88, 89, 87, 1113, 5, 1011] S (sv_up (sv_up (sv_sts S [88, 89, 87, 1113, 5, 1011] g1) 88 l1_2 (0 : Int)) 89 l1_2 (0 : Int)) := sv_mod.up md83 (by decide)
              have J258 : ∀ s212 : Int, sv_R s212 → ∀ g211 : sv_S, sm_ok (sv_sts (sv_up (sv_up (sv_sts S [88, 89, 87, 1113, 5, 1011] g1) 88 l1_2 (0 : Int)) 89 l1_2 (0 : Int)) [1113] g211) → (True) → sv_T sm_XS sm_cs sm_L sm_sh 2 (q_findSorts S) 291 115 [(0, .ref 0), (1, sv_I l1_2)] [sv_I s212] (sv_sts (sv_up (sv_up (sv_sts S [88, 89, 87, 1113, 5, 1011] g1) 88 l1_2 (0 : Int)) 89 l1_2 (0 : Int)) [1113] g211) := by
                intro s212 hs212 g211 ok213 hin214
                have h := h.1 s212 hs212 g211 hin214
                have md215 : sv_mod [88, 89, 87, 1113, 5, 1011, 90] S (sv_sts (sv_up (sv_up (sv_sts S [88, 89, 87, 1113, 5, 1011] g1) 88 l1_2 (0 : Int)) 89 l1_2 (0 : Int)) [1113] g211) := sv_mod.sts md209 (by decide)
                have md216 : sv_mod [88, 89, 87, 1113, 5, 1011] S (sv_sts (sv_up (sv_up (sv_sts S [88, 89, 87, 1113, 5, 1011] g1) 88 l1_2 (0 : Int)) 89 l1_2 (0 : Int)) [1113] g211) := sv_mod.sts md210 (by decide)
                have md217 : sv_mod [1113] (sv_up (sv_up (sv_sts S [88, 89, 87, 1113, 5, 1011] g1) 88 l1_2 (0 : Int)) 89 l1_2 (0 : Int)) (sv_sts (sv_up (sv_up (sv_sts S [88, 89, 87, 1113, 5, 1011] g1) 88 l1_2 (0 : Int)) 89 l1_2 (0 : Int)) [1113] g211) := sv_mod.sts sv_mod.rf (by decide)
                refine sv_istore_n hM dX12_findSorts_115 (by decide) rfl ?_
                show sv_T sm_XS sm_cs sm_L sm_sh 2 (q_findSorts S) 291 116 [(0, .ref 0), (1, sv_I l1_2), (2, sv_I s212)] [] (sv_sts (sv_up (sv_up (sv_sts S [88, 89, 87, 1113, 5, 1011] g1) 88 l1_2 (0 : Int)) 89 l1_2 (0 : Int)) [1113] g211)
                have J256 : ∀ s218 : Int, sv_R s218 → (s218 = 0 ∨ s218 = 1) → sv_T sm_XS sm_cs sm_L sm_sh 2 (q_findSorts S) 291 137 [(0, .ref 0), (1, sv_I l1_2), (2, sv_I s212)] [sv_I s218] (sv_sts (sv_up (sv_up (sv_sts S [88, 89, 87, 1113, 5, 1011] g1) 88 l1_2 (0 : Int)) 89 l1_2 (0 : Int)) [1113] g211) := by
                  intro s218 hs218 hin219
                  have h := h.1 s218 hs218 hin219
                  refine sv_istore_n hM dX12_findSorts_137 (by decide) rfl ?_
                  show sv_T sm_XS sm_cs sm_L sm_sh 2 (q_findSorts S) 291 138 [(0, .ref 0), (1, sv_I l1_2), (2, sv_I s212), (3, sv_I s218)] [] (sv_sts (sv_up (sv_up (sv_sts S [88, 89, 87, 1113, 5, 1011] g1) 88 l1_2 (0 : Int)) 89 l1_2 (0 : Int)) [1113] g211)
                  refine sv_aload_n hM dX12_findSorts_138 rfl rfl ?_
                  refine sv_iconst (d := (0 : Int)) hM dX12_findSorts_139 rfl rfl ?_
                  refine sv_putI sm_X hM dX12_findSorts_140 sm_fp_299 (sm_a0 _) sm_q11 (Or.inl rfl) rfl rfl rfl rfl ?_
                  have ok220 : sm_ok (sv_up (sv_sts (sv_up (sv_up (sv_sts S [88, 89, 87, 1113, 5, 1011] g1) 88 l1_2 (0 : Int)) 89 l1_2 (0 : Int)) [1113] g211) 1011 0 (0 : Int)) := sm_upI ok213 sm_r1011 (⟨by decide, by decide⟩ : sv_R (0 : Int))
                  have md221 : sv_mod [88, 89, 87, 1113, 5, 1011, 90] S (sv_up (sv_sts (sv_up (sv_up (sv_sts S [88, 89, 87, 1113, 5, 1011] g1) 88 l1_2 (0 : Int)) 89 l1_2 (0 : Int)) [1113] g211) 1011 0 (0 : Int)) := sv_mod.up md215 (by decide)
                  have md222 : sv_mod [88, 89, 87, 1113, 5, 1011] S (sv_up (sv_sts (sv_up (sv_up (sv_sts S [88, 89, 87, 1113, 5, 1011] g1) 88 l1_2 (0 : Int)) 89 l1_2 (0 : Int)) [1113] g211) 1011 0 (0 : Int)) := sv_mod.up md216 (by decide)
                  have J247 : ∀ g223 : sv_S, sm_ok (sv_sts (sv_up (sv_sts (sv_up (sv_up (sv_sts S [88, 89, 87, 1113, 5, 1011] g1) 88 l1_2 (0 : Int)) 89 l1_2 (0 : Int)) [1113] g211) 1011 0 (0 : Int)) [5, 1011] g223) → (0 ≤ (g223 1011 0) ∧ (g223 1011 0) ≤ 200) → sv_T sm_XS sm_cs sm_L sm_sh 2 (q_findSorts S) 291 152 [(0, .ref 0), (1, sv_I l1_2), (2, sv_I s212), (3, sv_I s218)] [] (sv_sts (sv_up (sv_sts (sv_up (sv_up (sv_sts S [88, 89, 87, 1113, 5, 1011] g1) 88 l1_2 (0 : Int)) 89 l1_2 (0 : Int)) [1113] g211) 1011 0 (0 : Int)) [5, 1011] g223) := by
                    intro  g223 ok224 hin225
                    have h := h.1 g223 hin225
                    have md226 : sv_mod [88, 89, 87, 1113, 5, 1011, 90] S (sv_sts (sv_up (sv_sts (sv_up (sv_up (sv_sts S [88, 89, 87, 1113, 5, 1011] g1) 88 l1_2 (0 : Int)) 89 l1_2 (0 : Int)) [1113] g211) 1011 0 (0 : Int)) [5, 1011] g223) := sv_mod.sts md221 (by decide)
                    have md227 : sv_mod [88, 89, 87, 1113, 5, 1011] S (sv_sts (sv_up (sv_sts (sv_up (sv_up (sv_sts S [88, 89, 87, 1113, 5, 1011] g1) 88 l1_2 (0 : Int)) 89 l1_2 (0 : Int)) [1113] g211) 1011 0 (0 : Int)) [5, 1011] g223) := sv_mod.sts md222 (by decide)
                    have md228 : sv_mod [5, 1011] (sv_up (sv_sts (sv_up (sv_up (sv_sts S [88, 89, 87, 1113, 5, 1011] g1) 88 l1_2 (0 : Int)) 89 l1_2 (0 : Int)) [1113] g211) 1011 0 (0 : Int)) (sv_sts (sv_up (sv_sts (sv_up (sv_up (sv_sts S [88, 89, 87, 1113, 5, 1011] g1) 88 l1_2 (0 : Int)) 89 l1_2 (0 : Int)) [1113] g211) 1011 0 (0 : Int)) [5, 1011] g223) := sv_mod.sts sv_mod.rf (by decide)
                    refine sv_aload_n hM dX12_findSorts_152 rfl rfl ?_
                    refine sv_getA hM dX12_findSorts_153 sm_fl_274 (sm_a0 _) sm_k139 rfl ?_
                    refine sv_iload_n hM dX12_findSorts_156 rfl rfl ?_
                    refine sv_iload_n hM dX12_findSorts_157 rfl rfl ?_
                    refine sv_cond_eq hM dX12_findSorts_158 hs218 (t := 173) rfl rfl (fun hc => ?_) (fun hc => ?_)
                    · have h := h.1 (hc)
                      refine sv_iconst (d := (0 : Int)) hM dX12_findSorts_173 rfl rfl ?_
                      refine sv_zast sm_X hM dX12_findSorts_174 (sm_a87 _) (by decide) o80.1 o80.2 (sv_nnZ (⟨by decide, by decide⟩ : 0 ≤ (0 : Int) ∧ (0 : Int) ≤ 1)) rfl ?_
                      have ok229 : sm_ok (sv_up (sv_sts (sv_up (sv_sts (sv_up (sv_up (sv_sts S [88, 89, 87, 1113, 5, 1011] g1) 88 l1_2 (0 : Int)) 89 l1_2 (0 : Int)) [1113] g211) 1011 0 (0 : Int)) [5, 1011] g223) 87 l1_2 (0 : Int)) := sm_upZ ok224 sm_r87 (⟨by decide, by decide⟩ : 0 ≤ (0 : Int) ∧ (0 : Int) ≤ 1)
                      have md230 : sv_mod [88, 89, 87, 1113, 5, 1011, 90] S (sv_up (sv_sts (sv_up (sv_sts (sv_up (sv_up (sv_sts S [88, 89, 87, 1113, 5, 1011] g1) 88 l1_2 (0 : Int)) 89 l1_2 (0 : Int)) [1113] g211) 1011 0 (0 : Int)) [5, 1011] g223) 87 l1_2 (0 : Int)) := sv_mod.up md226 (by decide)
                      have md231 : sv_mod [88, 89, 87, 1113, 5, 1011] S (sv_up (sv_sts (sv_up (sv_sts (sv_up (sv_up (sv_sts S [88, 89, 87, 1113, 5, 1011] g1) 88 l1_2 (0 : Int)) 89 l1_2 (0 : Int)) [1113] g211) 1011 0 (0 : Int)) [5, 1011] g223) 87 l1_2 (0 : Int)) := sv_mod.up md227 (by decide)
                      refine sv_iinc (d := (1 : Int)) hM dX12_findSorts_175 rfl (by decide) rfl rfl ?_
                      show sv_T sm_XS sm_cs sm_L sm_sh 2 (q_findSorts S) 291 178 [(0, .ref 0), (1, sv_I (l1_2 + (1 : Int))), (2, sv_I s212), (3, sv_I s218)] [] (sv_up (sv_sts (sv_up (sv_sts (sv_up (sv_up (sv_sts S [88, 89, 87, 1113, 5, 1011] g1) 88 l1_2 (0 : Int)) 89 l1_2 (0 : Int)) [1113] g211) 1011 0 (0 : Int)) [5, 1011] g223) 87 l1_2 (0 : Int))
                      refine sv_goto hM dX12_findSorts_178 (pc' := 2) rfl ?_
                      obtain ⟨o232, h⟩ := h
                      have eS := sv_mod.eq md231
                      have hb := ih3 ((l1_2 + (1 : Int)), (sv_up (sv_sts (sv_up (sv_sts (sv_up (sv_up (sv_sts S [88, 89, 87, 1113, 5, 1011] g1) 88 l1_2 (0 : Int)) 89 l1_2 (0 : Int)) [1113] g211) 1011 0 (0 : Int)) [5, 1011] g223) 87 l1_2 (0 : Int))) ⟨o232, (by rw [← eS]; exact ok229), h.1⟩ h.2
                      have hb : sv_T sm_XS sm_cs sm_L sm_sh 2 (q_findSorts S) 291 2 [(0, .ref 0), (1, sv_I (l1_2 + (1 : Int)))] [] (sv_up (sv_sts (sv_up (sv_sts (sv_up (sv_up (sv_sts S [88, 89, 87, 1113, 5, 1011] g1) 88 l1_2 (0 : Int)) 89 l1_2 (0 : Int)) [1113] g211) 1011 0 (0 : Int)) [5, 1011] g223) 87 l1_2 (0 : Int)) := Eq.mpr (congrArg (fun Z => sv_T sm_XS sm_cs sm_L sm_sh 2 (q_findSorts S) 291 2 [(0, .ref 0), (1, sv_I (l1_2 + (1 : Int)))] [] Z) eS) hb
                      exact sv_less (lv := [(0, .ref 0), (1, sv_I (l1_2 + (1 : Int)))]) (sv_Sub_cons rfl (sv_Sub_cons rfl sv_Sub_nil)) hb
                    · have h := h.2 (hc)
                      refine sv_aload_n hM dX12_findSorts_161 rfl rfl ?_
                      obtain ⟨o233, h⟩ := h
                      refine sv_callV hM dX12_findSorts_162 sm_iv_302 (by decide) (sm_a0 _) rfl rfl (Nat.le_of_ble_eq_true rfl) sm_h5 (Nat.le_of_ble_eq_true rfl) (Nat.le_of_ble_eq_true rfl) (F' := 0) (Nat.le_of_ble_eq_true rfl) rfl (t_findText  (sv_sts (sv_up (sv_sts (sv_up (sv_up (sv_sts S [88, 89, 87, 1113, 5, 1011] g1) 88 l1_2 (0 : Int)) 89 l1_2 (0 : Int)) [1113] g211) 1011 0 (0 : Int)) [5, 1011] g223) ok224 o233) (fun v S1 hq => ?_)
                      obtain ⟨r238, rfl, hr238, ok235, md236, hpo237⟩ := hq
                      obtain rfl : (sv_sts (sv_up (sv_sts (sv_up (sv_up (sv_sts S [88, 89, 87, 1113, 5, 1011] g1) 88 l1_2 (0 : Int)) 89 l1_2 (0 : Int)) [1113] g211) 1011 0 (0 : Int)) [5, 1011] g223) = S1 := (funext fun j => md236 j (by intro q; cases q)).symm
                      show sv_T sm_XS sm_cs sm_L sm_sh 2 (q_findSorts S) 291 165 [(0, .ref 0), (1, sv_I l1_2), (2, sv_I s212), (3, sv_I s218)] [sv_I r238, sv_I l1_2, .ref 87] (sv_sts (sv_up (sv_sts (sv_up (sv_up (sv_sts S [88, 89, 87, 1113, 5, 1011] g1) 88 l1_2 (0 : Int)) 89 l1_2 (0 : Int)) [1113] g211) 1011 0 (0 : Int)) [5, 1011] g223)
                      have h := h r238 hr238 hpo237
                      refine sv_iload_n hM dX12_findSorts_165 rfl rfl ?_
                      refine sv_icmp_ne hM dX12_findSorts_166 hr238 hl1_2 (t := 173) rfl rfl (fun hc => ?_) (fun hc => ?_)
                      · have h := h.1 (hc)
                        refine sv_iconst (d := (0 : Int)) hM dX12_findSorts_173 rfl rfl ?_
                        refine sv_zast sm_X hM dX12_findSorts_174 (sm_a87 _) (by decide) o80.1 o80.2 (sv_nnZ (⟨by decide, by decide⟩ : 0 ≤ (0 : Int) ∧ (0 : Int) ≤ 1)) rfl ?_
                        have ok239 : sm_ok (sv_up (sv_sts (sv_up (sv_sts (sv_up (sv_up (sv_sts S [88, 89, 87, 1113, 5, 1011] g1) 88 l1_2 (0 : Int)) 89 l1_2 (0 : Int)) [1113] g211) 1011 0 (0 : Int)) [5, 1011] g223) 87 l1_2 (0 : Int)) := sm_upZ ok235 sm_r87 (⟨by decide, by decide⟩ : 0 ≤ (0 : Int) ∧ (0 : Int) ≤ 1)
                        have md240 : sv_mod [88, 89, 87, 1113, 5, 1011, 90] S (sv_up (sv_sts (sv_up (sv_sts (sv_up (sv_up (sv_sts S [88, 89, 87, 1113, 5, 1011] g1) 88 l1_2 (0 : Int)) 89 l1_2 (0 : Int)) [1113] g211) 1011 0 (0 : Int)) [5, 1011] g223) 87 l1_2 (0 : Int)) := sv_mod.up md226 (by decide)
                        have md241 : sv_mod [88, 89, 87, 1113, 5, 1011] S (sv_up (sv_sts (sv_up (sv_sts (sv_up (sv_up (sv_sts S [88, 89, 87, 1113, 5, 1011] g1) 88 l1_2 (0 : Int)) 89 l1_2 (0 : Int)) [1113] g211) 1011 0 (0 : Int)) [5, 1011] g223) 87 l1_2 (0 : Int)) := sv_mod.up md227 (by decide)
                        refine sv_iinc (d := (1 : Int)) hM dX12_findSorts_175 rfl (by decide) rfl rfl ?_
                        show sv_T sm_XS sm_cs sm_L sm_sh 2 (q_findSorts S) 291 178 [(0, .ref 0), (1, sv_I (l1_2 + (1 : Int))), (2, sv_I s212), (3, sv_I s218)] [] (sv_up (sv_sts (sv_up (sv_sts (sv_up (sv_up (sv_sts S [88, 89, 87, 1113, 5, 1011] g1) 88 l1_2 (0 : Int)) 89 l1_2 (0 : Int)) [1113] g211) 1011 0 (0 : Int)) [5, 1011] g223) 87 l1_2 (0 : Int))
                        refine sv_goto hM dX12_findSorts_178 (pc' := 2) rfl ?_
                        obtain ⟨o242, h⟩ := h
                        have eS := sv_mod.eq md241
                        have hb := ih3 ((l1_2 + (1 : Int)), (sv_up (sv_sts (sv_up (sv_sts (sv_up (sv_up (sv_sts S [88, 89, 87, 1113, 5, 1011] g1) 88 l1_2 (0 : Int)) 89 l1_2 (0 : Int)) [1113] g211) 1011 0 (0 : Int)) [5, 1011] g223) 87 l1_2 (0 : Int))) ⟨o242, (by rw [← eS]; exact ok239), h.1⟩ h.2
                        have hb : sv_T sm_XS sm_cs sm_L sm_sh 2 (q_findSorts S) 291 2 [(0, .ref 0), (1, sv_I (l1_2 + (1 : Int)))] [] (sv_up (sv_sts (sv_up (sv_sts (sv_up (sv_up (sv_sts S [88, 89, 87, 1113, 5, 1011] g1) 88 l1_2 (0 : Int)) 89 l1_2 (0 : Int)) [1113] g211) 1011 0 (0 : Int)) [5, 1011] g223) 87 l1_2 (0 : Int)) := Eq.mpr (congrArg (fun Z => sv_T sm_XS sm_cs sm_L sm_sh 2 (q_findSorts S) 291 2 [(0, .ref 0), (1, sv_I (l1_2 + (1 : Int)))] [] Z) eS) hb
                        exact sv_less (lv := [(0, .ref 0), (1, sv_I (l1_2 + (1 : Int)))]) (sv_Sub_cons rfl (sv_Sub_cons rfl sv_Sub_nil)) hb
                      · have h := h.2 (hc)
                        refine sv_iconst (d := (1 : Int)) hM dX12_findSorts_169 rfl rfl ?_
                        refine sv_goto hM dX12_findSorts_170 (pc' := 174) rfl ?_
                        refine sv_zast sm_X hM dX12_findSorts_174 (sm_a87 _) (by decide) o80.1 o80.2 (sv_nnZ (⟨by decide, by decide⟩ : 0 ≤ (1 : Int) ∧ (1 : Int) ≤ 1)) rfl ?_
                        have ok243 : sm_ok (sv_up (sv_sts (sv_up (sv_sts (sv_up (sv_up (sv_sts S [88, 89, 87, 1113, 5, 1011] g1) 88 l1_2 (0 : Int)) 89 l1_2 (0 : Int)) [1113] g211) 1011 0 (0 : Int)) [5, 1011] g223) 87 l1_2 (1 : Int)) := sm_upZ ok235 sm_r87 (⟨by decide, by decide⟩ : 0 ≤ (1 : Int) ∧ (1 : Int) ≤ 1)
                        have md244 : sv_mod [88, 89, 87, 1113, 5, 1011, 90] S (sv_up (sv_sts (sv_up (sv_sts (sv_up (sv_up (sv_sts S [88, 89, 87, 1113, 5, 1011] g1) 88 l1_2 (0 : Int)) 89 l1_2 (0 : Int)) [1113] g211) 1011 0 (0 : Int)) [5, 1011] g223) 87 l1_2 (1 : Int)) := sv_mod.up md226 (by decide)
                        have md245 : sv_mod [88, 89, 87, 1113, 5, 1011] S (sv_up (sv_sts (sv_up (sv_sts (sv_up (sv_up (sv_sts S [88, 89, 87, 1113, 5, 1011] g1) 88 l1_2 (0 : Int)) 89 l1_2 (0 : Int)) [1113] g211) 1011 0 (0 : Int)) [5, 1011] g223) 87 l1_2 (1 : Int)) := sv_mod.up md227 (by decide)
                        refine sv_iinc (d := (1 : Int)) hM dX12_findSorts_175 rfl (by decide) rfl rfl ?_
                        show sv_T sm_XS sm_cs sm_L sm_sh 2 (q_findSorts S) 291 178 [(0, .ref 0), (1, sv_I (l1_2 + (1 : Int))), (2, sv_I s212), (3, sv_I s218)] [] (sv_up (sv_sts (sv_up (sv_sts (sv_up (sv_up (sv_sts S [88, 89, 87, 1113, 5, 1011] g1) 88 l1_2 (0 : Int)) 89 l1_2 (0 : Int)) [1113] g211) 1011 0 (0 : Int)) [5, 1011] g223) 87 l1_2 (1 : Int))
                        refine sv_goto hM dX12_findSorts_178 (pc' := 2) rfl ?_
                        obtain ⟨o246, h⟩ := h
                        have eS := sv_mod.eq md245
                        have hb := ih3 ((l1_2 + (1 : Int)), (sv_up (sv_sts (sv_up (sv_sts (sv_up (sv_up (sv_sts S [88, 89, 87, 1113, 5, 1011] g1) 88 l1_2 (0 : Int)) 89 l1_2 (0 : Int)) [1113] g211) 1011 0 (0 : Int)) [5, 1011] g223) 87 l1_2 (1 : Int))) ⟨o246, (by rw [← eS]; exact ok243), h.1⟩ h.2
                        have hb : sv_T sm_XS sm_cs sm_L sm_sh 2 (q_findSorts S) 291 2 [(0, .ref 0), (1, sv_I (l1_2 + (1 : Int)))] [] (sv_up (sv_sts (sv_up (sv_sts (sv_up (sv_up (sv_sts S [88, 89, 87, 1113, 5, 1011] g1) 88 l1_2 (0 : Int)) 89 l1_2 (0 : Int)) [1113] g211) 1011 0 (0 : Int)) [5, 1011] g223) 87 l1_2 (1 : Int)) := Eq.mpr (congrArg (fun Z => sv_T sm_XS sm_cs sm_L sm_sh 2 (q_findSorts S) 291 2 [(0, .ref 0), (1, sv_I (l1_2 + (1 : Int)))] [] Z) eS) hb
                        exact sv_less (lv := [(0, .ref 0), (1, sv_I (l1_2 + (1 : Int)))]) (sv_Sub_cons rfl (sv_Sub_cons rfl sv_Sub_nil)) hb
                  have h := h.2
                  refine sv_iload_n hM dX12_findSorts_143 rfl rfl ?_
                  refine sv_cond_eq hM dX12_findSorts_144 hs218 (t := 152) rfl rfl (fun hc => ?_) (fun hc => ?_)
                  · have h := h.1 (hc)
                    have eS := sv_mod.eq (sv_mod.rf (l := [5, 1011]) (S := (sv_up (sv_sts (sv_up (sv_up (sv_sts S [88, 89, 87, 1113, 5, 1011] g1) 88 l1_2 (0 : Int)) 89 l1_2 (0 : Int)) [1113] g211) 1011 0 (0 : Int))))
                    have hb := J247 (sv_up (sv_sts (sv_up (sv_up (sv_sts S [88, 89, 87, 1113, 5, 1011] g1) 88 l1_2 (0 : Int)) 89 l1_2 (0 : Int)) [1113] g211) 1011 0 (0 : Int)) (by rw [← eS]; exact ok220) h
                    have hb : sv_T sm_XS sm_cs sm_L sm_sh 2 (q_findSorts S) 291 152 [(0, .ref 0), (1, sv_I l1_2), (2, sv_I s212), (3, sv_I s218)] [] (sv_up (sv_sts (sv_up (sv_up (sv_sts S [88, 89, 87, 1113, 5, 1011] g1) 88 l1_2 (0 : Int)) 89 l1_2 (0 : Int)) [1113] g211) 1011 0 (0 : Int)) := Eq.mpr (congrArg (fun Z => sv_T sm_XS sm_cs sm_L sm_sh 2 (q_findSorts S) 291 152 [(0, .ref 0), (1, sv_I l1_2), (2, sv_I s212), (3, sv_I s218)] [] Z) eS) hb
                    exact sv_less (lv := [(0, .ref 0), (1, sv_I l1_2), (2, sv_I s212), (3, sv_I s218)]) (sv_Sub_cons rfl (sv_Sub_cons rfl (sv_Sub_cons rfl (sv_Sub_cons rfl sv_Sub_nil)))) hb
                  · have h := h.2 (hc)
                    refine sv_aload_n hM dX12_findSorts_147 rfl rfl ?_
                    refine sv_iload_n hM dX12_findSorts_148 rfl rfl ?_
                    obtain ⟨o248, h⟩ := h
                    refine sv_callV hM dX12_findSorts_149 sm_iv_410 (by decide) (sm_a0 _) rfl rfl (Nat.le_of_ble_eq_true rfl) sm_h31 (Nat.le_of_ble_eq_true rfl) (Nat.le_of_ble_eq_true rfl) (F' := 1) (Nat.le_of_ble_eq_true rfl) rfl (t_putNumber s212 (sv_up (sv_sts (sv_up (sv_up (sv_sts S [88, 89, 87, 1113, 5, 1011] g1) 88 l1_2 (0 : Int)) 89 l1_2 (0 : Int)) [1113] g211) 1011 0 (0 : Int)) ok220 hs212 o248) (fun v S1 hq => ?_)
                    obtain ⟨rfl, ok250, md251, hpo252⟩ := hq
                    obtain ⟨g249, rfl⟩ : ∃ g, S1 = sv_sts (sv_up (sv_sts (sv_up (sv_up (sv_sts S [88, 89, 87, 1113, 5, 1011] g1) 88 l1_2 (0 : Int)) 89 l1_2 (0 : Int)) [1113] g211) 1011 0 (0 : Int)) [5, 1011] g := ⟨_, md251.eq⟩
                    show sv_T sm_XS sm_cs sm_L sm_sh 2 (q_findSorts S) 291 152 [(0, .ref 0), (1, sv_I l1_2), (2, sv_I s212), (3, sv_I s218)] [] (sv_sts (sv_up (sv_sts (sv_up (sv_up (sv_sts S [88, 89, 87, 1113, 5, 1011] g1) 88 l1_2 (0 : Int)) 89 l1_2 (0 : Int)) [1113] g211) 1011 0 (0 : Int)) [5, 1011] g249)
                    have md253 : sv_mod [88, 89, 87, 1113, 5, 1011, 90] S (sv_sts (sv_up (sv_sts (sv_up (sv_up (sv_sts S [88, 89, 87, 1113, 5, 1011] g1) 88 l1_2 (0 : Int)) 89 l1_2 (0 : Int)) [1113] g211) 1011 0 (0 : Int)) [5, 1011] g249) := sv_mod.sts md221 (by decide)
                    have md254 : sv_mod [88, 89, 87, 1113, 5, 1011] S (sv_sts (sv_up (sv_sts (sv_up (sv_up (sv_sts S [88, 89, 87, 1113, 5, 1011] g1) 88 l1_2 (0 : Int)) 89 l1_2 (0 : Int)) [1113] g211) 1011 0 (0 : Int)) [5, 1011] g249) := sv_mod.sts md222 (by decide)
                    have md255 : sv_mod [5, 1011] (sv_up (sv_sts (sv_up (sv_up (sv_sts S [88, 89, 87, 1113, 5, 1011] g1) 88 l1_2 (0 : Int)) 89 l1_2 (0 : Int)) [1113] g211) 1011 0 (0 : Int)) (sv_sts (sv_up (sv_sts (sv_up (sv_up (sv_sts S [88, 89, 87, 1113, 5, 1011] g1) 88 l1_2 (0 : Int)) 89 l1_2 (0 : Int)) [1113] g211) 1011 0 (0 : Int)) [5, 1011] g249) := sv_mod.sts (sv_mod.rf (l := [5, 1011]) (S := (sv_up (sv_sts (sv_up (sv_up (sv_sts S [88, 89, 87, 1113, 5, 1011] g1) 88 l1_2 (0 : Int)) 89 l1_2 (0 : Int)) [1113] g211) 1011 0 (0 : Int)))) (by decide)
                    have h := h g249 hpo252
                    have eS := sv_mod.eq md255
                    have hb := J247 (sv_sts (sv_up (sv_sts (sv_up (sv_up (sv_sts S [88, 89, 87, 1113, 5, 1011] g1) 88 l1_2 (0 : Int)) 89 l1_2 (0 : Int)) [1113] g211) 1011 0 (0 : Int)) [5, 1011] g249) (by rw [← eS]; exact ok250) h
                    have hb : sv_T sm_XS sm_cs sm_L sm_sh 2 (q_findSorts S) 291 152 [(0, .ref 0), (1, sv_I l1_2), (2, sv_I s212), (3, sv_I s218)] [] (sv_sts (sv_up (sv_sts (sv_up (sv_up (sv_sts S [88, 89, 87, 1113, 5, 1011] g1) 88 l1_2 (0 : Int)) 89 l1_2 (0 : Int)) [1113] g211) 1011 0 (0 : Int)) [5, 1011] g249) := Eq.mpr (congrArg (fun Z => sv_T sm_XS sm_cs sm_L sm_sh 2 (q_findSorts S) 291 152 [(0, .ref 0), (1, sv_I l1_2), (2, sv_I s212), (3, sv_I s218)] [] Z) eS) hb
                    exact sv_less (lv := [(0, .ref 0), (1, sv_I l1_2), (2, sv_I s212), (3, sv_I s218)]) (sv_Sub_cons rfl (sv_Sub_cons rfl (sv_Sub_cons rfl (sv_Sub_cons rfl sv_Sub_nil)))) hb
                have h := h.2
                refine sv_aload_n hM dX12_findSorts_116 rfl rfl ?_
                refine sv_getA hM dX12_findSorts_117 sm_fl_20 (sm_a0 _) sm_k6 rfl ?_
                refine sv_iload_n hM dX12_findSorts_120 rfl rfl ?_
                refine sv_iald hM dX12_findSorts_121 (sm_a4 _) (by decide) o84.1 o84.2 rfl (x := (S 4 l1_2)) rfl ?_
                refine sv_cond_le hM dX12_findSorts_122 k85 (t := 136) rfl rfl (fun hc => ?_) (fun hc => ?_)
                · have h := h.1 (hc)
                  refine sv_iconst (d := (0 : Int)) hM dX12_findSorts_136 rfl rfl ?_
                  have hb := J256 (0 : Int) (⟨by decide, by decide⟩ : sv_R (0 : Int)) h
                  exact sv_less (lv := [(0, .ref 0), (1, sv_I l1_2), (2, sv_I s212)]) (sv_Sub_cons rfl (sv_Sub_cons rfl (sv_Sub_cons rfl sv_Sub_nil))) hb
                · have h := h.2 (hc)
                  refine sv_aload_n hM dX12_findSorts_125 rfl rfl ?_
                  have k257 : (0 ≤ (g211 1113 0) ∧ (g211 1113 0) ≤ 1) := sm_okZ ok213 sm_r1113 0
                  have h := h k257
                  refine sv_getI hM dX12_findSorts_126 sm_fl_806 (sm_a0 _) sm_k113 rfl (x := (g211 1113 0)) rfl ?_
                  refine sv_cond_eq hM dX12_findSorts_129 (sv_R01 k257) (t := 136) rfl rfl (fun hc => ?_) (fun hc => ?_)
                  · have h := h.1 (hc)
                    refine sv_iconst (d := (0 : Int)) hM dX12_findSorts_136 rfl rfl ?_
                    have hb := J256 (0 : Int) (⟨by decide, by decide⟩ : sv_R (0 : Int)) h
                    exact sv_less (lv := [(0, .ref 0), (1, sv_I l1_2), (2, sv_I s212)]) (sv_Sub_cons rfl (sv_Sub_cons rfl (sv_Sub_cons rfl sv_Sub_nil))) hb
                  · have h := h.2 (hc)
                    refine sv_iconst (d := (1 : Int)) hM dX12_findSorts_132 rfl rfl ?_
                    refine sv_goto hM dX12_findSorts_133 (pc' := 137) rfl ?_
                    have hb := J256 (1 : Int) (⟨by decide, by decide⟩ : sv_R (1 : Int)) h
                    exact sv_less (lv := [(0, .ref 0), (1, sv_I l1_2), (2, sv_I s212)]) (sv_Sub_cons rfl (sv_Sub_cons rfl (sv_Sub_cons rfl sv_Sub_nil))) hb
              have h := h.2
              refine sv_aload_n hM dX12_findSorts_97 rfl rfl ?_
              refine sv_getA hM dX12_findSorts_98 sm_fl_20 (sm_a0 _) sm_k6 rfl ?_
              refine sv_iload_n hM dX12_findSorts_101 rfl rfl ?_
              refine sv_iald hM dX12_findSorts_102 (sm_a4 _) (by decide) o84.1 o84.2 rfl (x := (S 4 l1_2)) rfl ?_
              refine sv_cond_le hM dX12_findSorts_103 k85 (t := 114) rfl rfl (fun hc => ?_) (fun hc => ?_)
              · have h := h.1 (hc)
                refine sv_iconst (d := (0 : Int)) hM dX12_findSorts_114 rfl rfl ?_
                have eS := sv_mod.eq (sv_mod.rf (l := [1113]) (S := (sv_up (sv_up (sv_sts S [88, 89, 87, 1113, 5, 1011] g1) 88 l1_2 (0 : Int)) 89 l1_2 (0 : Int))))
                have hb := J258 (0 : Int) (⟨by decide, by decide⟩ : sv_R (0 : Int)) (sv_up (sv_up (sv_sts S [88, 89, 87, 1113, 5, 1011] g1) 88 l1_2 (0 : Int)) 89 l1_2 (0 : Int)) (by rw [← eS]; exact ok208) h
                have hb : sv_T sm_XS sm_cs sm_L sm_sh 2 (q_findSorts S) 291 115 [(0, .ref 0), (1, sv_I l1_2)] [sv_I (0 : Int)] (sv_up (sv_up (sv_sts S [88, 89, 87, 1113, 5, 1011] g1) 88 l1_2 (0 : Int)) 89 l1_2 (0 : Int)) := Eq.mpr (congrArg (fun Z => sv_T sm_XS sm_cs sm_L sm_sh 2 (q_findSorts S) 291 115 [(0, .ref 0), (1, sv_I l1_2)] [sv_I (0 : Int)] Z) eS) hb
                exact sv_less (lv := [(0, .ref 0), (1, sv_I l1_2)]) (sv_Sub_cons rfl (sv_Sub_cons rfl sv_Sub_nil)) hb
              · have h := h.2 (hc)
                refine sv_aload_n hM dX12_findSorts_106 rfl rfl ?_
                refine sv_iload_n hM dX12_findSorts_107 rfl rfl ?_
                refine sv_callV hM dX12_findSorts_108 sm_iv_809 (by decide) (sm_a0 _) rfl rfl (Nat.le_of_ble_eq_true rfl) sm_h128 (Nat.le_of_ble_eq_true rfl) (Nat.le_of_ble_eq_true rfl) (F' := 1) (Nat.le_of_ble_eq_true rfl) rfl (t_numberOfString l1_2 (sv_up (sv_up (sv_sts S [88, 89, 87, 1113, 5, 1011] g1) 88 l1_2 (0 : Int)) 89 l1_2 (0 : Int)) ok208 hl1_2 o74) (fun v S1 hq => ?_)
                obtain ⟨r263, rfl, hr263, ok260, md261, hpo262⟩ := hq
                obtain ⟨g259, rfl⟩ : ∃ g, S1 = sv_sts (sv_up (sv_up (sv_sts S [88, 89, 87, 1113, 5, 1011] g1) 88 l1_2 (0 : Int)) 89 l1_2 (0 : Int)) [1113] g := ⟨_, md261.eq⟩
                show sv_T sm_XS sm_cs sm_L sm_sh 2 (q_findSorts S) 291 111 [(0, .ref 0), (1, sv_I l1_2)] [sv_I r263] (sv_sts (sv_up (sv_up (sv_sts S [88, 89, 87, 1113, 5, 1011] g1) 88 l1_2 (0 : Int)) 89 l1_2 (0 : Int)) [1113] g259)
                have md264 : sv_mod [88, 89, 87, 1113, 5, 1011, 90] S (sv_sts (sv_up (sv_up (sv_sts S [88, 89, 87, 1113, 5, 1011] g1) 88 l1_2 (0 : Int)) 89 l1_2 (0 : Int)) [1113] g259) := sv_mod.sts md209 (by decide)
                have md265 : sv_mod [88, 89, 87, 1113, 5, 1011] S (sv_sts (sv_up (sv_up (sv_sts S [88, 89, 87, 1113, 5, 1011] g1) 88 l1_2 (0 : Int)) 89 l1_2 (0 : Int)) [1113] g259) := sv_mod.sts md210 (by decide)
                have md266 : sv_mod [1113] (sv_up (sv_up (sv_sts S [88, 89, 87, 1113, 5, 1011] g1) 88 l1_2 (0 : Int)) 89 l1_2 (0 : Int)) (sv_sts (sv_up (sv_up (sv_sts S [88, 89, 87, 1113, 5, 1011] g1) 88 l1_2 (0 : Int)) 89 l1_2 (0 : Int)) [1113] g259) := sv_mod.sts (sv_mod.rf (l := [1113]) (S := (sv_up (sv_up (sv_sts S [88, 89, 87, 1113, 5, 1011] g1) 88 l1_2 (0 : Int)) 89 l1_2 (0 : Int)))) (by decide)
                have h := h r263 hr263 g259 hpo262
                refine sv_goto hM dX12_findSorts_111 (pc' := 115) rfl ?_
                have eS := sv_mod.eq md266
                have hb := J258 r263 hr263 (sv_sts (sv_up (sv_up (sv_sts S [88, 89, 87, 1113, 5, 1011] g1) 88 l1_2 (0 : Int)) 89 l1_2 (0 : Int)) [1113] g259) (by rw [← eS]; exact ok260) h
                have hb : sv_T sm_XS sm_cs sm_L sm_sh 2 (q_findSorts S) 291 115 [(0, .ref 0), (1, sv_I l1_2)] [sv_I r263] (sv_sts (sv_up (sv_up (sv_sts S [88, 89, 87, 1113, 5, 1011] g1) 88 l1_2 (0 : Int)) 89 l1_2 (0 : Int)) [1113] g259) := Eq.mpr (congrArg (fun Z => sv_T sm_XS sm_cs sm_L sm_sh 2 (q_findSorts S) 291 115 [(0, .ref 0), (1, sv_I l1_2)] [sv_I r263] Z) eS) hb
                exact sv_less (lv := [(0, .ref 0), (1, sv_I l1_2)]) (sv_Sub_cons rfl (sv_Sub_cons rfl sv_Sub_nil)) hb
            · have h := h.2 (hc)
              refine sv_aload_n hM dX12_findSorts_75 rfl rfl ?_
              refine sv_getA hM dX12_findSorts_76 sm_fl_16 (sm_a0 _) sm_k5 rfl ?_
              refine sv_bipush (d := (60 : Int)) hM dX12_findSorts_79 rfl rfl ?_
              refine sv_iload_n hM dX12_findSorts_81 rfl rfl ?_
              refine sv_imul hM dX12_findSorts_82 rfl ?_
              refine sv_iconst (d := (2 : Int)) hM dX12_findSorts_83 rfl rfl ?_
              refine sv_iadd hM dX12_findSorts_84 rfl ?_
              obtain ⟨o267, h⟩ := h
              have k268 : (0 ≤ (S 3 (((60 : Int) * l1_2) + (2 : Int))) ∧ (S 3 (((60 : Int) * l1_2) + (2 : Int))) ≤ 65535) := sm_okC ok81 sm_r3 (((60 : Int) * l1_2) + (2 : Int))
              have h := h k268
              refine sv_cald hM dX12_findSorts_85 (sm_a3 _) (by decide) o267.1 o267.2 rfl (x := (S 3 (((60 : Int) * l1_2) + (2 : Int)))) rfl ?_
              refine sv_bipush (d := (48 : Int)) hM dX12_findSorts_86 rfl rfl ?_
              refine sv_icmp_ne hM dX12_findSorts_88 (sv_RC k268) (⟨by decide, by decide⟩ : sv_R (48 : Int)) (t := 95) rfl rfl (fun hc => ?_) (fun hc => ?_)
              · have h := h.1 (hc)
                refine sv_iconst (d := (0 : Int)) hM dX12_findSorts_95 rfl rfl ?_
                refine sv_zast sm_X hM dX12_findSorts_96 (sm_a89 _) (by decide) o80.1 o80.2 (sv_nnZ (⟨by decide, by decide⟩ : 0 ≤ (0 : Int) ∧ (0 : Int) ≤ 1)) rfl ?_
                have ok269 : sm_ok (sv_up (sv_up (sv_sts S [88, 89, 87, 1113, 5, 1011] g1) 88 l1_2 (0 : Int)) 89 l1_2 (0 : Int)) := sm_upZ ok81 sm_r89 (⟨by decide, by decide⟩ : 0 ≤ (0 : Int) ∧ (0 : Int) ≤ 1)
                have md270 : sv_mod [88, 89, 87, 1113, 5, 1011, 90] S (sv_up (sv_up (sv_sts S [88, 89, 87, 1113, 5, 1011] g1) 88 l1_2 (0 : Int)) 89 l1_2 (0 : Int)) := sv_mod.up md82 (by decide)
                have md271 : sv_mod [88, 89, 87, 1113, 5, 1011] S (sv_up (sv_up (sv_sts S [88, 89, 87, 1113, 5, 1011] g1) 88 l1_2 (0 : Int)) 89 l1_2 (0 : Int)) := sv_mod.up md83 (by decide)
                have J319 : ∀ s273 : Int, sv_R s273 → ∀ g272 : sv_S, sm_ok (sv_sts (sv_up (sv_up (sv_sts S [88, 89, 87, 1113, 5, 1011] g1) 88 l1_2 (0 : Int)) 89 l1_2 (0 : Int)) [1113] g272) → (True) → sv_T sm_XS sm_cs sm_L sm_sh 2 (q_findSorts S) 291 115 [(0, .ref 0), (1, sv_I l1_2)] [sv_I s273] (sv_sts (sv_up (sv_up (sv_sts S [88, 89, 87, 1113, 5, 1011] g1) 88 l1_2 (0 : Int)) 89 l1_2 (0 : Int)) [1113] g272) := by
                  intro s273 hs273 g272 ok274 hin275
                  have h := h.1 s273 hs273 g272 hin275
                  have md276 : sv_mod [88, 89, 87, 1113, 5, 1011, 90] S (sv_sts (sv_up (sv_up (sv_sts S [88, 89, 87, 1113, 5, 1011] g1) 88 l1_2 (0 : Int)) 89 l1_2 (0 : Int)) [1113] g272) := sv_mod.sts md270 (by decide)
                  have md277 : sv_mod [88, 89, 87, 1113, 5, 1011] S (sv_sts (sv_up (sv_up (sv_sts S [88, 89, 87, 1113, 5, 1011] g1) 88 l1_2 (0 : Int)) 89 l1_2 (0 : Int)) [1113] g272) := sv_mod.sts md271 (by decide)
                  have md278 : sv_mod [1113] (sv_up (sv_up (sv_sts S [88, 89, 87, 1113, 5, 1011] g1) 88 l1_2 (0 : Int)) 89 l1_2 (0 : Int)) (sv_sts (sv_up (sv_up (sv_sts S [88, 89, 87, 1113, 5, 1011] g1) 88 l1_2 (0 : Int)) 89 l1_2 (0 : Int)) [1113] g272) := sv_mod.sts sv_mod.rf (by decide)
                  refine sv_istore_n hM dX12_findSorts_115 (by decide) rfl ?_
                  show sv_T sm_XS sm_cs sm_L sm_sh 2 (q_findSorts S) 291 116 [(0, .ref 0), (1, sv_I l1_2), (2, sv_I s273)] [] (sv_sts (sv_up (sv_up (sv_sts S [88, 89, 87, 1113, 5, 1011] g1) 88 l1_2 (0 : Int)) 89 l1_2 (0 : Int)) [1113] g272)
                  have J317 : ∀ s279 : Int, sv_R s279 → (s279 = 0 ∨ s279 = 1) → sv_T sm_XS sm_cs sm_L sm_sh 2 (q_findSorts S) 291 137 [(0, .ref 0), (1, sv_I l1_2), (2, sv_I s273)] [sv_I s279] (sv_sts (sv_up (sv_up (sv_sts S [88, 89, 87, 1113, 5, 1011] g1) 88 l1_2 (0 : Int)) 89 l1_2 (0 : Int)) [1113] g272) := by
                    intro s279 hs279 hin280
                    have h := h.1 s279 hs279 hin280
                    refine sv_istore_n hM dX12_findSorts_137 (by decide) rfl ?_
                    show sv_T sm_XS sm_cs sm_L sm_sh 2 (q_findSorts S) 291 138 [(0, .ref 0), (1, sv_I l1_2), (2, sv_I s273), (3, sv_I s279)] [] (sv_sts (sv_up (sv_up (sv_sts S [88, 89, 87, 1113, 5, 1011] g1) 88 l1_2 (0 : Int)) 89 l1_2 (0 : Int)) [1113] g272)
                    refine sv_aload_n hM dX12_findSorts_138 rfl rfl ?_
                    refine sv_iconst (d := (0 : Int)) hM dX12_findSorts_139 rfl rfl ?_
                    refine sv_putI sm_X hM dX12_findSorts_140 sm_fp_299 (sm_a0 _) sm_q11 (Or.inl rfl) rfl rfl rfl rfl ?_
                    have ok281 : sm_ok (sv_up (sv_sts (sv_up (sv_up (sv_sts S [88, 89, 87, 1113, 5, 1011] g1) 88 l1_2 (0 : Int)) 89 l1_2 (0 : Int)) [1113] g272) 1011 0 (0 : Int)) := sm_upI ok274 sm_r1011 (⟨by decide, by decide⟩ : sv_R (0 : Int))
                    have md282 : sv_mod [88, 89, 87, 1113, 5, 1011, 90] S (sv_up (sv_sts (sv_up (sv_up (sv_sts S [88, 89, 87, 1113, 5, 1011] g1) 88 l1_2 (0 : Int)) 89 l1_2 (0 : Int)) [1113] g272) 1011 0 (0 : Int)) := sv_mod.up md276 (by decide)
                    have md283 : sv_mod [88, 89, 87, 1113, 5, 1011] S (sv_up (sv_sts (sv_up (sv_up (sv_sts S [88, 89, 87, 1113, 5, 1011] g1) 88 l1_2 (0 : Int)) 89 l1_2 (0 : Int)) [1113] g272) 1011 0 (0 : Int)) := sv_mod.up md277 (by decide)
                    have J308 : ∀ g284 : sv_S, sm_ok (sv_sts (sv_up (sv_sts (sv_up (sv_up (sv_sts S [88, 89, 87, 1113, 5, 1011] g1) 88 l1_2 (0 : Int)) 89 l1_2 (0 : Int)) [1113] g272) 1011 0 (0 : Int)) [5, 1011] g284) → (0 ≤ (g284 1011 0) ∧ (g284 1011 0) ≤ 200) → sv_T sm_XS sm_cs sm_L sm_sh 2 (q_findSorts S) 291 152 [(0, .ref 0), (1, sv_I l1_2), (2, sv_I s273), (3, sv_I s279)] [] (sv_sts (sv_up (sv_sts (sv_up (sv_up (sv_sts S [88, 89, 87, 1113, 5, 1011] g1) 88 l1_2 (0 : Int)) 89 l1_2 (0 : Int)) [1113] g272) 1011 0 (0 : Int)) [5, 1011] g284) := by
                      intro  g284 ok285 hin286
                      have h := h.1 g284 hin286
                      have md287 : sv_mod [88, 89, 87, 1113, 5, 1011, 90] S (sv_sts (sv_up (sv_sts (sv_up (sv_up (sv_sts S [88, 89, 87, 1113, 5, 1011] g1) 88 l1_2 (0 : Int)) 89 l1_2 (0 : Int)) [1113] g272) 1011 0 (0 : Int)) [5, 1011] g284) := sv_mod.sts md282 (by decide)
                      have md288 : sv_mod [88, 89, 87, 1113, 5, 1011] S (sv_sts (sv_up (sv_sts (sv_up (sv_up (sv_sts S [88, 89, 87, 1113, 5, 1011] g1) 88 l1_2 (0 : Int)) 89 l1_2 (0 : Int)) [1113] g272) 1011 0 (0 : Int)) [5, 1011] g284) := sv_mod.sts md283 (by decide)
                      have md289 : sv_mod [5, 1011] (sv_up (sv_sts (sv_up (sv_up (sv_sts S [88, 89, 87, 1113, 5, 1011] g1) 88 l1_2 (0 : Int)) 89 l1_2 (0 : Int)) [1113] g272) 1011 0 (0 : Int)) (sv_sts (sv_up (sv_sts (sv_up (sv_up (sv_sts S [88, 89, 87, 1113, 5, 1011] g1) 88 l1_2 (0 : Int)) 89 l1_2 (0 : Int)) [1113] g272) 1011 0 (0 : Int)) [5, 1011] g284) := sv_mod.sts sv_mod.rf (by decide)
                      refine sv_aload_n hM dX12_findSorts_152 rfl rfl ?_
                      refine sv_getA hM dX12_findSorts_153 sm_fl_274 (sm_a0 _) sm_k139 rfl ?_
                      refine sv_iload_n hM dX12_findSorts_156 rfl rfl ?_
                      refine sv_iload_n hM dX12_findSorts_157 rfl rfl ?_
                      refine sv_cond_eq hM dX12_findSorts_158 hs279 (t := 173) rfl rfl (fun hc => ?_) (fun hc => ?_)
                      · have h := h.1 (hc)
                        refine sv_iconst (d := (0 : Int)) hM dX12_findSorts_173 rfl rfl ?_
                        refine sv_zast sm_X hM dX12_findSorts_174 (sm_a87 _) (by decide) o80.1 o80.2 (sv_nnZ (⟨by decide, by decide⟩ : 0 ≤ (0 : Int) ∧ (0 : Int) ≤ 1)) rfl ?_
                        have ok290 : sm_ok (sv_up (sv_sts (sv_up (sv_sts (sv_up (sv_up (sv_sts S [88, 89, 87, 1113, 5, 1011] g1) 88 l1_2 (0 : Int)) 89 l1_2 (0 : Int)) [1113] g272) 1011 0 (0 : Int)) [5, 1011] g284) 87 l1_2 (0 : Int)) := sm_upZ ok285 sm_r87 (⟨by decide, by decide⟩ : 0 ≤ (0 : Int) ∧ (0 : Int) ≤ 1)
                        have md291 : sv_mod [88, 89, 87, 1113, 5, 1011, 90] S (sv_up (sv_sts (sv_up (sv_sts (sv_up (sv_up (sv_sts S [88, 89, 87, 1113, 5, 1011] g1) 88 l1_2 (0 : Int)) 89 l1_2 (0 : Int)) [1113] g272) 1011 0 (0 : Int)) [5, 1011] g284) 87 l1_2 (0 : Int)) := sv_mod.up md287 (by decide)
                        have md292 : sv_mod [88, 89, 87, 1113, 5, 1011] S (sv_up (sv_sts (sv_up (sv_sts (sv_up (sv_up (sv_sts S [88, 89, 87, 1113, 5, 1011] g1) 88 l1_2 (0 : Int)) 89 l1_2 (0 : Int)) [1113] g272) 1011 0 (0 : Int)) [5, 1011] g284) 87 l1_2 (0 : Int)) := sv_mod.up md288 (by decide)
                        refine sv_iinc (d := (1 : Int)) hM dX12_findSorts_175 rfl (by decide) rfl rfl ?_
                        show sv_T sm_XS sm_cs sm_L sm_sh 2 (q_findSorts S) 291 178 [(0, .ref 0), (1, sv_I (l1_2 + (1 : Int))), (2, sv_I s273), (3, sv_I s279)] [] (sv_up (sv_sts (sv_up (sv_sts (sv_up (sv_up (sv_sts S [88, 89, 87, 1113, 5, 1011] g1) 88 l1_2 (0 : Int)) 89 l1_2 (0 : Int)) [1113] g272) 1011 0 (0 : Int)) [5, 1011] g284) 87 l1_2 (0 : Int))
                        refine sv_goto hM dX12_findSorts_178 (pc' := 2) rfl ?_
                        obtain ⟨o293, h⟩ := h
                        have eS := sv_mod.eq md292
                        have hb := ih3 ((l1_2 + (1 : Int)), (sv_up (sv_sts (sv_up (sv_sts (sv_up (sv_up (sv_sts S [88, 89, 87, 1113, 5, 1011] g1) 88 l1_2 (0 : Int)) 89 l1_2 (0 : Int)) [1113] g272) 1011 0 (0 : Int)) [5, 1011] g284) 87 l1_2 (0 : Int))) ⟨o293, (by rw [← eS]; exact ok290), h.1⟩ h.2
                        have hb : sv_T sm_XS sm_cs sm_L sm_sh 2 (q_findSorts S) 291 2 [(0, .ref 0), (1, sv_I (l1_2 + (1 : Int)))] [] (sv_up (sv_sts (sv_up (sv_sts (sv_up (sv_up (sv_sts S [88, 89, 87, 1113, 5, 1011] g1) 88 l1_2 (0 : Int)) 89 l1_2 (0 : Int)) [1113] g272) 1011 0 (0 : Int)) [5, 1011] g284) 87 l1_2 (0 : Int)) := Eq.mpr (congrArg (fun Z => sv_T sm_XS sm_cs sm_L sm_sh 2 (q_findSorts S) 291 2 [(0, .ref 0), (1, sv_I (l1_2 + (1 : Int)))] [] Z) eS) hb
                        exact sv_less (lv := [(0, .ref 0), (1, sv_I (l1_2 + (1 : Int)))]) (sv_Sub_cons rfl (sv_Sub_cons rfl sv_Sub_nil)) hb
                      · have h := h.2 (hc)
                        refine sv_aload_n hM dX12_findSorts_161 rfl rfl ?_
                        obtain ⟨o294, h⟩ := h
                        refine sv_callV hM dX12_findSorts_162 sm_iv_302 (by decide) (sm_a0 _) rfl rfl (Nat.le_of_ble_eq_true rfl) sm_h5 (Nat.le_of_ble_eq_true rfl) (Nat.le_of_ble_eq_true rfl) (F' := 0) (Nat.le_of_ble_eq_true rfl) rfl (t_findText  (sv_sts (sv_up (sv_sts (sv_up (sv_up (sv_sts S [88, 89, 87, 1113, 5, 1011] g1) 88 l1_2 (0 : Int)) 89 l1_2 (0 : Int)) [1113] g272) 1011 0 (0 : Int)) [5, 1011] g284) ok285 o294) (fun v S1 hq => ?_)
                        obtain ⟨r299, rfl, hr299, ok296, md297, hpo298⟩ := hq
                        obtain rfl : (sv_sts (sv_up (sv_sts (sv_up (sv_up (sv_sts S [88, 89, 87, 1113, 5, 1011] g1) 88 l1_2 (0 : Int)) 89 l1_2 (0 : Int)) [1113] g272) 1011 0 (0 : Int)) [5, 1011] g284) = S1 := (funext fun j => md297 j (by intro q; cases q)).symm
                        show sv_T sm_XS sm_cs sm_L sm_sh 2 (q_findSorts S) 291 165 [(0, .ref 0), (1, sv_I l1_2), (2, sv_I s273), (3, sv_I s279)] [sv_I r299, sv_I l1_2, .ref 87] (sv_sts (sv_up (sv_sts (sv_up (sv_up (sv_sts S [88, 89, 87, 1113, 5, 1011] g1) 88 l1_2 (0 : Int)) 89 l1_2 (0 : Int)) [1113] g272) 1011 0 (0 : Int)) [5, 1011] g284)
                        have h := h r299 hr299 hpo298
                        refine sv_iload_n hM dX12_findSorts_165 rfl rfl ?_
                        refine sv_icmp_ne hM dX12_findSorts_166 hr299 hl1_2 (t := 173) rfl rfl (fun hc => ?_) (fun hc => ?_)
                        · have h := h.1 (hc)
                          refine sv_iconst (d := (0 : Int)) hM dX12_findSorts_173 rfl rfl ?_
                          refine sv_zast sm_X hM dX12_findSorts_174 (sm_a87 _) (by decide) o80.1 o80.2 (sv_nnZ (⟨by decide, by decide⟩ : 0 ≤ (0 : Int) ∧ (0 : Int) ≤ 1)) rfl ?_
                          have ok300 : sm_ok (sv_up (sv_sts (sv_up (sv_sts (sv_up (sv_up (sv_sts S [88, 89, 87, 1113, 5, 1011] g1) 88 l1_2 (0 : Int)) 89 l1_2 (0 : Int)) [1113] g272) 1011 0 (0 : Int)) [5, 1011] g284) 87 l1_2 (0 : Int)) := sm_upZ ok296 sm_r87 (⟨by decide, by decide⟩ : 0 ≤ (0 : Int) ∧ (0 : Int) ≤ 1)
                          have md301 : sv_mod [88, 89, 87, 1113, 5, 1011, 90] S (sv_up (sv_sts (sv_up (sv_sts (sv_up (sv_up (sv_sts S [88, 89, 87, 1113, 5, 1011] g1) 88 l1_2 (0 : Int)) 89 l1_2 (0 : Int)) [1113] g272) 1011 0 (0 : Int)) [5, 1011] g284) 87 l1_2 (0 : Int)) := sv_mod.up md287 (by decide)
                          have md302 : sv_mod [88, 89, 87, 1113, 5, 1011] S (sv_up (sv_sts (sv_up (sv_sts (sv_up (sv_up (sv_sts S [88, 89, 87, 1113, 5, 1011] g1) 88 l1_2 (0 : Int)) 89 l1_2 (0 : Int)) [1113] g272) 1011 0 (0 : Int)) [5, 1011] g284) 87 l1_2 (0 : Int)) := sv_mod.up md288 (by decide)
                          refine sv_iinc (d := (1 : Int)) hM dX12_findSorts_175 rfl (by decide) rfl rfl ?_
                          show sv_T sm_XS sm_cs sm_L sm_sh 2 (q_findSorts S) 291 178 [(0, .ref 0), (1, sv_I (l1_2 + (1 : Int))), (2, sv_I s273), (3, sv_I s279)] [] (sv_up (sv_sts (sv_up (sv_sts (sv_up (sv_up (sv_sts S [88, 89, 87, 1113, 5, 1011] g1) 88 l1_2 (0 : Int)) 89 l1_2 (0 : Int)) [1113] g272) 1011 0 (0 : Int)) [5, 1011] g284) 87 l1_2 (0 : Int))
                          refine sv_goto hM dX12_findSorts_178 (pc' := 2) rfl ?_
                          obtain ⟨o303, h⟩ := h
                          have eS := sv_mod.eq md302
                          have hb := ih3 ((l1_2 + (1 : Int)), (sv_up (sv_sts (sv_up (sv_sts (sv_up (sv_up (sv_sts S [88, 89, 87, 1113, 5, 1011] g1) 88 l1_2 (0 : Int)) 89 l1_2 (0 : Int)) [1113] g272) 1011 0 (0 : Int)) [5, 1011] g284) 87 l1_2 (0 : Int))) ⟨o303, (by rw [← eS]; exact ok300), h.1⟩ h.2
                          have hb : sv_T sm_XS sm_cs sm_L sm_sh 2 (q_findSorts S) 291 2 [(0, .ref 0), (1, sv_I (l1_2 + (1 : Int)))] [] (sv_up (sv_sts (sv_up (sv_sts (sv_up (sv_up (sv_sts S [88, 89, 87, 1113, 5, 1011] g1) 88 l1_2 (0 : Int)) 89 l1_2 (0 : Int)) [1113] g272) 1011 0 (0 : Int)) [5, 1011] g284) 87 l1_2 (0 : Int)) := Eq.mpr (congrArg (fun Z => sv_T sm_XS sm_cs sm_L sm_sh 2 (q_findSorts S) 291 2 [(0, .ref 0), (1, sv_I (l1_2 + (1 : Int)))] [] Z) eS) hb
                          exact sv_less (lv := [(0, .ref 0), (1, sv_I (l1_2 + (1 : Int)))]) (sv_Sub_cons rfl (sv_Sub_cons rfl sv_Sub_nil)) hb
                        · have h := h.2 (hc)
                          refine sv_iconst (d := (1 : Int)) hM dX12_findSorts_169 rfl rfl ?_
                          refine sv_goto hM dX12_findSorts_170 (pc' := 174) rfl ?_
                          refine sv_zast sm_X hM dX12_findSorts_174 (sm_a87 _) (by decide) o80.1 o80.2 (sv_nnZ (⟨by decide, by decide⟩ : 0 ≤ (1 : Int) ∧ (1 : Int) ≤ 1)) rfl ?_
                          have ok304 : sm_ok (sv_up (sv_sts (sv_up (sv_sts (sv_up (sv_up (sv_sts S [88, 89, 87, 1113, 5, 1011] g1) 88 l1_2 (0 : Int)) 89 l1_2 (0 : Int)) [1113] g272) 1011 0 (0 : Int)) [5, 1011] g284) 87 l1_2 (1 : Int)) := sm_upZ ok296 sm_r87 (⟨by decide, by decide⟩ : 0 ≤ (1 : Int) ∧ (1 : Int) ≤ 1)
                          have md305 : sv_mod [88, 89, 87, 1113, 5, 1011, 90] S (sv_up (sv_sts (sv_up (sv_sts (sv_up (sv_up (sv_sts S [88, 89, 87, 1113, 5, 1011] g1) 88 l1_2 (0 : Int)) 89 l1_2 (0 : Int)) [1113] g272) 1011 0 (0 : Int)) [5, 1011] g284) 87 l1_2 (1 : Int)) := sv_mod.up md287 (by decide)
                          have md306 : sv_mod [88, 89, 87, 1113, 5, 1011] S (sv_up (sv_sts (sv_up (sv_sts (sv_up (sv_up (sv_sts S [88, 89, 87, 1113, 5, 1011] g1) 88 l1_2 (0 : Int)) 89 l1_2 (0 : Int)) [1113] g272) 1011 0 (0 : Int)) [5, 1011] g284) 87 l1_2 (1 : Int)) := sv_mod.up md288 (by decide)
                          refine sv_iinc (d := (1 : Int)) hM dX12_findSorts_175 rfl (by decide) rfl rfl ?_
                          show sv_T sm_XS sm_cs sm_L sm_sh 2 (q_findSorts S) 291 178 [(0, .ref 0), (1, sv_I (l1_2 + (1 : Int))), (2, sv_I s273), (3, sv_I s279)] [] (sv_up (sv_sts (sv_up (sv_sts (sv_up (sv_up (sv_sts S [88, 89, 87, 1113, 5, 1011] g1) 88 l1_2 (0 : Int)) 89 l1_2 (0 : Int)) [1113] g272) 1011 0 (0 : Int)) [5, 1011] g284) 87 l1_2 (1 : Int))
                          refine sv_goto hM dX12_findSorts_178 (pc' := 2) rfl ?_
                          obtain ⟨o307, h⟩ := h
                          have eS := sv_mod.eq md306
                          have hb := ih3 ((l1_2 + (1 : Int)), (sv_up (sv_sts (sv_up (sv_sts (sv_up (sv_up (sv_sts S [88, 89, 87, 1113, 5, 1011] g1) 88 l1_2 (0 : Int)) 89 l1_2 (0 : Int)) [1113] g272) 1011 0 (0 : Int)) [5, 1011] g284) 87 l1_2 (1 : Int))) ⟨o307, (by rw [← eS]; exact ok304), h.1⟩ h.2
                          have hb : sv_T sm_XS sm_cs sm_L sm_sh 2 (q_findSorts S) 291 2 [(0, .ref 0), (1, sv_I (l1_2 + (1 : Int)))] [] (sv_up (sv_sts (sv_up (sv_sts (sv_up (sv_up (sv_sts S [88, 89, 87, 1113, 5, 1011] g1) 88 l1_2 (0 : Int)) 89 l1_2 (0 : Int)) [1113] g272) 1011 0 (0 : Int)) [5, 1011] g284) 87 l1_2 (1 : Int)) := Eq.mpr (congrArg (fun Z => sv_T sm_XS sm_cs sm_L sm_sh 2 (q_findSorts S) 291 2 [(0, .ref 0), (1, sv_I (l1_2 + (1 : Int)))] [] Z) eS) hb
                          exact sv_less (lv := [(0, .ref 0), (1, sv_I (l1_2 + (1 : Int)))]) (sv_Sub_cons rfl (sv_Sub_cons rfl sv_Sub_nil)) hb
                    have h := h.2
                    refine sv_iload_n hM dX12_findSorts_143 rfl rfl ?_
                    refine sv_cond_eq hM dX12_findSorts_144 hs279 (t := 152) rfl rfl (fun hc => ?_) (fun hc => ?_)
                    · have h := h.1 (hc)
                      have eS := sv_mod.eq (sv_mod.rf (l := [5, 1011]) (S := (sv_up (sv_sts (sv_up (sv_up (sv_sts S [88, 89, 87, 1113, 5, 1011] g1) 88 l1_2 (0 : Int)) 89 l1_2 (0 : Int)) [1113] g272) 1011 0 (0 : Int))))
                      have hb := J308 (sv_up (sv_sts (sv_up (sv_up (sv_sts S [88, 89, 87, 1113, 5, 1011] g1) 88 l1_2 (0 : Int)) 89 l1_2 (0 : Int)) [1113] g272) 1011 0 (0 : Int)) (by rw [← eS]; exact ok281) h
                      have hb : sv_T sm_XS sm_cs sm_L sm_sh 2 (q_findSorts S) 291 152 [(0, .ref 0), (1, sv_I l1_2), (2, sv_I s273), (3, sv_I s279)] [] (sv_up (sv_sts (sv_up (sv_up (sv_sts S [88, 89, 87, 1113, 5, 1011] g1) 88 l1_2 (0 : Int)) 89 l1_2 (0 : Int)) [1113] g272) 1011 0 (0 : Int)) := Eq.mpr (congrArg (fun Z => sv_T sm_XS sm_cs sm_L sm_sh 2 (q_findSorts S) 291 152 [(0, .ref 0), (1, sv_I l1_2), (2, sv_I s273), (3, sv_I s279)] [] Z) eS) hb
                      exact sv_less (lv := [(0, .ref 0), (1, sv_I l1_2), (2, sv_I s273), (3, sv_I s279)]) (sv_Sub_cons rfl (sv_Sub_cons rfl (sv_Sub_cons rfl (sv_Sub_cons rfl sv_Sub_nil)))) hb
                    · have h := h.2 (hc)
                      refine sv_aload_n hM dX12_findSorts_147 rfl rfl ?_
                      refine sv_iload_n hM dX12_findSorts_148 rfl rfl ?_
                      obtain ⟨o309, h⟩ := h
                      refine sv_callV hM dX12_findSorts_149 sm_iv_410 (by decide) (sm_a0 _) rfl rfl (Nat.le_of_ble_eq_true rfl) sm_h31 (Nat.le_of_ble_eq_true rfl) (Nat.le_of_ble_eq_true rfl) (F' := 1) (Nat.le_of_ble_eq_true rfl) rfl (t_putNumber s273 (sv_up (sv_sts (sv_up (sv_up (sv_sts S [88, 89, 87, 1113, 5, 1011] g1) 88 l1_2 (0 : Int)) 89 l1_2 (0 : Int)) [1113] g272) 1011 0 (0 : Int)) ok281 hs273 o309) (fun v S1 hq => ?_)
                      obtain ⟨rfl, ok311, md312, hpo313⟩ := hq
                      obtain ⟨g310, rfl⟩ : ∃ g, S1 = sv_sts (sv_up (sv_sts (sv_up (sv_up (sv_sts S [88, 89, 87, 1113, 5, 1011] g1) 88 l1_2 (0 : Int)) 89 l1_2 (0 : Int)) [1113] g272) 1011 0 (0 : Int)) [5, 1011] g := ⟨_, md312.eq⟩
                      show sv_T sm_XS sm_cs sm_L sm_sh 2 (q_findSorts S) 291 152 [(0, .ref 0), (1, sv_I l1_2), (2, sv_I s273), (3, sv_I s279)] [] (sv_sts (sv_up (sv_sts (sv_up (sv_up (sv_sts S [88, 89, 87, 1113, 5, 1011] g1) 88 l1_2 (0 : Int)) 89 l1_2 (0 : Int)) [1113] g272) 1011 0 (0 : Int)) [5, 1011] g310)
                      have md314 : sv_mod [88, 89, 87, 1113, 5, 1011, 90] S (sv_sts (sv_up (sv_sts (sv_up (sv_up (sv_sts S [88, 89, 87, 1113, 5, 1011] g1) 88 l1_2 (0 : Int)) 89 l1_2 (0 : Int)) [1113] g272) 1011 0 (0 : Int)) [5, 1011] g310) := sv_mod.sts md282 (by decide)
                      have md315 : sv_mod [88, 89, 87, 1113, 5, 1011] S (sv_sts (sv_up (sv_sts (sv_up (sv_up (sv_sts S [88, 89, 87, 1113, 5, 1011] g1) 88 l1_2 (0 : Int)) 89 l1_2 (0 : Int)) [1113] g272) 1011 0 (0 : Int)) [5, 1011] g310) := sv_mod.sts md283 (by decide)
                      have md316 : sv_mod [5, 1011] (sv_up (sv_sts (sv_up (sv_up (sv_sts S [88, 89, 87, 1113, 5, 1011] g1) 88 l1_2 (0 : Int)) 89 l1_2 (0 : Int)) [1113] g272) 1011 0 (0 : Int)) (sv_sts (sv_up (sv_sts (sv_up (sv_up (sv_sts S [88, 89, 87, 1113, 5, 1011] g1) 88 l1_2 (0 : Int)) 89 l1_2 (0 : Int)) [1113] g272) 1011 0 (0 : Int)) [5, 1011] g310) := sv_mod.sts (sv_mod.rf (l := [5, 1011]) (S := (sv_up (sv_sts (sv_up (sv_up (sv_sts S [88, 89, 87, 1113, 5, 1011] g1) 88 l1_2 (0 : Int)) 89 l1_2 (0 : Int)) [1113] g272) 1011 0 (0 : Int)))) (by decide)
                      have h := h g310 hpo313
                      have eS := sv_mod.eq md316
                      have hb := J308 (sv_sts (sv_up (sv_sts (sv_up (sv_up (sv_sts S [88, 89, 87, 1113, 5, 1011] g1) 88 l1_2 (0 : Int)) 89 l1_2 (0 : Int)) [1113] g272) 1011 0 (0 : Int)) [5, 1011] g310) (by rw [← eS]; exact ok311) h
                      have hb : sv_T sm_XS sm_cs sm_L sm_sh 2 (q_findSorts S) 291 152 [(0, .ref 0), (1, sv_I l1_2), (2, sv_I s273), (3, sv_I s279)] [] (sv_sts (sv_up (sv_sts (sv_up (sv_up (sv_sts S [88, 89, 87, 1113, 5, 1011] g1) 88 l1_2 (0 : Int)) 89 l1_2 (0 : Int)) [1113] g272) 1011 0 (0 : Int)) [5, 1011] g310) := Eq.mpr (congrArg (fun Z => sv_T sm_XS sm_cs sm_L sm_sh 2 (q_findSorts S) 291 152 [(0, .ref 0), (1, sv_I l1_2), (2, sv_I s273), (3, sv_I s279)] [] Z) eS) hb
                      exact sv_less (lv := [(0, .ref 0), (1, sv_I l1_2), (2, sv_I s273), (3, sv_I s279)]) (sv_Sub_cons rfl (sv_Sub_cons rfl (sv_Sub_cons rfl (sv_Sub_cons rfl sv_Sub_nil)))) hb
                  have h := h.2
                  refine sv_aload_n hM dX12_findSorts_116 rfl rfl ?_
                  refine sv_getA hM dX12_findSorts_117 sm_fl_20 (sm_a0 _) sm_k6 rfl ?_
                  refine sv_iload_n hM dX12_findSorts_120 rfl rfl ?_
                  refine sv_iald hM dX12_findSorts_121 (sm_a4 _) (by decide) o84.1 o84.2 rfl (x := (S 4 l1_2)) rfl ?_
                  refine sv_cond_le hM dX12_findSorts_122 k85 (t := 136) rfl rfl (fun hc => ?_) (fun hc => ?_)
                  · have h := h.1 (hc)
                    refine sv_iconst (d := (0 : Int)) hM dX12_findSorts_136 rfl rfl ?_
                    have hb := J317 (0 : Int) (⟨by decide, by decide⟩ : sv_R (0 : Int)) h
                    exact sv_less (lv := [(0, .ref 0), (1, sv_I l1_2), (2, sv_I s273)]) (sv_Sub_cons rfl (sv_Sub_cons rfl (sv_Sub_cons rfl sv_Sub_nil))) hb
                  · have h := h.2 (hc)
                    refine sv_aload_n hM dX12_findSorts_125 rfl rfl ?_
                    have k318 : (0 ≤ (g272 1113 0) ∧ (g272 1113 0) ≤ 1) := sm_okZ ok274 sm_r1113 0
                    have h := h k318
                    refine sv_getI hM dX12_findSorts_126 sm_fl_806 (sm_a0 _) sm_k113 rfl (x := (g272 1113 0)) rfl ?_
                    refine sv_cond_eq hM dX12_findSorts_129 (sv_R01 k318) (t := 136) rfl rfl (fun hc => ?_) (fun hc => ?_)
                    · have h := h.1 (hc)
                      refine sv_iconst (d := (0 : Int)) hM dX12_findSorts_136 rfl rfl ?_
                      have hb := J317 (0 : Int) (⟨by decide, by decide⟩ : sv_R (0 : Int)) h
                      exact sv_less (lv := [(0, .ref 0), (1, sv_I l1_2), (2, sv_I s273)]) (sv_Sub_cons rfl (sv_Sub_cons rfl (sv_Sub_cons rfl sv_Sub_nil))) hb
                    · have h := h.2 (hc)
                      refine sv_iconst (d := (1 : Int)) hM dX12_findSorts_132 rfl rfl ?_
                      refine sv_goto hM dX12_findSorts_133 (pc' := 137) rfl ?_
                      have hb := J317 (1 : Int) (⟨by decide, by decide⟩ : sv_R (1 : Int)) h
                      exact sv_less (lv := [(0, .ref 0), (1, sv_I l1_2), (2, sv_I s273)]) (sv_Sub_cons rfl (sv_Sub_cons rfl (sv_Sub_cons rfl sv_Sub_nil))) hb
                have h := h.2
                refine sv_aload_n hM dX12_findSorts_97 rfl rfl ?_
                refine sv_getA hM dX12_findSorts_98 sm_fl_20 (sm_a0 _) sm_k6 rfl ?_
                refine sv_iload_n hM dX12_findSorts_101 rfl rfl ?_
                refine sv_iald hM dX12_findSorts_102 (sm_a4 _) (by decide) o84.1 o84.2 rfl (x := (S 4 l1_2)) rfl ?_
                refine sv_cond_le hM dX12_findSorts_103 k85 (t := 114) rfl rfl (fun hc => ?_) (fun hc => ?_)
                · have h := h.1 (hc)
                  refine sv_iconst (d := (0 : Int)) hM dX12_findSorts_114 rfl rfl ?_
                  have eS := sv_mod.eq (sv_mod.rf (l := [1113]) (S := (sv_up (sv_up (sv_sts S [88, 89, 87, 1113, 5, 1011] g1) 88 l1_2 (0 : Int)) 89 l1_2 (0 : Int))))
                  have hb := J319 (0 : Int) (⟨by decide, by decide⟩ : sv_R (0 : Int)) (sv_up (sv_up (sv_sts S [88, 89, 87, 1113, 5, 1011] g1) 88 l1_2 (0 : Int)) 89 l1_2 (0 : Int)) (by rw [← eS]; exact ok269) h
                  have hb : sv_T sm_XS sm_cs sm_L sm_sh 2 (q_findSorts S) 291 115 [(0, .ref 0), (1, sv_I l1_2)] [sv_I (0 : Int)] (sv_up (sv_up (sv_sts S [88, 89, 87, 1113, 5, 1011] g1) 88 l1_2 (0 : Int)) 89 l1_2 (0 : Int)) := Eq.mpr (congrArg (fun Z => sv_T sm_XS sm_cs sm_L sm_sh 2 (q_findSorts S) 291 115 [(0, .ref 0), (1, sv_I l1_2)] [sv_I (0 : Int)] Z) eS) hb
                  exact sv_less (lv := [(0, .ref 0), (1, sv_I l1_2)]) (sv_Sub_cons rfl (sv_Sub_cons rfl sv_Sub_nil)) hb
                · have h := h.2 (hc)
                  refine sv_aload_n hM dX12_findSorts_106 rfl rfl ?_
                  refine sv_iload_n hM dX12_findSorts_107 rfl rfl ?_
                  refine sv_callV hM dX12_findSorts_108 sm_iv_809 (by decide) (sm_a0 _) rfl rfl (Nat.le_of_ble_eq_true rfl) sm_h128 (Nat.le_of_ble_eq_true rfl) (Nat.le_of_ble_eq_true rfl) (F' := 1) (Nat.le_of_ble_eq_true rfl) rfl (t_numberOfString l1_2 (sv_up (sv_up (sv_sts S [88, 89, 87, 1113, 5, 1011] g1) 88 l1_2 (0 : Int)) 89 l1_2 (0 : Int)) ok269 hl1_2 o74) (fun v S1 hq => ?_)
                  obtain ⟨r324, rfl, hr324, ok321, md322, hpo323⟩ := hq
                  obtain ⟨g320, rfl⟩ : ∃ g, S1 = sv_sts (sv_up (sv_up (sv_sts S [88, 89, 87, 1113, 5, 1011] g1) 88 l1_2 (0 : Int)) 89 l1_2 (0 : Int)) [1113] g := ⟨_, md322.eq⟩
                  show sv_T sm_XS sm_cs sm_L sm_sh 2 (q_findSorts S) 291 111 [(0, .ref 0), (1, sv_I l1_2)] [sv_I r324] (sv_sts (sv_up (sv_up (sv_sts S [88, 89, 87, 1113, 5, 1011] g1) 88 l1_2 (0 : Int)) 89 l1_2 (0 : Int)) [1113] g320)
                  have md325 : sv_mod [88, 89, 87, 1113, 5, 1011, 90] S (sv_sts (sv_up (sv_up (sv_sts S [88, 89, 87, 1113, 5, 1011] g1) 88 l1_2 (0 : Int)) 89 l1_2 (0 : Int)) [1113] g320) := sv_mod.sts md270 (by decide)
                  have md326 : sv_mod [88, 89, 87, 1113, 5, 1011] S (sv_sts (sv_up (sv_up (sv_sts S [88, 89, 87, 1113, 5, 1011] g1) 88 l1_2 (0 : Int)) 89 l1_2 (0 : Int)) [1113] g320) := sv_mod.sts md271 (by decide)
                  have md327 : sv_mod [1113] (sv_up (sv_up (sv_sts S [88, 89, 87, 1113, 5, 1011] g1) 88 l1_2 (0 : Int)) 89 l1_2 (0 : Int)) (sv_sts (sv_up (sv_up (sv_sts S [88, 89, 87, 1113, 5, 1011] g1) 88 l1_2 (0 : Int)) 89 l1_2 (0 : Int)) [1113] g320) := sv_mod.sts (sv_mod.rf (l := [1113]) (S := (sv_up (sv_up (sv_sts S [88, 89, 87, 1113, 5, 1011] g1) 88 l1_2 (0 : Int)) 89 l1_2 (0 : Int)))) (by decide)
                  have h := h r324 hr324 g320 hpo323
                  refine sv_goto hM dX12_findSorts_111 (pc' := 115) rfl ?_
                  have eS := sv_mod.eq md327
                  have hb := J319 r324 hr324 (sv_sts (sv_up (sv_up (sv_sts S [88, 89, 87, 1113, 5, 1011] g1) 88 l1_2 (0 : Int)) 89 l1_2 (0 : Int)) [1113] g320) (by rw [← eS]; exact ok321) h
                  have hb : sv_T sm_XS sm_cs sm_L sm_sh 2 (q_findSorts S) 291 115 [(0, .ref 0), (1, sv_I l1_2)] [sv_I r324] (sv_sts (sv_up (sv_up (sv_sts S [88, 89, 87, 1113, 5, 1011] g1) 88 l1_2 (0 : Int)) 89 l1_2 (0 : Int)) [1113] g320) := Eq.mpr (congrArg (fun Z => sv_T sm_XS sm_cs sm_L sm_sh 2 (q_findSorts S) 291 115 [(0, .ref 0), (1, sv_I l1_2)] [sv_I r324] Z) eS) hb
                  exact sv_less (lv := [(0, .ref 0), (1, sv_I l1_2)]) (sv_Sub_cons rfl (sv_Sub_cons rfl sv_Sub_nil)) hb
              · have h := h.2 (hc)
                refine sv_iconst (d := (1 : Int)) hM dX12_findSorts_91 rfl rfl ?_
                refine sv_goto hM dX12_findSorts_92 (pc' := 96) rfl ?_
                refine sv_zast sm_X hM dX12_findSorts_96 (sm_a89 _) (by decide) o80.1 o80.2 (sv_nnZ (⟨by decide, by decide⟩ : 0 ≤ (1 : Int) ∧ (1 : Int) ≤ 1)) rfl ?_
                have ok328 : sm_ok (sv_up (sv_up (sv_sts S [88, 89, 87, 1113, 5, 1011] g1) 88 l1_2 (0 : Int)) 89 l1_2 (1 : Int)) := sm_upZ ok81 sm_r89 (⟨by decide, by decide⟩ : 0 ≤ (1 : Int) ∧ (1 : Int) ≤ 1)
                have md329 : sv_mod [88, 89, 87, 1113, 5, 1011, 90] S (sv_up (sv_up (sv_sts S [88, 89, 87, 1113, 5, 1011] g1) 88 l1_2 (0 : Int)) 89 l1_2 (1 : Int)) := sv_mod.up md82 (by decide)
                have md330 : sv_mod [88, 89, 87, 1113, 5, 1011] S (sv_up (sv_up (sv_sts S [88, 89, 87, 1113, 5, 1011] g1) 88 l1_2 (0 : Int)) 89 l1_2 (1 : Int)) := sv_mod.up md83 (by decide)
                have J378 : ∀ s332 : Int, sv_R s332 → ∀ g331 : sv_S, sm_ok (sv_sts (sv_up (sv_up (sv_sts S [88, 89, 87, 1113, 5, 1011] g1) 88 l1_2 (0 : Int)) 89 l1_2 (1 : Int)) [1113] g331) → (True) → sv_T sm_XS sm_cs sm_L sm_sh 2 (q_findSorts S) 291 115 [(0, .ref 0), (1, sv_I l1_2)] [sv_I s332] (sv_sts (sv_up (sv_up (sv_sts S [88, 89, 87, 1113, 5, 1011] g1) 88 l1_2 (0 : Int)) 89 l1_2 (1 : Int)) [1113] g331) := by
                  intro s332 hs332 g331 ok333 hin334
                  have h := h.1 s332 hs332 g331 hin334
                  have md335 : sv_mod [88, 89, 87, 1113, 5, 1011, 90] S (sv_sts (sv_up (sv_up (sv_sts S [88, 89, 87, 1113, 5, 1011] g1) 88 l1_2 (0 : Int)) 89 l1_2 (1 : Int)) [1113] g331) := sv_mod.sts md329 (by decide)
                  have md336 : sv_mod [88, 89, 87, 1113, 5, 1011] S (sv_sts (sv_up (sv_up (sv_sts S [88, 89, 87, 1113, 5, 1011] g1) 88 l1_2 (0 : Int)) 89 l1_2 (1 : Int)) [1113] g331) := sv_mod.sts md330 (by decide)
                  have md337 : sv_mod [1113] (sv_up (sv_up (sv_sts S [88, 89, 87, 1113, 5, 1011] g1) 88 l1_2 (0 : Int)) 89 l1_2 (1 : Int)) (sv_sts (sv_up (sv_up (sv_sts S [88, 89, 87, 1113, 5, 1011] g1) 88 l1_2 (0 : Int)) 89 l1_2 (1 : Int)) [1113] g331) := sv_mod.sts sv_mod.rf (by decide)
                  refine sv_istore_n hM dX12_findSorts_115 (by decide) rfl ?_
                  show sv_T sm_XS sm_cs sm_L sm_sh 2 (q_findSorts S) 291 116 [(0, .ref 0), (1, sv_I l1_2), (2, sv_I s332)] [] (sv_sts (sv_up (sv_up (sv_sts S [88, 89, 87, 1113, 5, 1011] g1) 88 l1_2 (0 : Int)) 89 l1_2 (1 : Int)) [1113] g331)
                  have J376 : ∀ s338 : Int, sv_R s338 → (s338 = 0 ∨ s338 = 1) → sv_T sm_XS sm_cs sm_L sm_sh 2 (q_findSorts S) 291 137 [(0, .ref 0), (1, sv_I l1_2), (2, sv_I s332)] [sv_I s338] (sv_sts (sv_up (sv_up (sv_sts S [88, 89, 87, 1113, 5, 1011] g1) 88 l1_2 (0 : Int)) 89 l1_2 (1 : Int)) [1113] g331) := by
                    intro s338 hs338 hin339
                    have h := h.1 s338 hs338 hin339
                    refine sv_istore_n hM dX12_findSorts_137 (by decide) rfl ?_
                    show sv_T sm_XS sm_cs sm_L sm_sh 2 (q_findSorts S) 291 138 [(0, .ref 0), (1, sv_I l1_2), (2, sv_I s332), (3, sv_I s338)] [] (sv_sts (sv_up (sv_up (sv_sts S [88, 89, 87, 1113, 5, 1011] g1) 88 l1_2 (0 : Int)) 89 l1_2 (1 : Int)) [1113] g331)
                    refine sv_aload_n hM dX12_findSorts_138 rfl rfl ?_
                    refine sv_iconst (d := (0 : Int)) hM dX12_findSorts_139 rfl rfl ?_
                    refine sv_putI sm_X hM dX12_findSorts_140 sm_fp_299 (sm_a0 _) sm_q11 (Or.inl rfl) rfl rfl rfl rfl ?_
                    have ok340 : sm_ok (sv_up (sv_sts (sv_up (sv_up (sv_sts S [88, 89, 87, 1113, 5, 1011] g1) 88 l1_2 (0 : Int)) 89 l1_2 (1 : Int)) [1113] g331) 1011 0 (0 : Int)) := sm_upI ok333 sm_r1011 (⟨by decide, by decide⟩ : sv_R (0 : Int))
                    have md341 : sv_mod [88, 89, 87, 1113, 5, 1011, 90] S (sv_up (sv_sts (sv_up (sv_up (sv_sts S [88, 89, 87, 1113, 5, 1011] g1) 88 l1_2 (0 : Int)) 89 l1_2 (1 : Int)) [1113] g331) 1011 0 (0 : Int)) := sv_mod.up md335 (by decide)
                    have md342 : sv_mod [88, 89, 87, 1113, 5, 1011] S (sv_up (sv_sts (sv_up (sv_up (sv_sts S [88, 89, 87, 1113, 5, 1011] g1) 88 l1_2 (0 : Int)) 89 l1_2 (1 : Int)) [1113] g331) 1011 0 (0 : Int)) := sv_mod.up md336 (by decide)
                    have J367 : ∀ g343 : sv_S, sm_ok (sv_sts (sv_up (sv_sts (sv_up (sv_up (sv_sts S [88, 89, 87, 1113, 5, 1011] g1) 88 l1_2 (0 : Int)) 89 l1_2 (1 : Int)) [1113] g331) 1011 0 (0 : Int)) [5, 1011] g343) → (0 ≤ (g343 1011 0) ∧ (g343 1011 0) ≤ 200) → sv_T sm_XS sm_cs sm_L sm_sh 2 (q_findSorts S) 291 152 [(0, .ref 0), (1, sv_I l1_2), (2, sv_I s332), (3, sv_I s338)] [] (sv_sts (sv_up (sv_sts (sv_up (sv_up (sv_sts S [88, 89, 87, 1113, 5, 1011] g1) 88 l1_2 (0 : Int)) 89 l1_2 (1 : Int)) [1113] g331) 1011 0 (0 : Int)) [5, 1011] g343) := by
                      intro  g343 ok344 hin345
                      have h := h.1 g343 hin345
                      have md346 : sv_mod [88, 89, 87, 1113, 5, 1011, 90] S (sv_sts (sv_up (sv_sts (sv_up (sv_up (sv_sts S [88, 89, 87, 1113, 5, 1011] g1) 88 l1_2 (0 : Int)) 89 l1_2 (1 : Int)) [1113] g331) 1011 0 (0 : Int)) [5, 1011] g343) := sv_mod.sts md341 (by decide)
                      have md347 : sv_mod [88, 89, 87, 1113, 5, 1011] S (sv_sts (sv_up (sv_sts (sv_up (sv_up (sv_sts S [88, 89, 87, 1113, 5, 1011] g1) 88 l1_2 (0 : Int)) 89 l1_2 (1 : Int)) [1113] g331) 1011 0 (0 : Int)) [5, 1011] g343) := sv_mod.sts md342 (by decide)
                      have md348 : sv_mod [5, 1011] (sv_up (sv_sts (sv_up (sv_up (sv_sts S [88, 89, 87, 1113, 5, 1011] g1) 88 l1_2 (0 : Int)) 89 l1_2 (1 : Int)) [1113] g331) 1011 0 (0 : Int)) (sv_sts (sv_up (sv_sts (sv_up (sv_up (sv_sts S [88, 89, 87, 1113, 5, 1011] g1) 88 l1_2 (0 : Int)) 89 l1_2 (1 : Int)) [1113] g331) 1011 0 (0 : Int)) [5, 1011] g343) := sv_mod.sts sv_mod.rf (by decide)
                      refine sv_aload_n hM dX12_findSorts_152 rfl rfl ?_
                      refine sv_getA hM dX12_findSorts_153 sm_fl_274 (sm_a0 _) sm_k139 rfl ?_
                      refine sv_iload_n hM dX12_findSorts_156 rfl rfl ?_
                      refine sv_iload_n hM dX12_findSorts_157 rfl rfl ?_
                      refine sv_cond_eq hM dX12_findSorts_158 hs338 (t := 173) rfl rfl (fun hc => ?_) (fun hc => ?_)
                      · have h := h.1 (hc)
                        refine sv_iconst (d := (0 : Int)) hM dX12_findSorts_173 rfl rfl ?_
                        refine sv_zast sm_X hM dX12_findSorts_174 (sm_a87 _) (by decide) o80.1 o80.2 (sv_nnZ (⟨by decide, by decide⟩ : 0 ≤ (0 : Int) ∧ (0 : Int) ≤ 1)) rfl ?_
                        have ok349 : sm_ok (sv_up (sv_sts (sv_up (sv_sts (sv_up (sv_up (sv_sts S [88, 89, 87, 1113, 5, 1011] g1) 88 l1_2 (0 : Int)) 89 l1_2 (1 : Int)) [1113] g331) 1011 0 (0 : Int)) [5, 1011] g343) 87 l1_2 (0 : Int)) := sm_upZ ok344 sm_r87 (⟨by decide, by decide⟩ : 0 ≤ (0 : Int) ∧ (0 : Int) ≤ 1)
                        have md350 : sv_mod [88, 89, 87, 1113, 5, 1011, 90] S (sv_up (sv_sts (sv_up (sv_sts (sv_up (sv_up (sv_sts S [88, 89, 87, 1113, 5, 1011] g1) 88 l1_2 (0 : Int)) 89 l1_2 (1 : Int)) [1113] g331) 1011 0 (0 : Int)) [5, 1011] g343) 87 l1_2 (0 : Int)) := sv_mod.up md346 (by decide)
                        have md351 : sv_mod [88, 89, 87, 1113, 5, 1011] S (sv_up (sv_sts (sv_up (sv_sts (sv_up (sv_up (sv_sts S [88, 89, 87, 1113, 5, 1011] g1) 88 l1_2 (0 : Int)) 89 l1_2 (1 : Int)) [1113] g331) 1011 0 (0 : Int)) [5, 1011] g343) 87 l1_2 (0 : Int)) := sv_mod.up md347 (by decide)
                        refine sv_iinc (d := (1 : Int)) hM dX12_findSorts_175 rfl (by decide) rfl rfl ?_
                        show sv_T sm_XS sm_cs sm_L sm_sh 2 (q_findSorts S) 291 178 [(0, .ref 0), (1, sv_I (l1_2 + (1 : Int))), (2, sv_I s332), (3, sv_I s338)] [] (sv_up (sv_sts (sv_up (sv_sts (sv_up (sv_up (sv_sts S [88, 89, 87, 1113, 5, 1011] g1) 88 l1_2 (0 : Int)) 89 l1_2 (1 : Int)) [1113] g331) 1011 0 (0 : Int)) [5, 1011] g343) 87 l1_2 (0 : Int))
                        refine sv_goto hM dX12_findSorts_178 (pc' := 2) rfl ?_
                        obtain ⟨o352, h⟩ := h
                        have eS := sv_mod.eq md351
                        have hb := ih3 ((l1_2 + (1 : Int)), (sv_up (sv_sts (sv_up (sv_sts (sv_up (sv_up (sv_sts S [88, 89, 87, 1113, 5, 1011] g1) 88 l1_2 (0 : Int)) 89 l1_2 (1 : Int)) [1113] g331) 1011 0 (0 : Int)) [5, 1011] g343) 87 l1_2 (0 : Int))) ⟨o352, (by rw [← eS]; exact ok349), h.1⟩ h.2
                        have hb : sv_T sm_XS sm_cs sm_L sm_sh 2 (q_findSorts S) 291 2 [(0, .ref 0), (1, sv_I (l1_2 + (1 : Int)))] [] (sv_up (sv_sts (sv_up (sv_sts (sv_up (sv_up (sv_sts S [88, 89, 87, 1113, 5, 1011] g1) 88 l1_2 (0 : Int)) 89 l1_2 (1 : Int)) [1113] g331) 1011 0 (0 : Int)) [5, 1011] g343) 87 l1_2 (0 : Int)) := Eq.mpr (congrArg (fun Z => sv_T sm_XS sm_cs sm_L sm_sh 2 (q_findSorts S) 291 2 [(0, .ref 0), (1, sv_I (l1_2 + (1 : Int)))] [] Z) eS) hb
                        exact sv_less (lv := [(0, .ref 0), (1, sv_I (l1_2 + (1 : Int)))]) (sv_Sub_cons rfl (sv_Sub_cons rfl sv_Sub_nil)) hb
                      · have h := h.2 (hc)
                        refine sv_aload_n hM dX12_findSorts_161 rfl rfl ?_
                        obtain ⟨o353, h⟩ := h
                        refine sv_callV hM dX12_findSorts_162 sm_iv_302 (by decide) (sm_a0 _) rfl rfl (Nat.le_of_ble_eq_true rfl) sm_h5 (Nat.le_of_ble_eq_true rfl) (Nat.le_of_ble_eq_true rfl) (F' := 0) (Nat.le_of_ble_eq_true rfl) rfl (t_findText  (sv_sts (sv_up (sv_sts (sv_up (sv_up (sv_sts S [88, 89, 87, 1113, 5, 1011] g1) 88 l1_2 (0 : Int)) 89 l1_2 (1 : Int)) [1113] g331) 1011 0 (0 : Int)) [5, 1011] g343) ok344 o353) (fun v S1 hq => ?_)
                        obtain ⟨r358, rfl, hr358, ok355, md356, hpo357⟩ := hq
                        obtain rfl : (sv_sts (sv_up (sv_sts (sv_up (sv_up (sv_sts S [88, 89, 87, 1113, 5, 1011] g1) 88 l1_2 (0 : Int)) 89 l1_2 (1 : Int)) [1113] g331) 1011 0 (0 : Int)) [5, 1011] g343) = S1 := (funext fun j => md356 j (by intro q; cases q)).symm
                        show sv_T sm_XS sm_cs sm_L sm_sh 2 (q_findSorts S) 291 165 [(0, .ref 0), (1, sv_I l1_2), (2, sv_I s332), (3, sv_I s338)] [sv_I r358, sv_I l1_2, .ref 87] (sv_sts (sv_up (sv_sts (sv_up (sv_up (sv_sts S [88, 89, 87, 1113, 5, 1011] g1) 88 l1_2 (0 : Int)) 89 l1_2 (1 : Int)) [1113] g331) 1011 0 (0 : Int)) [5, 1011] g343)
                        have h := h r358 hr358 hpo357
                        refine sv_iload_n hM dX12_findSorts_165 rfl rfl ?_
                        refine sv_icmp_ne hM dX12_findSorts_166 hr358 hl1_2 (t := 173) rfl rfl (fun hc => ?_) (fun hc => ?_)
                        · have h := h.1 (hc)
                          refine sv_iconst (d := (0 : Int)) hM dX12_findSorts_173 rfl rfl ?_
                          refine sv_zast sm_X hM dX12_findSorts_174 (sm_a87 _) (by decide) o80.1 o80.2 (sv_nnZ (⟨by decide, by decide⟩ : 0 ≤ (0 : Int) ∧ (0 : Int) ≤ 1)) rfl ?_
                          have ok359 : sm_ok (sv_up (sv_sts (sv_up (sv_sts (sv_up (sv_up (sv_sts S [88, 89, 87, 1113, 5, 1011] g1) 88 l1_2 (0 : Int)) 89 l1_2 (1 : Int)) [1113] g331) 1011 0 (0 : Int)) [5, 1011] g343) 87 l1_2 (0 : Int)) := sm_upZ ok355 sm_r87 (⟨by decide, by decide⟩ : 0 ≤ (0 : Int) ∧ (0 : Int) ≤ 1)
                          have md360 : sv_mod [88, 89, 87, 1113, 5, 1011, 90] S (sv_up (sv_sts (sv_up (sv_sts (sv_up (sv_up (sv_sts S [88, 89, 87, 1113, 5, 1011] g1) 88 l1_2 (0 : Int)) 89 l1_2 (1 : Int)) [1113] g331) 1011 0 (0 : Int)) [5, 1011] g343) 87 l1_2 (0 : Int)) := sv_mod.up md346 (by decide)
                          have md361 : sv_mod [88, 89, 87, 1113, 5, 1011] S (sv_up (sv_sts (sv_up (sv_sts (sv_up (sv_up (sv_sts S [88, 89, 87, 1113, 5, 1011] g1) 88 l1_2 (0 : Int)) 89 l1_2 (1 : Int)) [1113] g331) 1011 0 (0 : Int)) [5, 1011] g343) 87 l1_2 (0 : Int)) := sv_mod.up md347 (by decide)
                          refine sv_iinc (d := (1 : Int)) hM dX12_findSorts_175 rfl (by decide) rfl rfl ?_
                          show sv_T sm_XS sm_cs sm_L sm_sh 2 (q_findSorts S) 291 178 [(0, .ref 0), (1, sv_I (l1_2 + (1 : Int))), (2, sv_I s332), (3, sv_I s338)] [] (sv_up (sv_sts (sv_up (sv_sts (sv_up (sv_up (sv_sts S [88, 89, 87, 1113, 5, 1011] g1) 88 l1_2 (0 : Int)) 89 l1_2 (1 : Int)) [1113] g331) 1011 0 (0 : Int)) [5, 1011] g343) 87 l1_2 (0 : Int))
                          refine sv_goto hM dX12_findSorts_178 (pc' := 2) rfl ?_
                          obtain ⟨o362, h⟩ := h
                          have eS := sv_mod.eq md361
                          have hb := ih3 ((l1_2 + (1 : Int)), (sv_up (sv_sts (sv_up (sv_sts (sv_up (sv_up (sv_sts S [88, 89, 87, 1113, 5, 1011] g1) 88 l1_2 (0 : Int)) 89 l1_2 (1 : Int)) [1113] g331) 1011 0 (0 : Int)) [5, 1011] g343) 87 l1_2 (0 : Int))) ⟨o362, (by rw [← eS]; exact ok359), h.1⟩ h.2
                          have hb : sv_T sm_XS sm_cs sm_L sm_sh 2 (q_findSorts S) 291 2 [(0, .ref 0), (1, sv_I (l1_2 + (1 : Int)))] [] (sv_up (sv_sts (sv_up (sv_sts (sv_up (sv_up (sv_sts S [88, 89, 87, 1113, 5, 1011] g1) 88 l1_2 (0 : Int)) 89 l1_2 (1 : Int)) [1113] g331) 1011 0 (0 : Int)) [5, 1011] g343) 87 l1_2 (0 : Int)) := Eq.mpr (congrArg (fun Z => sv_T sm_XS sm_cs sm_L sm_sh 2 (q_findSorts S) 291 2 [(0, .ref 0), (1, sv_I (l1_2 + (1 : Int)))] [] Z) eS) hb
                          exact sv_less (lv := [(0, .ref 0), (1, sv_I (l1_2 + (1 : Int)))]) (sv_Sub_cons rfl (sv_Sub_cons rfl sv_Sub_nil)) hb
                        · have h := h.2 (hc)
                          refine sv_iconst (d := (1 : Int)) hM dX12_findSorts_169 rfl rfl ?_
                          refine sv_goto hM dX12_findSorts_170 (pc' := 174) rfl ?_
                          refine sv_zast sm_X hM dX12_findSorts_174 (sm_a87 _) (by decide) o80.1 o80.2 (sv_nnZ (⟨by decide, by decide⟩ : 0 ≤ (1 : Int) ∧ (1 : Int) ≤ 1)) rfl ?_
                          have ok363 : sm_ok (sv_up (sv_sts (sv_up (sv_sts (sv_up (sv_up (sv_sts S [88, 89, 87, 1113, 5, 1011] g1) 88 l1_2 (0 : Int)) 89 l1_2 (1 : Int)) [1113] g331) 1011 0 (0 : Int)) [5, 1011] g343) 87 l1_2 (1 : Int)) := sm_upZ ok355 sm_r87 (⟨by decide, by decide⟩ : 0 ≤ (1 : Int) ∧ (1 : Int) ≤ 1)
                          have md364 : sv_mod [88, 89, 87, 1113, 5, 1011, 90] S (sv_up (sv_sts (sv_up (sv_sts (sv_up (sv_up (sv_sts S [88, 89, 87, 1113, 5, 1011] g1) 88 l1_2 (0 : Int)) 89 l1_2 (1 : Int)) [1113] g331) 1011 0 (0 : Int)) [5, 1011] g343) 87 l1_2 (1 : Int)) := sv_mod.up md346 (by decide)
                          have md365 : sv_mod [88, 89, 87, 1113, 5, 1011] S (sv_up (sv_sts (sv_up (sv_sts (sv_up (sv_up (sv_sts S [88, 89, 87, 1113, 5, 1011] g1) 88 l1_2 (0 : Int)) 89 l1_2 (1 : Int)) [1113] g331) 1011 0 (0 : Int)) [5, 1011] g343) 87 l1_2 (1 : Int)) := sv_mod.up md347 (by decide)
                          refine sv_iinc (d := (1 : Int)) hM dX12_findSorts_175 rfl (by decide) rfl rfl ?_
                          show sv_T sm_XS sm_cs sm_L sm_sh 2 (q_findSorts S) 291 178 [(0, .ref 0), (1, sv_I (l1_2 + (1 : Int))), (2, sv_I s332), (3, sv_I s338)] [] (sv_up (sv_sts (sv_up (sv_sts (sv_up (sv_up (sv_sts S [88, 89, 87, 1113, 5, 1011] g1) 88 l1_2 (0 : Int)) 89 l1_2 (1 : Int)) [1113] g331) 1011 0 (0 : Int)) [5, 1011] g343) 87 l1_2 (1 : Int))
                          refine sv_goto hM dX12_findSorts_178 (pc' := 2) rfl ?_
                          obtain ⟨o366, h⟩ := h
                          have eS := sv_mod.eq md365
                          have hb := ih3 ((l1_2 + (1 : Int)), (sv_up (sv_sts (sv_up (sv_sts (sv_up (sv_up (sv_sts S [88, 89, 87, 1113, 5, 1011] g1) 88 l1_2 (0 : Int)) 89 l1_2 (1 : Int)) [1113] g331) 1011 0 (0 : Int)) [5, 1011] g343) 87 l1_2 (1 : Int))) ⟨o366, (by rw [← eS]; exact ok363), h.1⟩ h.2
                          have hb : sv_T sm_XS sm_cs sm_L sm_sh 2 (q_findSorts S) 291 2 [(0, .ref 0), (1, sv_I (l1_2 + (1 : Int)))] [] (sv_up (sv_sts (sv_up (sv_sts (sv_up (sv_up (sv_sts S [88, 89, 87, 1113, 5, 1011] g1) 88 l1_2 (0 : Int)) 89 l1_2 (1 : Int)) [1113] g331) 1011 0 (0 : Int)) [5, 1011] g343) 87 l1_2 (1 : Int)) := Eq.mpr (congrArg (fun Z => sv_T sm_XS sm_cs sm_L sm_sh 2 (q_findSorts S) 291 2 [(0, .ref 0), (1, sv_I (l1_2 + (1 : Int)))] [] Z) eS) hb
                          exact sv_less (lv := [(0, .ref 0), (1, sv_I (l1_2 + (1 : Int)))]) (sv_Sub_cons rfl (sv_Sub_cons rfl sv_Sub_nil)) hb
                    have h := h.2
                    refine sv_iload_n hM dX12_findSorts_143 rfl rfl ?_
                    refine sv_cond_eq hM dX12_findSorts_144 hs338 (t := 152) rfl rfl (fun hc => ?_) (fun hc => ?_)
                    · have h := h.1 (hc)
                      have eS := sv_mod.eq (sv_mod.rf (l := [5, 1011]) (S := (sv_up (sv_sts (sv_up (sv_up (sv_sts S [88, 89, 87, 1113, 5, 1011] g1) 88 l1_2 (0 : Int)) 89 l1_2 (1 : Int)) [1113] g331) 1011 0 (0 : Int))))
                      have hb := J367 (sv_up (sv_sts (sv_up (sv_up (sv_sts S [88, 89, 87, 1113, 5, 1011] g1) 88 l1_2 (0 : Int)) 89 l1_2 (1 : Int)) [1113] g331) 1011 0 (0 : Int)) (by rw [← eS]; exact ok340) h
                      have hb : sv_T sm_XS sm_cs sm_L sm_sh 2 (q_findSorts S) 291 152 [(0, .ref 0), (1, sv_I l1_2), (2, sv_I s332), (3, sv_I s338)] [] (sv_up (sv_sts (sv_up (sv_up (sv_sts S [88, 89, 87, 1113, 5, 1011] g1) 88 l1_2 (0 : Int)) 89 l1_2 (1 : Int)) [1113] g331) 1011 0 (0 : Int)) := Eq.mpr (congrArg (fun Z => sv_T sm_XS sm_cs sm_L sm_sh 2 (q_findSorts S) 291 152 [(0, .ref 0), (1, sv_I l1_2), (2, sv_I s332), (3, sv_I s338)] [] Z) eS) hb
                      exact sv_less (lv := [(0, .ref 0), (1, sv_I l1_2), (2, sv_I s332), (3, sv_I s338)]) (sv_Sub_cons rfl (sv_Sub_cons rfl (sv_Sub_cons rfl (sv_Sub_cons rfl sv_Sub_nil)))) hb
                    · have h := h.2 (hc)
                      refine sv_aload_n hM dX12_findSorts_147 rfl rfl ?_
                      refine sv_iload_n hM dX12_findSorts_148 rfl rfl ?_
                      obtain ⟨o368, h⟩ := h
                      refine sv_callV hM dX12_findSorts_149 sm_iv_410 (by decide) (sm_a0 _) rfl rfl (Nat.le_of_ble_eq_true rfl) sm_h31 (Nat.le_of_ble_eq_true rfl) (Nat.le_of_ble_eq_true rfl) (F' := 1) (Nat.le_of_ble_eq_true rfl) rfl (t_putNumber s332 (sv_up (sv_sts (sv_up (sv_up (sv_sts S [88, 89, 87, 1113, 5, 1011] g1) 88 l1_2 (0 : Int)) 89 l1_2 (1 : Int)) [1113] g331) 1011 0 (0 : Int)) ok340 hs332 o368) (fun v S1 hq => ?_)
                      obtain ⟨rfl, ok370, md371, hpo372⟩ := hq
                      obtain ⟨g369, rfl⟩ : ∃ g, S1 = sv_sts (sv_up (sv_sts (sv_up (sv_up (sv_sts S [88, 89, 87, 1113, 5, 1011] g1) 88 l1_2 (0 : Int)) 89 l1_2 (1 : Int)) [1113] g331) 1011 0 (0 : Int)) [5, 1011] g := ⟨_, md371.eq⟩
                      show sv_T sm_XS sm_cs sm_L sm_sh 2 (q_findSorts S) 291 152 [(0, .ref 0), (1, sv_I l1_2), (2, sv_I s332), (3, sv_I s338)] [] (sv_sts (sv_up (sv_sts (sv_up (sv_up (sv_sts S [88, 89, 87, 1113, 5, 1011] g1) 88 l1_2 (0 : Int)) 89 l1_2 (1 : Int)) [1113] g331) 1011 0 (0 : Int)) [5, 1011] g369)
                      have md373 : sv_mod [88, 89, 87, 1113, 5, 1011, 90] S (sv_sts (sv_up (sv_sts (sv_up (sv_up (sv_sts S [88, 89, 87, 1113, 5, 1011] g1) 88 l1_2 (0 : Int)) 89 l1_2 (1 : Int)) [1113] g331) 1011 0 (0 : Int)) [5, 1011] g369) := sv_mod.sts md341 (by decide)
                      have md374 : sv_mod [88, 89, 87, 1113, 5, 1011] S (sv_sts (sv_up (sv_sts (sv_up (sv_up (sv_sts S [88, 89, 87, 1113, 5, 1011] g1) 88 l1_2 (0 : Int)) 89 l1_2 (1 : Int)) [1113] g331) 1011 0 (0 : Int)) [5, 1011] g369) := sv_mod.sts md342 (by decide)
                      have md375 : sv_mod [5, 1011] (sv_up (sv_sts (sv_up (sv_up (sv_sts S [88, 89, 87, 1113, 5, 1011] g1) 88 l1_2 (0 : Int)) 89 l1_2 (1 : Int)) [1113] g331) 1011 0 (0 : Int)) (sv_sts (sv_up (sv_sts (sv_up (sv_up (sv_sts S [88, 89, 87, 1113, 5, 1011] g1) 88 l1_2 (0 : Int)) 89 l1_2 (1 : Int)) [1113] g331) 1011 0 (0 : Int)) [5, 1011] g369) := sv_mod.sts (sv_mod.rf (l := [5, 1011]) (S := (sv_up (sv_sts (sv_up (sv_up (sv_sts S [88, 89, 87, 1113, 5, 1011] g1) 88 l1_2 (0 : Int)) 89 l1_2 (1 : Int)) [1113] g331) 1011 0 (0 : Int)))) (by decide)
                      have h := h g369 hpo372
                      have eS := sv_mod.eq md375
                      have hb := J367 (sv_sts (sv_up (sv_sts (sv_up (sv_up (sv_sts S [88, 89, 87, 1113, 5, 1011] g1) 88 l1_2 (0 : Int)) 89 l1_2 (1 : Int)) [1113] g331) 1011 0 (0 : Int)) [5, 1011] g369) (by rw [← eS]; exact ok370) h
                      have hb : sv_T sm_XS sm_cs sm_L sm_sh 2 (q_findSorts S) 291 152 [(0, .ref 0), (1, sv_I l1_2), (2, sv_I s332), (3, sv_I s338)] [] (sv_sts (sv_up (sv_sts (sv_up (sv_up (sv_sts S [88, 89, 87, 1113, 5, 1011] g1) 88 l1_2 (0 : Int)) 89 l1_2 (1 : Int)) [1113] g331) 1011 0 (0 : Int)) [5, 1011] g369) := Eq.mpr (congrArg (fun Z => sv_T sm_XS sm_cs sm_L sm_sh 2 (q_findSorts S) 291 152 [(0, .ref 0), (1, sv_I l1_2), (2, sv_I s332), (3, sv_I s338)] [] Z) eS) hb
                      exact sv_less (lv := [(0, .ref 0), (1, sv_I l1_2), (2, sv_I s332), (3, sv_I s338)]) (sv_Sub_cons rfl (sv_Sub_cons rfl (sv_Sub_cons rfl (sv_Sub_cons rfl sv_Sub_nil)))) hb
                  have h := h.2
                  refine sv_aload_n hM dX12_findSorts_116 rfl rfl ?_
                  refine sv_getA hM dX12_findSorts_117 sm_fl_20 (sm_a0 _) sm_k6 rfl ?_
                  refine sv_iload_n hM dX12_findSorts_120 rfl rfl ?_
                  refine sv_iald hM dX12_findSorts_121 (sm_a4 _) (by decide) o84.1 o84.2 rfl (x := (S 4 l1_2)) rfl ?_
                  refine sv_cond_le hM dX12_findSorts_122 k85 (t := 136) rfl rfl (fun hc => ?_) (fun hc => ?_)
                  · have h := h.1 (hc)
                    refine sv_iconst (d := (0 : Int)) hM dX12_findSorts_136 rfl rfl ?_
                    have hb := J376 (0 : Int) (⟨by decide, by decide⟩ : sv_R (0 : Int)) h
                    exact sv_less (lv := [(0, .ref 0), (1, sv_I l1_2), (2, sv_I s332)]) (sv_Sub_cons rfl (sv_Sub_cons rfl (sv_Sub_cons rfl sv_Sub_nil))) hb
                  · have h := h.2 (hc)
                    refine sv_aload_n hM dX12_findSorts_125 rfl rfl ?_
                    have k377 : (0 ≤ (g331 1113 0) ∧ (g331 1113 0) ≤ 1) := sm_okZ ok333 sm_r1113 0
                    have h := h k377
                    refine sv_getI hM dX12_findSorts_126 sm_fl_806 (sm_a0 _) sm_k113 rfl (x := (g331 1113 0)) rfl ?_
                    refine sv_cond_eq hM dX12_findSorts_129 (sv_R01 k377) (t := 136) rfl rfl (fun hc => ?_) (fun hc => ?_)
                    · have h := h.1 (hc)
                      refine sv_iconst (d := (0 : Int)) hM dX12_findSorts_136 rfl rfl ?_
                      have hb := J376 (0 : Int) (⟨by decide, by decide⟩ : sv_R (0 : Int)) h
                      exact sv_less (lv := [(0, .ref 0), (1, sv_I l1_2), (2, sv_I s332)]) (sv_Sub_cons rfl (sv_Sub_cons rfl (sv_Sub_cons rfl sv_Sub_nil))) hb
                    · have h := h.2 (hc)
                      refine sv_iconst (d := (1 : Int)) hM dX12_findSorts_132 rfl rfl ?_
                      refine sv_goto hM dX12_findSorts_133 (pc' := 137) rfl ?_
                      have hb := J376 (1 : Int) (⟨by decide, by decide⟩ : sv_R (1 : Int)) h
                      exact sv_less (lv := [(0, .ref 0), (1, sv_I l1_2), (2, sv_I s332)]) (sv_Sub_cons rfl (sv_Sub_cons rfl (sv_Sub_cons rfl sv_Sub_nil))) hb
                have h := h.2
                refine sv_aload_n hM dX12_findSorts_97 rfl rfl ?_
                refine sv_getA hM dX12_findSorts_98 sm_fl_20 (sm_a0 _) sm_k6 rfl ?_
                refine sv_iload_n hM dX12_findSorts_101 rfl rfl ?_
                refine sv_iald hM dX12_findSorts_102 (sm_a4 _) (by decide) o84.1 o84.2 rfl (x := (S 4 l1_2)) rfl ?_
                refine sv_cond_le hM dX12_findSorts_103 k85 (t := 114) rfl rfl (fun hc => ?_) (fun hc => ?_)
                · have h := h.1 (hc)
                  refine sv_iconst (d := (0 : Int)) hM dX12_findSorts_114 rfl rfl ?_
                  have eS := sv_mod.eq (sv_mod.rf (l := [1113]) (S := (sv_up (sv_up (sv_sts S [88, 89, 87, 1113, 5, 1011] g1) 88 l1_2 (0 : Int)) 89 l1_2 (1 : Int))))
                  have hb := J378 (0 : Int) (⟨by decide, by decide⟩ : sv_R (0 : Int)) (sv_up (sv_up (sv_sts S [88, 89, 87, 1113, 5, 1011] g1) 88 l1_2 (0 : Int)) 89 l1_2 (1 : Int)) (by rw [← eS]; exact ok328) h
                  have hb : sv_T sm_XS sm_cs sm_L sm_sh 2 (q_findSorts S) 291 115 [(0, .ref 0), (1, sv_I l1_2)] [sv_I (0 : Int)] (sv_up (sv_up (sv_sts S [88, 89, 87, 1113, 5, 1011] g1) 88 l1_2 (0 : Int)) 89 l1_2 (1 : Int)) := Eq.mpr (congrArg (fun Z => sv_T sm_XS sm_cs sm_L sm_sh 2 (q_findSorts S) 291 115 [(0, .ref 0), (1, sv_I l1_2)] [sv_I (0 : Int)] Z) eS) hb
                  exact sv_less (lv := [(0, .ref 0), (1, sv_I l1_2)]) (sv_Sub_cons rfl (sv_Sub_cons rfl sv_Sub_nil)) hb
                · have h := h.2 (hc)
                  refine sv_aload_n hM dX12_findSorts_106 rfl rfl ?_
                  refine sv_iload_n hM dX12_findSorts_107 rfl rfl ?_
                  refine sv_callV hM dX12_findSorts_108 sm_iv_809 (by decide) (sm_a0 _) rfl rfl (Nat.le_of_ble_eq_true rfl) sm_h128 (Nat.le_of_ble_eq_true rfl) (Nat.le_of_ble_eq_true rfl) (F' := 1) (Nat.le_of_ble_eq_true rfl) rfl (t_numberOfString l1_2 (sv_up (sv_up (sv_sts S [88, 89, 87, 1113, 5, 1011] g1) 88 l1_2 (0 : Int)) 89 l1_2 (1 : Int)) ok328 hl1_2 o74) (fun v S1 hq => ?_)
                  obtain ⟨r383, rfl, hr383, ok380, md381, hpo382⟩ := hq
                  obtain ⟨g379, rfl⟩ : ∃ g, S1 = sv_sts (sv_up (sv_up (sv_sts S [88, 89, 87, 1113, 5, 1011] g1) 88 l1_2 (0 : Int)) 89 l1_2 (1 : Int)) [1113] g := ⟨_, md381.eq⟩
                  show sv_T sm_XS sm_cs sm_L sm_sh 2 (q_findSorts S) 291 111 [(0, .ref 0), (1, sv_I l1_2)] [sv_I r383] (sv_sts (sv_up (sv_up (sv_sts S [88, 89, 87, 1113, 5, 1011] g1) 88 l1_2 (0 : Int)) 89 l1_2 (1 : Int)) [1113] g379)
                  have md384 : sv_mod [88, 89, 87, 1113, 5, 1011, 90] S (sv_sts (sv_up (sv_up (sv_sts S [88, 89, 87, 1113, 5, 1011] g1) 88 l1_2 (0 : Int)) 89 l1_2 (1 : Int)) [1113] g379) := sv_mod.sts md329 (by decide)
                  have md385 : sv_mod [88, 89, 87, 1113, 5, 1011] S (sv_sts (sv_up (sv_up (sv_sts S [88, 89, 87, 1113, 5, 1011] g1) 88 l1_2 (0 : Int)) 89 l1_2 (1 : Int)) [1113] g379) := sv_mod.sts md330 (by decide)
                  have md386 : sv_mod [1113] (sv_up (sv_up (sv_sts S [88, 89, 87, 1113, 5, 1011] g1) 88 l1_2 (0 : Int)) 89 l1_2 (1 : Int)) (sv_sts (sv_up (sv_up (sv_sts S [88, 89, 87, 1113, 5, 1011] g1) 88 l1_2 (0 : Int)) 89 l1_2 (1 : Int)) [1113] g379) := sv_mod.sts (sv_mod.rf (l := [1113]) (S := (sv_up (sv_up (sv_sts S [88, 89, 87, 1113, 5, 1011] g1) 88 l1_2 (0 : Int)) 89 l1_2 (1 : Int)))) (by decide)
                  have h := h r383 hr383 g379 hpo382
                  refine sv_goto hM dX12_findSorts_111 (pc' := 115) rfl ?_
                  have eS := sv_mod.eq md386
                  have hb := J378 r383 hr383 (sv_sts (sv_up (sv_up (sv_sts S [88, 89, 87, 1113, 5, 1011] g1) 88 l1_2 (0 : Int)) 89 l1_2 (1 : Int)) [1113] g379) (by rw [← eS]; exact ok380) h
                  have hb : sv_T sm_XS sm_cs sm_L sm_sh 2 (q_findSorts S) 291 115 [(0, .ref 0), (1, sv_I l1_2)] [sv_I r383] (sv_sts (sv_up (sv_up (sv_sts S [88, 89, 87, 1113, 5, 1011] g1) 88 l1_2 (0 : Int)) 89 l1_2 (1 : Int)) [1113] g379) := Eq.mpr (congrArg (fun Z => sv_T sm_XS sm_cs sm_L sm_sh 2 (q_findSorts S) 291 115 [(0, .ref 0), (1, sv_I l1_2)] [sv_I r383] Z) eS) hb
                  exact sv_less (lv := [(0, .ref 0), (1, sv_I l1_2)]) (sv_Sub_cons rfl (sv_Sub_cons rfl sv_Sub_nil)) hb
      · have h := h.2 (hc)
        refine sv_iconst (d := (1 : Int)) hM dX12_findSorts_24 rfl rfl ?_
        refine sv_goto hM dX12_findSorts_25 (pc' := 29) rfl ?_
        obtain ⟨o387, h⟩ := h
        refine sv_zast sm_X hM dX12_findSorts_29 (sm_a88 _) (by decide) o387.1 o387.2 (sv_nnZ (⟨by decide, by decide⟩ : 0 ≤ (1 : Int) ∧ (1 : Int) ≤ 1)) rfl ?_
        have ok388 : sm_ok (sv_up (sv_sts S [88, 89, 87, 1113, 5, 1011] g1) 88 l1_2 (1 : Int)) := sm_upZ ok76 sm_r88 (⟨by decide, by decide⟩ : 0 ≤ (1 : Int) ∧ (1 : Int) ≤ 1)
        have md389 : sv_mod [88, 89, 87, 1113, 5, 1011, 90] S (sv_up (sv_sts S [88, 89, 87, 1113, 5, 1011] g1) 88 l1_2 (1 : Int)) := sv_mod.up md6 (by decide)
        have md390 : sv_mod [88, 89, 87, 1113, 5, 1011] S (sv_up (sv_sts S [88, 89, 87, 1113, 5, 1011] g1) 88 l1_2 (1 : Int)) := sv_mod.up md7 (by decide)
        refine sv_aload_n hM dX12_findSorts_30 rfl rfl ?_
        refine sv_getA hM dX12_findSorts_31 sm_fl_280 (sm_a0 _) sm_k141 rfl ?_
        refine sv_iload_n hM dX12_findSorts_34 rfl rfl ?_
        refine sv_aload_n hM dX12_findSorts_35 rfl rfl ?_
        refine sv_getA hM dX12_findSorts_36 sm_fl_20 (sm_a0 _) sm_k6 rfl ?_
        refine sv_iload_n hM dX12_findSorts_39 rfl rfl ?_
        obtain ⟨o391, h⟩ := h
        have k392 : sv_R (S 4 l1_2) := sm_okI ok388 sm_r4 l1_2
        have h := h k392
        refine sv_iald hM dX12_findSorts_40 (sm_a4 _) (by decide) o391.1 o391.2 rfl (x := (S 4 l1_2)) rfl ?_
        refine sv_iconst (d := (3 : Int)) hM dX12_findSorts_41 rfl rfl ?_
        refine sv_icmp_ne hM dX12_findSorts_42 k392 (⟨by decide, by decide⟩ : sv_R (3 : Int)) (t := 95) rfl rfl (fun hc => ?_) (fun hc => ?_)
        · have h := h.1 (hc)
          refine sv_iconst (d := (0 : Int)) hM dX12_findSorts_95 rfl rfl ?_
          refine sv_zast sm_X hM dX12_findSorts_96 (sm_a89 _) (by decide) o387.1 o387.2 (sv_nnZ (⟨by decide, by decide⟩ : 0 ≤ (0 : Int) ∧ (0 : Int) ≤ 1)) rfl ?_
          have ok393 : sm_ok (sv_up (sv_up (sv_sts S [88, 89, 87, 1113, 5, 1011] g1) 88 l1_2 (1 : Int)) 89 l1_2 (0 : Int)) := sm_upZ ok388 sm_r89 (⟨by decide, by decide⟩ : 0 ≤ (0 : Int) ∧ (0 : Int) ≤ 1)
          have md394 : sv_mod [88, 89, 87, 1113, 5, 1011, 90] S (sv_up (sv_up (sv_sts S [88, 89, 87, 1113, 5, 1011] g1) 88 l1_2 (1 : Int)) 89 l1_2 (0 : Int)) := sv_mod.up md389 (by decide)
          have md395 : sv_mod [88, 89, 87, 1113, 5, 1011] S (sv_up (sv_up (sv_sts S [88, 89, 87, 1113, 5, 1011] g1) 88 l1_2 (1 : Int)) 89 l1_2 (0 : Int)) := sv_mod.up md390 (by decide)
          have J443 : ∀ s397 : Int, sv_R s397 → ∀ g396 : sv_S, sm_ok (sv_sts (sv_up (sv_up (sv_sts S [88, 89, 87, 1113, 5, 1011] g1) 88 l1_2 (1 : Int)) 89 l1_2 (0 : Int)) [1113] g396) → (True) → sv_T sm_XS sm_cs sm_L sm_sh 2 (q_findSorts S) 291 115 [(0, .ref 0), (1, sv_I l1_2)] [sv_I s397] (sv_sts (sv_up (sv_up (sv_sts S [88, 89, 87, 1113, 5, 1011] g1) 88 l1_2 (1 : Int)) 89 l1_2 (0 : Int)) [1113] g396) := by
            intro s397 hs397 g396 ok398 hin399
            have h := h.1 s397 hs397 g396 hin399
            have md400 : sv_mod [88, 89, 87, 1113, 5, 1011, 90] S (sv_sts (sv_up (sv_up (sv_sts S [88, 89, 87, 1113, 5, 1011] g1) 88 l1_2 (1 : Int)) 89 l1_2 (0 : Int)) [1113] g396) := sv_mod.sts md394 (by decide)
            have md401 : sv_mod [88, 89, 87, 1113, 5, 1011] S (sv_sts (sv_up (sv_up (sv_sts S [88, 89, 87, 1113, 5, 1011] g1) 88 l1_2 (1 : Int)) 89 l1_2 (0 : Int)) [1113] g396) := sv_mod.sts md395 (by decide)
            have md402 : sv_mod [1113] (sv_up (sv_up (sv_sts S [88, 89, 87, 1113, 5, 1011] g1) 88 l1_2 (1 : Int)) 89 l1_2 (0 : Int)) (sv_sts (sv_up (sv_up (sv_sts S [88, 89, 87, 1113, 5, 1011] g1) 88 l1_2 (1 : Int)) 89 l1_2 (0 : Int)) [1113] g396) := sv_mod.sts sv_mod.rf (by decide)
            refine sv_istore_n hM dX12_findSorts_115 (by decide) rfl ?_
            show sv_T sm_XS sm_cs sm_L sm_sh 2 (q_findSorts S) 291 116 [(0, .ref 0), (1, sv_I l1_2), (2, sv_I s397)] [] (sv_sts (sv_up (sv_up (sv_sts S [88, 89, 87, 1113, 5, 1011] g1) 88 l1_2 (1 : Int)) 89 l1_2 (0 : Int)) [1113] g396)
            have J441 : ∀ s403 : Int, sv_R s403 → (s403 = 0 ∨ s403 = 1) → sv_T sm_XS sm_cs sm_L sm_sh 2 (q_findSorts S) 291 137 [(0, .ref 0), (1, sv_I l1_2), (2, sv_I s397)] [sv_I s403] (sv_sts (sv_up (sv_up (sv_sts S [88, 89, 87, 1113, 5, 1011] g1) 88 l1_2 (1 : Int)) 89 l1_2 (0 : Int)) [1113] g396) := by
              intro s403 hs403 hin404
              have h := h.1 s403 hs403 hin404
              refine sv_istore_n hM dX12_findSorts_137 (by decide) rfl ?_
              show sv_T sm_XS sm_cs sm_L sm_sh 2 (q_findSorts S) 291 138 [(0, .ref 0), (1, sv_I l1_2), (2, sv_I s397), (3, sv_I s403)] [] (sv_sts (sv_up (sv_up (sv_sts S [88, 89, 87, 1113, 5, 1011] g1) 88 l1_2 (1 : Int)) 89 l1_2 (0 : Int)) [1113] g396)
              refine sv_aload_n hM dX12_findSorts_138 rfl rfl ?_
              refine sv_iconst (d := (0 : Int)) hM dX12_findSorts_139 rfl rfl ?_
              refine sv_putI sm_X hM dX12_findSorts_140 sm_fp_299 (sm_a0 _) sm_q11 (Or.inl rfl) rfl rfl rfl rfl ?_
              have ok405 : sm_ok (sv_up (sv_sts (sv_up (sv_up (sv_sts S [88, 89, 87, 1113, 5, 1011] g1) 88 l1_2 (1 : Int)) 89 l1_2 (0 : Int)) [1113] g396) 1011 0 (0 : Int)) := sm_upI ok398 sm_r1011 (⟨by decide, by decide⟩ : sv_R (0 : Int))
              have md406 : sv_mod [88, 89, 87, 1113, 5, 1011, 90] S (sv_up (sv_sts (sv_up (sv_up (sv_sts S [88, 89, 87, 1113, 5, 1011] g1) 88 l1_2 (1 : Int)) 89 l1_2 (0 : Int)) [1113] g396) 1011 0 (0 : Int)) := sv_mod.up md400 (by decide)
              have md407 : sv_mod [88, 89, 87, 1113, 5, 1011] S (sv_up (sv_sts (sv_up (sv_up (sv_sts S [88, 89, 87, 1113, 5, 1011] g1) 88 l1_2 (1 : Int)) 89 l1_2 (0 : Int)) [1113] g396) 1011 0 (0 : Int)) := sv_mod.up md401 (by decide)
              have J432 : ∀ g408 : sv_S, sm_ok (sv_sts (sv_up (sv_sts (sv_up (sv_up (sv_sts S [88, 89, 87, 1113, 5, 1011] g1) 88 l1_2 (1 : Int)) 89 l1_2 (0 : Int)) [1113] g396) 1011 0 (0 : Int)) [5, 1011] g408) → (0 ≤ (g408 1011 0) ∧ (g408 1011 0) ≤ 200) → sv_T sm_XS sm_cs sm_L sm_sh 2 (q_findSorts S) 291 152 [(0, .ref 0), (1, sv_I l1_2), (2, sv_I s397), (3, sv_I s403)] [] (sv_sts (sv_up (sv_sts (sv_up (sv_up (sv_sts S [88, 89, 87, 1113, 5, 1011] g1) 88 l1_2 (1 : Int)) 89 l1_2 (0 : Int)) [1113] g396) 1011 0 (0 : Int)) [5, 1011] g408) := by
                intro  g408 ok409 hin410
                have h := h.1 g408 hin410
                have md411 : sv_mod [88, 89, 87, 1113, 5, 1011, 90] S (sv_sts (sv_up (sv_sts (sv_up (sv_up (sv_sts S [88, 89, 87, 1113, 5, 1011] g1) 88 l1_2 (1 : Int)) 89 l1_2 (0 : Int)) [1113] g396) 1011 0 (0 : Int)) [5, 1011] g408) := sv_mod.sts md406 (by decide)
                have md412 : sv_mod [88, 89, 87, 1113, 5, 1011] S (sv_sts (sv_up (sv_sts (sv_up (sv_up (sv_sts S [88, 89, 87, 1113, 5, 1011] g1) 88 l1_2 (1 : Int)) 89 l1_2 (0 : Int)) [1113] g396) 1011 0 (0 : Int)) [5, 1011] g408) := sv_mod.sts md407 (by decide)
                have md413 : sv_mod [5, 1011] (sv_up (sv_sts (sv_up (sv_up (sv_sts S [88, 89, 87, 1113, 5, 1011] g1) 88 l1_2 (1 : Int)) 89 l1_2 (0 : Int)) [1113] g396) 1011 0 (0 : Int)) (sv_sts (sv_up (sv_sts (sv_up (sv_up (sv_sts S [88, 89, 87, 1113, 5, 1011] g1) 88 l1_2 (1 : Int)) 89 l1_2 (0 : Int)) [1113] g396) 1011 0 (0 : Int)) [5, 1011] g408) := sv_mod.sts sv_mod.rf (by decide)
                refine sv_aload_n hM dX12_findSorts_152 rfl rfl ?_
                refine sv_getA hM dX12_findSorts_153 sm_fl_274 (sm_a0 _) sm_k139 rfl ?_
                refine sv_iload_n hM dX12_findSorts_156 rfl rfl ?_
                refine sv_iload_n hM dX12_findSorts_157 rfl rfl ?_
                refine sv_cond_eq hM dX12_findSorts_158 hs403 (t := 173) rfl rfl (fun hc => ?_) (fun hc => ?_)
                · have h := h.1 (hc)
                  refine sv_iconst (d := (0 : Int)) hM dX12_findSorts_173 rfl rfl ?_
                  refine sv_zast sm_X hM dX12_findSorts_174 (sm_a87 _) (by decide) o387.1 o387.2 (sv_nnZ (⟨by decide, by decide⟩ : 0 ≤ (0 : Int) ∧ (0 : Int) ≤ 1)) rfl ?_
                  have ok414 : sm_ok (sv_up (sv_sts (sv_up (sv_sts (sv_up (sv_up (sv_sts S [88, 89, 87, 1113, 5, 1011] g1) 88 l1_2 (1 : Int)) 89 l1_2 (0 : Int)) [1113] g396) 1011 0 (0 : Int)) [5, 1011] g408) 87 l1_2 (0 : Int)) := sm_upZ ok409 sm_r87 (⟨by decide, by decide⟩ : 0 ≤ (0 : Int) ∧ (0 : Int) ≤ 1)
                  have md415 : sv_mod [88, 89, 87, 1113, 5, 1011, 90] S (sv_up (sv_sts (sv_up (sv_sts (sv_up (sv_up (sv_sts S [88, 89, 87, 1113, 5, 1011] g1) 88 l1_2 (1 : Int)) 89 l1_2 (0 : Int)) [1113] g396) 1011 0 (0 : Int)) [5, 1011] g408) 87 l1_2 (0 : Int)) := sv_mod.up md411 (by decide)
                  have md416 : sv_mod [88, 89, 87, 1113, 5, 1011] S (sv_up (sv_sts (sv_up (sv_sts (sv_up (sv_up (sv_sts S [88, 89, 87, 1113, 5, 1011] g1) 88 l1_2 (1 : Int)) 89 l1_2 (0 : Int)) [1113] g396) 1011 0 (0 : Int)) [5, 1011] g408) 87 l1_2 (0 : Int)) := sv_mod.up md412 (by decide)
                  refine sv_iinc (d := (1 : Int)) hM dX12_findSorts_175 rfl (by decide) rfl rfl ?_
                  show sv_T sm_XS sm_cs sm_L sm_sh 2 (q_findSorts S) 291 178 [(0, .ref 0), (1, sv_I (l1_2 + (1 : Int))), (2, sv_I s397), (3, sv_I s403)] [] (sv_up (sv_sts (sv_up (sv_sts (sv_up (sv_up (sv_sts S [88, 89, 87, 1113, 5, 1011] g1) 88 l1_2 (1 : Int)) 89 l1_2 (0 : Int)) [1113] g396) 1011 0 (0 : Int)) [5, 1011] g408) 87 l1_2 (0 : Int))
                  refine sv_goto hM dX12_findSorts_178 (pc' := 2) rfl ?_
                  obtain ⟨o417, h⟩ := h
                  have eS := sv_mod.eq md416
                  have hb := ih3 ((l1_2 + (1 : Int)), (sv_up (sv_sts (sv_up (sv_sts (sv_up (sv_up (sv_sts S [88, 89, 87, 1113, 5, 1011] g1) 88 l1_2 (1 : Int)) 89 l1_2 (0 : Int)) [1113] g396) 1011 0 (0 : Int)) [5, 1011] g408) 87 l1_2 (0 : Int))) ⟨o417, (by rw [← eS]; exact ok414), h.1⟩ h.2
                  have hb : sv_T sm_XS sm_cs sm_L sm_sh 2 (q_findSorts S) 291 2 [(0, .ref 0), (1, sv_I (l1_2 + (1 : Int)))] [] (sv_up (sv_sts (sv_up (sv_sts (sv_up (sv_up (sv_sts S [88, 89, 87, 1113, 5, 1011] g1) 88 l1_2 (1 : Int)) 89 l1_2 (0 : Int)) [1113] g396) 1011 0 (0 : Int)) [5, 1011] g408) 87 l1_2 (0 : Int)) := Eq.mpr (congrArg (fun Z => sv_T sm_XS sm_cs sm_L sm_sh 2 (q_findSorts S) 291 2 [(0, .ref 0), (1, sv_I (l1_2 + (1 : Int)))] [] Z) eS) hb
                  exact sv_less (lv := [(0, .ref 0), (1, sv_I (l1_2 + (1 : Int)))]) (sv_Sub_cons rfl (sv_Sub_cons rfl sv_Sub_nil)) hb
                · have h := h.2 (hc)
                  refine sv_aload_n hM dX12_findSorts_161 rfl rfl ?_
                  obtain ⟨o418, h⟩ := h
                  refine sv_callV hM dX12_findSorts_162 sm_iv_302 (by decide) (sm_a0 _) rfl rfl (Nat.le_of_ble_eq_true rfl) sm_h5 (Nat.le_of_ble_eq_true rfl) (Nat.le_of_ble_eq_true rfl) (F' := 0) (Nat.le_of_ble_eq_true rfl) rfl (t_findText  (sv_sts (sv_up (sv_sts (sv_up (sv_up (sv_sts S [88, 89, 87, 1113, 5, 1011] g1) 88 l1_2 (1 : Int)) 89 l1_2 (0 : Int)) [1113] g396) 1011 0 (0 : Int)) [5, 1011] g408) ok409 o418) (fun v S1 hq => ?_)
                  obtain ⟨r423, rfl, hr423, ok420, md421, hpo422⟩ := hq
                  obtain rfl : (sv_sts (sv_up (sv_sts (sv_up (sv_up (sv_sts S [88, 89, 87, 1113, 5, 1011] g1) 88 l1_2 (1 : Int)) 89 l1_2 (0 : Int)) [1113] g396) 1011 0 (0 : Int)) [5, 1011] g408) = S1 := (funext fun j => md421 j (by intro q; cases q)).symm
                  show sv_T sm_XS sm_cs sm_L sm_sh 2 (q_findSorts S) 291 165 [(0, .ref 0), (1, sv_I l1_2), (2, sv_I s397), (3, sv_I s403)] [sv_I r423, sv_I l1_2, .ref 87] (sv_sts (sv_up (sv_sts (sv_up (sv_up (sv_sts S [88, 89, 87, 1113, 5, 1011] g1) 88 l1_2 (1 : Int)) 89 l1_2 (0 : Int)) [1113] g396) 1011 0 (0 : Int)) [5, 1011] g408)
                  have h := h r423 hr423 hpo422
                  refine sv_iload_n hM dX12_findSorts_165 rfl rfl ?_
                  refine sv_icmp_ne hM dX12_findSorts_166 hr423 hl1_2 (t := 173) rfl rfl (fun hc => ?_) (fun hc => ?_)
                  · have h := h.1 (hc)
                    refine sv_iconst (d := (0 : Int)) hM dX12_findSorts_173 rfl rfl ?_
                    refine sv_zast sm_X hM dX12_findSorts_174 (sm_a87 _) (by decide) o387.1 o387.2 (sv_nnZ (⟨by decide, by decide⟩ : 0 ≤ (0 : Int) ∧ (0 : Int) ≤ 1)) rfl ?_
                    have ok424 : sm_ok (sv_up (sv_sts (sv_up (sv_sts (sv_up (sv_up (sv_sts S [88, 89, 87, 1113, 5, 1011] g1) 88 l1_2 (1 : Int)) 89 l1_2 (0 : Int)) [1113] g396) 1011 0 (0 : Int)) [5, 1011] g408) 87 l1_2 (0 : Int)) := sm_upZ ok420 sm_r87 (⟨by decide, by decide⟩ : 0 ≤ (0 : Int) ∧ (0 : Int) ≤ 1)
                    have md425 : sv_mod [88, 89, 87, 1113, 5, 1011, 90] S (sv_up (sv_sts (sv_up (sv_sts (sv_up (sv_up (sv_sts S [88, 89, 87, 1113, 5, 1011] g1) 88 l1_2 (1 : Int)) 89 l1_2 (0 : Int)) [1113] g396) 1011 0 (0 : Int)) [5, 1011] g408) 87 l1_2 (0 : Int)) := sv_mod.up md411 (by decide)
                    have md426 : sv_mod [88, 89, 87, 1113, 5, 1011] S (sv_up (sv_sts (sv_up (sv_sts (sv_up (sv_up (sv_sts S [88, 89, 87, 1113, 5, 1011] g1) 88 l1_2 (1 : Int)) 89 l1_2 (0 : Int)) [1113] g396) 1011 0 (0 : Int)) [5, 1011] g408) 87 l1_2 (0 : Int)) := sv_mod.up md412 (by decide)
                    refine sv_iinc (d := (1 : Int)) hM dX12_findSorts_175 rfl (by decide) rfl rfl ?_
                    show sv_T sm_XS sm_cs sm_L sm_sh 2 (q_findSorts S) 291 178 [(0, .ref 0), (1, sv_I (l1_2 + (1 : Int))), (2, sv_I s397), (3, sv_I s403)] [] (sv_up (sv_sts (sv_up (sv_sts (sv_up (sv_up (sv_sts S [88, 89, 87, 1113, 5, 1011] g1) 88 l1_2 (1 : Int)) 89 l1_2 (0 : Int)) [1113] g396) 1011 0 (0 : Int)) [5, 1011] g408) 87 l1_2 (0 : Int))
                    refine sv_goto hM dX12_findSorts_178 (pc' := 2) rfl ?_
                    obtain ⟨o427, h⟩ := h
                    have eS := sv_mod.eq md426
                    have hb := ih3 ((l1_2 + (1 : Int)), (sv_up (sv_sts (sv_up (sv_sts (sv_up (sv_up (sv_sts S [88, 89, 87, 1113, 5, 1011] g1) 88 l1_2 (1 : Int)) 89 l1_2 (0 : Int)) [1113] g396) 1011 0 (0 : Int)) [5, 1011] g408) 87 l1_2 (0 : Int))) ⟨o427, (by rw [← eS]; exact ok424), h.1⟩ h.2
                    have hb : sv_T sm_XS sm_cs sm_L sm_sh 2 (q_findSorts S) 291 2 [(0, .ref 0), (1, sv_I (l1_2 + (1 : Int)))] [] (sv_up (sv_sts (sv_up (sv_sts (sv_up (sv_up (sv_sts S [88, 89, 87, 1113, 5, 1011] g1) 88 l1_2 (1 : Int)) 89 l1_2 (0 : Int)) [1113] g396) 1011 0 (0 : Int)) [5, 1011] g408) 87 l1_2 (0 : Int)) := Eq.mpr (congrArg (fun Z => sv_T sm_XS sm_cs sm_L sm_sh 2 (q_findSorts S) 291 2 [(0, .ref 0), (1, sv_I (l1_2 + (1 : Int)))] [] Z) eS) hb
                    exact sv_less (lv := [(0, .ref 0), (1, sv_I (l1_2 + (1 : Int)))]) (sv_Sub_cons rfl (sv_Sub_cons rfl sv_Sub_nil)) hb
                  · have h := h.2 (hc)
                    refine sv_iconst (d := (1 : Int)) hM dX12_findSorts_169 rfl rfl ?_
                    refine sv_goto hM dX12_findSorts_170 (pc' := 174) rfl ?_
                    refine sv_zast sm_X hM dX12_findSorts_174 (sm_a87 _) (by decide) o387.1 o387.2 (sv_nnZ (⟨by decide, by decide⟩ : 0 ≤ (1 : Int) ∧ (1 : Int) ≤ 1)) rfl ?_
                    have ok428 : sm_ok (sv_up (sv_sts (sv_up (sv_sts (sv_up (sv_up (sv_sts S [88, 89, 87, 1113, 5, 1011] g1) 88 l1_2 (1 : Int)) 89 l1_2 (0 : Int)) [1113] g396) 1011 0 (0 : Int)) [5, 1011] g408) 87 l1_2 (1 : Int)) := sm_upZ ok420 sm_r87 (⟨by decide, by decide⟩ : 0 ≤ (1 : Int) ∧ (1 : Int) ≤ 1)
                    have md429 : sv_mod [88, 89, 87, 1113, 5, 1011, 90] S (sv_up (sv_sts (sv_up (sv_sts (sv_up (sv_up (sv_sts S [88, 89, 87, 1113, 5, 1011] g1) 88 l1_2 (1 : Int)) 89 l1_2 (0 : Int)) [1113] g396) 1011 0 (0 : Int)) [5, 1011] g408) 87 l1_2 (1 : Int)) := sv_mod.up md411 (by decide)
                    have md430 : sv_mod [88, 89, 87, 1113, 5, 1011] S (sv_up (sv_sts (sv_up (sv_sts (sv_up (sv_up (sv_sts S [88, 89, 87, 1113, 5, 1011] g1) 88 l1_2 (1 : Int)) 89 l1_2 (0 : Int)) [1113] g396) 1011 0 (0 : Int)) [5, 1011] g408) 87 l1_2 (1 : Int)) := sv_mod.up md412 (by decide)
                    refine sv_iinc (d := (1 : Int)) hM dX12_findSorts_175 rfl (by decide) rfl rfl ?_
                    show sv_T sm_XS sm_cs sm_L sm_sh 2 (q_findSorts S) 291 178 [(0, .ref 0), (1, sv_I (l1_2 + (1 : Int))), (2, sv_I s397), (3, sv_I s403)] [] (sv_up (sv_sts (sv_up (sv_sts (sv_up (sv_up (sv_sts S [88, 89, 87, 1113, 5, 1011] g1) 88 l1_2 (1 : Int)) 89 l1_2 (0 : Int)) [1113] g396) 1011 0 (0 : Int)) [5, 1011] g408) 87 l1_2 (1 : Int))
                    refine sv_goto hM dX12_findSorts_178 (pc' := 2) rfl ?_
                    obtain ⟨o431, h⟩ := h
                    have eS := sv_mod.eq md430
                    have hb := ih3 ((l1_2 + (1 : Int)), (sv_up (sv_sts (sv_up (sv_sts (sv_up (sv_up (sv_sts S [88, 89, 87, 1113, 5, 1011] g1) 88 l1_2 (1 : Int)) 89 l1_2 (0 : Int)) [1113] g396) 1011 0 (0 : Int)) [5, 1011] g408) 87 l1_2 (1 : Int))) ⟨o431, (by rw [← eS]; exact ok428), h.1⟩ h.2
                    have hb : sv_T sm_XS sm_cs sm_L sm_sh 2 (q_findSorts S) 291 2 [(0, .ref 0), (1, sv_I (l1_2 + (1 : Int)))] [] (sv_up (sv_sts (sv_up (sv_sts (sv_up (sv_up (sv_sts S [88, 89, 87, 1113, 5, 1011] g1) 88 l1_2 (1 : Int)) 89 l1_2 (0 : Int)) [1113] g396) 1011 0 (0 : Int)) [5, 1011] g408) 87 l1_2 (1 : Int)) := Eq.mpr (congrArg (fun Z => sv_T sm_XS sm_cs sm_L sm_sh 2 (q_findSorts S) 291 2 [(0, .ref 0), (1, sv_I (l1_2 + (1 : Int)))] [] Z) eS) hb
                    exact sv_less (lv := [(0, .ref 0), (1, sv_I (l1_2 + (1 : Int)))]) (sv_Sub_cons rfl (sv_Sub_cons rfl sv_Sub_nil)) hb
              have h := h.2
              refine sv_iload_n hM dX12_findSorts_143 rfl rfl ?_
              refine sv_cond_eq hM dX12_findSorts_144 hs403 (t := 152) rfl rfl (fun hc => ?_) (fun hc => ?_)
              · have h := h.1 (hc)
                have eS := sv_mod.eq (sv_mod.rf (l := [5, 1011]) (S := (sv_up (sv_sts (sv_up (sv_up (sv_sts S [88, 89, 87, 1113, 5, 1011] g1) 88 l1_2 (1 : Int)) 89 l1_2 (0 : Int)) [1113] g396) 1011 0 (0 : Int))))
                have hb := J432 (sv_up (sv_sts (sv_up (sv_up (sv_sts S [88, 89, 87, 1113, 5, 1011] g1) 88 l1_2 (1 : Int)) 89 l1_2 (0 : Int)) [1113] g396) 1011 0 (0 : Int)) (by rw [← eS]; exact ok405) h
                have hb : sv_T sm_XS sm_cs sm_L sm_sh 2 (q_findSorts S) 291 152 [(0, .ref 0), (1, sv_I l1_2), (2, sv_I s397), (3, sv_I s403)] [] (sv_up (sv_sts (sv_up (sv_up (sv_sts S [88, 89, 87, 1113, 5, 1011] g1) 88 l1_2 (1 : Int)) 89 l1_2 (0 : Int)) [1113] g396) 1011 0 (0 : Int)) := Eq.mpr (congrArg (fun Z => sv_T sm_XS sm_cs sm_L sm_sh 2 (q_findSorts S) 291 152 [(0, .ref 0), (1, sv_I l1_2), (2, sv_I s397), (3, sv_I s403)] [] Z) eS) hb
                exact sv_less (lv := [(0, .ref 0), (1, sv_I l1_2), (2, sv_I s397), (3, sv_I s403)]) (sv_Sub_cons rfl (sv_Sub_cons rfl (sv_Sub_cons rfl (sv_Sub_cons rfl sv_Sub_nil)))) hb
              · have h := h.2 (hc)
                refine sv_aload_n hM dX12_findSorts_147 rfl rfl ?_
                refine sv_iload_n hM dX12_findSorts_148 rfl rfl ?_
                obtain ⟨o433, h⟩ := h
                refine sv_callV hM dX12_findSorts_149 sm_iv_410 (by decide) (sm_a0 _) rfl rfl (Nat.le_of_ble_eq_true rfl) sm_h31 (Nat.le_of_ble_eq_true rfl) (Nat.le_of_ble_eq_true rfl) (F' := 1) (Nat.le_of_ble_eq_true rfl) rfl (t_putNumber s397 (sv_up (sv_sts (sv_up (sv_up (sv_sts S [88, 89, 87, 1113, 5, 1011] g1) 88 l1_2 (1 : Int)) 89 l1_2 (0 : Int)) [1113] g396) 1011 0 (0 : Int)) ok405 hs397 o433) (fun v S1 hq => ?_)
                obtain ⟨rfl, ok435, md436, hpo437⟩ := hq
                obtain ⟨g434, rfl⟩ : ∃ g, S1 = sv_sts (sv_up (sv_sts (sv_up (sv_up (sv_sts S [88, 89, 87, 1113, 5, 1011] g1) 88 l1_2 (1 : Int)) 89 l1_2 (0 : Int)) [1113] g396) 1011 0 (0 : Int)) [5, 1011] g := ⟨_, md436.eq⟩
                show sv_T sm_XS sm_cs sm_L sm_sh 2 (q_findSorts S) 291 152 [(0, .ref 0), (1, sv_I l1_2), (2, sv_I s397), (3, sv_I s403)] [] (sv_sts (sv_up (sv_sts (sv_up (sv_up (sv_sts S [88, 89, 87, 1113, 5, 1011] g1) 88 l1_2 (1 : Int)) 89 l1_2 (0 : Int)) [1113] g396) 1011 0 (0 : Int)) [5, 1011] g434)
                have md438 : sv_mod [88, 89, 87, 1113, 5, 1011, 90] S (sv_sts (sv_up (sv_sts (sv_up (sv_up (sv_sts S [88, 89, 87, 1113, 5, 1011] g1) 88 l1_2 (1 : Int)) 89 l1_2 (0 : Int)) [1113] g396) 1011 0 (0 : Int)) [5, 1011] g434) := sv_mod.sts md406 (by decide)
                have md439 : sv_mod [88, 89, 87, 1113, 5, 1011] S (sv_sts (sv_up (sv_sts (sv_up (sv_up (sv_sts S [88, 89, 87, 1113, 5, 1011] g1) 88 l1_2 (1 : Int)) 89 l1_2 (0 : Int)) [1113] g396) 1011 0 (0 : Int)) [5, 1011] g434) := sv_mod.sts md407 (by decide)
                have md440 : sv_mod [5, 1011] (sv_up (sv_sts (sv_up (sv_up (sv_sts S [88, 89, 87, 1113, 5, 1011] g1) 88 l1_2 (1 : Int)) 89 l1_2 (0 : Int)) [1113] g396) 1011 0 (0 : Int)) (sv_sts (sv_up (sv_sts (sv_up (sv_up (sv_sts S [88, 89, 87, 1113, 5, 1011] g1) 88 l1_2 (1 : Int)) 89 l1_2 (0 : Int)) [1113] g396) 1011 0 (0 : Int)) [5, 1011] g434) := sv_mod.sts (sv_mod.rf (l := [5, 1011]) (S := (sv_up (sv_sts (sv_up (sv_up (sv_sts S [88, 89, 87, 1113, 5, 1011] g1) 88 l1_2 (1 : Int)) 89 l1_2 (0 : Int)) [1113] g396) 1011 0 (0 : Int)))) (by decide)
                have h := h g434 hpo437
                have eS := sv_mod.eq md440
                have hb := J432 (sv_sts (sv_up (sv_sts (sv_up (sv_up (sv_sts S [88, 89, 87, 1113, 5, 1011] g1) 88 l1_2 (1 : Int)) 89 l1_2 (0 : Int)) [1113] g396) 1011 0 (0 : Int)) [5, 1011] g434) (by rw [← eS]; exact ok435) h
                have hb : sv_T sm_XS sm_cs sm_L sm_sh 2 (q_findSorts S) 291 152 [(0, .ref 0), (1, sv_I l1_2), (2, sv_I s397), (3, sv_I s403)] [] (sv_sts (sv_up (sv_sts (sv_up (sv_up (sv_sts S [88, 89, 87, 1113, 5, 1011] g1) 88 l1_2 (1 : Int)) 89 l1_2 (0 : Int)) [1113] g396) 1011 0 (0 : Int)) [5, 1011] g434) := Eq.mpr (congrArg (fun Z => sv_T sm_XS sm_cs sm_L sm_sh 2 (q_findSorts S) 291 152 [(0, .ref 0), (1, sv_I l1_2), (2, sv_I s397), (3, sv_I s403)] [] Z) eS) hb
                exact sv_less (lv := [(0, .ref 0), (1, sv_I l1_2), (2, sv_I s397), (3, sv_I s403)]) (sv_Sub_cons rfl (sv_Sub_cons rfl (sv_Sub_cons rfl (sv_Sub_cons rfl sv_Sub_nil)))) hb
            have h := h.2
            refine sv_aload_n hM dX12_findSorts_116 rfl rfl ?_
            refine sv_getA hM dX12_findSorts_117 sm_fl_20 (sm_a0 _) sm_k6 rfl ?_
            refine sv_iload_n hM dX12_findSorts_120 rfl rfl ?_
            refine sv_iald hM dX12_findSorts_121 (sm_a4 _) (by decide) o391.1 o391.2 rfl (x := (S 4 l1_2)) rfl ?_
            refine sv_cond_le hM dX12_findSorts_122 k392 (t := 136) rfl rfl (fun hc => ?_) (fun hc => ?_)
            · have h := h.1 (hc)
              refine sv_iconst (d := (0 : Int)) hM dX12_findSorts_136 rfl rfl ?_
              have hb := J441 (0 : Int) (⟨by decide, by decide⟩ : sv_R (0 : Int)) h
              exact sv_less (lv := [(0, .ref 0), (1, sv_I l1_2), (2, sv_I s397)]) (sv_Sub_cons rfl (sv_Sub_cons rfl (sv_Sub_cons rfl sv_Sub_nil))) hb
            · have h := h.2 (hc)
              refine sv_aload_n hM dX12_findSorts_125 rfl rfl ?_
              have k442 : (0 ≤ (g396 1113 0) ∧ (g396 1113 0) ≤ 1) := sm_okZ ok398 sm_r1113 0
              have h := h k442
              refine sv_getI hM dX12_findSorts_126 sm_fl_806 (sm_a0 _) sm_k113 rfl (x := (g396 1113 0)) rfl ?_
              refine sv_cond_eq hM dX12_findSorts_129 (sv_R01 k442) (t := 136) rfl rfl (fun hc => ?_) (fun hc => ?_)
              · have h := h.1 (hc)
                refine sv_iconst (d := (0 : Int)) hM dX12_findSorts_136 rfl rfl ?_
                have hb := J441 (0 : Int) (⟨by decide, by decide⟩ : sv_R (0 : Int)) h
                exact sv_less (lv := [(0, .ref 0), (1, sv_I l1_2), (2, sv_I s397)]) (sv_Sub_cons rfl (sv_Sub_cons rfl (sv_Sub_cons rfl sv_Sub_nil))) hb
              · have h := h.2 (hc)
                refine sv_iconst (d := (1 : Int)) hM dX12_findSorts_132 rfl rfl ?_
                refine sv_goto hM dX12_findSorts_133 (pc' := 137) rfl ?_
                have hb := J441 (1 : Int) (⟨by decide, by decide⟩ : sv_R (1 : Int)) h
                exact sv_less (lv := [(0, .ref 0), (1, sv_I l1_2), (2, sv_I s397)]) (sv_Sub_cons rfl (sv_Sub_cons rfl (sv_Sub_cons rfl sv_Sub_nil))) hb
          have h := h.2
          refine sv_aload_n hM dX12_findSorts_97 rfl rfl ?_
          refine sv_getA hM dX12_findSorts_98 sm_fl_20 (sm_a0 _) sm_k6 rfl ?_
          refine sv_iload_n hM dX12_findSorts_101 rfl rfl ?_
          refine sv_iald hM dX12_findSorts_102 (sm_a4 _) (by decide) o391.1 o391.2 rfl (x := (S 4 l1_2)) rfl ?_
          refine sv_cond_le hM dX12_findSorts_103 k392 (t := 114) rfl rfl (fun hc => ?_) (fun hc => ?_)
          · have h := h.1 (hc)
            refine sv_iconst (d := (0 : Int)) hM dX12_findSorts_114 rfl rfl ?_
            have eS := sv_mod.eq (sv_mod.rf (l := [1113]) (S := (sv_up (sv_up (sv_sts S [88, 89, 87, 1113, 5, 1011] g1) 88 l1_2 (1 : Int)) 89 l1_2 (0 : Int))))
            have hb := J443 (0 : Int) (⟨by decide, by decide⟩ : sv_R (0 : Int)) (sv_up (sv_up (sv_sts S [88, 89, 87, 1113, 5, 1011] g1) 88 l1_2 (1 : Int)) 89 l1_2 (0 : Int)) (by rw [← eS]; exact ok393) h
            have hb : sv_T sm_XS sm_cs sm_L sm_sh 2 (q_findSorts S) 291 115 [(0, .ref 0), (1, sv_I l1_2)] [sv_I (0 : Int)] (sv_up (sv_up (sv_sts S [88, 89, 87, 1113, 5, 1011] g1) 88 l1_2 (1 : Int)) 89 l1_2 (0 : Int)) := Eq.mpr (congrArg (fun Z => sv_T sm_XS sm_cs sm_L sm_sh 2 (q_findSorts S) 291 115 [(0, .ref 0), (1, sv_I l1_2)] [sv_I (0 : Int)] Z) eS) hb
            exact sv_less (lv := [(0, .ref 0), (1, sv_I l1_2)]) (sv_Sub_cons rfl (sv_Sub_cons rfl sv_Sub_nil)) hb
          · have h := h.2 (hc)
            refine sv_aload_n hM dX12_findSorts_106 rfl rfl ?_
            refine sv_iload_n hM dX12_findSorts_107 rfl rfl ?_
            refine sv_callV hM dX12_findSorts_108 sm_iv_809 (by decide) (sm_a0 _) rfl rfl (Nat.le_of_ble_eq_true rfl) sm_h128 (Nat.le_of_ble_eq_true rfl) (Nat.le_of_ble_eq_true rfl) (F' := 1) (Nat.le_of_ble_eq_true rfl) rfl (t_numberOfString l1_2 (sv_up (sv_up (sv_sts S [88, 89, 87, 1113, 5, 1011] g1) 88 l1_2 (1 : Int)) 89 l1_2 (0 : Int)) ok393 hl1_2 o74) (fun v S1 hq => ?_)
            obtain ⟨r448, rfl, hr448, ok445, md446, hpo447⟩ := hq
            obtain ⟨g444, rfl⟩ : ∃ g, S1 = sv_sts (sv_up (sv_up (sv_sts S [88, 89, 87, 1113, 5, 1011] g1) 88 l1_2 (1 : Int)) 89 l1_2 (0 : Int)) [1113] g := ⟨_, md446.eq⟩
            show sv_T sm_XS sm_cs sm_L sm_sh 2 (q_findSorts S) 291 111 [(0, .ref 0), (1, sv_I l1_2)] [sv_I r448] (sv_sts (sv_up (sv_up (sv_sts S [88, 89, 87, 1113, 5, 1011] g1) 88 l1_2 (1 : Int)) 89 l1_2 (0 : Int)) [1113] g444)
            have md449 : sv_mod [88, 89, 87, 1113, 5, 1011, 90] S (sv_sts (sv_up (sv_up (sv_sts S [88, 89, 87, 1113, 5, 1011] g1) 88 l1_2 (1 : Int)) 89 l1_2 (0 : Int)) [1113] g444) := sv_mod.sts md394 (by decide)
            have md450 : sv_mod [88, 89, 87, 1113, 5, 1011] S (sv_sts (sv_up (sv_up (sv_sts S [88, 89, 87, 1113, 5, 1011] g1) 88 l1_2 (1 : Int)) 89 l1_2 (0 : Int)) [1113] g444) := sv_mod.sts md395 (by decide)
            have md451 : sv_mod [1113] (sv_up (sv_up (sv_sts S [88, 89, 87, 1113, 5, 1011] g1) 88 l1_2 (1 : Int)) 89 l1_2 (0 : Int)) (sv_sts (sv_up (sv_up (sv_sts S [88, 89, 87, 1113, 5, 1011] g1) 88 l1_2 (1 : Int)) 89 l1_2 (0 : Int)) [1113] g444) := sv_mod.sts (sv_mod.rf (l := [1113]) (S := (sv_up (sv_up (sv_sts S [88, 89, 87, 1113, 5, 1011] g1) 88 l1_2 (1 : Int)) 89 l1_2 (0 : Int)))) (by decide)
            have h := h r448 hr448 g444 hpo447
            refine sv_goto hM dX12_findSorts_111 (pc' := 115) rfl ?_
            have eS := sv_mod.eq md451
            have hb := J443 r448 hr448 (sv_sts (sv_up (sv_up (sv_sts S [88, 89, 87, 1113, 5, 1011] g1) 88 l1_2 (1 : Int)) 89 l1_2 (0 : Int)) [1113] g444) (by rw [← eS]; exact ok445) h
            have hb : sv_T sm_XS sm_cs sm_L sm_sh 2 (q_findSorts S) 291 115 [(0, .ref 0), (1, sv_I l1_2)] [sv_I r448] (sv_sts (sv_up (sv_up (sv_sts S [88, 89, 87, 1113, 5, 1011] g1) 88 l1_2 (1 : Int)) 89 l1_2 (0 : Int)) [1113] g444) := Eq.mpr (congrArg (fun Z => sv_T sm_XS sm_cs sm_L sm_sh 2 (q_findSorts S) 291 115 [(0, .ref 0), (1, sv_I l1_2)] [sv_I r448] Z) eS) hb
            exact sv_less (lv := [(0, .ref 0), (1, sv_I l1_2)]) (sv_Sub_cons rfl (sv_Sub_cons rfl sv_Sub_nil)) hb
        · have h := h.2 (hc)
          refine sv_aload_n hM dX12_findSorts_45 rfl rfl ?_
          refine sv_getA hM dX12_findSorts_46 sm_fl_16 (sm_a0 _) sm_k5 rfl ?_
          refine sv_bipush (d := (60 : Int)) hM dX12_findSorts_49 rfl rfl ?_
          refine sv_iload_n hM dX12_findSorts_51 rfl rfl ?_
          refine sv_imul hM dX12_findSorts_52 rfl ?_
          obtain ⟨o452, h⟩ := h
          have k453 : (0 ≤ (S 3 ((60 : Int) * l1_2)) ∧ (S 3 ((60 : Int) * l1_2)) ≤ 65535) := sm_okC ok388 sm_r3 ((60 : Int) * l1_2)
          have h := h k453
          refine sv_cald hM dX12_findSorts_53 (sm_a3 _) (by decide) o452.1 o452.2 rfl (x := (S 3 ((60 : Int) * l1_2))) rfl ?_
          refine sv_bipush (d := (49 : Int)) hM dX12_findSorts_54 rfl rfl ?_
          refine sv_icmp_ne hM dX12_findSorts_56 (sv_RC k453) (⟨by decide, by decide⟩ : sv_R (49 : Int)) (t := 95) rfl rfl (fun hc => ?_) (fun hc => ?_)
          · have h := h.1 (hc)
            refine sv_iconst (d := (0 : Int)) hM dX12_findSorts_95 rfl rfl ?_
            refine sv_zast sm_X hM dX12_findSorts_96 (sm_a89 _) (by decide) o387.1 o387.2 (sv_nnZ (⟨by decide, by decide⟩ : 0 ≤ (0 : Int) ∧ (0 : Int) ≤ 1)) rfl ?_
            have ok454 : sm_ok (sv_up (sv_up (sv_sts S [88, 89, 87, 1113, 5, 1011] g1) 88 l1_2 (1 : Int)) 89 l1_2 (0 : Int)) := sm_upZ ok388 sm_r89 (⟨by decide, by decide⟩ : 0 ≤ (0 : Int) ∧ (0 : Int) ≤ 1)
            have md455 : sv_mod [88, 89, 87, 1113, 5, 1011, 90] S (sv_up (sv_up (sv_sts S [88, 89, 87, 1113, 5, 1011] g1) 88 l1_2 (1 : Int)) 89 l1_2 (0 : Int)) := sv_mod.up md389 (by decide)
            have md456 : sv_mod [88, 89, 87, 1113, 5, 1011] S (sv_up (sv_up (sv_sts S [88, 89, 87, 1113, 5, 1011] g1) 88 l1_2 (1 : Int)) 89 l1_2 (0 : Int)) := sv_mod.up md390 (by decide)
            have J504 : ∀ s458 : Int, sv_R s458 → ∀ g457 : sv_S, sm_ok (sv_sts (sv_up (sv_up (sv_sts S [88, 89, 87, 1113, 5, 1011] g1) 88 l1_2 (1 : Int)) 89 l1_2 (0 : Int)) [1113] g457) → (True) → sv_T sm_XS sm_cs sm_L sm_sh 2 (q_findSorts S) 291 115 [(0, .ref 0), (1, sv_I l1_2)] [sv_I s458] (sv_sts (sv_up (sv_up (sv_sts S [88, 89, 87, 1113, 5, 1011] g1) 88 l1_2 (1 : Int)) 89 l1_2 (0 : Int)) [1113] g457) := by
              intro s458 hs458 g457 ok459 hin460
              have h := h.1 s458 hs458 g457 hin460
              have md461 : sv_mod [88, 89, 87, 1113, 5, 1011, 90] S (sv_sts (sv_up (sv_up (sv_sts S [88, 89, 87, 1113, 5, 1011] g1) 88 l1_2 (1 : Int)) 89 l1_2 (0 : Int)) [1113] g457) := sv_mod.sts md455 (by decide)
              have md462 : sv_mod [88, 89, 87, 1113, 5, 1011] S (sv_sts (sv_up (sv_up (sv_sts S [88, 89, 87, 1113, 5, 1011] g1) 88 l1_2 (1 : Int)) 89 l1_2 (0 : Int)) [1113] g457) := sv_mod.sts md456 (by decide)
              have md463 : sv_mod [1113] (sv_up (sv_up (sv_sts S [88, 89, 87, 1113, 5, 1011] g1) 88 l1_2 (1 : Int)) 89 l1_2 (0 : Int)) (sv_sts (sv_up (sv_up (sv_sts S [88, 89, 87, 1113, 5, 1011] g1) 88 l1_2 (1 : Int)) 89 l1_2 (0 : Int)) [1113] g457) := sv_mod.sts sv_mod.rf (by decide)
              refine sv_istore_n hM dX12_findSorts_115 (by decide) rfl ?_
              show sv_T sm_XS sm_cs sm_L sm_sh 2 (q_findSorts S) 291 116 [(0, .ref 0), (1, sv_I l1_2), (2, sv_I s458)] [] (sv_sts (sv_up (sv_up (sv_sts S [88, 89, 87, 1113, 5, 1011] g1) 88 l1_2 (1 : Int)) 89 l1_2 (0 : Int)) [1113] g457)
              have J502 : ∀ s464 : Int, sv_R s464 → (s464 = 0 ∨ s464 = 1) → sv_T sm_XS sm_cs sm_L sm_sh 2 (q_findSorts S) 291 137 [(0, .ref 0), (1, sv_I l1_2), (2, sv_I s458)] [sv_I s464] (sv_sts (sv_up (sv_up (sv_sts S [88, 89, 87, 1113, 5, 1011] g1) 88 l1_2 (1 : Int)) 89 l1_2 (0 : Int)) [1113] g457) := by
                intro s464 hs464 hin465
                have h := h.1 s464 hs464 hin465
                refine sv_istore_n hM dX12_findSorts_137 (by decide) rfl ?_
                show sv_T sm_XS sm_cs sm_L sm_sh 2 (q_findSorts S) 291 138 [(0, .ref 0), (1, sv_I l1_2), (2, sv_I s458), (3, sv_I s464)] [] (sv_sts (sv_up (sv_up (sv_sts S [88, 89, 87, 1113, 5, 1011] g1) 88 l1_2 (1 : Int)) 89 l1_2 (0 : Int)) [1113] g457)
                refine sv_aload_n hM dX12_findSorts_138 rfl rfl ?_
                refine sv_iconst (d := (0 : Int)) hM dX12_findSorts_139 rfl rfl ?_
                refine sv_putI sm_X hM dX12_findSorts_140 sm_fp_299 (sm_a0 _) sm_q11 (Or.inl rfl) rfl rfl rfl rfl ?_
                have ok466 : sm_ok (sv_up (sv_sts (sv_up (sv_up (sv_sts S [88, 89, 87, 1113, 5, 1011] g1) 88 l1_2 (1 : Int)) 89 l1_2 (0 : Int)) [1113] g457) 1011 0 (0 : Int)) := sm_upI ok459 sm_r1011 (⟨by decide, by decide⟩ : sv_R (0 : Int))
                have md467 : sv_mod [88, 89, 87, 1113, 5, 1011, 90] S (sv_up (sv_sts (sv_up (sv_up (sv_sts S [88, 89, 87, 1113, 5, 1011] g1) 88 l1_2 (1 : Int)) 89 l1_2 (0 : Int)) [1113] g457) 1011 0 (0 : Int)) := sv_mod.up md461 (by decide)
                have md468 : sv_mod [88, 89, 87, 1113, 5, 1011] S (sv_up (sv_sts (sv_up (sv_up (sv_sts S [88, 89, 87, 1113, 5, 1011] g1) 88 l1_2 (1 : Int)) 89 l1_2 (0 : Int)) [1113] g457) 1011 0 (0 : Int)) := sv_mod.up md462 (by decide)
                have J493 : ∀ g469 : sv_S, sm_ok (sv_sts (sv_up (sv_sts (sv_up (sv_up (sv_sts S [88, 89, 87, 1113, 5, 1011] g1) 88 l1_2 (1 : Int)) 89 l1_2 (0 : Int)) [1113] g457) 1011 0 (0 : Int)) [5, 1011] g469) → (0 ≤ (g469 1011 0) ∧ (g469 1011 0) ≤ 200) → sv_T sm_XS sm_cs sm_L sm_sh 2 (q_findSorts S) 291 152 [(0, .ref 0), (1, sv_I l1_2), (2, sv_I s458), (3, sv_I s464)] [] (sv_sts (sv_up (sv_sts (sv_up (sv_up (sv_sts S [88, 89, 87, 1113, 5, 1011] g1) 88 l1_2 (1 : Int)) 89 l1_2 (0 : Int)) [1113] g457) 1011 0 (0 : Int)) [5, 1011] g469) := by
                  intro  g469 ok470 hin471
                  have h := h.1 g469 hin471
                  have md472 : sv_mod [88, 89, 87, 1113, 5, 1011, 90] S (sv_sts (sv_up (sv_sts (sv_up (sv_up (sv_sts S [88, 89, 87, 1113, 5, 1011] g1) 88 l1_2 (1 : Int)) 89 l1_2 (0 : Int)) [1113] g457) 1011 0 (0 : Int)) [5, 1011] g469) := sv_mod.sts md467 (by decide)
                  have md473 : sv_mod [88, 89, 87, 1113, 5, 1011] S (sv_sts (sv_up (sv_sts (sv_up (sv_up (sv_sts S [88, 89, 87, 1113, 5, 1011] g1) 88 l1_2 (1 : Int)) 89 l1_2 (0 : Int)) [1113] g457) 1011 0 (0 : Int)) [5, 1011] g469) := sv_mod.sts md468 (by decide)
                  have md474 : sv_mod [5, 1011] (sv_up (sv_sts (sv_up (sv_up (sv_sts S [88, 89, 87, 1113, 5, 1011] g1) 88 l1_2 (1 : Int)) 89 l1_2 (0 : Int)) [1113] g457) 1011 0 (0 : Int)) (sv_sts (sv_up (sv_sts (sv_up (sv_up (sv_sts S [88, 89, 87, 1113, 5, 1011] g1) 88 l1_2 (1 : Int)) 89 l1_2 (0 : Int)) [1113] g457) 1011 0 (0 : Int)) [5, 1011] g469) := sv_mod.sts sv_mod.rf (by decide)
                  refine sv_aload_n hM dX12_findSorts_152 rfl rfl ?_
                  refine sv_getA hM dX12_findSorts_153 sm_fl_274 (sm_a0 _) sm_k139 rfl ?_
                  refine sv_iload_n hM dX12_findSorts_156 rfl rfl ?_
                  refine sv_iload_n hM dX12_findSorts_157 rfl rfl ?_
                  refine sv_cond_eq hM dX12_findSorts_158 hs464 (t := 173) rfl rfl (fun hc => ?_) (fun hc => ?_)
                  · have h := h.1 (hc)
                    refine sv_iconst (d := (0 : Int)) hM dX12_findSorts_173 rfl rfl ?_
                    refine sv_zast sm_X hM dX12_findSorts_174 (sm_a87 _) (by decide) o387.1 o387.2 (sv_nnZ (⟨by decide, by decide⟩ : 0 ≤ (0 : Int) ∧ (0 : Int) ≤ 1)) rfl ?_
                    have ok475 : sm_ok (sv_up (sv_sts (sv_up (sv_sts (sv_up (sv_up (sv_sts S [88, 89, 87, 1113, 5, 1011] g1) 88 l1_2 (1 : Int)) 89 l1_2 (0 : Int)) [1113] g457) 1011 0 (0 : Int)) [5, 1011] g469) 87 l1_2 (0 : Int)) := sm_upZ ok470 sm_r87 (⟨by decide, by decide⟩ : 0 ≤ (0 : Int) ∧ (0 : Int) ≤ 1)
                    have md476 : sv_mod [88, 89, 87, 1113, 5, 1011, 90] S (sv_up (sv_sts (sv_up (sv_sts (sv_up (sv_up (sv_sts S [88, 89, 87, 1113, 5, 1011] g1) 88 l1_2 (1 : Int)) 89 l1_2 (0 : Int)) [1113] g457) 1011 0 (0 : Int)) [5, 1011] g469) 87 l1_2 (0 : Int)) := sv_mod.up md472 (by decide)
                    have md477 : sv_mod [88, 89, 87, 1113, 5, 1011] S (sv_up (sv_sts (sv_up (sv_sts (sv_up (sv_up (sv_sts S [88, 89, 87, 1113, 5, 1011] g1) 88 l1_2 (1 : Int)) 89 l1_2 (0 : Int)) [1113] g457) 1011 0 (0 : Int)) [5, 1011] g469) 87 l1_2 (0 : Int)) := sv_mod.up md473 (by decide)
                    refine sv_iinc (d := (1 : Int)) hM dX12_findSorts_175 rfl (by decide) rfl rfl ?_
                    show sv_T sm_XS sm_cs sm_L sm_sh 2 (q_findSorts S) 291 178 [(0, .ref 0), (1, sv_I (l1_2 + (1 : Int))), (2, sv_I s458), (3, sv_I s464)] [] (sv_up (sv_sts (sv_up (sv_sts (sv_up (sv_up (sv_sts S [88, 89, 87, 1113, 5, 1011] g1) 88 l1_2 (1 : Int)) 89 l1_2 (0 : Int)) [1113] g457) 1011 0 (0 : Int)) [5, 1011] g469) 87 l1_2 (0 : Int))
                    refine sv_goto hM dX12_findSorts_178 (pc' := 2) rfl ?_
                    obtain ⟨o478, h⟩ := h
                    have eS := sv_mod.eq md477
                    have hb := ih3 ((l1_2 + (1 : Int)), (sv_up (sv_sts (sv_up (sv_sts (sv_up (sv_up (sv_sts S [88, 89, 87, 1113, 5, 1011] g1) 88 l1_2 (1 : Int)) 89 l1_2 (0 : Int)) [1113] g457) 1011 0 (0 : Int)) [5, 1011] g469) 87 l1_2 (0 : Int))) ⟨o478, (by rw [← eS]; exact ok475), h.1⟩ h.2
                    have hb : sv_T sm_XS sm_cs sm_L sm_sh 2 (q_findSorts S) 291 2 [(0, .ref 0), (1, sv_I (l1_2 + (1 : Int)))] [] (sv_up (sv_sts (sv_up (sv_sts (sv_up (sv_up (sv_sts S [88, 89, 87, 1113, 5, 1011] g1) 88 l1_2 (1 : Int)) 89 l1_2 (0 : Int)) [1113] g457) 1011 0 (0 : Int)) [5, 1011] g469) 87 l1_2 (0 : Int)) := Eq.mpr (congrArg (fun Z => sv_T sm_XS sm_cs sm_L sm_sh 2 (q_findSorts S) 291 2 [(0, .ref 0), (1, sv_I (l1_2 + (1 : Int)))] [] Z) eS) hb
                    exact sv_less (lv := [(0, .ref 0), (1, sv_I (l1_2 + (1 : Int)))]) (sv_Sub_cons rfl (sv_Sub_cons rfl sv_Sub_nil)) hb
                  · have h := h.2 (hc)
                    refine sv_aload_n hM dX12_findSorts_161 rfl rfl ?_
                    obtain ⟨o479, h⟩ := h
                    refine sv_callV hM dX12_findSorts_162 sm_iv_302 (by decide) (sm_a0 _) rfl rfl (Nat.le_of_ble_eq_true rfl) sm_h5 (Nat.le_of_ble_eq_true rfl) (Nat.le_of_ble_eq_true rfl) (F' := 0) (Nat.le_of_ble_eq_true rfl) rfl (t_findText  (sv_sts (sv_up (sv_sts (sv_up (sv_up (sv_sts S [88, 89, 87, 1113, 5, 1011] g1) 88 l1_2 (1 : Int)) 89 l1_2 (0 : Int)) [1113] g457) 1011 0 (0 : Int)) [5, 1011] g469) ok470 o479) (fun v S1 hq => ?_)
                    obtain ⟨r484, rfl, hr484, ok481, md482, hpo483⟩ := hq
                    obtain rfl : (sv_sts (sv_up (sv_sts (sv_up (sv_up (sv_sts S [88, 89, 87, 1113, 5, 1011] g1) 88 l1_2 (1 : Int)) 89 l1_2 (0 : Int)) [1113] g457) 1011 0 (0 : Int)) [5, 1011] g469) = S1 := (funext fun j => md482 j (by intro q; cases q)).symm
                    show sv_T sm_XS sm_cs sm_L sm_sh 2 (q_findSorts S) 291 165 [(0, .ref 0), (1, sv_I l1_2), (2, sv_I s458), (3, sv_I s464)] [sv_I r484, sv_I l1_2, .ref 87] (sv_sts (sv_up (sv_sts (sv_up (sv_up (sv_sts S [88, 89, 87, 1113, 5, 1011] g1) 88 l1_2 (1 : Int)) 89 l1_2 (0 : Int)) [1113] g457) 1011 0 (0 : Int)) [5, 1011] g469)
                    have h := h r484 hr484 hpo483
                    refine sv_iload_n hM dX12_findSorts_165 rfl rfl ?_
                    refine sv_icmp_ne hM dX12_findSorts_166 hr484 hl1_2 (t := 173) rfl rfl (fun hc => ?_) (fun hc => ?_)
                    · have h := h.1 (hc)
                      refine sv_iconst (d := (0 : Int)) hM dX12_findSorts_173 rfl rfl ?_
                      refine sv_zast sm_X hM dX12_findSorts_174 (sm_a87 _) (by decide) o387.1 o387.2 (sv_nnZ (⟨by decide, by decide⟩ : 0 ≤ (0 : Int) ∧ (0 : Int) ≤ 1)) rfl ?_
                      have ok485 : sm_ok (sv_up (sv_sts (sv_up (sv_sts (sv_up (sv_up (sv_sts S [88, 89, 87, 1113, 5, 1011] g1) 88 l1_2 (1 : Int)) 89 l1_2 (0 : Int)) [1113] g457) 1011 0 (0 : Int)) [5, 1011] g469) 87 l1_2 (0 : Int)) := sm_upZ ok481 sm_r87 (⟨by decide, by decide⟩ : 0 ≤ (0 : Int) ∧ (0 : Int) ≤ 1)
                      have md486 : sv_mod [88, 89, 87, 1113, 5, 1011, 90] S (sv_up (sv_sts (sv_up (sv_sts (sv_up (sv_up (sv_sts S [88, 89, 87, 1113, 5, 1011] g1) 88 l1_2 (1 : Int)) 89 l1_2 (0 : Int)) [1113] g457) 1011 0 (0 : Int)) [5, 1011] g469) 87 l1_2 (0 : Int)) := sv_mod.up md472 (by decide)
                      have md487 : sv_mod [88, 89, 87, 1113, 5, 1011] S (sv_up (sv_sts (sv_up (sv_sts (sv_up (sv_up (sv_sts S [88, 89, 87, 1113, 5, 1011] g1) 88 l1_2 (1 : Int)) 89 l1_2 (0 : Int)) [1113] g457) 1011 0 (0 : Int)) [5, 1011] g469) 87 l1_2 (0 : Int)) := sv_mod.up md473 (by decide)
                      refine sv_iinc (d := (1 : Int)) hM dX12_findSorts_175 rfl (by decide) rfl rfl ?_
                      show sv_T sm_XS sm_cs sm_L sm_sh 2 (q_findSorts S) 291 178 [(0, .ref 0), (1, sv_I (l1_2 + (1 : Int))), (2, sv_I s458), (3, sv_I s464)] [] (sv_up (sv_sts (sv_up (sv_sts (sv_up (sv_up (sv_sts S [88, 89, 87, 1113, 5, 1011] g1) 88 l1_2 (1 : Int)) 89 l1_2 (0 : Int)) [1113] g457) 1011 0 (0 : Int)) [5, 1011] g469) 87 l1_2 (0 : Int))
                      refine sv_goto hM dX12_findSorts_178 (pc' := 2) rfl ?_
                      obtain ⟨o488, h⟩ := h
                      have eS := sv_mod.eq md487
                      have hb := ih3 ((l1_2 + (1 : Int)), (sv_up (sv_sts (sv_up (sv_sts (sv_up (sv_up (sv_sts S [88, 89, 87, 1113, 5, 1011] g1) 88 l1_2 (1 : Int)) 89 l1_2 (0 : Int)) [1113] g457) 1011 0 (0 : Int)) [5, 1011] g469) 87 l1_2 (0 : Int))) ⟨o488, (by rw [← eS]; exact ok485), h.1⟩ h.2
                      have hb : sv_T sm_XS sm_cs sm_L sm_sh 2 (q_findSorts S) 291 2 [(0, .ref 0), (1, sv_I (l1_2 + (1 : Int)))] [] (sv_up (sv_sts (sv_up (sv_sts (sv_up (sv_up (sv_sts S [88, 89, 87, 1113, 5, 1011] g1) 88 l1_2 (1 : Int)) 89 l1_2 (0 : Int)) [1113] g457) 1011 0 (0 : Int)) [5, 1011] g469) 87 l1_2 (0 : Int)) := Eq.mpr (congrArg (fun Z => sv_T sm_XS sm_cs sm_L sm_sh 2 (q_findSorts S) 291 2 [(0, .ref 0), (1, sv_I (l1_2 + (1 : Int)))] [] Z) eS) hb
                      exact sv_less (lv := [(0, .ref 0), (1, sv_I (l1_2 + (1 : Int)))]) (sv_Sub_cons rfl (sv_Sub_cons rfl sv_Sub_nil)) hb
                    · have h := h.2 (hc)
                      refine sv_iconst (d := (1 : Int)) hM dX12_findSorts_169 rfl rfl ?_
                      refine sv_goto hM dX12_findSorts_170 (pc' := 174) rfl ?_
                      refine sv_zast sm_X hM dX12_findSorts_174 (sm_a87 _) (by decide) o387.1 o387.2 (sv_nnZ (⟨by decide, by decide⟩ : 0 ≤ (1 : Int) ∧ (1 : Int) ≤ 1)) rfl ?_
                      have ok489 : sm_ok (sv_up (sv_sts (sv_up (sv_sts (sv_up (sv_up (sv_sts S [88, 89, 87, 1113, 5, 1011] g1) 88 l1_2 (1 : Int)) 89 l1_2 (0 : Int)) [1113] g457) 1011 0 (0 : Int)) [5, 1011] g469) 87 l1_2 (1 : Int)) := sm_upZ ok481 sm_r87 (⟨by decide, by decide⟩ : 0 ≤ (1 : Int) ∧ (1 : Int) ≤ 1)
                      have md490 : sv_mod [88, 89, 87, 1113, 5, 1011, 90] S (sv_up (sv_sts (sv_up (sv_sts (sv_up (sv_up (sv_sts S [88, 89, 87, 1113, 5, 1011] g1) 88 l1_2 (1 : Int)) 89 l1_2 (0 : Int)) [1113] g457) 1011 0 (0 : Int)) [5, 1011] g469) 87 l1_2 (1 : Int)) := sv_mod.up md472 (by decide)
                      have md491 : sv_mod [88, 89, 87, 1113, 5, 1011] S (sv_up (sv_sts (sv_up (sv_sts (sv_up (sv_up (sv_sts S [88, 89, 87, 1113, 5, 1011] g1) 88 l1_2 (1 : Int)) 89 l1_2 (0 : Int)) [1113] g457) 1011 0 (0 : Int)) [5, 1011] g469) 87 l1_2 (1 : Int)) := sv_mod.up md473 (by decide)
                      refine sv_iinc (d := (1 : Int)) hM dX12_findSorts_175 rfl (by decide) rfl rfl ?_
                      show sv_T sm_XS sm_cs sm_L sm_sh 2 (q_findSorts S) 291 178 [(0, .ref 0), (1, sv_I (l1_2 + (1 : Int))), (2, sv_I s458), (3, sv_I s464)] [] (sv_up (sv_sts (sv_up (sv_sts (sv_up (sv_up (sv_sts S [88, 89, 87, 1113, 5, 1011] g1) 88 l1_2 (1 : Int)) 89 l1_2 (0 : Int)) [1113] g457) 1011 0 (0 : Int)) [5, 1011] g469) 87 l1_2 (1 : Int))
                      refine sv_goto hM dX12_findSorts_178 (pc' := 2) rfl ?_
                      obtain ⟨o492, h⟩ := h
                      have eS := sv_mod.eq md491
                      have hb := ih3 ((l1_2 + (1 : Int)), (sv_up (sv_sts (sv_up (sv_sts (sv_up (sv_up (sv_sts S [88, 89, 87, 1113, 5, 1011] g1) 88 l1_2 (1 : Int)) 89 l1_2 (0 : Int)) [1113] g457) 1011 0 (0 : Int)) [5, 1011] g469) 87 l1_2 (1 : Int))) ⟨o492, (by rw [← eS]; exact ok489), h.1⟩ h.2
                      have hb : sv_T sm_XS sm_cs sm_L sm_sh 2 (q_findSorts S) 291 2 [(0, .ref 0), (1, sv_I (l1_2 + (1 : Int)))] [] (sv_up (sv_sts (sv_up (sv_sts (sv_up (sv_up (sv_sts S [88, 89, 87, 1113, 5, 1011] g1) 88 l1_2 (1 : Int)) 89 l1_2 (0 : Int)) [1113] g457) 1011 0 (0 : Int)) [5, 1011] g469) 87 l1_2 (1 : Int)) := Eq.mpr (congrArg (fun Z => sv_T sm_XS sm_cs sm_L sm_sh 2 (q_findSorts S) 291 2 [(0, .ref 0), (1, sv_I (l1_2 + (1 : Int)))] [] Z) eS) hb
                      exact sv_less (lv := [(0, .ref 0), (1, sv_I (l1_2 + (1 : Int)))]) (sv_Sub_cons rfl (sv_Sub_cons rfl sv_Sub_nil)) hb
                have h := h.2
                refine sv_iload_n hM dX12_findSorts_143 rfl rfl ?_
                refine sv_cond_eq hM dX12_findSorts_144 hs464 (t := 152) rfl rfl (fun hc => ?_) (fun hc => ?_)
                · have h := h.1 (hc)
                  have eS := sv_mod.eq (sv_mod.rf (l := [5, 1011]) (S := (sv_up (sv_sts (sv_up (sv_up (sv_sts S [88, 89, 87, 1113, 5, 1011] g1) 88 l1_2 (1 : Int)) 89 l1_2 (0 : Int)) [1113] g457) 1011 0 (0 : Int))))
                  have hb := J493 (sv_up (sv_sts (sv_up (sv_up (sv_sts S [88, 89, 87, 1113, 5, 1011] g1) 88 l1_2 (1 : Int)) 89 l1_2 (0 : Int)) [1113] g457) 1011 0 (0 : Int)) (by rw [← eS]; exact ok466) h
                  have hb : sv_T sm_XS sm_cs sm_L sm_sh 2 (q_findSorts S) 291 152 [(0, .ref 0), (1, sv_I l1_2), (2, sv_I s458), (3, sv_I s464)] [] (sv_up (sv_sts (sv_up (sv_up (sv_sts S [88, 89, 87, 1113, 5, 1011] g1) 88 l1_2 (1 : Int)) 89 l1_2 (0 : Int)) [1113] g457) 1011 0 (0 : Int)) := Eq.mpr (congrArg (fun Z => sv_T sm_XS sm_cs sm_L sm_sh 2 (q_findSorts S) 291 152 [(0, .ref 0), (1, sv_I l1_2), (2, sv_I s458), (3, sv_I s464)] [] Z) eS) hb
                  exact sv_less (lv := [(0, .ref 0), (1, sv_I l1_2), (2, sv_I s458), (3, sv_I s464)]) (sv_Sub_cons rfl (sv_Sub_cons rfl (sv_Sub_cons rfl (sv_Sub_cons rfl sv_Sub_nil)))) hb
                · have h := h.2 (hc)
                  refine sv_aload_n hM dX12_findSorts_147 rfl rfl ?_
                  refine sv_iload_n hM dX12_findSorts_148 rfl rfl ?_
                  obtain ⟨o494, h⟩ := h
                  refine sv_callV hM dX12_findSorts_149 sm_iv_410 (by decide) (sm_a0 _) rfl rfl (Nat.le_of_ble_eq_true rfl) sm_h31 (Nat.le_of_ble_eq_true rfl) (Nat.le_of_ble_eq_true rfl) (F' := 1) (Nat.le_of_ble_eq_true rfl) rfl (t_putNumber s458 (sv_up (sv_sts (sv_up (sv_up (sv_sts S [88, 89, 87, 1113, 5, 1011] g1) 88 l1_2 (1 : Int)) 89 l1_2 (0 : Int)) [1113] g457) 1011 0 (0 : Int)) ok466 hs458 o494) (fun v S1 hq => ?_)
                  obtain ⟨rfl, ok496, md497, hpo498⟩ := hq
                  obtain ⟨g495, rfl⟩ : ∃ g, S1 = sv_sts (sv_up (sv_sts (sv_up (sv_up (sv_sts S [88, 89, 87, 1113, 5, 1011] g1) 88 l1_2 (1 : Int)) 89 l1_2 (0 : Int)) [1113] g457) 1011 0 (0 : Int)) [5, 1011] g := ⟨_, md497.eq⟩
                  show sv_T sm_XS sm_cs sm_L sm_sh 2 (q_findSorts S) 291 152 [(0, .ref 0), (1, sv_I l1_2), (2, sv_I s458), (3, sv_I s464)] [] (sv_sts (sv_up (sv_sts (sv_up (sv_up (sv_sts S [88, 89, 87, 1113, 5, 1011] g1) 88 l1_2 (1 : Int)) 89 l1_2 (0 : Int)) [1113] g457) 1011 0 (0 : Int)) [5, 1011] g495)
                  have md499 : sv_mod [88, 89, 87, 1113, 5, 1011, 90] S (sv_sts (sv_up (sv_sts (sv_up (sv_up (sv_sts S [88, 89, 87, 1113, 5, 1011] g1) 88 l1_2 (1 : Int)) 89 l1_2 (0 : Int)) [1113] g457) 1011 0 (0 : Int)) [5, 1011] g495) := sv_mod.sts md467 (by decide)
                  have md500 : sv_mod [88, 89, 87, 1113, 5, 1011] S (sv_sts (sv_up (sv_sts (sv_up (sv_up (sv_sts S [88, 89, 87, 1113, 5, 1011] g1) 88 l1_2 (1 : Int)) 89 l1_2 (0 : Int)) [1113] g457) 1011 0 (0 : Int)) [5, 1011] g495) := sv_mod.sts md468 (by decide)
                  have md501 : sv_mod [5, 1011] (sv_up (sv_sts (sv_up (sv_up (sv_sts S [88, 89, 87, 1113, 5, 1011] g1) 88 l1_2 (1 : Int)) 89 l1_2 (0 : Int)) [1113] g457) 1011 0 (0 : Int)) (sv_sts (sv_up (sv_sts (sv_up (sv_up (sv_sts S [88, 89, 87, 1113, 5, 1011] g1) 88 l1_2 (1 : Int)) 89 l1_2 (0 : Int)) [1113] g457) 1011 0 (0 : Int)) [5, 1011] g495) := sv_mod.sts (sv_mod.rf (l := [5, 1011]) (S := (sv_up (sv_sts (sv_up (sv_up (sv_sts S [88, 89, 87, 1113, 5, 1011] g1) 88 l1_2 (1 : Int)) 89 l1_2 (0 : Int)) [1113] g457) 1011 0 (0 : Int)))) (by decide)
                  have h := h g495 hpo498
                  have eS := sv_mod.eq md501
                  have hb := J493 (sv_sts (sv_up (sv_sts (sv_up (sv_up (sv_sts S [88, 89, 87, 1113, 5, 1011] g1) 88 l1_2 (1 : Int)) 89 l1_2 (0 : Int)) [1113] g457) 1011 0 (0 : Int)) [5, 1011] g495) (by rw [← eS]; exact ok496) h
                  have hb : sv_T sm_XS sm_cs sm_L sm_sh 2 (q_findSorts S) 291 152 [(0, .ref 0), (1, sv_I l1_2), (2, sv_I s458), (3, sv_I s464)] [] (sv_sts (sv_up (sv_sts (sv_up (sv_up (sv_sts S [88, 89, 87, 1113, 5, 1011] g1) 88 l1_2 (1 : Int)) 89 l1_2 (0 : Int)) [1113] g457) 1011 0 (0 : Int)) [5, 1011] g495) := Eq.mpr (congrArg (fun Z => sv_T sm_XS sm_cs sm_L sm_sh 2 (q_findSorts S) 291 152 [(0, .ref 0), (1, sv_I l1_2), (2, sv_I s458), (3, sv_I s464)] [] Z) eS) hb
                  exact sv_less (lv := [(0, .ref 0), (1, sv_I l1_2), (2, sv_I s458), (3, sv_I s464)]) (sv_Sub_cons rfl (sv_Sub_cons rfl (sv_Sub_cons rfl (sv_Sub_cons rfl sv_Sub_nil)))) hb
              have h := h.2
              refine sv_aload_n hM dX12_findSorts_116 rfl rfl ?_
              refine sv_getA hM dX12_findSorts_117 sm_fl_20 (sm_a0 _) sm_k6 rfl ?_
              refine sv_iload_n hM dX12_findSorts_120 rfl rfl ?_
              refine sv_iald hM dX12_findSorts_121 (sm_a4 _) (by decide) o391.1 o391.2 rfl (x := (S 4 l1_2)) rfl ?_
              refine sv_cond_le hM dX12_findSorts_122 k392 (t := 136) rfl rfl (fun hc => ?_) (fun hc => ?_)
              · have h := h.1 (hc)
                refine sv_iconst (d := (0 : Int)) hM dX12_findSorts_136 rfl rfl ?_
                have hb := J502 (0 : Int) (⟨by decide, by decide⟩ : sv_R (0 : Int)) h
                exact sv_less (lv := [(0, .ref 0), (1, sv_I l1_2), (2, sv_I s458)]) (sv_Sub_cons rfl (sv_Sub_cons rfl (sv_Sub_cons rfl sv_Sub_nil))) hb
              · have h := h.2 (hc)
                refine sv_aload_n hM dX12_findSorts_125 rfl rfl ?_
                have k503 : (0 ≤ (g457 1113 0) ∧ (g457 1113 0) ≤ 1) := sm_okZ ok459 sm_r1113 0
                have h := h k503
                refine sv_getI hM dX12_findSorts_126 sm_fl_806 (sm_a0 _) sm_k113 rfl (x := (g457 1113 0)) rfl ?_
                refine sv_cond_eq hM dX12_findSorts_129 (sv_R01 k503) (t := 136) rfl rfl (fun hc => ?_) (fun hc => ?_)
                · have h := h.1 (hc)
                  refine sv_iconst (d := (0 : Int)) hM dX12_findSorts_136 rfl rfl ?_
                  have hb := J502 (0 : Int) (⟨by decide, by decide⟩ : sv_R (0 : Int)) h
                  exact sv_less (lv := [(0, .ref 0), (1, sv_I l1_2), (2, sv_I s458)]) (sv_Sub_cons rfl (sv_Sub_cons rfl (sv_Sub_cons rfl sv_Sub_nil))) hb
                · have h := h.2 (hc)
                  refine sv_iconst (d := (1 : Int)) hM dX12_findSorts_132 rfl rfl ?_
                  refine sv_goto hM dX12_findSorts_133 (pc' := 137) rfl ?_
                  have hb := J502 (1 : Int) (⟨by decide, by decide⟩ : sv_R (1 : Int)) h
                  exact sv_less (lv := [(0, .ref 0), (1, sv_I l1_2), (2, sv_I s458)]) (sv_Sub_cons rfl (sv_Sub_cons rfl (sv_Sub_cons rfl sv_Sub_nil))) hb
            have h := h.2
            refine sv_aload_n hM dX12_findSorts_97 rfl rfl ?_
            refine sv_getA hM dX12_findSorts_98 sm_fl_20 (sm_a0 _) sm_k6 rfl ?_
            refine sv_iload_n hM dX12_findSorts_101 rfl rfl ?_
            refine sv_iald hM dX12_findSorts_102 (sm_a4 _) (by decide) o391.1 o391.2 rfl (x := (S 4 l1_2)) rfl ?_
            refine sv_cond_le hM dX12_findSorts_103 k392 (t := 114) rfl rfl (fun hc => ?_) (fun hc => ?_)
            · have h := h.1 (hc)
              refine sv_iconst (d := (0 : Int)) hM dX12_findSorts_114 rfl rfl ?_
              have eS := sv_mod.eq (sv_mod.rf (l := [1113]) (S := (sv_up (sv_up (sv_sts S [88, 89, 87, 1113, 5, 1011] g1) 88 l1_2 (1 : Int)) 89 l1_2 (0 : Int))))
              have hb := J504 (0 : Int) (⟨by decide, by decide⟩ : sv_R (0 : Int)) (sv_up (sv_up (sv_sts S [88, 89, 87, 1113, 5, 1011] g1) 88 l1_2 (1 : Int)) 89 l1_2 (0 : Int)) (by rw [← eS]; exact ok454) h
              have hb : sv_T sm_XS sm_cs sm_L sm_sh 2 (q_findSorts S) 291 115 [(0, .ref 0), (1, sv_I l1_2)] [sv_I (0 : Int)] (sv_up (sv_up (sv_sts S [88, 89, 87, 1113, 5, 1011] g1) 88 l1_2 (1 : Int)) 89 l1_2 (0 : Int)) := Eq.mpr (congrArg (fun Z => sv_T sm_XS sm_cs sm_L sm_sh 2 (q_findSorts S) 291 115 [(0, .ref 0), (1, sv_I l1_2)] [sv_I (0 : Int)] Z) eS) hb
              exact sv_less (lv := [(0, .ref 0), (1, sv_I l1_2)]) (sv_Sub_cons rfl (sv_Sub_cons rfl sv_Sub_nil)) hb
            · have h := h.2 (hc)
              refine sv_aload_n hM dX12_findSorts_106 rfl rfl ?_
              refine sv_iload_n hM dX12_findSorts_107 rfl rfl ?_
              refine sv_callV hM dX12_findSorts_108 sm_iv_809 (by decide) (sm_a0 _) rfl rfl (Nat.le_of_ble_eq_true rfl) sm_h128 (Nat.le_of_ble_eq_true rfl) (Nat.le_of_ble_eq_true rfl) (F' := 1) (Nat.le_of_ble_eq_true rfl) rfl (t_numberOfString l1_2 (sv_up (sv_up (sv_sts S [88, 89, 87, 1113, 5, 1011] g1) 88 l1_2 (1 : Int)) 89 l1_2 (0 : Int)) ok454 hl1_2 o74) (fun v S1 hq => ?_)
              obtain ⟨r509, rfl, hr509, ok506, md507, hpo508⟩ := hq
              obtain ⟨g505, rfl⟩ : ∃ g, S1 = sv_sts (sv_up (sv_up (sv_sts S [88, 89, 87, 1113, 5, 1011] g1) 88 l1_2 (1 : Int)) 89 l1_2 (0 : Int)) [1113] g := ⟨_, md507.eq⟩
              show sv_T sm_XS sm_cs sm_L sm_sh 2 (q_findSorts S) 291 111 [(0, .ref 0), (1, sv_I l1_2)] [sv_I r509] (sv_sts (sv_up (sv_up (sv_sts S [88, 89, 87, 1113, 5, 1011] g1) 88 l1_2 (1 : Int)) 89 l1_2 (0 : Int)) [1113] g505)
              have md510 : sv_mod [88, 89, 87, 1113, 5, 1011, 90] S (sv_sts (sv_up (sv_up (sv_sts S [88, 89, 87, 1113, 5, 1011] g1) 88 l1_2 (1 : Int)) 89 l1_2 (0 : Int)) [1113] g505) := sv_mod.sts md455 (by decide)
              have md511 : sv_mod [88, 89, 87, 1113, 5, 1011] S (sv_sts (sv_up (sv_up (sv_sts S [88, 89, 87, 1113, 5, 1011] g1) 88 l1_2 (1 : Int)) 89 l1_2 (0 : Int)) [1113] g505) := sv_mod.sts md456 (by decide)
              have md512 : sv_mod [1113] (sv_up (sv_up (sv_sts S [88, 89, 87, 1113, 5, 1011] g1) 88 l1_2 (1 : Int)) 89 l1_2 (0 : Int)) (sv_sts (sv_up (sv_up (sv_sts S [88, 89, 87, 1113, 5, 1011] g1) 88 l1_2 (1 : Int)) 89 l1_2 (0 : Int)) [1113] g505) := sv_mod.sts (sv_mod.rf (l := [1113]) (S := (sv_up (sv_up (sv_sts S [88, 89, 87, 1113, 5, 1011] g1) 88 l1_2 (1 : Int)) 89 l1_2 (0 : Int)))) (by decide)
              have h := h r509 hr509 g505 hpo508
              refine sv_goto hM dX12_findSorts_111 (pc' := 115) rfl ?_
              have eS := sv_mod.eq md512
              have hb := J504 r509 hr509 (sv_sts (sv_up (sv_up (sv_sts S [88, 89, 87, 1113, 5, 1011] g1) 88 l1_2 (1 : Int)) 89 l1_2 (0 : Int)) [1113] g505) (by rw [← eS]; exact ok506) h
              have hb : sv_T sm_XS sm_cs sm_L sm_sh 2 (q_findSorts S) 291 115 [(0, .ref 0), (1, sv_I l1_2)] [sv_I r509] (sv_sts (sv_up (sv_up (sv_sts S [88, 89, 87, 1113, 5, 1011] g1) 88 l1_2 (1 : Int)) 89 l1_2 (0 : Int)) [1113] g505) := Eq.mpr (congrArg (fun Z => sv_T sm_XS sm_cs sm_L sm_sh 2 (q_findSorts S) 291 115 [(0, .ref 0), (1, sv_I l1_2)] [sv_I r509] Z) eS) hb
              exact sv_less (lv := [(0, .ref 0), (1, sv_I l1_2)]) (sv_Sub_cons rfl (sv_Sub_cons rfl sv_Sub_nil)) hb
          · have h := h.2 (hc)
            refine sv_aload_n hM dX12_findSorts_59 rfl rfl ?_
            refine sv_getA hM dX12_findSorts_60 sm_fl_16 (sm_a0 _) sm_k5 rfl ?_
            refine sv_bipush (d := (60 : Int)) hM dX12_findSorts_63 rfl rfl ?_
            refine sv_iload_n hM dX12_findSorts_65 rfl rfl ?_
            refine sv_imul hM dX12_findSorts_66 rfl ?_
            refine sv_iconst (d := (1 : Int)) hM dX12_findSorts_67 rfl rfl ?_
            refine sv_iadd hM dX12_findSorts_68 rfl ?_
            obtain ⟨o513, h⟩ := h
            have k514 : (0 ≤ (S 3 (((60 : Int) * l1_2) + (1 : Int))) ∧ (S 3 (((60 : Int) * l1_2) + (1 : Int))) ≤ 65535) := sm_okC ok388 sm_r3 (((60 : Int) * l1_2) + (1 : Int))
            have h := h k514
            refine sv_cald hM dX12_findSorts_69 (sm_a3 _) (by decide) o513.1 o513.2 rfl (x := (S 3 (((60 : Int) * l1_2) + (1 : Int)))) rfl ?_
            refine sv_bipush (d := (48 : Int)) hM dX12_findSorts_70 rfl rfl ?_
            refine sv_icmp_ne hM dX12_findSorts_72 (sv_RC k514) (⟨by decide, by decide⟩ : sv_R (48 : Int)) (t := 95) rfl rfl (fun hc => ?_) (fun hc => ?_)
            · have h := h.1 (hc)
              refine sv_iconst (d := (0 : Int)) hM dX12_findSorts_95 rfl rfl ?_
              refine sv_zast sm_X hM dX12_findSorts_96 (sm_a89 _) (by decide) o387.1 o387.2 (sv_nnZ (⟨by decide, by decide⟩ : 0 ≤ (0 : Int) ∧ (0 : Int) ≤ 1)) rfl ?_
              have ok515 : sm_ok (sv_up (sv_up (sv_sts S [88, 89, 87, 1113, 5, 1011] g1) 88 l1_2 (1 : Int)) 89 l1_2 (0 : Int)) := sm_upZ ok388 sm_r89 (⟨by decide, by decide⟩ : 0 ≤ (0 : Int) ∧ (0 : Int) ≤ 1)
              have md516 : sv_mod [88, 89, 87, 1113, 5, 1011, 90] S (sv_up (sv_up (sv_sts S [88, 89, 87, 1113, 5, 1011] g1) 88 l1_2 (1 : Int)) 89 l1_2 (0 : Int)) := sv_mod.up md389 (by decide)
              have md517 : sv_mod [88, 89, 87, 1113, 5, 1011] S (sv_up (sv_up (sv_sts S [88, 89, 87, 1113, 5, 1011] g1) 88 l1_2 (1 : Int)) 89 l1_2 (0 : Int)) := sv_mod.up md390 (by decide)
              have J565 : ∀ s519 : Int, sv_R s519 → ∀ g518 : sv_S, sm_ok (sv_sts (sv_up (sv_up (sv_sts S [88, 89, 87, 1113, 5, 1011] g1) 88 l1_2 (1 : Int)) 89 l1_2 (0 : Int)) [1113] g518) → (True) → sv_T sm_XS sm_cs sm_L sm_sh 2 (q_findSorts S) 291 115 [(0, .ref 0), (1, sv_I l1_2)] [sv_I s519] (sv_sts (sv_up (sv_up (sv_sts S [88, 89, 87, 1113, 5, 1011] g1) 88 l1_2 (1 : Int)) 89 l1_2 (0 : Int)) [1113] g518) := by
                intro s519 hs519 g518 ok520 hin521
                have h := h.1 s519 hs519 g518 hin521
                have md522 : sv_mod [88, 89, 87, 1113, 5, 1011, 90] S (sv_sts (sv_up (sv_up (sv_sts S [88, 89, 87, 1113, 5, 1011] g1) 88 l1_2 (1 : Int)) 89 l1_2 (0 : Int)) [1113] g518) := sv_mod.sts md516 (by decide)
                have md523 : sv_mod [88, 89, 87, 1113, 5, 1011] S (sv_sts (sv_up (sv_up (sv_sts S [88, 89, 87, 1113, 5, 1011] g1) 88 l1_2 (1 : Int)) 89 l1_2 (0 : Int)) [1113] g518) := sv_mod.sts md517 (by decide)
                have md524 : sv_mod [1113] (sv_up (sv_up (sv_sts S [88, 89, 87, 1113, 5, 1011] g1) 88 l1_2 (1 : Int)) 89 l1_2 (0 : Int)) (sv_sts (sv_up (sv_up (sv_sts S [88, 89, 87, 1113, 5, 1011] g1) 88 l1_2 (1 : Int)) 89 l1_2 (0 : Int)) [1113] g518) := sv_mod.sts sv_mod.rf (by decide)
                refine sv_istore_n hM dX12_findSorts_115 (by decide) rfl ?_
                show sv_T sm_XS sm_cs sm_L sm_sh 2 (q_findSorts S) 291 116 [(0, .ref 0), (1, sv_I l1_2), (2, sv_I s519)] [] (sv_sts (sv_up (sv_up (sv_sts S [88, 89, 87, 1113, 5, 1011] g1) 88 l1_2 (1 : Int)) 89 l1_2 (0 : Int)) [1113] g518)
                have J563 : ∀ s525 : Int, sv_R s525 → (s525 = 0 ∨ s525 = 1) → sv_T sm_XS sm_cs sm_L sm_sh 2 (q_findSorts S) 291 137 [(0, .ref 0), (1, sv_I l1_2), (2, sv_I s519)] [sv_I s525] (sv_sts (sv_up (sv_up (sv_sts S [88, 89, 87, 1113, 5, 1011] g1) 88 l1_2 (1 : Int)) 89 l1_2 (0 : Int)) [1113] g518) := by
                  intro s525 hs525 hin526
                  have h := h.1 s525 hs525 hin526
                  refine sv_istore_n hM dX12_findSorts_137 (by decide) rfl ?_
                  show sv_T sm_XS sm_cs sm_L sm_sh 2 (q_findSorts S) 291 138 [(0, .ref 0), (1, sv_I l1_2), (2, sv_I s519), (3, sv_I s525)] [] (sv_sts (sv_up (sv_up (sv_sts S [88, 89, 87, 1113, 5, 1011] g1) 88 l1_2 (1 : Int)) 89 l1_2 (0 : Int)) [1113] g518)
                  refine sv_aload_n hM dX12_findSorts_138 rfl rfl ?_
                  refine sv_iconst (d := (0 : Int)) hM dX12_findSorts_139 rfl rfl ?_
                  refine sv_putI sm_X hM dX12_findSorts_140 sm_fp_299 (sm_a0 _) sm_q11 (Or.inl rfl) rfl rfl rfl rfl ?_
                  have ok527 : sm_ok (sv_up (sv_sts (sv_up (sv_up (sv_sts S [88, 89, 87, 1113, 5, 1011] g1) 88 l1_2 (1 : Int)) 89 l1_2 (0 : Int)) [1113] g518) 1011 0 (0 : Int)) := sm_upI ok520 sm_r1011 (⟨by decide, by decide⟩ : sv_R (0 : Int))
                  have md528 : sv_mod [88, 89, 87, 1113, 5, 1011, 90] S (sv_up (sv_sts (sv_up (sv_up (sv_sts S [88, 89, 87, 1113, 5, 1011] g1) 88 l1_2 (1 : Int)) 89 l1_2 (0 : Int)) [1113] g518) 1011 0 (0 : Int)) := sv_mod.up md522 (by decide)
                  have md529 : sv_mod [88, 89, 87, 1113, 5, 1011] S (sv_up (sv_sts (sv_up (sv_up (sv_sts S [88, 89, 87, 1113, 5, 1011] g1) 88 l1_2 (1 : Int)) 89 l1_2 (0 : Int)) [1113] g518) 1011 0 (0 : Int)) := sv_mod.up md523 (by decide)
                  have J554 : ∀ g530 : sv_S, sm_ok (sv_sts (sv_up (sv_sts (sv_up (sv_up (sv_sts S [88, 89, 87, 1113, 5, 1011] g1) 88 l1_2 (1 : Int)) 89 l1_2 (0 : Int)) [1113] g518) 1011 0 (0 : Int)) [5, 1011] g530) → (0 ≤ (g530 1011 0) ∧ (g530 1011 0) ≤ 200) → sv_T sm_XS sm_cs sm_L sm_sh 2 (q_findSorts S) 291 152 [(0, .ref 0), (1, sv_I l1_2), (2, sv_I s519), (3, sv_I s525)] [] (sv_sts (sv_up (sv_sts (sv_up (sv_up (sv_sts S [88, 89, 87, 1113, 5, 1011] g1) 88 l1_2 (1 : Int)) 89 l1_2 (0 : Int)) [1113] g518) 1011 0 (0 : Int)) [5, 1011] g530) := by
                    intro  g530 ok531 hin532
                    have h := h.1 g530 hin532
                    have md533 : sv_mod [88, 89, 87, 1113, 5, 1011, 90] S (sv_sts (sv_up (sv_sts (sv_up (sv_up (sv_sts S [88, 89, 87, 1113, 5, 1011] g1) 88 l1_2 (1 : Int)) 89 l1_2 (0 : Int)) [1113] g518) 1011 0 (0 : Int)) [5, 1011] g530) := sv_mod.sts md528 (by decide)
                    have md534 : sv_mod [88, 89, 87, 1113, 5, 1011] S (sv_sts (sv_up (sv_sts (sv_up (sv_up (sv_sts S [88, 89, 87, 1113, 5, 1011] g1) 88 l1_2 (1 : Int)) 89 l1_2 (0 : Int)) [1113] g518) 1011 0 (0 : Int)) [5, 1011] g530) := sv_mod.sts md529 (by decide)
                    have md535 : sv_mod [5, 1011] (sv_up (sv_sts (sv_up (sv_up (sv_sts S [88, 89, 87, 1113, 5, 1011] g1) 88 l1_2 (1 : Int)) 89 l1_2 (0 : Int)) [1113] g518) 1011 0 (0 : Int)) (sv_sts (sv_up (sv_sts (sv_up (sv_up (sv_sts S [88, 89, 87, 1113, 5, 1011] g1) 88 l1_2 (1 : Int)) 89 l1_2 (0 : Int)) [1113] g518) 1011 0 (0 : Int)) [5, 1011] g530) := sv_mod.sts sv_mod.rf (by decide)
                    refine sv_aload_n hM dX12_findSorts_152 rfl rfl ?_
                    refine sv_getA hM dX12_findSorts_153 sm_fl_274 (sm_a0 _) sm_k139 rfl ?_
                    refine sv_iload_n hM dX12_findSorts_156 rfl rfl ?_
                    refine sv_iload_n hM dX12_findSorts_157 rfl rfl ?_
                    refine sv_cond_eq hM dX12_findSorts_158 hs525 (t := 173) rfl rfl (fun hc => ?_) (fun hc => ?_)
                    · have h := h.1 (hc)
                      refine sv_iconst (d := (0 : Int)) hM dX12_findSorts_173 rfl rfl ?_
                      refine sv_zast sm_X hM dX12_findSorts_174 (sm_a87 _) (by decide) o387.1 o387.2 (sv_nnZ (⟨by decide, by decide⟩ : 0 ≤ (0 : Int) ∧ (0 : Int) ≤ 1)) rfl ?_
                      have ok536 : sm_ok (sv_up (sv_sts (sv_up (sv_sts (sv_up (sv_up (sv_sts S [88, 89, 87, 1113, 5, 1011] g1) 88 l1_2 (1 : Int)) 89 l1_2 (0 : Int)) [1113] g518) 1011 0 (0 : Int)) [5, 1011] g530) 87 l1_2 (0 : Int)) := sm_upZ ok531 sm_r87 (⟨by decide, by decide⟩ : 0 ≤ (0 : Int) ∧ (0 : Int) ≤ 1)
                      have md537 : sv_mod [88, 89, 87, 1113, 5, 1011, 90] S (sv_up (sv_sts (sv_up (sv_sts (sv_up (sv_up (sv_sts S [88, 89, 87, 1113, 5, 1011] g1) 88 l1_2 (1 : Int)) 89 l1_2 (0 : Int)) [1113] g518) 1011 0 (0 : Int)) [5, 1011] g530) 87 l1_2 (0 : Int)) := sv_mod.up md533 (by decide)
                      have md538 : sv_mod [88, 89, 87, 1113, 5, 1011] S (sv_up (sv_sts (sv_up (sv_sts (sv_up (sv_up (sv_sts S [88, 89, 87, 1113, 5, 1011] g1) 88 l1_2 (1 : Int)) 89 l1_2 (0 : Int)) [1113] g518) 1011 0 (0 : Int)) [5, 1011] g530) 87 l1_2 (0 : Int)) := sv_mod.up md534 (by decide)
                      refine sv_iinc (d := (1 : Int)) hM dX12_findSorts_175 rfl (by decide) rfl rfl ?_
                      show sv_T sm_XS sm_cs sm_L sm_sh 2 (q_findSorts S) 291 178 [(0, .ref 0), (1, sv_I (l1_2 + (1 : Int))), (2, sv_I s519), (3, sv_I s525)] [] (sv_up (sv_sts (sv_up (sv_sts (sv_up (sv_up (sv_sts S [88, 89, 87, 1113, 5, 1011] g1) 88 l1_2 (1 : Int)) 89 l1_2 (0 : Int)) [1113] g518) 1011 0 (0 : Int)) [5, 1011] g530) 87 l1_2 (0 : Int))
                      refine sv_goto hM dX12_findSorts_178 (pc' := 2) rfl ?_
                      obtain ⟨o539, h⟩ := h
                      have eS := sv_mod.eq md538
                      have hb := ih3 ((l1_2 + (1 : Int)), (sv_up (sv_sts (sv_up (sv_sts (sv_up (sv_up (sv_sts S [88, 89, 87, 1113, 5, 1011] g1) 88 l1_2 (1 : Int)) 89 l1_2 (0 : Int)) [1113] g518) 1011 0 (0 : Int)) [5, 1011] g530) 87 l1_2 (0 : Int))) ⟨o539, (by rw [← eS]; exact ok536), h.1⟩ h.2
                      have hb : sv_T sm_XS sm_cs sm_L sm_sh 2 (q_findSorts S) 291 2 [(0, .ref 0), (1, sv_I (l1_2 + (1 : Int)))] [] (sv_up (sv_sts (sv_up (sv_sts (sv_up (sv_up (sv_sts S [88, 89, 87, 1113, 5, 1011] g1) 88 l1_2 (1 : Int)) 89 l1_2 (0 : Int)) [1113] g518) 1011 0 (0 : Int)) [5, 1011] g530) 87 l1_2 (0 : Int)) := Eq.mpr (congrArg (fun Z => sv_T sm_XS sm_cs sm_L sm_sh 2 (q_findSorts S) 291 2 [(0, .ref 0), (1, sv_I (l1_2 + (1 : Int)))] [] Z) eS) hb
                      exact sv_less (lv := [(0, .ref 0), (1, sv_I (l1_2 + (1 : Int)))]) (sv_Sub_cons rfl (sv_Sub_cons rfl sv_Sub_nil)) hb
                    · have h := h.2 (hc)
                      refine sv_aload_n hM dX12_findSorts_161 rfl rfl ?_
                      obtain ⟨o540, h⟩ := h
                      refine sv_callV hM dX12_findSorts_162 sm_iv_302 (by decide) (sm_a0 _) rfl rfl (Nat.le_of_ble_eq_true rfl) sm_h5 (Nat.le_of_ble_eq_true rfl) (Nat.le_of_ble_eq_true rfl) (F' := 0) (Nat.le_of_ble_eq_true rfl) rfl (t_findText  (sv_sts (sv_up (sv_sts (sv_up (sv_up (sv_sts S [88, 89, 87, 1113, 5, 1011] g1) 88 l1_2 (1 : Int)) 89 l1_2 (0 : Int)) [1113] g518) 1011 0 (0 : Int)) [5, 1011] g530) ok531 o540) (fun v S1 hq => ?_)
                      obtain ⟨r545, rfl, hr545, ok542, md543, hpo544⟩ := hq
                      obtain rfl : (sv_sts (sv_up (sv_sts (sv_up (sv_up (sv_sts S [88, 89, 87, 1113, 5, 1011] g1) 88 l1_2 (1 : Int)) 89 l1_2 (0 : Int)) [1113] g518) 1011 0 (0 : Int)) [5, 1011] g530) = S1 := (funext fun j => md543 j (by intro q; cases q)).symm
                      show sv_T sm_XS sm_cs sm_L sm_sh 2 (q_findSorts S) 291 165 [(0, .ref 0), (1, sv_I l1_2), (2, sv_I s519), (3, sv_I s525)] [sv_I r545, sv_I l1_2, .ref 87] (sv_sts (sv_up (sv_sts (sv_up (sv_up (sv_sts S [88, 89, 87, 1113, 5, 1011] g1) 88 l1_2 (1 : Int)) 89 l1_2 (0 : Int)) [1113] g518) 1011 0 (0 : Int)) [5, 1011] g530)
                      have h := h r545 hr545 hpo544
                      refine sv_iload_n hM dX12_findSorts_165 rfl rfl ?_
                      refine sv_icmp_ne hM dX12_findSorts_166 hr545 hl1_2 (t := 173) rfl rfl (fun hc => ?_) (fun hc => ?_)
                      · have h := h.1 (hc)
                        refine sv_iconst (d := (0 : Int)) hM dX12_findSorts_173 rfl rfl ?_
                        refine sv_zast sm_X hM dX12_findSorts_174 (sm_a87 _) (by decide) o387.1 o387.2 (sv_nnZ (⟨by decide, by decide⟩ : 0 ≤ (0 : Int) ∧ (0 : Int) ≤ 1)) rfl ?_
                        have ok546 : sm_ok (sv_up (sv_sts (sv_up (sv_sts (sv_up (sv_up (sv_sts S [88, 89, 87, 1113, 5, 1011] g1) 88 l1_2 (1 : Int)) 89 l1_2 (0 : Int)) [1113] g518) 1011 0 (0 : Int)) [5, 1011] g530) 87 l1_2 (0 : Int)) := sm_upZ ok542 sm_r87 (⟨by decide, by decide⟩ : 0 ≤ (0 : Int) ∧ (0 : Int) ≤ 1)
                        have md547 : sv_mod [88, 89, 87, 1113, 5, 1011, 90] S (sv_up (sv_sts (sv_up (sv_sts (sv_up (sv_up (sv_sts S [88, 89, 87, 1113, 5, 1011] g1) 88 l1_2 (1 : Int)) 89 l1_2 (0 : Int)) [1113] g518) 1011 0 (0 : Int)) [5, 1011] g530) 87 l1_2 (0 : Int)) := sv_mod.up md533 (by decide)
                        have md548 : sv_mod [88, 89, 87, 1113, 5, 1011] S (sv_up (sv_sts (sv_up (sv_sts (sv_up (sv_up (sv_sts S [88, 89, 87, 1113, 5, 1011] g1) 88 l1_2 (1 : Int)) 89 l1_2 (0 : Int)) [1113] g518) 1011 0 (0 : Int)) [5, 1011] g530) 87 l1_2 (0 : Int)) := sv_mod.up md534 (by decide)
                        refine sv_iinc (d := (1 : Int)) hM dX12_findSorts_175 rfl (by decide) rfl rfl ?_
                        show sv_T sm_XS sm_cs sm_L sm_sh 2 (q_findSorts S) 291 178 [(0, .ref 0), (1, sv_I (l1_2 + (1 : Int))), (2, sv_I s519), (3, sv_I s525)] [] (sv_up (sv_sts (sv_up (sv_sts (sv_up (sv_up (sv_sts S [88, 89, 87, 1113, 5, 1011] g1) 88 l1_2 (1 : Int)) 89 l1_2 (0 : Int)) [1113] g518) 1011 0 (0 : Int)) [5, 1011] g530) 87 l1_2 (0 : Int))
                        refine sv_goto hM dX12_findSorts_178 (pc' := 2) rfl ?_
                        obtain ⟨o549, h⟩ := h
                        have eS := sv_mod.eq md548
                        have hb := ih3 ((l1_2 + (1 : Int)), (sv_up (sv_sts (sv_up (sv_sts (sv_up (sv_up (sv_sts S [88, 89, 87, 1113, 5, 1011] g1) 88 l1_2 (1 : Int)) 89 l1_2 (0 : Int)) [1113] g518) 1011 0 (0 : Int)) [5, 1011] g530) 87 l1_2 (0 : Int))) ⟨o549, (by rw [← eS]; exact ok546), h.1⟩ h.2
                        have hb : sv_T sm_XS sm_cs sm_L sm_sh 2 (q_findSorts S) 291 2 [(0, .ref 0), (1, sv_I (l1_2 + (1 : Int)))] [] (sv_up (sv_sts (sv_up (sv_sts (sv_up (sv_up (sv_sts S [88, 89, 87, 1113, 5, 1011] g1) 88 l1_2 (1 : Int)) 89 l1_2 (0 : Int)) [1113] g518) 1011 0 (0 : Int)) [5, 1011] g530) 87 l1_2 (0 : Int)) := Eq.mpr (congrArg (fun Z => sv_T sm_XS sm_cs sm_L sm_sh 2 (q_findSorts S) 291 2 [(0, .ref 0), (1, sv_I (l1_2 + (1 : Int)))] [] Z) eS) hb
                        exact sv_less (lv := [(0, .ref 0), (1, sv_I (l1_2 + (1 : Int)))]) (sv_Sub_cons rfl (sv_Sub_cons rfl sv_Sub_nil)) hb
                      · have h := h.2 (hc)
                        refine sv_iconst (d := (1 : Int)) hM dX12_findSorts_169 rfl rfl ?_
                        refine sv_goto hM dX12_findSorts_170 (pc' := 174) rfl ?_
                        refine sv_zast sm_X hM dX12_findSorts_174 (sm_a87 _) (by decide) o387.1 o387.2 (sv_nnZ (⟨by decide, by decide⟩ : 0 ≤ (1 : Int) ∧ (1 : Int) ≤ 1)) rfl ?_
                        have ok550 : sm_ok (sv_up (sv_sts (sv_up (sv_sts (sv_up (sv_up (sv_sts S [88, 89, 87, 1113, 5, 1011] g1) 88 l1_2 (1 : Int)) 89 l1_2 (0 : Int)) [1113] g518) 1011 0 (0 : Int)) [5, 1011] g530) 87 l1_2 (1 : Int)) := sm_upZ ok542 sm_r87 (⟨by decide, by decide⟩ : 0 ≤ (1 : Int) ∧ (1 : Int) ≤ 1)
                        have md551 : sv_mod [88, 89, 87, 1113, 5, 1011, 90] S (sv_up (sv_sts (sv_up (sv_sts (sv_up (sv_up (sv_sts S [88, 89, 87, 1113, 5, 1011] g1) 88 l1_2 (1 : Int)) 89 l1_2 (0 : Int)) [1113] g518) 1011 0 (0 : Int)) [5, 1011] g530) 87 l1_2 (1 : Int)) := sv_mod.up md533 (by decide)
                        have md552 : sv_mod [88, 89, 87, 1113, 5, 1011] S (sv_up (sv_sts (sv_up (sv_sts (sv_up (sv_up (sv_sts S [88, 89, 87, 1113, 5, 1011] g1) 88 l1_2 (1 : Int)) 89 l1_2 (0 : Int)) [1113] g518) 1011 0 (0 : Int)) [5, 1011] g530) 87 l1_2 (1 : Int)) := sv_mod.up md534 (by decide)
                        refine sv_iinc (d := (1 : Int)) hM dX12_findSorts_175 rfl (by decide) rfl rfl ?_
                        show sv_T sm_XS sm_cs sm_L sm_sh 2 (q_findSorts S) 291 178 [(0, .ref 0), (1, sv_I (l1_2 + (1 : Int))), (2, sv_I s519), (3, sv_I s525)] [] (sv_up (sv_sts (sv_up (sv_sts (sv_up (sv_up (sv_sts S [88, 89, 87, 1113, 5, 1011] g1) 88 l1_2 (1 : Int)) 89 l1_2 (0 : Int)) [1113] g518) 1011 0 (0 : Int)) [5, 1011] g530) 87 l1_2 (1 : Int))
                        refine sv_goto hM dX12_findSorts_178 (pc' := 2) rfl ?_
                        obtain ⟨o553, h⟩ := h
                        have eS := sv_mod.eq md552
                        have hb := ih3 ((l1_2 + (1 : Int)), (sv_up (sv_sts (sv_up (sv_sts (sv_up (sv_up (sv_sts S [88, 89, 87, 1113, 5, 1011] g1) 88 l1_2 (1 : Int)) 89 l1_2 (0 : Int)) [1113] g518) 1011 0 (0 : Int)) [5, 1011] g530) 87 l1_2 (1 : Int))) ⟨o553, (by rw [← eS]; exact ok550), h.1⟩ h.2
                        have hb : sv_T sm_XS sm_cs sm_L sm_sh 2 (q_findSorts S) 291 2 [(0, .ref 0), (1, sv_I (l1_2 + (1 : Int)))] [] (sv_up (sv_sts (sv_up (sv_sts (sv_up (sv_up (sv_sts S [88, 89, 87, 1113, 5, 1011] g1) 88 l1_2 (1 : Int)) 89 l1_2 (0 : Int)) [1113] g518) 1011 0 (0 : Int)) [5, 1011] g530) 87 l1_2 (1 : Int)) := Eq.mpr (congrArg (fun Z => sv_T sm_XS sm_cs sm_L sm_sh 2 (q_findSorts S) 291 2 [(0, .ref 0), (1, sv_I (l1_2 + (1 : Int)))] [] Z) eS) hb
                        exact sv_less (lv := [(0, .ref 0), (1, sv_I (l1_2 + (1 : Int)))]) (sv_Sub_cons rfl (sv_Sub_cons rfl sv_Sub_nil)) hb
                  have h := h.2
                  refine sv_iload_n hM dX12_findSorts_143 rfl rfl ?_
                  refine sv_cond_eq hM dX12_findSorts_144 hs525 (t := 152) rfl rfl (fun hc => ?_) (fun hc => ?_)
                  · have h := h.1 (hc)
                    have eS := sv_mod.eq (sv_mod.rf (l := [5, 1011]) (S := (sv_up (sv_sts (sv_up (sv_up (sv_sts S [88, 89, 87, 1113, 5, 1011] g1) 88 l1_2 (1 : Int)) 89 l1_2 (0 : Int)) [1113] g518) 1011 0 (0 : Int))))
                    have hb := J554 (sv_up (sv_sts (sv_up (sv_up (sv_sts S [88, 89, 87, 1113, 5, 1011] g1) 88 l1_2 (1 : Int)) 89 l1_2 (0 : Int)) [1113] g518) 1011 0 (0 : Int)) (by rw [← eS]; exact ok527) h
                    have hb : sv_T sm_XS sm_cs sm_L sm_sh 2 (q_findSorts S) 291 152 [(0, .ref 0), (1, sv_I l1_2), (2, sv_I s519), (3, sv_I s525)] [] (sv_up (sv_sts (sv_up (sv_up (sv_sts S [88, 89, 87, 1113, 5, 1011] g1) 88 l1_2 (1 : Int)) 89 l1_2 (0 : Int)) [1113] g518) 1011 0 (0 : Int)) := Eq.mpr (congrArg (fun Z => sv_T sm_XS sm_cs sm_L sm_sh 2 (q_findSorts S) 291 152 [(0, .ref 0), (1, sv_I l1_2), (2, sv_I s519), (3, sv_I s525)] [] Z) eS) hb
                    exact sv_less (lv := [(0, .ref 0), (1, sv_I l1_2), (2, sv_I s519), (3, sv_I s525)]) (sv_Sub_cons rfl (sv_Sub_cons rfl (sv_Sub_cons rfl (sv_Sub_cons rfl sv_Sub_nil)))) hb
                  · have h := h.2 (hc)
                    refine sv_aload_n hM dX12_findSorts_147 rfl rfl ?_
                    refine sv_iload_n hM dX12_findSorts_148 rfl rfl ?_
                    obtain ⟨o555, h⟩ := h
                    refine sv_callV hM dX12_findSorts_149 sm_iv_410 (by decide) (sm_a0 _) rfl rfl (Nat.le_of_ble_eq_true rfl) sm_h31 (Nat.le_of_ble_eq_true rfl) (Nat.le_of_ble_eq_true rfl) (F' := 1) (Nat.le_of_ble_eq_true rfl) rfl (t_putNumber s519 (sv_up (sv_sts (sv_up (sv_up (sv_sts S [88, 89, 87, 1113, 5, 1011] g1) 88 l1_2 (1 : Int)) 89 l1_2 (0 : Int)) [1113] g518) 1011 0 (0 : Int)) ok527 hs519 o555) (fun v S1 hq => ?_)
                    obtain ⟨rfl, ok557, md558, hpo559⟩ := hq
                    obtain ⟨g556, rfl⟩ : ∃ g, S1 = sv_sts (sv_up (sv_sts (sv_up (sv_up (sv_sts S [88, 89, 87, 1113, 5, 1011] g1) 88 l1_2 (1 : Int)) 89 l1_2 (0 : Int)) [1113] g518) 1011 0 (0 : Int)) [5, 1011] g := ⟨_, md558.eq⟩
                    show sv_T sm_XS sm_cs sm_L sm_sh 2 (q_findSorts S) 291 152 [(0, .ref 0), (1, sv_I l1_2), (2, sv_I s519), (3, sv_I s525)] [] (sv_sts (sv_up (sv_sts (sv_up (sv_up (sv_sts S [88, 89, 87, 1113, 5, 1011] g1) 88 l1_2 (1 : Int)) 89 l1_2 (0 : Int)) [1113] g518) 1011 0 (0 : Int)) [5, 1011] g556)
                    have md560 : sv_mod [88, 89, 87, 1113, 5, 1011, 90] S (sv_sts (sv_up (sv_sts (sv_up (sv_up (sv_sts S [88, 89, 87, 1113, 5, 1011] g1) 88 l1_2 (1 : Int)) 89 l1_2 (0 : Int)) [1113] g518) 1011 0 (0 : Int)) [5, 1011] g556) := sv_mod.sts md528 (by decide)
                    have md561 : sv_mod [88, 89, 87, 1113, 5, 1011] S (sv_sts (sv_up (sv_sts (sv_up (sv_up (sv_sts S [88, 89, 87, 1113, 5, 1011] g1) 88 l1_2 (1 : Int)) 89 l1_2 (0 : Int)) [1113] g518) 1011 0 (0 : Int)) [5, 1011] g556) := sv_mod.sts md529 (by decide)
                    have md562 : sv_mod [5, 1011] (sv_up (sv_sts (sv_up (sv_up (sv_sts S [88, 89, 87, 1113, 5, 1011] g1) 88 l1_2 (1 : Int)) 89 l1_2 (0 : Int)) [1113] g518) 1011 0 (0 : Int)) (sv_sts (sv_up (sv_sts (sv_up (sv_up (sv_sts S [88, 89, 87, 1113, 5, 1011] g1) 88 l1_2 (1 : Int)) 89 l1_2 (0 : Int)) [1113] g518) 1011 0 (0 : Int)) [5, 1011] g556) := sv_mod.sts (sv_mod.rf (l := [5, 1011]) (S := (sv_up (sv_sts (sv_up (sv_up (sv_sts S [88, 89, 87, 1113, 5, 1011] g1) 88 l1_2 (1 : Int)) 89 l1_2 (0 : Int)) [1113] g518) 1011 0 (0 : Int)))) (by decide)
                    have h := h g556 hpo559
                    have eS := sv_mod.eq md562
                    have hb := J554 (sv_sts (sv_up (sv_sts (sv_up (sv_up (sv_sts S [88, 89, 87, 1113, 5, 1011] g1) 88 l1_2 (1 : Int)) 89 l1_2 (0 : Int)) [1113] g518) 1011 0 (0 : Int)) [5, 1011] g556) (by rw [← eS]; exact ok557) h
                    have hb : sv_T sm_XS sm_cs sm_L sm_sh 2 (q_findSorts S) 291 152 [(0, .ref 0), (1, sv_I l1_2), (2, sv_I s519), (3, sv_I s525)] [] (sv_sts (sv_up (sv_sts (sv_up (sv_up (sv_sts S [88, 89, 87, 1113, 5, 1011] g1) 88 l1_2 (1 : Int)) 89 l1_2 (0 : Int)) [1113] g518) 1011 0 (0 : Int)) [5, 1011] g556) := Eq.mpr (congrArg (fun Z => sv_T sm_XS sm_cs sm_L sm_sh 2 (q_findSorts S) 291 152 [(0, .ref 0), (1, sv_I l1_2), (2, sv_I s519), (3, sv_I s525)] [] Z) eS) hb
                    exact sv_less (lv := [(0, .ref 0), (1, sv_I l1_2), (2, sv_I s519), (3, sv_I s525)]) (sv_Sub_cons rfl (sv_Sub_cons rfl (sv_Sub_cons rfl (sv_Sub_cons rfl sv_Sub_nil)))) hb
                have h := h.2
                refine sv_aload_n hM dX12_findSorts_116 rfl rfl ?_
                refine sv_getA hM dX12_findSorts_117 sm_fl_20 (sm_a0 _) sm_k6 rfl ?_
                refine sv_iload_n hM dX12_findSorts_120 rfl rfl ?_
                refine sv_iald hM dX12_findSorts_121 (sm_a4 _) (by decide) o391.1 o391.2 rfl (x := (S 4 l1_2)) rfl ?_
                refine sv_cond_le hM dX12_findSorts_122 k392 (t := 136) rfl rfl (fun hc => ?_) (fun hc => ?_)
                · have h := h.1 (hc)
                  refine sv_iconst (d := (0 : Int)) hM dX12_findSorts_136 rfl rfl ?_
                  have hb := J563 (0 : Int) (⟨by decide, by decide⟩ : sv_R (0 : Int)) h
                  exact sv_less (lv := [(0, .ref 0), (1, sv_I l1_2), (2, sv_I s519)]) (sv_Sub_cons rfl (sv_Sub_cons rfl (sv_Sub_cons rfl sv_Sub_nil))) hb
                · have h := h.2 (hc)
                  refine sv_aload_n hM dX12_findSorts_125 rfl rfl ?_
                  have k564 : (0 ≤ (g518 1113 0) ∧ (g518 1113 0) ≤ 1) := sm_okZ ok520 sm_r1113 0
                  have h := h k564
                  refine sv_getI hM dX12_findSorts_126 sm_fl_806 (sm_a0 _) sm_k113 rfl (x := (g518 1113 0)) rfl ?_
                  refine sv_cond_eq hM dX12_findSorts_129 (sv_R01 k564) (t := 136) rfl rfl (fun hc => ?_) (fun hc => ?_)
                  · have h := h.1 (hc)
                    refine sv_iconst (d := (0 : Int)) hM dX12_findSorts_136 rfl rfl ?_
                    have hb := J563 (0 : Int) (⟨by decide, by decide⟩ : sv_R (0 : Int)) h
                    exact sv_less (lv := [(0, .ref 0), (1, sv_I l1_2), (2, sv_I s519)]) (sv_Sub_cons rfl (sv_Sub_cons rfl (sv_Sub_cons rfl sv_Sub_nil))) hb
                  · have h := h.2 (hc)
                    refine sv_iconst (d := (1 : Int)) hM dX12_findSorts_132 rfl rfl ?_
                    refine sv_goto hM dX12_findSorts_133 (pc' := 137) rfl ?_
                    have hb := J563 (1 : Int) (⟨by decide, by decide⟩ : sv_R (1 : Int)) h
                    exact sv_less (lv := [(0, .ref 0), (1, sv_I l1_2), (2, sv_I s519)]) (sv_Sub_cons rfl (sv_Sub_cons rfl (sv_Sub_cons rfl sv_Sub_nil))) hb
              have h := h.2
              refine sv_aload_n hM dX12_findSorts_97 rfl rfl ?_
              refine sv_getA hM dX12_findSorts_98 sm_fl_20 (sm_a0 _) sm_k6 rfl ?_
              refine sv_iload_n hM dX12_findSorts_101 rfl rfl ?_
              refine sv_iald hM dX12_findSorts_102 (sm_a4 _) (by decide) o391.1 o391.2 rfl (x := (S 4 l1_2)) rfl ?_
              refine sv_cond_le hM dX12_findSorts_103 k392 (t := 114) rfl rfl (fun hc => ?_) (fun hc => ?_)
              · have h := h.1 (hc)
                refine sv_iconst (d := (0 : Int)) hM dX12_findSorts_114 rfl rfl ?_
                have eS := sv_mod.eq (sv_mod.rf (l := [1113]) (S := (sv_up (sv_up (sv_sts S [88, 89, 87, 1113, 5, 1011] g1) 88 l1_2 (1 : Int)) 89 l1_2 (0 : Int))))
                have hb := J565 (0 : Int) (⟨by decide, by decide⟩ : sv_R (0 : Int)) (sv_up (sv_up (sv_sts S [88, 89, 87, 1113, 5, 1011] g1) 88 l1_2 (1 : Int)) 89 l1_2 (0 : Int)) (by rw [← eS]; exact ok515) h
                have hb : sv_T sm_XS sm_cs sm_L sm_sh 2 (q_findSorts S) 291 115 [(0, .ref 0), (1, sv_I l1_2)] [sv_I (0 : Int)] (sv_up (sv_up (sv_sts S [88, 89, 87, 1113, 5, 1011] g1) 88 l1_2 (1 : Int)) 89 l1_2 (0 : Int)) := Eq.mpr (congrArg (fun Z => sv_T sm_XS sm_cs sm_L sm_sh 2 (q_findSorts S) 291 115 [(0, .ref 0), (1, sv_I l1_2)] [sv_I (0 : Int)] Z) eS) hb
                exact sv_less (lv := [(0, .ref 0), (1, sv_I l1_2)]) (sv_Sub_cons rfl (sv_Sub_cons rfl sv_Sub_nil)) hb
              · have h := h.2 (hc)
                refine sv_aload_n hM dX12_findSorts_106 rfl rfl ?_
                refine sv_iload_n hM dX12_findSorts_107 rfl rfl ?_
                refine sv_callV hM dX12_findSorts_108 sm_iv_809 (by decide) (sm_a0 _) rfl rfl (Nat.le_of_ble_eq_true rfl) sm_h128 (Nat.le_of_ble_eq_true rfl) (Nat.le_of_ble_eq_true rfl) (F' := 1) (Nat.le_of_ble_eq_true rfl) rfl (t_numberOfString l1_2 (sv_up (sv_up (sv_sts S [88, 89, 87, 1113, 5, 1011] g1) 88 l1_2 (1 : Int)) 89 l1_2 (0 : Int)) ok515 hl1_2 o74) (fun v S1 hq => ?_)
                obtain ⟨r570, rfl, hr570, ok567, md568, hpo569⟩ := hq
                obtain ⟨g566, rfl⟩ : ∃ g, S1 = sv_sts (sv_up (sv_up (sv_sts S [88, 89, 87, 1113, 5, 1011] g1) 88 l1_2 (1 : Int)) 89 l1_2 (0 : Int)) [1113] g := ⟨_, md568.eq⟩
                show sv_T sm_XS sm_cs sm_L sm_sh 2 (q_findSorts S) 291 111 [(0, .ref 0), (1, sv_I l1_2)] [sv_I r570] (sv_sts (sv_up (sv_up (sv_sts S [88, 89, 87, 1113, 5, 1011] g1) 88 l1_2 (1 : Int)) 89 l1_2 (0 : Int)) [1113] g566)
                have md571 : sv_mod [88, 89, 87, 1113, 5, 1011, 90] S (sv_sts (sv_up (sv_up (sv_sts S [88, 89, 87, 1113, 5, 1011] g1) 88 l1_2 (1 : Int)) 89 l1_2 (0 : Int)) [1113] g566) := sv_mod.sts md516 (by decide)
                have md572 : sv_mod [88, 89, 87, 1113, 5, 1011] S (sv_sts (sv_up (sv_up (sv_sts S [88, 89, 87, 1113, 5, 1011] g1) 88 l1_2 (1 : Int)) 89 l1_2 (0 : Int)) [1113] g566) := sv_mod.sts md517 (by decide)
                have md573 : sv_mod [1113] (sv_up (sv_up (sv_sts S [88, 89, 87, 1113, 5, 1011] g1) 88 l1_2 (1 : Int)) 89 l1_2 (0 : Int)) (sv_sts (sv_up (sv_up (sv_sts S [88, 89, 87, 1113, 5, 1011] g1) 88 l1_2 (1 : Int)) 89 l1_2 (0 : Int)) [1113] g566) := sv_mod.sts (sv_mod.rf (l := [1113]) (S := (sv_up (sv_up (sv_sts S [88, 89, 87, 1113, 5, 1011] g1) 88 l1_2 (1 : Int)) 89 l1_2 (0 : Int)))) (by decide)
                have h := h r570 hr570 g566 hpo569
                refine sv_goto hM dX12_findSorts_111 (pc' := 115) rfl ?_
                have eS := sv_mod.eq md573
                have hb := J565 r570 hr570 (sv_sts (sv_up (sv_up (sv_sts S [88, 89, 87, 1113, 5, 1011] g1) 88 l1_2 (1 : Int)) 89 l1_2 (0 : Int)) [1113] g566) (by rw [← eS]; exact ok567) h
                have hb : sv_T sm_XS sm_cs sm_L sm_sh 2 (q_findSorts S) 291 115 [(0, .ref 0), (1, sv_I l1_2)] [sv_I r570] (sv_sts (sv_up (sv_up (sv_sts S [88, 89, 87, 1113, 5, 1011] g1) 88 l1_2 (1 : Int)) 89 l1_2 (0 : Int)) [1113] g566) := Eq.mpr (congrArg (fun Z => sv_T sm_XS sm_cs sm_L sm_sh 2 (q_findSorts S) 291 115 [(0, .ref 0), (1, sv_I l1_2)] [sv_I r570] Z) eS) hb
                exact sv_less (lv := [(0, .ref 0), (1, sv_I l1_2)]) (sv_Sub_cons rfl (sv_Sub_cons rfl sv_Sub_nil)) hb
            · have h := h.2 (hc)
              refine sv_aload_n hM dX12_findSorts_75 rfl rfl ?_
              refine sv_getA hM dX12_findSorts_76 sm_fl_16 (sm_a0 _) sm_k5 rfl ?_
              refine sv_bipush (d := (60 : Int)) hM dX12_findSorts_79 rfl rfl ?_
              refine sv_iload_n hM dX12_findSorts_81 rfl rfl ?_
              refine sv_imul hM dX12_findSorts_82 rfl ?_
              refine sv_iconst (d := (2 : Int)) hM dX12_findSorts_83 rfl rfl ?_
              refine sv_iadd hM dX12_findSorts_84 rfl ?_
              obtain ⟨o574, h⟩ := h
              have k575 : (0 ≤ (S 3 (((60 : Int) * l1_2) + (2 : Int))) ∧ (S 3 (((60 : Int) * l1_2) + (2 : Int))) ≤ 65535) := sm_okC ok388 sm_r3 (((60 : Int) * l1_2) + (2 : Int))
              have h := h k575
              refine sv_cald hM dX12_findSorts_85 (sm_a3 _) (by decide) o574.1 o574.2 rfl (x := (S 3 (((60 : Int) * l1_2) + (2 : Int)))) rfl ?_
              refine sv_bipush (d := (48 : Int)) hM dX12_findSorts_86 rfl rfl ?_
              refine sv_icmp_ne hM dX12_findSorts_88 (sv_RC k575) (⟨by decide, by decide⟩ : sv_R (48 : Int)) (t := 95) rfl rfl (fun hc => ?_) (fun hc => ?_)
              · have h := h.1 (hc)
                refine sv_iconst (d := (0 : Int)) hM dX12_findSorts_95 rfl rfl ?_
                refine sv_zast sm_X hM dX12_findSorts_96 (sm_a89 _) (by decide) o387.1 o387.2 (sv_nnZ (⟨by decide, by decide⟩ : 0 ≤ (0 : Int) ∧ (0 : Int) ≤ 1)) rfl ?_
                have ok576 : sm_ok (sv_up (sv_up (sv_sts S [88, 89, 87, 1113, 5, 1011] g1) 88 l1_2 (1 : Int)) 89 l1_2 (0 : Int)) := sm_upZ ok388 sm_r89 (⟨by decide, by decide⟩ : 0 ≤ (0 : Int) ∧ (0 : Int) ≤ 1)
                have md577 : sv_mod [88, 89, 87, 1113, 5, 1011, 90] S (sv_up (sv_up (sv_sts S [88, 89, 87, 1113, 5, 1011] g1) 88 l1_2 (1 : Int)) 89 l1_2 (0 : Int)) := sv_mod.up md389 (by decide)
                have md578 : sv_mod [88, 89, 87, 1113, 5, 1011] S (sv_up (sv_up (sv_sts S [88, 89, 87, 1113, 5, 1011] g1) 88 l1_2 (1 : Int)) 89 l1_2 (0 : Int)) := sv_mod.up md390 (by decide)
                have J626 : ∀ s580 : Int, sv_R s580 → ∀ g579 : sv_S, sm_ok (sv_sts (sv_up (sv_up (sv_sts S [88, 89, 87, 1113, 5, 1011] g1) 88 l1_2 (1 : Int)) 89 l1_2 (0 : Int)) [1113] g579) → (True) → sv_T sm_XS sm_cs sm_L sm_sh 2 (q_findSorts S) 291 115 [(0, .ref 0), (1, sv_I l1_2)] [sv_I s580] (sv_sts (sv_up (sv_up (sv_sts S [88, 89, 87, 1113, 5, 1011] g1) 88 l1_2 (1 : Int)) 89 l1_2 (0 : Int)) [1113] g579) := by
                  intro s580 hs580 g579 ok581 hin582
                  have h := h.1 s580 hs580 g579 hin582
                  have md583 : sv_mod [88, 89, 87, 1113, 5, 1011, 90] S (sv_sts (sv_up (sv_up (sv_sts S [88, 89, 87, 1113, 5, 1011] g1) 88 l1_2 (1 : Int)) 89 l1_2 (0 : Int)) [1113] g579) := sv_mod.sts md577 (by decide)
                  have md584 : sv_mod [88, 89, 87, 1113, 5, 1011] S (sv_sts (sv_up (sv_up (sv_sts S [88, 89, 87, 1113, 5, 1011] g1) 88 l1_2 (1 : Int)) 89 l1_2 (0 : Int)) [1113] g579) := sv_mod.sts md578 (by decide)
                  have md585 : sv_mod [1113] (sv_up (sv_up (sv_sts S [88, 89, 87, 1113, 5, 1011] g1) 88 l1_2 (1 : Int)) 89 l1_2 (0 : Int)) (sv_sts (sv_up (sv_up (sv_sts S [88, 89, 87, 1113, 5, 1011] g1) 88 l1_2 (1 : Int)) 89 l1_2 (0 : Int)) [1113] g579) := sv_mod.sts sv_mod.rf (by decide)
                  refine sv_istore_n hM dX12_findSorts_115 (by decide) rfl ?_
                  show sv_T sm_XS sm_cs sm_L sm_sh 2 (q_findSorts S) 291 116 [(0, .ref 0), (1, sv_I l1_2), (2, sv_I s580)] [] (sv_sts (sv_up (sv_up (sv_sts S [88, 89, 87, 1113, 5, 1011] g1) 88 l1_2 (1 : Int)) 89 l1_2 (0 : Int)) [1113] g579)
                  have J624 : ∀ s586 : Int, sv_R s586 → (s586 = 0 ∨ s586 = 1) → sv_T sm_XS sm_cs sm_L sm_sh 2 (q_findSorts S) 291 137 [(0, .ref 0), (1, sv_I l1_2), (2, sv_I s580)] [sv_I s586] (sv_sts (sv_up (sv_up (sv_sts S [88, 89, 87, 1113, 5, 1011] g1) 88 l1_2 (1 : Int)) 89 l1_2 (0 : Int)) [1113] g579) := by
                    intro s586 hs586 hin587
                    have h := h.1 s586 hs586 hin587
                    refine sv_istore_n hM dX12_findSorts_137 (by decide) rfl ?_
                    show sv_T sm_XS sm_cs sm_L sm_sh 2 (q_findSorts S) 291 138 [(0, .ref 0), (1, sv_I l1_2), (2, sv_I s580), (3, sv_I s586)] [] (sv_sts (sv_up (sv_up (sv_sts S [88, 89, 87, 1113, 5, 1011] g1) 88 l1_2 (1 : Int)) 89 l1_2 (0 : Int)) [1113] g579)
                    refine sv_aload_n hM dX12_findSorts_138 rfl rfl ?_
                    refine sv_iconst (d := (0 : Int)) hM dX12_findSorts_139 rfl rfl ?_
                    refine sv_putI sm_X hM dX12_findSorts_140 sm_fp_299 (sm_a0 _) sm_q11 (Or.inl rfl) rfl rfl rfl rfl ?_
                    have ok588 : sm_ok (sv_up (sv_sts (sv_up (sv_up (sv_sts S [88, 89, 87, 1113, 5, 1011] g1) 88 l1_2 (1 : Int)) 89 l1_2 (0 : Int)) [1113] g579) 1011 0 (0 : Int)) := sm_upI ok581 sm_r1011 (⟨by decide, by decide⟩ : sv_R (0 : Int))
                    have md589 : sv_mod [88, 89, 87, 1113, 5, 1011, 90] S (sv_up (sv_sts (sv_up (sv_up (sv_sts S [88, 89, 87, 1113, 5, 1011] g1) 88 l1_2 (1 : Int)) 89 l1_2 (0 : Int)) [1113] g579) 1011 0 (0 : Int)) := sv_mod.up md583 (by decide)
                    have md590 : sv_mod [88, 89, 87, 1113, 5, 1011] S (sv_up (sv_sts (sv_up (sv_up (sv_sts S [88, 89, 87, 1113, 5, 1011] g1) 88 l1_2 (1 : Int)) 89 l1_2 (0 : Int)) [1113] g579) 1011 0 (0 : Int)) := sv_mod.up md584 (by decide)
                    have J615 : ∀ g591 : sv_S, sm_ok (sv_sts (sv_up (sv_sts (sv_up (sv_up (sv_sts S [88, 89, 87, 1113, 5, 1011] g1) 88 l1_2 (1 : Int)) 89 l1_2 (0 : Int)) [1113] g579) 1011 0 (0 : Int)) [5, 1011] g591) → (0 ≤ (g591 1011 0) ∧ (g591 1011 0) ≤ 200) → sv_T sm_XS sm_cs sm_L sm_sh 2 (q_findSorts S) 291 152 [(0, .ref 0), (1, sv_I l1_2), (2, sv_I s580), (3, sv_I s586)] [] (sv_sts (sv_up (sv_sts (sv_up (sv_up (sv_sts S [88, 89, 87, 1113, 5, 1011] g1) 88 l1_2 (1 : Int)) 89 l1_2 (0 : Int)) [1113] g579) 1011 0 (0 : Int)) [5, 1011] g591) := by
                      intro  g591 ok592 hin593
                      have h := h.1 g591 hin593
                      have md594 : sv_mod [88, 89, 87, 1113, 5, 1011, 90] S (sv_sts (sv_up (sv_sts (sv_up (sv_up (sv_sts S [88, 89, 87, 1113, 5, 1011] g1) 88 l1_2 (1 : Int)) 89 l1_2 (0 : Int)) [1113] g579) 1011 0 (0 : Int)) [5, 1011] g591) := sv_mod.sts md589 (by decide)
                      have md595 : sv_mod [88, 89, 87, 1113, 5, 1011] S (sv_sts (sv_up (sv_sts (sv_up (sv_up (sv_sts S [88, 89, 87, 1113, 5, 1011] g1) 88 l1_2 (1 : Int)) 89 l1_2 (0 : Int)) [1113] g579) 1011 0 (0 : Int)) [5, 1011] g591) := sv_mod.sts md590 (by decide)
                      have md596 : sv_mod [5, 1011] (sv_up (sv_sts (sv_up (sv_up (sv_sts S [88, 89, 87, 1113, 5, 1011] g1) 88 l1_2 (1 : Int)) 89 l1_2 (0 : Int)) [1113] g579) 1011 0 (0 : Int)) (sv_sts (sv_up (sv_sts (sv_up (sv_up (sv_sts S [88, 89, 87, 1113, 5, 1011] g1) 88 l1_2 (1 : Int)) 89 l1_2 (0 : Int)) [1113] g579) 1011 0 (0 : Int)) [5, 1011] g591) := sv_mod.sts sv_mod.rf (by decide)
                      refine sv_aload_n hM dX12_findSorts_152 rfl rfl ?_
                      refine sv_getA hM dX12_findSorts_153 sm_fl_274 (sm_a0 _) sm_k139 rfl ?_
                      refine sv_iload_n hM dX12_findSorts_156 rfl rfl ?_
                      refine sv_iload_n hM dX12_findSorts_157 rfl rfl ?_
                      refine sv_cond_eq hM dX12_findSorts_158 hs586 (t := 173) rfl rfl (fun hc => ?_) (fun hc => ?_)
                      · have h := h.1 (hc)
                        refine sv_iconst (d := (0 : Int)) hM dX12_findSorts_173 rfl rfl ?_
                        refine sv_zast sm_X hM dX12_findSorts_174 (sm_a87 _) (by decide) o387.1 o387.2 (sv_nnZ (⟨by decide, by decide⟩ : 0 ≤ (0 : Int) ∧ (0 : Int) ≤ 1)) rfl ?_
                        have ok597 : sm_ok (sv_up (sv_sts (sv_up (sv_sts (sv_up (sv_up (sv_sts S [88, 89, 87, 1113, 5, 1011] g1) 88 l1_2 (1 : Int)) 89 l1_2 (0 : Int)) [1113] g579) 1011 0 (0 : Int)) [5, 1011] g591) 87 l1_2 (0 : Int)) := sm_upZ ok592 sm_r87 (⟨by decide, by decide⟩ : 0 ≤ (0 : Int) ∧ (0 : Int) ≤ 1)
                        have md598 : sv_mod [88, 89, 87, 1113, 5, 1011, 90] S (sv_up (sv_sts (sv_up (sv_sts (sv_up (sv_up (sv_sts S [88, 89, 87, 1113, 5, 1011] g1) 88 l1_2 (1 : Int)) 89 l1_2 (0 : Int)) [1113] g579) 1011 0 (0 : Int)) [5, 1011] g591) 87 l1_2 (0 : Int)) := sv_mod.up md594 (by decide)
                        have md599 : sv_mod [88, 89, 87, 1113, 5, 1011] S (sv_up (sv_sts (sv_up (sv_sts (sv_up (sv_up (sv_sts S [88, 89, 87, 1113, 5, 1011] g1) 88 l1_2 (1 : Int)) 89 l1_2 (0 : Int)) [1113] g579) 1011 0 (0 : Int)) [5, 1011] g591) 87 l1_2 (0 : Int)) := sv_mod.up md595 (by decide)
                        refine sv_iinc (d := (1 : Int)) hM dX12_findSorts_175 rfl (by decide) rfl rfl ?_
                        show sv_T sm_XS sm_cs sm_L sm_sh 2 (q_findSorts S) 291 178 [(0, .ref 0), (1, sv_I (l1_2 + (1 : Int))), (2, sv_I s580), (3, sv_I s586)] [] (sv_up (sv_sts (sv_up (sv_sts (sv_up (sv_up (sv_sts S [88, 89, 87, 1113, 5, 1011] g1) 88 l1_2 (1 : Int)) 89 l1_2 (0 : Int)) [1113] g579) 1011 0 (0 : Int)) [5, 1011] g591) 87 l1_2 (0 : Int))
                        refine sv_goto hM dX12_findSorts_178 (pc' := 2) rfl ?_
                        obtain ⟨o600, h⟩ := h
                        have eS := sv_mod.eq md599
                        have hb := ih3 ((l1_2 + (1 : Int)), (sv_up (sv_sts (sv_up (sv_sts (sv_up (sv_up (sv_sts S [88, 89, 87, 1113, 5, 1011] g1) 88 l1_2 (1 : Int)) 89 l1_2 (0 : Int)) [1113] g579) 1011 0 (0 : Int)) [5, 1011] g591) 87 l1_2 (0 : Int))) ⟨o600, (by rw [← eS]; exact ok597), h.1⟩ h.2
                        have hb : sv_T sm_XS sm_cs sm_L sm_sh 2 (q_findSorts S) 291 2 [(0, .ref 0), (1, sv_I (l1_2 + (1 : Int)))] [] (sv_up (sv_sts (sv_up (sv_sts (sv_up (sv_up (sv_sts S [88, 89, 87, 1113, 5, 1011] g1) 88 l1_2 (1 : Int)) 89 l1_2 (0 : Int)) [1113] g579) 1011 0 (0 : Int)) [5, 1011] g591) 87 l1_2 (0 : Int)) := Eq.mpr (congrArg (fun Z => sv_T sm_XS sm_cs sm_L sm_sh 2 (q_findSorts S) 291 2 [(0, .ref 0), (1, sv_I (l1_2 + (1 : Int)))] [] Z) eS) hb
                        exact sv_less (lv := [(0, .ref 0), (1, sv_I (l1_2 + (1 : Int)))]) (sv_Sub_cons rfl (sv_Sub_cons rfl sv_Sub_nil)) hb
                      · have h := h.2 (hc)
                        refine sv_aload_n hM dX12_findSorts_161 rfl rfl ?_
                        obtain ⟨o601, h⟩ := h
                        refine sv_callV hM dX12_findSorts_162 sm_iv_302 (by decide) (sm_a0 _) rfl rfl (Nat.le_of_ble_eq_true rfl) sm_h5 (Nat.le_of_ble_eq_true rfl) (Nat.le_of_ble_eq_true rfl) (F' := 0) (Nat.le_of_ble_eq_true rfl) rfl (t_findText  (sv_sts (sv_up (sv_sts (sv_up (sv_up (sv_sts S [88, 89, 87, 1113, 5, 1011] g1) 88 l1_2 (1 : Int)) 89 l1_2 (0 : Int)) [1113] g579) 1011 0 (0 : Int)) [5, 1011] g591) ok592 o601) (fun v S1 hq => ?_)
                        obtain ⟨r606, rfl, hr606, ok603, md604, hpo605⟩ := hq
                        obtain rfl : (sv_sts (sv_up (sv_sts (sv_up (sv_up (sv_sts S [88, 89, 87, 1113, 5, 1011] g1) 88 l1_2 (1 : Int)) 89 l1_2 (0 : Int)) [1113] g579) 1011 0 (0 : Int)) [5, 1011] g591) = S1 := (funext fun j => md604 j (by intro q; cases q)).symm
                        show sv_T sm_XS sm_cs sm_L sm_sh 2 (q_findSorts S) 291 165 [(0, .ref 0), (1, sv_I l1_2), (2, sv_I s580), (3, sv_I s586)] [sv_I r606, sv_I l1_2, .ref 87] (sv_sts (sv_up (sv_sts (sv_up (sv_up (sv_sts S [88, 89, 87, 1113, 5, 1011] g1) 88 l1_2 (1 : Int)) 89 l1_2 (0 : Int)) [1113] g579) 1011 0 (0 : Int)) [5, 1011] g591)
                        have h := h r606 hr606 hpo605
                        refine sv_iload_n hM dX12_findSorts_165 rfl rfl ?_
                        refine sv_icmp_ne hM dX12_findSorts_166 hr606 hl1_2 (t := 173) rfl rfl (fun hc => ?_) (fun hc => ?_)
                        · have h := h.1 (hc)
                          refine sv_iconst (d := (0 : Int)) hM dX12_findSorts_173 rfl rfl ?_
                          refine sv_zast sm_X hM dX12_findSorts_174 (sm_a87 _) (by decide) o387.1 o387.2 (sv_nnZ (⟨by decide, by decide⟩ : 0 ≤ (0 : Int) ∧ (0 : Int) ≤ 1)) rfl ?_
                          have ok607 : sm_ok (sv_up (sv_sts (sv_up (sv_sts (sv_up (sv_up (sv_sts S [88, 89, 87, 1113, 5, 1011] g1) 88 l1_2 (1 : Int)) 89 l1_2 (0 : Int)) [1113] g579) 1011 0 (0 : Int)) [5, 1011] g591) 87 l1_2 (0 : Int)) := sm_upZ ok603 sm_r87 (⟨by decide, by decide⟩ : 0 ≤ (0 : Int) ∧ (0 : Int) ≤ 1)
                          have md608 : sv_mod [88, 89, 87, 1113, 5, 1011, 90] S (sv_up (sv_sts (sv_up (sv_sts (sv_up (sv_up (sv_sts S [88, 89, 87, 1113, 5, 1011] g1) 88 l1_2 (1 : Int)) 89 l1_2 (0 : Int)) [1113] g579) 1011 0 (0 : Int)) [5, 1011] g591) 87 l1_2 (0 : Int)) := sv_mod.up md594 (by decide)
                          have md609 : sv_mod [88, 89, 87, 1113, 5, 1011] S (sv_up (sv_sts (sv_up (sv_sts (sv_up (sv_up (sv_sts S [88, 89, 87, 1113, 5, 1011] g1) 88 l1_2 (1 : Int)) 89 l1_2 (0 : Int)) [1113] g579) 1011 0 (0 : Int)) [5, 1011] g591) 87 l1_2 (0 : Int)) := sv_mod.up md595 (by decide)
                          refine sv_iinc (d := (1 : Int)) hM dX12_findSorts_175 rfl (by decide) rfl rfl ?_
                          show sv_T sm_XS sm_cs sm_L sm_sh 2 (q_findSorts S) 291 178 [(0, .ref 0), (1, sv_I (l1_2 + (1 : Int))), (2, sv_I s580), (3, sv_I s586)] [] (sv_up (sv_sts (sv_up (sv_sts (sv_up (sv_up (sv_sts S [88, 89, 87, 1113, 5, 1011] g1) 88 l1_2 (1 : Int)) 89 l1_2 (0 : Int)) [1113] g579) 1011 0 (0 : Int)) [5, 1011] g591) 87 l1_2 (0 : Int))
                          refine sv_goto hM dX12_findSorts_178 (pc' := 2) rfl ?_
                          obtain ⟨o610, h⟩ := h
                          have eS := sv_mod.eq md609
                          have hb := ih3 ((l1_2 + (1 : Int)), (sv_up (sv_sts (sv_up (sv_sts (sv_up (sv_up (sv_sts S [88, 89, 87, 1113, 5, 1011] g1) 88 l1_2 (1 : Int)) 89 l1_2 (0 : Int)) [1113] g579) 1011 0 (0 : Int)) [5, 1011] g591) 87 l1_2 (0 : Int))) ⟨o610, (by rw [← eS]; exact ok607), h.1⟩ h.2
                          have hb : sv_T sm_XS sm_cs sm_L sm_sh 2 (q_findSorts S) 291 2 [(0, .ref 0), (1, sv_I (l1_2 + (1 : Int)))] [] (sv_up (sv_sts (sv_up (sv_sts (sv_up (sv_up (sv_sts S [88, 89, 87, 1113, 5, 1011] g1) 88 l1_2 (1 : Int)) 89 l1_2 (0 : Int)) [1113] g579) 1011 0 (0 : Int)) [5, 1011] g591) 87 l1_2 (0 : Int)) := Eq.mpr (congrArg (fun Z => sv_T sm_XS sm_cs sm_L sm_sh 2 (q_findSorts S) 291 2 [(0, .ref 0), (1, sv_I (l1_2 + (1 : Int)))] [] Z) eS) hb
                          exact sv_less (lv := [(0, .ref 0), (1, sv_I (l1_2 + (1 : Int)))]) (sv_Sub_cons rfl (sv_Sub_cons rfl sv_Sub_nil)) hb
                        · have h := h.2 (hc)
                          refine sv_iconst (d := (1 : Int)) hM dX12_findSorts_169 rfl rfl ?_
                          refine sv_goto hM dX12_findSorts_170 (pc' := 174) rfl ?_
                          refine sv_zast sm_X hM dX12_findSorts_174 (sm_a87 _) (by decide) o387.1 o387.2 (sv_nnZ (⟨by decide, by decide⟩ : 0 ≤ (1 : Int) ∧ (1 : Int) ≤ 1)) rfl ?_
                          have ok611 : sm_ok (sv_up (sv_sts (sv_up (sv_sts (sv_up (sv_up (sv_sts S [88, 89, 87, 1113, 5, 1011] g1) 88 l1_2 (1 : Int)) 89 l1_2 (0 : Int)) [1113] g579) 1011 0 (0 : Int)) [5, 1011] g591) 87 l1_2 (1 : Int)) := sm_upZ ok603 sm_r87 (⟨by decide, by decide⟩ : 0 ≤ (1 : Int) ∧ (1 : Int) ≤ 1)
                          have md612 : sv_mod [88, 89, 87, 1113, 5, 1011, 90] S (sv_up (sv_sts (sv_up (sv_sts (sv_up (sv_up (sv_sts S [88, 89, 87, 1113, 5, 1011] g1) 88 l1_2 (1 : Int)) 89 l1_2 (0 : Int)) [1113] g579) 1011 0 (0 : Int)) [5, 1011] g591) 87 l1_2 (1 : Int)) := sv_mod.up md594 (by decide)
                          have md613 : sv_mod [88, 89, 87, 1113, 5, 1011] S (sv_up (sv_sts (sv_up (sv_sts (sv_up (sv_up (sv_sts S [88, 89, 87, 1113, 5, 1011] g1) 88 l1_2 (1 : Int)) 89 l1_2 (0 : Int)) [1113] g579) 1011 0 (0 : Int)) [5, 1011] g591) 87 l1_2 (1 : Int)) := sv_mod.up md595 (by decide)
                          refine sv_iinc (d := (1 : Int)) hM dX12_findSorts_175 rfl (by decide) rfl rfl ?_
                          show sv_T sm_XS sm_cs sm_L sm_sh 2 (q_findSorts S) 291 178 [(0, .ref 0), (1, sv_I (l1_2 + (1 : Int))), (2, sv_I s580), (3, sv_I s586)] [] (sv_up (sv_sts (sv_up (sv_sts (sv_up (sv_up (sv_sts S [88, 89, 87, 1113, 5, 1011] g1) 88 l1_2 (1 : Int)) 89 l1_2 (0 : Int)) [1113] g579) 1011 0 (0 : Int)) [5, 1011] g591) 87 l1_2 (1 : Int))
                          refine sv_goto hM dX12_findSorts_178 (pc' := 2) rfl ?_
                          obtain ⟨o614, h⟩ := h
                          have eS := sv_mod.eq md613
                          have hb := ih3 ((l1_2 + (1 : Int)), (sv_up (sv_sts (sv_up (sv_sts (sv_up (sv_up (sv_sts S [88, 89, 87, 1113, 5, 1011] g1) 88 l1_2 (1 : Int)) 89 l1_2 (0 : Int)) [1113] g579) 1011 0 (0 : Int)) [5, 1011] g591) 87 l1_2 (1 : Int))) ⟨o614, (by rw [← eS]; exact ok611), h.1⟩ h.2
                          have hb : sv_T sm_XS sm_cs sm_L sm_sh 2 (q_findSorts S) 291 2 [(0, .ref 0), (1, sv_I (l1_2 + (1 : Int)))] [] (sv_up (sv_sts (sv_up (sv_sts (sv_up (sv_up (sv_sts S [88, 89, 87, 1113, 5, 1011] g1) 88 l1_2 (1 : Int)) 89 l1_2 (0 : Int)) [1113] g579) 1011 0 (0 : Int)) [5, 1011] g591) 87 l1_2 (1 : Int)) := Eq.mpr (congrArg (fun Z => sv_T sm_XS sm_cs sm_L sm_sh 2 (q_findSorts S) 291 2 [(0, .ref 0), (1, sv_I (l1_2 + (1 : Int)))] [] Z) eS) hb
                          exact sv_less (lv := [(0, .ref 0), (1, sv_I (l1_2 + (1 : Int)))]) (sv_Sub_cons rfl (sv_Sub_cons rfl sv_Sub_nil)) hb
                    have h := h.2
                    refine sv_iload_n hM dX12_findSorts_143 rfl rfl ?_
                    refine sv_cond_eq hM dX12_findSorts_144 hs586 (t := 152) rfl rfl (fun hc => ?_) (fun hc => ?_)
                    · have h := h.1 (hc)
                      have eS := sv_mod.eq (sv_mod.rf (l := [5, 1011]) (S := (sv_up (sv_sts (sv_up (sv_up (sv_sts S [88, 89, 87, 1113, 5, 1011] g1) 88 l1_2 (1 : Int)) 89 l1_2 (0 : Int)) [1113] g579) 1011 0 (0 : Int))))
                      have hb := J615 (sv_up (sv_sts (sv_up (sv_up (sv_sts S [88, 89, 87, 1113, 5, 1011] g1) 88 l1_2 (1 : Int)) 89 l1_2 (0 : Int)) [1113] g579) 1011 0 (0 : Int)) (by rw [← eS]; exact ok588) h
                      have hb : sv_T sm_XS sm_cs sm_L sm_sh 2 (q_findSorts S) 291 152 [(0, .ref 0), (1, sv_I l1_2), (2, sv_I s580), (3, sv_I s586)] [] (sv_up (sv_sts (sv_up (sv_up (sv_sts S [88, 89, 87, 1113, 5, 1011] g1) 88 l1_2 (1 : Int)) 89 l1_2 (0 : Int)) [1113] g579) 1011 0 (0 : Int)) := Eq.mpr (congrArg (fun Z => sv_T sm_XS sm_cs sm_L sm_sh 2 (q_findSorts S) 291 152 [(0, .ref 0), (1, sv_I l1_2), (2, sv_I s580), (3, sv_I s586)] [] Z) eS) hb
                      exact sv_less (lv := [(0, .ref 0), (1, sv_I l1_2), (2, sv_I s580), (3, sv_I s586)]) (sv_Sub_cons rfl (sv_Sub_cons rfl (sv_Sub_cons rfl (sv_Sub_cons rfl sv_Sub_nil)))) hb
                    · have h := h.2 (hc)
                      refine sv_aload_n hM dX12_findSorts_147 rfl rfl ?_
                      refine sv_iload_n hM dX12_findSorts_148 rfl rfl ?_
                      obtain ⟨o616, h⟩ := h
                      refine sv_callV hM dX12_findSorts_149 sm_iv_410 (by decide) (sm_a0 _) rfl rfl (Nat.le_of_ble_eq_true rfl) sm_h31 (Nat.le_of_ble_eq_true rfl) (Nat.le_of_ble_eq_true rfl) (F' := 1) (Nat.le_of_ble_eq_true rfl) rfl (t_putNumber s580 (sv_up (sv_sts (sv_up (sv_up (sv_sts S [88, 89, 87, 1113, 5, 1011] g1) 88 l1_2 (1 : Int)) 89 l1_2 (0 : Int)) [1113] g579) 1011 0 (0 : Int)) ok588 hs580 o616) (fun v S1 hq => ?_)
                      obtain ⟨rfl, ok618, md619, hpo620⟩ := hq
                      obtain ⟨g617, rfl⟩ : ∃ g, S1 = sv_sts (sv_up (sv_sts (sv_up (sv_up (sv_sts S [88, 89, 87, 1113, 5, 1011] g1) 88 l1_2 (1 : Int)) 89 l1_2 (0 : Int)) [1113] g579) 1011 0 (0 : Int)) [5, 1011] g := ⟨_, md619.eq⟩
                      show sv_T sm_XS sm_cs sm_L sm_sh 2 (q_findSorts S) 291 152 [(0, .ref 0), (1, sv_I l1_2), (2, sv_I s580), (3, sv_I s586)] [] (sv_sts (sv_up (sv_sts (sv_up (sv_up (sv_sts S [88, 89, 87, 1113, 5, 1011] g1) 88 l1_2 (1 : Int)) 89 l1_2 (0 : Int)) [1113] g579) 1011 0 (0 : Int)) [5, 1011] g617)
                      have md621 : sv_mod [88, 89, 87, 1113, 5, 1011, 90] S (sv_sts (sv_up (sv_sts (sv_up (sv_up (sv_sts S [88, 89, 87, 1113, 5, 1011] g1) 88 l1_2 (1 : Int)) 89 l1_2 (0 : Int)) [1113] g579) 1011 0 (0 : Int)) [5, 1011] g617) := sv_mod.sts md589 (by decide)
                      have md622 : sv_mod [88, 89, 87, 1113, 5, 1011] S (sv_sts (sv_up (sv_sts (sv_up (sv_up (sv_sts S [88, 89, 87, 1113, 5, 1011] g1) 88 l1_2 (1 : Int)) 89 l1_2 (0 : Int)) [1113] g579) 1011 0 (0 : Int)) [5, 1011] g617) := sv_mod.sts md590 (by decide)
                      have md623 : sv_mod [5, 1011] (sv_up (sv_sts (sv_up (sv_up (sv_sts S [88, 89, 87, 1113, 5, 1011] g1) 88 l1_2 (1 : Int)) 89 l1_2 (0 : Int)) [1113] g579) 1011 0 (0 : Int)) (sv_sts (sv_up (sv_sts (sv_up (sv_up (sv_sts S [88, 89, 87, 1113, 5, 1011] g1) 88 l1_2 (1 : Int)) 89 l1_2 (0 : Int)) [1113] g579) 1011 0 (0 : Int)) [5, 1011] g617) := sv_mod.sts (sv_mod.rf (l := [5, 1011]) (S := (sv_up (sv_sts (sv_up (sv_up (sv_sts S [88, 89, 87, 1113, 5, 1011] g1) 88 l1_2 (1 : Int)) 89 l1_2 (0 : Int)) [1113] g579) 1011 0 (0 : Int)))) (by decide)
                      have h := h g617 hpo620
                      have eS := sv_mod.eq md623
                      have hb := J615 (sv_sts (sv_up (sv_sts (sv_up (sv_up (sv_sts S [88, 89, 87, 1113, 5, 1011] g1) 88 l1_2 (1 : Int)) 89 l1_2 (0 : Int)) [1113] g579) 1011 0 (0 : Int)) [5, 1011] g617) (by rw [← eS]; exact ok618) h
                      have hb : sv_T sm_XS sm_cs sm_L sm_sh 2 (q_findSorts S) 291 152 [(0, .ref 0), (1, sv_I l1_2), (2, sv_I s580), (3, sv_I s586)] [] (sv_sts (sv_up (sv_sts (sv_up (sv_up (sv_sts S [88, 89, 87, 1113, 5, 1011] g1) 88 l1_2 (1 : Int)) 89 l1_2 (0 : Int)) [1113] g579) 1011 0 (0 : Int)) [5, 1011] g617) := Eq.mpr (congrArg (fun Z => sv_T sm_XS sm_cs sm_L sm_sh 2 (q_findSorts S) 291 152 [(0, .ref 0), (1, sv_I l1_2), (2, sv_I s580), (3, sv_I s586)] [] Z) eS) hb
                      exact sv_less (lv := [(0, .ref 0), (1, sv_I l1_2), (2, sv_I s580), (3, sv_I s586)]) (sv_Sub_cons rfl (sv_Sub_cons rfl (sv_Sub_cons rfl (sv_Sub_cons rfl sv_Sub_nil)))) hb
                  have h := h.2
                  refine sv_aload_n hM dX12_findSorts_116 rfl rfl ?_
                  refine sv_getA hM dX12_findSorts_117 sm_fl_20 (sm_a0 _) sm_k6 rfl ?_
                  refine sv_iload_n hM dX12_findSorts_120 rfl rfl ?_
                  refine sv_iald hM dX12_findSorts_121 (sm_a4 _) (by decide) o391.1 o391.2 rfl (x := (S 4 l1_2)) rfl ?_
                  refine sv_cond_le hM dX12_findSorts_122 k392 (t := 136) rfl rfl (fun hc => ?_) (fun hc => ?_)
                  · have h := h.1 (hc)
                    refine sv_iconst (d := (0 : Int)) hM dX12_findSorts_136 rfl rfl ?_
                    have hb := J624 (0 : Int) (⟨by decide, by decide⟩ : sv_R (0 : Int)) h
                    exact sv_less (lv := [(0, .ref 0), (1, sv_I l1_2), (2, sv_I s580)]) (sv_Sub_cons rfl (sv_Sub_cons rfl (sv_Sub_cons rfl sv_Sub_nil))) hb
                  · have h := h.2 (hc)
                    refine sv_aload_n hM dX12_findSorts_125 rfl rfl ?_
                    have k625 : (0 ≤ (g579 1113 0) ∧ (g579 1113 0) ≤ 1) := sm_okZ ok581 sm_r1113 0
                    have h := h k625
                    refine sv_getI hM dX12_findSorts_126 sm_fl_806 (sm_a0 _) sm_k113 rfl (x := (g579 1113 0)) rfl ?_
                    refine sv_cond_eq hM dX12_findSorts_129 (sv_R01 k625) (t := 136) rfl rfl (fun hc => ?_) (fun hc => ?_)
                    · have h := h.1 (hc)
                      refine sv_iconst (d := (0 : Int)) hM dX12_findSorts_136 rfl rfl ?_
                      have hb := J624 (0 : Int) (⟨by decide, by decide⟩ : sv_R (0 : Int)) h
                      exact sv_less (lv := [(0, .ref 0), (1, sv_I l1_2), (2, sv_I s580)]) (sv_Sub_cons rfl (sv_Sub_cons rfl (sv_Sub_cons rfl sv_Sub_nil))) hb
                    · have h := h.2 (hc)
                      refine sv_iconst (d := (1 : Int)) hM dX12_findSorts_132 rfl rfl ?_
                      refine sv_goto hM dX12_findSorts_133 (pc' := 137) rfl ?_
                      have hb := J624 (1 : Int) (⟨by decide, by decide⟩ : sv_R (1 : Int)) h
                      exact sv_less (lv := [(0, .ref 0), (1, sv_I l1_2), (2, sv_I s580)]) (sv_Sub_cons rfl (sv_Sub_cons rfl (sv_Sub_cons rfl sv_Sub_nil))) hb
                have h := h.2
                refine sv_aload_n hM dX12_findSorts_97 rfl rfl ?_
                refine sv_getA hM dX12_findSorts_98 sm_fl_20 (sm_a0 _) sm_k6 rfl ?_
                refine sv_iload_n hM dX12_findSorts_101 rfl rfl ?_
                refine sv_iald hM dX12_findSorts_102 (sm_a4 _) (by decide) o391.1 o391.2 rfl (x := (S 4 l1_2)) rfl ?_
                refine sv_cond_le hM dX12_findSorts_103 k392 (t := 114) rfl rfl (fun hc => ?_) (fun hc => ?_)
                · have h := h.1 (hc)
                  refine sv_iconst (d := (0 : Int)) hM dX12_findSorts_114 rfl rfl ?_
                  have eS := sv_mod.eq (sv_mod.rf (l := [1113]) (S := (sv_up (sv_up (sv_sts S [88, 89, 87, 1113, 5, 1011] g1) 88 l1_2 (1 : Int)) 89 l1_2 (0 : Int))))
                  have hb := J626 (0 : Int) (⟨by decide, by decide⟩ : sv_R (0 : Int)) (sv_up (sv_up (sv_sts S [88, 89, 87, 1113, 5, 1011] g1) 88 l1_2 (1 : Int)) 89 l1_2 (0 : Int)) (by rw [← eS]; exact ok576) h
                  have hb : sv_T sm_XS sm_cs sm_L sm_sh 2 (q_findSorts S) 291 115 [(0, .ref 0), (1, sv_I l1_2)] [sv_I (0 : Int)] (sv_up (sv_up (sv_sts S [88, 89, 87, 1113, 5, 1011] g1) 88 l1_2 (1 : Int)) 89 l1_2 (0 : Int)) := Eq.mpr (congrArg (fun Z => sv_T sm_XS sm_cs sm_L sm_sh 2 (q_findSorts S) 291 115 [(0, .ref 0), (1, sv_I l1_2)] [sv_I (0 : Int)] Z) eS) hb
                  exact sv_less (lv := [(0, .ref 0), (1, sv_I l1_2)]) (sv_Sub_cons rfl (sv_Sub_cons rfl sv_Sub_nil)) hb
                · have h := h.2 (hc)
                  refine sv_aload_n hM dX12_findSorts_106 rfl rfl ?_
                  refine sv_iload_n hM dX12_findSorts_107 rfl rfl ?_
                  refine sv_callV hM dX12_findSorts_108 sm_iv_809 (by decide) (sm_a0 _) rfl rfl (Nat.le_of_ble_eq_true rfl) sm_h128 (Nat.le_of_ble_eq_true rfl) (Nat.le_of_ble_eq_true rfl) (F' := 1) (Nat.le_of_ble_eq_true rfl) rfl (t_numberOfString l1_2 (sv_up (sv_up (sv_sts S [88, 89, 87, 1113, 5, 1011] g1) 88 l1_2 (1 : Int)) 89 l1_2 (0 : Int)) ok576 hl1_2 o74) (fun v S1 hq => ?_)
                  obtain ⟨r631, rfl, hr631, ok628, md629, hpo630⟩ := hq
                  obtain ⟨g627, rfl⟩ : ∃ g, S1 = sv_sts (sv_up (sv_up (sv_sts S [88, 89, 87, 1113, 5, 1011] g1) 88 l1_2 (1 : Int)) 89 l1_2 (0 : Int)) [1113] g := ⟨_, md629.eq⟩
                  show sv_T sm_XS sm_cs sm_L sm_sh 2 (q_findSorts S) 291 111 [(0, .ref 0), (1, sv_I l1_2)] [sv_I r631] (sv_sts (sv_up (sv_up (sv_sts S [88, 89, 87, 1113, 5, 1011] g1) 88 l1_2 (1 : Int)) 89 l1_2 (0 : Int)) [1113] g627)
                  have md632 : sv_mod [88, 89, 87, 1113, 5, 1011, 90] S (sv_sts (sv_up (sv_up (sv_sts S [88, 89, 87, 1113, 5, 1011] g1) 88 l1_2 (1 : Int)) 89 l1_2 (0 : Int)) [1113] g627) := sv_mod.sts md577 (by decide)
                  have md633 : sv_mod [88, 89, 87, 1113, 5, 1011] S (sv_sts (sv_up (sv_up (sv_sts S [88, 89, 87, 1113, 5, 1011] g1) 88 l1_2 (1 : Int)) 89 l1_2 (0 : Int)) [1113] g627) := sv_mod.sts md578 (by decide)
                  have md634 : sv_mod [1113] (sv_up (sv_up (sv_sts S [88, 89, 87, 1113, 5, 1011] g1) 88 l1_2 (1 : Int)) 89 l1_2 (0 : Int)) (sv_sts (sv_up (sv_up (sv_sts S [88, 89, 87, 1113, 5, 1011] g1) 88 l1_2 (1 : Int)) 89 l1_2 (0 : Int)) [1113] g627) := sv_mod.sts (sv_mod.rf (l := [1113]) (S := (sv_up (sv_up (sv_sts S [88, 89, 87, 1113, 5, 1011] g1) 88 l1_2 (1 : Int)) 89 l1_2 (0 : Int)))) (by decide)
                  have h := h r631 hr631 g627 hpo630
                  refine sv_goto hM dX12_findSorts_111 (pc' := 115) rfl ?_
                  have eS := sv_mod.eq md634
                  have hb := J626 r631 hr631 (sv_sts (sv_up (sv_up (sv_sts S [88, 89, 87, 1113, 5, 1011] g1) 88 l1_2 (1 : Int)) 89 l1_2 (0 : Int)) [1113] g627) (by rw [← eS]; exact ok628) h
                  have hb : sv_T sm_XS sm_cs sm_L sm_sh 2 (q_findSorts S) 291 115 [(0, .ref 0), (1, sv_I l1_2)] [sv_I r631] (sv_sts (sv_up (sv_up (sv_sts S [88, 89, 87, 1113, 5, 1011] g1) 88 l1_2 (1 : Int)) 89 l1_2 (0 : Int)) [1113] g627) := Eq.mpr (congrArg (fun Z => sv_T sm_XS sm_cs sm_L sm_sh 2 (q_findSorts S) 291 115 [(0, .ref 0), (1, sv_I l1_2)] [sv_I r631] Z) eS) hb
                  exact sv_less (lv := [(0, .ref 0), (1, sv_I l1_2)]) (sv_Sub_cons rfl (sv_Sub_cons rfl sv_Sub_nil)) hb
              · have h := h.2 (hc)
                refine sv_iconst (d := (1 : Int)) hM dX12_findSorts_91 rfl rfl ?_
                refine sv_goto hM dX12_findSorts_92 (pc' := 96) rfl ?_
                refine sv_zast sm_X hM dX12_findSorts_96 (sm_a89 _) (by decide) o387.1 o387.2 (sv_nnZ (⟨by decide, by decide⟩ : 0 ≤ (1 : Int) ∧ (1 : Int) ≤ 1)) rfl ?_
                have ok635 : sm_ok (sv_up (sv_up (sv_sts S [88, 89, 87, 1113, 5, 1011] g1) 88 l1_2 (1 : Int)) 89 l1_2 (1 : Int)) := sm_upZ ok388 sm_r89 (⟨by decide, by decide⟩ : 0 ≤ (1 : Int) ∧ (1 : Int) ≤ 1)
                have md636 : sv_mod [88, 89, 87, 1113, 5, 1011, 90] S (sv_up (sv_up (sv_sts S [88, 89, 87, 1113, 5, 1011] g1) 88 l1_2 (1 : Int)) 89 l1_2 (1 : Int)) := sv_mod.up md389 (by decide)
                have md637 : sv_mod [88, 89, 87, 1113, 5, 1011] S (sv_up (sv_up (sv_sts S [88, 89, 87, 1113, 5, 1011] g1) 88 l1_2 (1 : Int)) 89 l1_2 (1 : Int)) := sv_mod.up md390 (by decide)
                have J685 : ∀ s639 : Int, sv_R s639 → ∀ g638 : sv_S, sm_ok (sv_sts (sv_up (sv_up (sv_sts S [88, 89, 87, 1113, 5, 1011] g1) 88 l1_2 (1 : Int)) 89 l1_2 (1 : Int)) [1113] g638) → (True) → sv_T sm_XS sm_cs sm_L sm_sh 2 (q_findSorts S) 291 115 [(0, .ref 0), (1, sv_I l1_2)] [sv_I s639] (sv_sts (sv_up (sv_up (sv_sts S [88, 89, 87, 1113, 5, 1011] g1) 88 l1_2 (1 : Int)) 89 l1_2 (1 : Int)) [1113] g638) := by
                  intro s639 hs639 g638 ok640 hin641
                  have h := h.1 s639 hs639 g638 hin641
                  have md642 : sv_mod [88, 89, 87, 1113, 5, 1011, 90] S (sv_sts (sv_up (sv_up (sv_sts S [88, 89, 87, 1113, 5, 1011] g1) 88 l1_2 (1 : Int)) 89 l1_2 (1 : Int)) [1113] g638) := sv_mod.sts md636 (by decide)
                  have md643 : sv_mod [88, 89, 87, 1113, 5, 1011] S (sv_sts (sv_up (sv_up (sv_sts S [88, 89, 87, 1113, 5, 1011] g1) 88 l1_2 (1 : Int)) 89 l1_2 (1 : Int)) [1113] g638) := sv_mod.sts md637 (by decide)
                  have md644 : sv_mod [1113] (sv_up (sv_up (sv_sts S [88, 89, 87, 1113, 5, 1011] g1) 88 l1_2 (1 : Int)) 89 l1_2 (1 : Int)) (sv_sts (sv_up (sv_up (sv_sts S [88, 89, 87, 1113, 5, 1011] g1) 88 l1_2 (1 : Int)) 89 l1_2 (1 : Int)) [1113] g638) := sv_mod.sts sv_mod.rf (by decide)
                  refine sv_istore_n hM dX12_findSorts_115 (by decide) rfl ?_
                  show sv_T sm_XS sm_cs sm_L sm_sh 2 (q_findSorts S) 291 116 [(0, .ref 0), (1, sv_I l1_2), (2, sv_I s639)] [] (sv_sts (sv_up (sv_up (sv_sts S [88, 89, 87, 1113, 5, 1011] g1) 88 l1_2 (1 : Int)) 89 l1_2 (1 : Int)) [1113] g638)
                  have J683 : ∀ s645 : Int, sv_R s645 → (s645 = 0 ∨ s645 = 1) → sv_T sm_XS sm_cs sm_L sm_sh 2 (q_findSorts S) 291 137 [(0, .ref 0), (1, sv_I l1_2), (2, sv_I s639)] [sv_I s645] (sv_sts (sv_up (sv_up (sv_sts S [88, 89, 87, 1113, 5, 1011] g1) 88 l1_2 (1 : Int)) 89 l1_2 (1 : Int)) [1113] g638) := by
                    intro s645 hs645 hin646
                    have h := h.1 s645 hs645 hin646
                    refine sv_istore_n hM dX12_findSorts_137 (by decide) rfl ?_
                    show sv_T sm_XS sm_cs sm_L sm_sh 2 (q_findSorts S) 291 138 [(0, .ref 0), (1, sv_I l1_2), (2, sv_I s639), (3, sv_I s645)] [] (sv_sts (sv_up (sv_up (sv_sts S [88, 89, 87, 1113, 5, 1011] g1) 88 l1_2 (1 : Int)) 89 l1_2 (1 : Int)) [1113] g638)
                    refine sv_aload_n hM dX12_findSorts_138 rfl rfl ?_
                    refine sv_iconst (d := (0 : Int)) hM dX12_findSorts_139 rfl rfl ?_
                    refine sv_putI sm_X hM dX12_findSorts_140 sm_fp_299 (sm_a0 _) sm_q11 (Or.inl rfl) rfl rfl rfl rfl ?_
                    have ok647 : sm_ok (sv_up (sv_sts (sv_up (sv_up (sv_sts S [88, 89, 87, 1113, 5, 1011] g1) 88 l1_2 (1 : Int)) 89 l1_2 (1 : Int)) [1113] g638) 1011 0 (0 : Int)) := sm_upI ok640 sm_r1011 (⟨by decide, by decide⟩ : sv_R (0 : Int))
                    have md648 : sv_mod [88, 89, 87, 1113, 5, 1011, 90] S (sv_up (sv_sts (sv_up (sv_up (sv_sts S [88, 89, 87, 1113, 5, 1011] g1) 88 l1_2 (1 : Int)) 89 l1_2 (1 : Int)) [1113] g638) 1011 0 (0 : Int)) := sv_mod.up md642 (by decide)
                    have md649 : sv_mod [88, 89, 87, 1113, 5, 1011] S (sv_up (sv_sts (sv_up (sv_up (sv_sts S [88, 89, 87, 1113, 5, 1011] g1) 88 l1_2 (1 : Int)) 89 l1_2 (1 : Int)) [1113] g638) 1011 0 (0 : Int)) := sv_mod.up md643 (by decide)
                    have J674 : ∀ g650 : sv_S, sm_ok (sv_sts (sv_up (sv_sts (sv_up (sv_up (sv_sts S [88, 89, 87, 1113, 5, 1011] g1) 88 l1_2 (1 : Int)) 89 l1_2 (1 : Int)) [1113] g638) 1011 0 (0 : Int)) [5, 1011] g650) → (0 ≤ (g650 1011 0) ∧ (g650 1011 0) ≤ 200) → sv_T sm_XS sm_cs sm_L sm_sh 2 (q_findSorts S) 291 152 [(0, .ref 0), (1, sv_I l1_2), (2, sv_I s639), (3, sv_I s645)] [] (sv_sts (sv_up (sv_sts (sv_up (sv_up (sv_sts S [88, 89, 87, 1113, 5, 1011] g1) 88 l1_2 (1 : Int)) 89 l1_2 (1 : Int)) [1113] g638) 1011 0 (0 : Int)) [5, 1011] g650) := by
                      intro  g650 ok651 hin652
                      have h := h.1 g650 hin652
                      have md653 : sv_mod [88, 89, 87, 1113, 5, 1011, 90] S (sv_sts (sv_up (sv_sts (sv_up (sv_up (sv_sts S [88, 89, 87, 1113, 5, 1011] g1) 88 l1_2 (1 : Int)) 89 l1_2 (1 : Int)) [1113] g638) 1011 0 (0 : Int)) [5, 1011] g650) := sv_mod.sts md648 (by decide)
                      have md654 : sv_mod [88, 89, 87, 1113, 5, 1011] S (sv_sts (sv_up (sv_sts (sv_up (sv_up (sv_sts S [88, 89, 87, 1113, 5, 1011] g1) 88 l1_2 (1 : Int)) 89 l1_2 (1 : Int)) [1113] g638) 1011 0 (0 : Int)) [5, 1011] g650) := sv_mod.sts md649 (by decide)
                      have md655 : sv_mod [5, 1011] (sv_up (sv_sts (sv_up (sv_up (sv_sts S [88, 89, 87, 1113, 5, 1011] g1) 88 l1_2 (1 : Int)) 89 l1_2 (1 : Int)) [1113] g638) 1011 0 (0 : Int)) (sv_sts (sv_up (sv_sts (sv_up (sv_up (sv_sts S [88, 89, 87, 1113, 5, 1011] g1) 88 l1_2 (1 : Int)) 89 l1_2 (1 : Int)) [1113] g638) 1011 0 (0 : Int)) [5, 1011] g650) := sv_mod.sts sv_mod.rf (by decide)
                      refine sv_aload_n hM dX12_findSorts_152 rfl rfl ?_
                      refine sv_getA hM dX12_findSorts_153 sm_fl_274 (sm_a0 _) sm_k139 rfl ?_
                      refine sv_iload_n hM dX12_findSorts_156 rfl rfl ?_
                      refine sv_iload_n hM dX12_findSorts_157 rfl rfl ?_
                      refine sv_cond_eq hM dX12_findSorts_158 hs645 (t := 173) rfl rfl (fun hc => ?_) (fun hc => ?_)
                      · have h := h.1 (hc)
                        refine sv_iconst (d := (0 : Int)) hM dX12_findSorts_173 rfl rfl ?_
                        refine sv_zast sm_X hM dX12_findSorts_174 (sm_a87 _) (by decide) o387.1 o387.2 (sv_nnZ (⟨by decide, by decide⟩ : 0 ≤ (0 : Int) ∧ (0 : Int) ≤ 1)) rfl ?_
                        have ok656 : sm_ok (sv_up (sv_sts (sv_up (sv_sts (sv_up (sv_up (sv_sts S [88, 89, 87, 1113, 5, 1011] g1) 88 l1_2 (1 : Int)) 89 l1_2 (1 : Int)) [1113] g638) 1011 0 (0 : Int)) [5, 1011] g650) 87 l1_2 (0 : Int)) := sm_upZ ok651 sm_r87 (⟨by decide, by decide⟩ : 0 ≤ (0 : Int) ∧ (0 : Int) ≤ 1)
                        have md657 : sv_mod [88, 89, 87, 1113, 5, 1011, 90] S (sv_up (sv_sts (sv_up (sv_sts (sv_up (sv_up (sv_sts S [88, 89, 87, 1113, 5, 1011] g1) 88 l1_2 (1 : Int)) 89 l1_2 (1 : Int)) [1113] g638) 1011 0 (0 : Int)) [5, 1011] g650) 87 l1_2 (0 : Int)) := sv_mod.up md653 (by decide)
                        have md658 : sv_mod [88, 89, 87, 1113, 5, 1011] S (sv_up (sv_sts (sv_up (sv_sts (sv_up (sv_up (sv_sts S [88, 89, 87, 1113, 5, 1011] g1) 88 l1_2 (1 : Int)) 89 l1_2 (1 : Int)) [1113] g638) 1011 0 (0 : Int)) [5, 1011] g650) 87 l1_2 (0 : Int)) := sv_mod.up md654 (by decide)
                        refine sv_iinc (d := (1 : Int)) hM dX12_findSorts_175 rfl (by decide) rfl rfl ?_
                        show sv_T sm_XS sm_cs sm_L sm_sh 2 (q_findSorts S) 291 178 [(0, .ref 0), (1, sv_I (l1_2 + (1 : Int))), (2, sv_I s639), (3, sv_I s645)] [] (sv_up (sv_sts (sv_up (sv_sts (sv_up (sv_up (sv_sts S [88, 89, 87, 1113, 5, 1011] g1) 88 l1_2 (1 : Int)) 89 l1_2 (1 : Int)) [1113] g638) 1011 0 (0 : Int)) [5, 1011] g650) 87 l1_2 (0 : Int))
                        refine sv_goto hM dX12_findSorts_178 (pc' := 2) rfl ?_
                        obtain ⟨o659, h⟩ := h
                        have eS := sv_mod.eq md658
                        have hb := ih3 ((l1_2 + (1 : Int)), (sv_up (sv_sts (sv_up (sv_sts (sv_up (sv_up (sv_sts S [88, 89, 87, 1113, 5, 1011] g1) 88 l1_2 (1 : Int)) 89 l1_2 (1 : Int)) [1113] g638) 1011 0 (0 : Int)) [5, 1011] g650) 87 l1_2 (0 : Int))) ⟨o659, (by rw [← eS]; exact ok656), h.1⟩ h.2
                        have hb : sv_T sm_XS sm_cs sm_L sm_sh 2 (q_findSorts S) 291 2 [(0, .ref 0), (1, sv_I (l1_2 + (1 : Int)))] [] (sv_up (sv_sts (sv_up (sv_sts (sv_up (sv_up (sv_sts S [88, 89, 87, 1113, 5, 1011] g1) 88 l1_2 (1 : Int)) 89 l1_2 (1 : Int)) [1113] g638) 1011 0 (0 : Int)) [5, 1011] g650) 87 l1_2 (0 : Int)) := Eq.mpr (congrArg (fun Z => sv_T sm_XS sm_cs sm_L sm_sh 2 (q_findSorts S) 291 2 [(0, .ref 0), (1, sv_I (l1_2 + (1 : Int)))] [] Z) eS) hb
                        exact sv_less (lv := [(0, .ref 0), (1, sv_I (l1_2 + (1 : Int)))]) (sv_Sub_cons rfl (sv_Sub_cons rfl sv_Sub_nil)) hb
                      · have h := h.2 (hc)
                        refine sv_aload_n hM dX12_findSorts_161 rfl rfl ?_
                        obtain ⟨o660, h⟩ := h
                        refine sv_callV hM dX12_findSorts_162 sm_iv_302 (by decide) (sm_a0 _) rfl rfl (Nat.le_of_ble_eq_true rfl) sm_h5 (Nat.le_of_ble_eq_true rfl) (Nat.le_of_ble_eq_true rfl) (F' := 0) (Nat.le_of_ble_eq_true rfl) rfl (t_findText  (sv_sts (sv_up (sv_sts (sv_up (sv_up (sv_sts S [88, 89, 87, 1113, 5, 1011] g1) 88 l1_2 (1 : Int)) 89 l1_2 (1 : Int)) [1113] g638) 1011 0 (0 : Int)) [5, 1011] g650) ok651 o660) (fun v S1 hq => ?_)
                        obtain ⟨r665, rfl, hr665, ok662, md663, hpo664⟩ := hq
                        obtain rfl : (sv_sts (sv_up (sv_sts (sv_up (sv_up (sv_sts S [88, 89, 87, 1113, 5, 1011] g1) 88 l1_2 (1 : Int)) 89 l1_2 (1 : Int)) [1113] g638) 1011 0 (0 : Int)) [5, 1011] g650) = S1 := (funext fun j => md663 j (by intro q; cases q)).symm
                        show sv_T sm_XS sm_cs sm_L sm_sh 2 (q_findSorts S) 291 165 [(0, .ref 0), (1, sv_I l1_2), (2, sv_I s639), (3, sv_I s645)] [sv_I r665, sv_I l1_2, .ref 87] (sv_sts (sv_up (sv_sts (sv_up (sv_up (sv_sts S [88, 89, 87, 1113, 5, 1011] g1) 88 l1_2 (1 : Int)) 89 l1_2 (1 : Int)) [1113] g638) 1011 0 (0 : Int)) [5, 1011] g650)
                        have h := h r665 hr665 hpo664
                        refine sv_iload_n hM dX12_findSorts_165 rfl rfl ?_
                        refine sv_icmp_ne hM dX12_findSorts_166 hr665 hl1_2 (t := 173) rfl rfl (fun hc => ?_) (fun hc => ?_)
                        · have h := h.1 (hc)
                          refine sv_iconst (d := (0 : Int)) hM dX12_findSorts_173 rfl rfl ?_
                          refine sv_zast sm_X hM dX12_findSorts_174 (sm_a87 _) (by decide) o387.1 o387.2 (sv_nnZ (⟨by decide, by decide⟩ : 0 ≤ (0 : Int) ∧ (0 : Int) ≤ 1)) rfl ?_
                          have ok666 : sm_ok (sv_up (sv_sts (sv_up (sv_sts (sv_up (sv_up (sv_sts S [88, 89, 87, 1113, 5, 1011] g1) 88 l1_2 (1 : Int)) 89 l1_2 (1 : Int)) [1113] g638) 1011 0 (0 : Int)) [5, 1011] g650) 87 l1_2 (0 : Int)) := sm_upZ ok662 sm_r87 (⟨by decide, by decide⟩ : 0 ≤ (0 : Int) ∧ (0 : Int) ≤ 1)
                          have md667 : sv_mod [88, 89, 87, 1113, 5, 1011, 90] S (sv_up (sv_sts (sv_up (sv_sts (sv_up (sv_up (sv_sts S [88, 89, 87, 1113, 5, 1011] g1) 88 l1_2 (1 : Int)) 89 l1_2 (1 : Int)) [1113] g638) 1011 0 (0 : Int)) [5, 1011] g650) 87 l1_2 (0 : Int)) := sv_mod.up md653 (by decide)
                          have md668 : sv_mod [88, 89, 87, 1113, 5, 1011] S (sv_up (sv_sts (sv_up (sv_sts (sv_up (sv_up (sv_sts S [88, 89, 87, 1113, 5, 1011] g1) 88 l1_2 (1 : Int)) 89 l1_2 (1 : Int)) [1113] g638) 1011 0 (0 : Int)) [5, 1011] g650) 87 l1_2 (0 : Int)) := sv_mod.up md654 (by decide)
                          refine sv_iinc (d := (1 : Int)) hM dX12_findSorts_175 rfl (by decide) rfl rfl ?_
                          show sv_T sm_XS sm_cs sm_L sm_sh 2 (q_findSorts S) 291 178 [(0, .ref 0), (1, sv_I (l1_2 + (1 : Int))), (2, sv_I s639), (3, sv_I s645)] [] (sv_up (sv_sts (sv_up (sv_sts (sv_up (sv_up (sv_sts S [88, 89, 87, 1113, 5, 1011] g1) 88 l1_2 (1 : Int)) 89 l1_2 (1 : Int)) [1113] g638) 1011 0 (0 : Int)) [5, 1011] g650) 87 l1_2 (0 : Int))
                          refine sv_goto hM dX12_findSorts_178 (pc' := 2) rfl ?_
                          obtain ⟨o669, h⟩ := h
                          have eS := sv_mod.eq md668
                          have hb := ih3 ((l1_2 + (1 : Int)), (sv_up (sv_sts (sv_up (sv_sts (sv_up (sv_up (sv_sts S [88, 89, 87, 1113, 5, 1011] g1) 88 l1_2 (1 : Int)) 89 l1_2 (1 : Int)) [1113] g638) 1011 0 (0 : Int)) [5, 1011] g650) 87 l1_2 (0 : Int))) ⟨o669, (by rw [← eS]; exact ok666), h.1⟩ h.2
                          have hb : sv_T sm_XS sm_cs sm_L sm_sh 2 (q_findSorts S) 291 2 [(0, .ref 0), (1, sv_I (l1_2 + (1 : Int)))] [] (sv_up (sv_sts (sv_up (sv_sts (sv_up (sv_up (sv_sts S [88, 89, 87, 1113, 5, 1011] g1) 88 l1_2 (1 : Int)) 89 l1_2 (1 : Int)) [1113] g638) 1011 0 (0 : Int)) [5, 1011] g650) 87 l1_2 (0 : Int)) := Eq.mpr (congrArg (fun Z => sv_T sm_XS sm_cs sm_L sm_sh 2 (q_findSorts S) 291 2 [(0, .ref 0), (1, sv_I (l1_2 + (1 : Int)))] [] Z) eS) hb
                          exact sv_less (lv := [(0, .ref 0), (1, sv_I (l1_2 + (1 : Int)))]) (sv_Sub_cons rfl (sv_Sub_cons rfl sv_Sub_nil)) hb
                        · have h := h.2 (hc)
                          refine sv_iconst (d := (1 : Int)) hM dX12_findSorts_169 rfl rfl ?_
                          refine sv_goto hM dX12_findSorts_170 (pc' := 174) rfl ?_
                          refine sv_zast sm_X hM dX12_findSorts_174 (sm_a87 _) (by decide) o387.1 o387.2 (sv_nnZ (⟨by decide, by decide⟩ : 0 ≤ (1 : Int) ∧ (1 : Int) ≤ 1)) rfl ?_
                          have ok670 : sm_ok (sv_up (sv_sts (sv_up (sv_sts (sv_up (sv_up (sv_sts S [88, 89, 87, 1113, 5, 1011] g1) 88 l1_2 (1 : Int)) 89 l1_2 (1 : Int)) [1113] g638) 1011 0 (0 : Int)) [5, 1011] g650) 87 l1_2 (1 : Int)) := sm_upZ ok662 sm_r87 (⟨by decide, by decide⟩ : 0 ≤ (1 : Int) ∧ (1 : Int) ≤ 1)
                          have md671 : sv_mod [88, 89, 87, 1113, 5, 1011, 90] S (sv_up (sv_sts (sv_up (sv_sts (sv_up (sv_up (sv_sts S [88, 89, 87, 1113, 5, 1011] g1) 88 l1_2 (1 : Int)) 89 l1_2 (1 : Int)) [1113] g638) 1011 0 (0 : Int)) [5, 1011] g650) 87 l1_2 (1 : Int)) := sv_mod.up md653 (by decide)
                          have md672 : sv_mod [88, 89, 87, 1113, 5, 1011] S (sv_up (sv_sts (sv_up (sv_sts (sv_up (sv_up (sv_sts S [88, 89, 87, 1113, 5, 1011] g1) 88 l1_2 (1 : Int)) 89 l1_2 (1 : Int)) [1113] g638) 1011 0 (0 : Int)) [5, 1011] g650) 87 l1_2 (1 : Int)) := sv_mod.up md654 (by decide)
                          refine sv_iinc (d := (1 : Int)) hM dX12_findSorts_175 rfl (by decide) rfl rfl ?_
                          show sv_T sm_XS sm_cs sm_L sm_sh 2 (q_findSorts S) 291 178 [(0, .ref 0), (1, sv_I (l1_2 + (1 : Int))), (2, sv_I s639), (3, sv_I s645)] [] (sv_up (sv_sts (sv_up (sv_sts (sv_up (sv_up (sv_sts S [88, 89, 87, 1113, 5, 1011] g1) 88 l1_2 (1 : Int)) 89 l1_2 (1 : Int)) [1113] g638) 1011 0 (0 : Int)) [5, 1011] g650) 87 l1_2 (1 : Int))
                          refine sv_goto hM dX12_findSorts_178 (pc' := 2) rfl ?_
                          obtain ⟨o673, h⟩ := h
                          have eS := sv_mod.eq md672
                          have hb := ih3 ((l1_2 + (1 : Int)), (sv_up (sv_sts (sv_up (sv_sts (sv_up (sv_up (sv_sts S [88, 89, 87, 1113, 5, 1011] g1) 88 l1_2 (1 : Int)) 89 l1_2 (1 : Int)) [1113] g638) 1011 0 (0 : Int)) [5, 1011] g650) 87 l1_2 (1 : Int))) ⟨o673, (by rw [← eS]; exact ok670), h.1⟩ h.2
                          have hb : sv_T sm_XS sm_cs sm_L sm_sh 2 (q_findSorts S) 291 2 [(0, .ref 0), (1, sv_I (l1_2 + (1 : Int)))] [] (sv_up (sv_sts (sv_up (sv_sts (sv_up (sv_up (sv_sts S [88, 89, 87, 1113, 5, 1011] g1) 88 l1_2 (1 : Int)) 89 l1_2 (1 : Int)) [1113] g638) 1011 0 (0 : Int)) [5, 1011] g650) 87 l1_2 (1 : Int)) := Eq.mpr (congrArg (fun Z => sv_T sm_XS sm_cs sm_L sm_sh 2 (q_findSorts S) 291 2 [(0, .ref 0), (1, sv_I (l1_2 + (1 : Int)))] [] Z) eS) hb
                          exact sv_less (lv := [(0, .ref 0), (1, sv_I (l1_2 + (1 : Int)))]) (sv_Sub_cons rfl (sv_Sub_cons rfl sv_Sub_nil)) hb
                    have h := h.2
                    refine sv_iload_n hM dX12_findSorts_143 rfl rfl ?_
                    refine sv_cond_eq hM dX12_findSorts_144 hs645 (t := 152) rfl rfl (fun hc => ?_) (fun hc => ?_)
                    · have h := h.1 (hc)
                      have eS := sv_mod.eq (sv_mod.rf (l := [5, 1011]) (S := (sv_up (sv_sts (sv_up (sv_up (sv_sts S [88, 89, 87, 1113, 5, 1011] g1) 88 l1_2 (1 : Int)) 89 l1_2 (1 : Int)) [1113] g638) 1011 0 (0 : Int))))
                      have hb := J674 (sv_up (sv_sts (sv_up (sv_up (sv_sts S [88, 89, 87, 1113, 5, 1011] g1) 88 l1_2 (1 : Int)) 89 l1_2 (1 : Int)) [1113] g638) 1011 0 (0 : Int)) (by rw [← eS]; exact ok647) h
                      have hb : sv_T sm_XS sm_cs sm_L sm_sh 2 (q_findSorts S) 291 152 [(0, .ref 0), (1, sv_I l1_2), (2, sv_I s639), (3, sv_I s645)] [] (sv_up (sv_sts (sv_up (sv_up (sv_sts S [88, 89, 87, 1113, 5, 1011] g1) 88 l1_2 (1 : Int)) 89 l1_2 (1 : Int)) [1113] g638) 1011 0 (0 : Int)) := Eq.mpr (congrArg (fun Z => sv_T sm_XS sm_cs sm_L sm_sh 2 (q_findSorts S) 291 152 [(0, .ref 0), (1, sv_I l1_2), (2, sv_I s639), (3, sv_I s645)] [] Z) eS) hb
                      exact sv_less (lv := [(0, .ref 0), (1, sv_I l1_2), (2, sv_I s639), (3, sv_I s645)]) (sv_Sub_cons rfl (sv_Sub_cons rfl (sv_Sub_cons rfl (sv_Sub_cons rfl sv_Sub_nil)))) hb
                    · have h := h.2 (hc)
                      refine sv_aload_n hM dX12_findSorts_147 rfl rfl ?_
                      refine sv_iload_n hM dX12_findSorts_148 rfl rfl ?_
                      obtain ⟨o675, h⟩ := h
                      refine sv_callV hM dX12_findSorts_149 sm_iv_410 (by decide) (sm_a0 _) rfl rfl (Nat.le_of_ble_eq_true rfl) sm_h31 (Nat.le_of_ble_eq_true rfl) (Nat.le_of_ble_eq_true rfl) (F' := 1) (Nat.le_of_ble_eq_true rfl) rfl (t_putNumber s639 (sv_up (sv_sts (sv_up (sv_up (sv_sts S [88, 89, 87, 1113, 5, 1011] g1) 88 l1_2 (1 : Int)) 89 l1_2 (1 : Int)) [1113] g638) 1011 0 (0 : Int)) ok647 hs639 o675) (fun v S1 hq => ?_)
                      obtain ⟨rfl, ok677, md678, hpo679⟩ := hq
                      obtain ⟨g676, rfl⟩ : ∃ g, S1 = sv_sts (sv_up (sv_sts (sv_up (sv_up (sv_sts S [88, 89, 87, 1113, 5, 1011] g1) 88 l1_2 (1 : Int)) 89 l1_2 (1 : Int)) [1113] g638) 1011 0 (0 : Int)) [5, 1011] g := ⟨_, md678.eq⟩
                      show sv_T sm_XS sm_cs sm_L sm_sh 2 (q_findSorts S) 291 152 [(0, .ref 0), (1, sv_I l1_2), (2, sv_I s639), (3, sv_I s645)] [] (sv_sts (sv_up (sv_sts (sv_up (sv_up (sv_sts S [88, 89, 87, 1113, 5, 1011] g1) 88 l1_2 (1 : Int)) 89 l1_2 (1 : Int)) [1113] g638) 1011 0 (0 : Int)) [5, 1011] g676)
                      have md680 : sv_mod [88, 89, 87, 1113, 5, 1011, 90] S (sv_sts (sv_up (sv_sts (sv_up (sv_up (sv_sts S [88, 89, 87, 1113, 5, 1011] g1) 88 l1_2 (1 : Int)) 89 l1_2 (1 : Int)) [1113] g638) 1011 0 (0 : Int)) [5, 1011] g676) := sv_mod.sts md648 (by decide)
                      have md681 : sv_mod [88, 89, 87, 1113, 5, 1011] S (sv_sts (sv_up (sv_sts (sv_up (sv_up (sv_sts S [88, 89, 87, 1113, 5, 1011] g1) 88 l1_2 (1 : Int)) 89 l1_2 (1 : Int)) [1113] g638) 1011 0 (0 : Int)) [5, 1011] g676) := sv_mod.sts md649 (by decide)
                      have md682 : sv_mod [5, 1011] (sv_up (sv_sts (sv_up (sv_up (sv_sts S [88, 89, 87, 1113, 5, 1011] g1) 88 l1_2 (1 : Int)) 89 l1_2 (1 : Int)) [1113] g638) 1011 0 (0 : Int)) (sv_sts (sv_up (sv_sts (sv_up (sv_up (sv_sts S [88, 89, 87, 1113, 5, 1011] g1) 88 l1_2 (1 : Int)) 89 l1_2 (1 : Int)) [1113] g638) 1011 0 (0 : Int)) [5, 1011] g676) := sv_mod.sts (sv_mod.rf (l := [5, 1011]) (S := (sv_up (sv_sts (sv_up (sv_up (sv_sts S [88, 89, 87, 1113, 5, 1011] g1) 88 l1_2 (1 : Int)) 89 l1_2 (1 : Int)) [1113] g638) 1011 0 (0 : Int)))) (by decide)
                      have h := h g676 hpo679
                      have eS := sv_mod.eq md682
                      have hb := J674 (sv_sts (sv_up (sv_sts (sv_up (sv_up (sv_sts S [88, 89, 87, 1113, 5, 1011] g1) 88 l1_2 (1 : Int)) 89 l1_2 (1 : Int)) [1113] g638) 1011 0 (0 : Int)) [5, 1011] g676) (by rw [← eS]; exact ok677) h
                      have hb : sv_T sm_XS sm_cs sm_L sm_sh 2 (q_findSorts S) 291 152 [(0, .ref 0), (1, sv_I l1_2), (2, sv_I s639), (3, sv_I s645)] [] (sv_sts (sv_up (sv_sts (sv_up (sv_up (sv_sts S [88, 89, 87, 1113, 5, 1011] g1) 88 l1_2 (1 : Int)) 89 l1_2 (1 : Int)) [1113] g638) 1011 0 (0 : Int)) [5, 1011] g676) := Eq.mpr (congrArg (fun Z => sv_T sm_XS sm_cs sm_L sm_sh 2 (q_findSorts S) 291 152 [(0, .ref 0), (1, sv_I l1_2), (2, sv_I s639), (3, sv_I s645)] [] Z) eS) hb
                      exact sv_less (lv := [(0, .ref 0), (1, sv_I l1_2), (2, sv_I s639), (3, sv_I s645)]) (sv_Sub_cons rfl (sv_Sub_cons rfl (sv_Sub_cons rfl (sv_Sub_cons rfl sv_Sub_nil)))) hb
                  have h := h.2
                  refine sv_aload_n hM dX12_findSorts_116 rfl rfl ?_
                  refine sv_getA hM dX12_findSorts_117 sm_fl_20 (sm_a0 _) sm_k6 rfl ?_
                  refine sv_iload_n hM dX12_findSorts_120 rfl rfl ?_
                  refine sv_iald hM dX12_findSorts_121 (sm_a4 _) (by decide) o391.1 o391.2 rfl (x := (S 4 l1_2)) rfl ?_
                  refine sv_cond_le hM dX12_findSorts_122 k392 (t := 136) rfl rfl (fun hc => ?_) (fun hc => ?_)
                  · have h := h.1 (hc)
                    refine sv_iconst (d := (0 : Int)) hM dX12_findSorts_136 rfl rfl ?_
                    have hb := J683 (0 : Int) (⟨by decide, by decide⟩ : sv_R (0 : Int)) h
                    exact sv_less (lv := [(0, .ref 0), (1, sv_I l1_2), (2, sv_I s639)]) (sv_Sub_cons rfl (sv_Sub_cons rfl (sv_Sub_cons rfl sv_Sub_nil))) hb
                  · have h := h.2 (hc)
                    refine sv_aload_n hM dX12_findSorts_125 rfl rfl ?_
                    have k684 : (0 ≤ (g638 1113 0) ∧ (g638 1113 0) ≤ 1) := sm_okZ ok640 sm_r1113 0
                    have h := h k684
                    refine sv_getI hM dX12_findSorts_126 sm_fl_806 (sm_a0 _) sm_k113 rfl (x := (g638 1113 0)) rfl ?_
                    refine sv_cond_eq hM dX12_findSorts_129 (sv_R01 k684) (t := 136) rfl rfl (fun hc => ?_) (fun hc => ?_)
                    · have h := h.1 (hc)
                      refine sv_iconst (d := (0 : Int)) hM dX12_findSorts_136 rfl rfl ?_
                      have hb := J683 (0 : Int) (⟨by decide, by decide⟩ : sv_R (0 : Int)) h
                      exact sv_less (lv := [(0, .ref 0), (1, sv_I l1_2), (2, sv_I s639)]) (sv_Sub_cons rfl (sv_Sub_cons rfl (sv_Sub_cons rfl sv_Sub_nil))) hb
                    · have h := h.2 (hc)
                      refine sv_iconst (d := (1 : Int)) hM dX12_findSorts_132 rfl rfl ?_
                      refine sv_goto hM dX12_findSorts_133 (pc' := 137) rfl ?_
                      have hb := J683 (1 : Int) (⟨by decide, by decide⟩ : sv_R (1 : Int)) h
                      exact sv_less (lv := [(0, .ref 0), (1, sv_I l1_2), (2, sv_I s639)]) (sv_Sub_cons rfl (sv_Sub_cons rfl (sv_Sub_cons rfl sv_Sub_nil))) hb
                have h := h.2
                refine sv_aload_n hM dX12_findSorts_97 rfl rfl ?_
                refine sv_getA hM dX12_findSorts_98 sm_fl_20 (sm_a0 _) sm_k6 rfl ?_
                refine sv_iload_n hM dX12_findSorts_101 rfl rfl ?_
                refine sv_iald hM dX12_findSorts_102 (sm_a4 _) (by decide) o391.1 o391.2 rfl (x := (S 4 l1_2)) rfl ?_
                refine sv_cond_le hM dX12_findSorts_103 k392 (t := 114) rfl rfl (fun hc => ?_) (fun hc => ?_)
                · have h := h.1 (hc)
                  refine sv_iconst (d := (0 : Int)) hM dX12_findSorts_114 rfl rfl ?_
                  have eS := sv_mod.eq (sv_mod.rf (l := [1113]) (S := (sv_up (sv_up (sv_sts S [88, 89, 87, 1113, 5, 1011] g1) 88 l1_2 (1 : Int)) 89 l1_2 (1 : Int))))
                  have hb := J685 (0 : Int) (⟨by decide, by decide⟩ : sv_R (0 : Int)) (sv_up (sv_up (sv_sts S [88, 89, 87, 1113, 5, 1011] g1) 88 l1_2 (1 : Int)) 89 l1_2 (1 : Int)) (by rw [← eS]; exact ok635) h
                  have hb : sv_T sm_XS sm_cs sm_L sm_sh 2 (q_findSorts S) 291 115 [(0, .ref 0), (1, sv_I l1_2)] [sv_I (0 : Int)] (sv_up (sv_up (sv_sts S [88, 89, 87, 1113, 5, 1011] g1) 88 l1_2 (1 : Int)) 89 l1_2 (1 : Int)) := Eq.mpr (congrArg (fun Z => sv_T sm_XS sm_cs sm_L sm_sh 2 (q_findSorts S) 291 115 [(0, .ref 0), (1, sv_I l1_2)] [sv_I (0 : Int)] Z) eS) hb
                  exact sv_less (lv := [(0, .ref 0), (1, sv_I l1_2)]) (sv_Sub_cons rfl (sv_Sub_cons rfl sv_Sub_nil)) hb
                · have h := h.2 (hc)
                  refine sv_aload_n hM dX12_findSorts_106 rfl rfl ?_
                  refine sv_iload_n hM dX12_findSorts_107 rfl rfl ?_
                  refine sv_callV hM dX12_findSorts_108 sm_iv_809 (by decide) (sm_a0 _) rfl rfl (Nat.le_of_ble_eq_true rfl) sm_h128 (Nat.le_of_ble_eq_true rfl) (Nat.le_of_ble_eq_true rfl) (F' := 1) (Nat.le_of_ble_eq_true rfl) rfl (t_numberOfString l1_2 (sv_up (sv_up (sv_sts S [88, 89, 87, 1113, 5, 1011] g1) 88 l1_2 (1 : Int)) 89 l1_2 (1 : Int)) ok635 hl1_2 o74) (fun v S1 hq => ?_)
                  obtain ⟨r690, rfl, hr690, ok687, md688, hpo689⟩ := hq
                  obtain ⟨g686, rfl⟩ : ∃ g, S1 = sv_sts (sv_up (sv_up (sv_sts S [88, 89, 87, 1113, 5, 1011] g1) 88 l1_2 (1 : Int)) 89 l1_2 (1 : Int)) [1113] g := ⟨_, md688.eq⟩
                  show sv_T sm_XS sm_cs sm_L sm_sh 2 (q_findSorts S) 291 111 [(0, .ref 0), (1, sv_I l1_2)] [sv_I r690] (sv_sts (sv_up (sv_up (sv_sts S [88, 89, 87, 1113, 5, 1011] g1) 88 l1_2 (1 : Int)) 89 l1_2 (1 : Int)) [1113] g686)
                  have md691 : sv_mod [88, 89, 87, 1113, 5, 1011, 90] S (sv_sts (sv_up (sv_up (sv_sts S [88, 89, 87, 1113, 5, 1011] g1) 88 l1_2 (1 : Int)) 89 l1_2 (1 : Int)) [1113] g686) := sv_mod.sts md636 (by decide)
                  have md692 : sv_mod [88, 89, 87, 1113, 5, 1011] S (sv_sts (sv_up (sv_up (sv_sts S [88, 89, 87, 1113, 5, 1011] g1) 88 l1_2 (1 : Int)) 89 l1_2 (1 : Int)) [1113] g686) := sv_mod.sts md637 (by decide)
                  have md693 : sv_mod [1113] (sv_up (sv_up (sv_sts S [88, 89, 87, 1113, 5, 1011] g1) 88 l1_2 (1 : Int)) 89 l1_2 (1 : Int)) (sv_sts (sv_up (sv_up (sv_sts S [88, 89, 87, 1113, 5, 1011] g1) 88 l1_2 (1 : Int)) 89 l1_2 (1 : Int)) [1113] g686) := sv_mod.sts (sv_mod.rf (l := [1113]) (S := (sv_up (sv_up (sv_sts S [88, 89, 87, 1113, 5, 1011] g1) 88 l1_2 (1 : Int)) 89 l1_2 (1 : Int)))) (by decide)
                  have h := h r690 hr690 g686 hpo689
                  refine sv_goto hM dX12_findSorts_111 (pc' := 115) rfl ?_
                  have eS := sv_mod.eq md693
                  have hb := J685 r690 hr690 (sv_sts (sv_up (sv_up (sv_sts S [88, 89, 87, 1113, 5, 1011] g1) 88 l1_2 (1 : Int)) 89 l1_2 (1 : Int)) [1113] g686) (by rw [← eS]; exact ok687) h
                  have hb : sv_T sm_XS sm_cs sm_L sm_sh 2 (q_findSorts S) 291 115 [(0, .ref 0), (1, sv_I l1_2)] [sv_I r690] (sv_sts (sv_up (sv_up (sv_sts S [88, 89, 87, 1113, 5, 1011] g1) 88 l1_2 (1 : Int)) 89 l1_2 (1 : Int)) [1113] g686) := Eq.mpr (congrArg (fun Z => sv_T sm_XS sm_cs sm_L sm_sh 2 (q_findSorts S) 291 115 [(0, .ref 0), (1, sv_I l1_2)] [sv_I r690] Z) eS) hb
                  exact sv_less (lv := [(0, .ref 0), (1, sv_I l1_2)]) (sv_Sub_cons rfl (sv_Sub_cons rfl sv_Sub_nil)) hb
  have eS := sv_mod.eq (sv_mod.rf (l := [88, 89, 87, 1113, 5, 1011]) (S := S))
  have hb := hJ ((0 : Int), S) ⟨(⟨by decide, by decide⟩ : sv_R (0 : Int)), (by rw [← eS]; exact hok), hin4⟩
  have hb : sv_T sm_XS sm_cs sm_L sm_sh 2 (q_findSorts S) 291 2 [(0, .ref 0), (1, sv_I (0 : Int))] [] S := Eq.mpr (congrArg (fun Z => sv_T sm_XS sm_cs sm_L sm_sh 2 (q_findSorts S) 291 2 [(0, .ref 0), (1, sv_I (0 : Int))] [] Z) eS) hb
  exact hb
def q_beginWork (S : sv_S) : Option Value → sv_S → Prop := fun v S' => v = none ∧ sm_ok S' ∧ sv_mod [68, 69, 70, 81, 82, 83, 84, 85, 86, 1143, 1144, 5, 1011, 74, 78, 76, 77] S S' ∧ ((S' 74 639) = 0 ∧ (S' 78 639) = 0 ∧ sm_F1 (S 74) (S' 74) 639 ∧ sm_F1 (S 78) (S' 78) 639)
theorem la_beginWork_0 {x0 x1 x2 : Int} (h0 : 0 ≤ x0) (h1 : x0 ≤ 11557) : 0 ≤ x0 ∧ x0 ≤ 11557 ∧ (0 : Int) ≤ 639 ∧ ((639 : Int) = 639 ∨ 639 < x1 + 2 * x2) := by omega
theorem la_beginWork_1 : (0 : Int) ≤ 639 ∧ (639 : Int) < 640 := by omega
theorem la_beginWork_2 : (0 : Int) ≤ 0 ∧ (0 : Int) ≤ 23 := by omega
theorem la_beginWork_3 {x0 : Int} (h0 : x0 ≤ 23) : 0 ≤ 23 - x0 := by omega
theorem la_beginWork_4 : (0 : Int) ≤ 0 ∧ (0 : Int) ≤ 9 := by omega
theorem la_beginWork_5 {x0 : Int} (h0 : x0 ≤ 9) : 0 ≤ 9 - x0 := by omega
theorem la_beginWork_6 {x0 x1 x2 : Int} (h0 : 29 ≤ x0) (h1 : 31 ≤ x1) (h2 : 0 ≤ x2) (h3 : x2 ≤ 11557) : 0 ≤ x2 ∧ x2 ≤ 11557 ∧ (0 : Int) ≤ 1 ∧ 1 < x0 ∧ (0 : Int) ≤ 2 ∧ 2 ≤ x1 := by omega
theorem la_beginWork_7 {x0 x1 x2 : Int} (h0 : 29 ≤ x0) (h1 : 31 ≤ x1) (h2 : 0 ≤ x2) (h3 : x2 ≤ 11557) : 0 ≤ x2 ∧ x2 ≤ 11557 ∧ (0 : Int) ≤ 1 ∧ 1 < x0 ∧ (0 : Int) ≤ 17 ∧ 17 ≤ x1 := by omega
theorem la_beginWork_8 {x0 x1 x2 : Int} (h0 : 29 ≤ x0) (h1 : 31 ≤ x1) (h2 : 0 ≤ x2) (h3 : x2 ≤ 11557) : 0 ≤ x2 ∧ x2 ≤ 11557 ∧ (0 : Int) ≤ 2 ∧ 2 < x0 ∧ (0 : Int) ≤ 16 ∧ 16 ≤ x1 := by omega
theorem la_beginWork_9 {x0 x1 x2 : Int} (h0 : 29 ≤ x0) (h1 : 31 ≤ x1) (h2 : 0 ≤ x2) (h3 : x2 ≤ 11557) : 0 ≤ x2 ∧ x2 ≤ 11557 ∧ (0 : Int) ≤ 3 ∧ 3 < x0 ∧ (0 : Int) ≤ 2 ∧ 2 ≤ x1 := by omega
theorem la_beginWork_10 {x0 x1 x2 : Int} (h0 : 29 ≤ x0) (h1 : 31 ≤ x1) (h2 : 0 ≤ x2) (h3 : x2 ≤ 11557) : 0 ≤ x2 ∧ x2 ≤ 11557 ∧ (0 : Int) ≤ 3 ∧ 3 < x0 ∧ (0 : Int) ≤ 14 ∧ 14 ≤ x1 := by omega
theorem la_beginWork_11 {x0 x1 x2 : Int} (h0 : 29 ≤ x0) (h1 : 31 ≤ x1) (h2 : 0 ≤ x2) (h3 : x2 ≤ 11557) : 0 ≤ x2 ∧ x2 ≤ 11557 ∧ (0 : Int) ≤ 3 ∧ 3 < x0 ∧ (0 : Int) ≤ 15 ∧ 15 ≤ x1 := by omega
theorem la_beginWork_12 {x0 x1 x2 : Int} (h0 : 29 ≤ x0) (h1 : 31 ≤ x1) (h2 : 0 ≤ x2) (h3 : x2 ≤ 11557) : 0 ≤ x2 ∧ x2 ≤ 11557 ∧ (0 : Int) ≤ 4 ∧ 4 < x0 ∧ (0 : Int) ≤ 2 ∧ 2 ≤ x1 := by omega
theorem la_beginWork_13 {x0 x1 x2 : Int} (h0 : 29 ≤ x0) (h1 : 31 ≤ x1) (h2 : 0 ≤ x2) (h3 : x2 ≤ 11557) : 0 ≤ x2 ∧ x2 ≤ 11557 ∧ (0 : Int) ≤ 4 ∧ 4 < x0 ∧ (0 : Int) ≤ 18 ∧ 18 ≤ x1 := by omega
theorem la_beginWork_14 : (0 : Int) ≤ 0 ∧ (0 : Int) ≤ 4 := by omega
theorem la_beginWork_15 {x0 : Int} (h0 : x0 ≤ 4) : 0 ≤ 4 - x0 := by omega
theorem la_beginWork_16 {x0 x1 x2 : Int} (h0 : 29 ≤ x0) (h1 : 31 ≤ x1) (h2 : 0 ≤ x2) (h3 : x2 ≤ 11557) : 0 ≤ x2 ∧ x2 ≤ 11557 ∧ (0 : Int) ≤ 10 ∧ 10 < x0 ∧ (0 : Int) ≤ 1 ∧ 1 ≤ x1 := by omega
theorem la_beginWork_17 {x0 x1 x2 : Int} (h0 : 29 ≤ x0) (h1 : 31 ≤ x1) (h2 : 0 ≤ x2) (h3 : x2 ≤ 11557) : 0 ≤ x2 ∧ x2 ≤ 11557 ∧ (0 : Int) ≤ 11 ∧ 11 < x0 ∧ (0 : Int) ≤ 1 ∧ 1 ≤ x1 := by omega
theorem la_beginWork_18 {x0 x1 x2 : Int} (h0 : 29 ≤ x0) (h1 : 31 ≤ x1) (h2 : 0 ≤ x2) (h3 : x2 ≤ 11557) : 0 ≤ x2 ∧ x2 ≤ 11557 ∧ (0 : Int) ≤ 12 ∧ 12 < x0 ∧ (0 : Int) ≤ 1 ∧ 1 ≤ x1 := by omega
theorem la_beginWork_19 : sv_R (635000 + 639) := by omega
theorem la_beginWork_20 : (635639 : Int) ≤ 635000 + 639 ∧ (635000 + 639 : Int) < 647790 := by omega
theorem la_beginWork_21 : (639 : Int) = 639 := by omega
theorem la_beginWork_22 {x0 : Int} (h0 : 0 ≤ x0) (h1 : ¬ 4 ≤ x0) : sv_R (5 + x0) := by omega
theorem la_beginWork_23 {x0 : Int} (h0 : 0 ≤ x0) (h1 : ¬ 4 ≤ x0) : sv_R (14 + x0) := by omega
theorem la_beginWork_24 {x0 x1 x2 x3 : Int} (h0 : 29 ≤ x0) (h1 : 31 ≤ x1) (h2 : 0 ≤ x2) (h3 : x2 ≤ 11557) (h4 : 0 ≤ x3) (h5 : ¬ 4 ≤ x3) : 0 ≤ x2 ∧ x2 ≤ 11557 ∧ 0 ≤ 5 + x3 ∧ 5 + x3 < x0 ∧ (0 : Int) ≤ 2 ∧ 2 ≤ x1 := by omega
theorem la_beginWork_25 {x0 x1 x2 x3 : Int} (h0 : 29 ≤ x0) (h1 : 31 ≤ x1) (h2 : 0 ≤ x2) (h3 : x2 ≤ 11557) (h4 : 0 ≤ x3) (h5 : ¬ 4 ≤ x3) : 0 ≤ x2 ∧ x2 ≤ 11557 ∧ 0 ≤ 5 + x3 ∧ 5 + x3 < x0 ∧ (0 : Int) ≤ 4 ∧ 4 ≤ x1 := by omega
theorem la_beginWork_26 {x0 : Int} (h0 : 0 ≤ x0) (h1 : ¬ 4 ≤ x0) : sv_R (10 + x0) := by omega
theorem la_beginWork_27 {x0 : Int} (h0 : 635640 ≤ x0) (h1 : x0 < 647340) : 635639 ≤ x0 ∧ x0 < 647790 := by omega
theorem la_beginWork_28 {x0 x1 x2 x3 : Int} (h0 : 29 ≤ x0) (h1 : 31 ≤ x1) (h2 : 0 ≤ x2) (h3 : x2 ≤ 11557) (h4 : 0 ≤ x3) (h5 : ¬ 4 ≤ x3) : 0 ≤ x2 ∧ x2 ≤ 11557 ∧ 0 ≤ 14 + x3 ∧ 14 + x3 < x0 ∧ (0 : Int) ≤ 1 ∧ 1 ≤ x1 := by omega
theorem la_beginWork_29 {x0 : Int} (h0 : 0 ≤ x0) (h1 : ¬ 4 ≤ x0) : sv_R (x0 + 1) := by omega
theorem la_beginWork_30 {x0 : Int} (h0 : 0 ≤ x0) (h1 : ¬ 4 ≤ x0) : 0 ≤ x0 + 1 ∧ x0 + 1 ≤ 4 := by omega
theorem la_beginWork_31 {x0 : Int} : 4 - (x0 + 1) < 4 - x0 := by omega
theorem la_beginWork_32 {x0 : Int} (h0 : 0 ≤ x0) (h1 : ¬ 9 ≤ x0) : sv_R (5 + x0) := by omega
theorem la_beginWork_33 {x0 : Int} (h0 : 0 ≤ x0) (h1 : ¬ 9 ≤ x0) : sv_R (9 + x0) := by omega
theorem la_beginWork_34 {x0 x1 x2 x3 : Int} (h0 : 29 ≤ x0) (h1 : 31 ≤ x1) (h2 : 0 ≤ x2) (h3 : x2 ≤ 11557) (h4 : 0 ≤ x3) (h5 : ¬ 9 ≤ x3) : 0 ≤ x2 ∧ x2 ≤ 11557 ∧ (0 : Int) ≤ 0 ∧ 0 < x0 ∧ 0 ≤ 5 + x3 ∧ 5 + x3 ≤ x1 := by omega
theorem la_beginWork_35 {x0 : Int} (h0 : 0 ≤ x0) (h1 : ¬ 9 ≤ x0) : sv_R (x0 + 1) := by omega
theorem la_beginWork_36 {x0 : Int} (h0 : 0 ≤ x0) (h1 : ¬ 9 ≤ x0) : 0 ≤ x0 + 1 ∧ x0 + 1 ≤ 9 := by omega
theorem la_beginWork_37 {x0 : Int} : 9 - (x0 + 1) < 9 - x0 := by omega
theorem la_beginWork_38 {x0 : Int} (h0 : 6 ≤ x0) : 1 ≤ x0 := by omega
theorem la_beginWork_39 {x0 : Int} (h0 : 1 ≤ x0) (h1 : ¬ x0 = 1) : 1 < x0 := by omega
theorem la_beginWork_40 {x0 x1 x2 : Int} (h0 : 29 ≤ x0) (h1 : 0 ≤ x1) (h2 : x1 ≤ 11557) (h3 : ¬ 23 ≤ x2) (h4 : 9 ≤ x2) : 0 ≤ x1 ∧ x1 ≤ 11557 ∧ 0 ≤ x2 ∧ x2 < x0 ∧ ((-1) : Int) ≤ 2 ∧ (2 : Int) ≤ 63 := by omega
theorem la_beginWork_41 {x0 : Int} (h0 : ¬ 23 ≤ x0) (h1 : 9 ≤ x0) : sv_R (x0 + 1) := by omega
theorem la_beginWork_42 {x0 : Int} (h0 : ¬ 23 ≤ x0) (h1 : 9 ≤ x0) : 0 ≤ x0 + 1 ∧ x0 + 1 ≤ 23 := by omega
theorem la_beginWork_43 {x0 : Int} : 23 - (x0 + 1) < 23 - x0 := by omega
theorem la_beginWork_44 {x0 x1 x2 : Int} (h0 : 29 ≤ x0) (h1 : 0 ≤ x1) (h2 : x1 ≤ 11557) (h3 : 6 ≤ x2) (h4 : ¬ 9 ≤ x2) : 0 ≤ x1 ∧ x1 ≤ 11557 ∧ 0 ≤ x2 ∧ x2 < x0 ∧ ((-1) : Int) ≤ 5 ∧ (5 : Int) ≤ 63 := by omega
theorem la_beginWork_45 {x0 : Int} (h0 : 6 ≤ x0) (h1 : ¬ 9 ≤ x0) : sv_R (x0 + 1) := by omega
theorem la_beginWork_46 {x0 : Int} (h0 : 6 ≤ x0) (h1 : ¬ 9 ≤ x0) : 0 ≤ x0 + 1 ∧ x0 + 1 ≤ 23 := by omega
theorem la_beginWork_47 {x0 x1 x2 : Int} (h0 : 29 ≤ x0) (h1 : 0 ≤ x1) (h2 : x1 ≤ 11557) (h3 : 0 ≤ x2) (h4 : ¬ 6 ≤ x2) : 0 ≤ x1 ∧ x1 ≤ 11557 ∧ 0 ≤ x2 ∧ x2 < x0 ∧ ((-1) : Int) ≤ 1 ∧ (1 : Int) ≤ 63 := by omega
theorem la_beginWork_48 {x0 : Int} (h0 : 0 ≤ x0) (h1 : ¬ 6 ≤ x0) : sv_R (x0 + 1) := by omega
theorem la_beginWork_49 {x0 : Int} (h0 : 0 ≤ x0) (h1 : ¬ 6 ≤ x0) : 0 ≤ x0 + 1 ∧ x0 + 1 ≤ 23 := by omega
theorem la_beginWork_50 {x0 x1 x2 : Int} (h0 : 29 ≤ x0) (h1 : 0 ≤ x1) (h2 : x1 ≤ 11557) (h3 : ¬ ¬ x2 = 1) : 0 ≤ x1 ∧ x1 ≤ 11557 ∧ 0 ≤ x2 ∧ x2 < x0 ∧ ((-1) : Int) ≤ (-1) ∧ ((-1) : Int) ≤ 63 := by omega
theorem la_beginWork_51 {x0 : Int} (h0 : ¬ ¬ x0 = 1) : sv_R (x0 + 1) := by omega
theorem la_beginWork_52 {x0 : Int} (h0 : ¬ ¬ x0 = 1) : 0 ≤ x0 + 1 ∧ x0 + 1 ≤ 23 := by omega
set_option maxHeartbeats 2000000 in
theorem f_beginWork : ∀ (S : sv_S), sm_ok S → (29 ≤ (S 1071 0) ∧ (S 1071 0) ≤ 127 ∧ 31 ≤ (S 1008 0) ∧ (S 1008 0) ≤ 90 ∧ 1 ≤ (S 1032 0) ∧ (S 1032 0) ≤ 11 ∧ 0 ≤ (S 1055 0) ∧ (S 1055 0) ≤ 19 ∧ (S 1071 0) = 29 + 6 * ((S 1032 0) - 1) + 2 * (S 1055 0) ∧ 0 ≤ (S 1046 0) ∧ (S 1046 0) + 2 * (S 1032 0) ≤ 500 ∧ sm_PD (S 1046 0) (S 1032 0) (S 1071 0) (S 1008 0) ∧ 0 ≤ (S 1071 0) * ((S 1008 0) + 1) ∧ (S 1071 0) * ((S 1008 0) + 1) ≤ 11557 ∧ 31 ≤ (S 1007 0) ∧ (S 1007 0) ≤ 400 ∧ sm_LN (S 4) 400 (S 1007 0)) → (29 ≤ (S 1071 0) ∧ (S 1071 0) ≤ 127 ∧ 31 ≤ (S 1008 0) ∧ (S 1008 0) ≤ 90 ∧ 1 ≤ (S 1032 0) ∧ (S 1032 0) ≤ 11 ∧ 0 ≤ (S 1055 0) ∧ (S 1055 0) ≤ 19 ∧ (S 1071 0) = 29 + 6 * ((S 1032 0) - 1) + 2 * (S 1055 0) ∧ 0 ≤ (S 1046 0) ∧ (S 1046 0) + 2 * (S 1032 0) ≤ 500 ∧ sm_PD (S 1046 0) (S 1032 0) (S 1071 0) (S 1008 0) ∧ 0 ≤ (S 1071 0) * ((S 1008 0) + 1) ∧ (S 1071 0) * ((S 1008 0) + 1) ≤ 11557 ∧ 0 ≤ (639 : Int) ∧ ((639 : Int) = 639 ∨ (639 : Int) < (S 1046 0) + 2 * (S 1032 0))) ∧ (∀ g2 : sv_S, (True) → (0 ≤ (639 : Int) ∧ (639 : Int) < 640) ∧ ((0 ≤ (0 : Int) ∧ (0 : Int) ≤ 23) ∧ (∀ l1_13 : Int, sv_R l1_13 → ∀ g12 : sv_S, (0 ≤ l1_13 ∧ l1_13 ≤ 23) → (0 ≤ 23 - l1_13) ∧ ((((23 : Int) ≤ l1_13) → ((0 ≤ (0 : Int) ∧ (0 : Int) ≤ 9) ∧ (∀ l1_20 : Int, sv_R l1_20 → ∀ g19 : sv_S, (0 ≤ l1_20 ∧ l1_20 ≤ 9) → (0 ≤ 9 - l1_20) ∧ ((((9 : Int) ≤ l1_20) → (29 ≤ (S 1071 0) ∧ (S 1071 0) ≤ 127 ∧ 31 ≤ (S 1008 0) ∧ (S 1008 0) ≤ 90 ∧ 1 ≤ (S 1032 0) ∧ (S 1032 0) ≤ 11 ∧ 0 ≤ (S 1055 0) ∧ (S 1055 0) ≤ 19 ∧ (S 1071 0) = 29 + 6 * ((S 1032 0) - 1) + 2 * (S 1055 0) ∧ 0 ≤ (S 1046 0) ∧ (S 1046 0) + 2 * (S 1032 0) ≤ 500 ∧ sm_PD (S 1046 0) (S 1032 0) (S 1071 0) (S 1008 0) ∧ 0 ≤ (S 1071 0) * ((S 1008 0) + 1) ∧ (S 1071 0) * ((S 1008 0) + 1) ≤ 11557 ∧ 0 ≤ (1 : Int) ∧ (1 : Int) < (S 1071 0) ∧ 0 ≤ (2 : Int) ∧ (2 : Int) ≤ (S 1008 0)) ∧ (∀ g28 : sv_S, (sm_pt (g28 68) (g28 69) (g28 70) = sm_pt (g19 68) (g19 69) (g19 70)) → (29 ≤ (S 1071 0) ∧ (S 1071 0) ≤ 127 ∧ 31 ≤ (S 1008 0) ∧ (S 1008 0) ≤ 90 ∧ 1 ≤ (S 1032 0) ∧ (S 1032 0) ≤ 11 ∧ 0 ≤ (S 1055 0) ∧ (S 1055 0) ≤ 19 ∧ (S 1071 0) = 29 + 6 * ((S 1032 0) - 1) + 2 * (S 1055 0) ∧ 0 ≤ (S 1046 0) ∧ (S 1046 0) + 2 * (S 1032 0) ≤ 500 ∧ sm_PD (S 1046 0) (S 1032 0) (S 1071 0) (S 1008 0) ∧ 0 ≤ (S 1071 0) * ((S 1008 0) + 1) ∧ (S 1071 0) * ((S 1008 0) + 1) ≤ 11557 ∧ 0 ≤ (1 : Int) ∧ (1 : Int) < (S 1071 0) ∧ 0 ≤ (17 : Int) ∧ (17 : Int) ≤ (S 1008 0)) ∧ (∀ g36 : sv_S, (sm_pt (g36 68) (g36 69) (g36 70) = sm_pt (g28 68) (g28 69) (g28 70)) → (29 ≤ (S 1071 0) ∧ (S 1071 0) ≤ 127 ∧ 31 ≤ (S 1008 0) ∧ (S 1008 0) ≤ 90 ∧ 1 ≤ (S 1032 0) ∧ (S 1032 0) ≤ 11 ∧ 0 ≤ (S 1055 0) ∧ (S 1055 0) ≤ 19 ∧ (S 1071 0) = 29 + 6 * ((S 1032 0) - 1) + 2 * (S 1055 0) ∧ 0 ≤ (S 1046 0) ∧ (S 1046 0) + 2 * (S 1032 0) ≤ 500 ∧ sm_PD (S 1046 0) (S 1032 0) (S 1071 0) (S 1008 0) ∧ 0 ≤ (S 1071 0) * ((S 1008 0) + 1) ∧ (S 1071 0) * ((S 1008 0) + 1) ≤ 11557 ∧ 0 ≤ (2 : Int) ∧ (2 : Int) < (S 1071 0) ∧ 0 ≤ (16 : Int) ∧ (16 : Int) ≤ (S 1008 0)) ∧ (∀ g44 : sv_S, (sm_pt (g44 68) (g44 69) (g44 70) = sm_pt (g36 68) (g36 69) (g36 70)) → (29 ≤ (S 1071 0) ∧ (S 1071 0) ≤ 127 ∧ 31 ≤ (S 1008 0) ∧ (S 1008 0) ≤ 90 ∧ 1 ≤ (S 1032 0) ∧ (S 1032 0) ≤ 11 ∧ 0 ≤ (S 1055 0) ∧ (S 1055 0) ≤ 19 ∧ (S 1071 0) = 29 + 6 * ((S 1032 0) - 1) + 2 * (S 1055 0) ∧ 0 ≤ (S 1046 0) ∧ (S 1046 0) + 2 * (S 1032 0) ≤ 500 ∧ sm_PD (S 1046 0) (S 1032 0) (S 1071 0) (S 1008 0) ∧ 0 ≤ (S 1071 0) * ((S 1008 0) + 1) ∧ (S 1071 0) * ((S 1008 0) + 1) ≤ 11557 ∧ 0 ≤ (3 : Int) ∧ (3 : Int) < (S 1071 0) ∧ 0 ≤ (2 : Int) ∧ (2 : Int) ≤ (S 1008 0)) ∧ (∀ g52 : sv_S, (sm_pt (g52 68) (g52 69) (g52 70) = sm_pt (g44 68) (g44 69) (g44 70)) → (29 ≤ (S 1071 0) ∧ (S 1071 0) ≤ 127 ∧ 31 ≤ (S 1008 0) ∧ (S 1008 0) ≤ 90 ∧ 1 ≤ (S 1032 0) ∧ (S 1032 0) ≤ 11 ∧ 0 ≤ (S 1055 0) ∧ (S 1055 0) ≤ 19 ∧ (S 1071 0) = 29 + 6 * ((S 1032 0) - 1) + 2 * (S 1055 0) ∧ 0 ≤ (S 1046 0) ∧ (S 1046 0) + 2 * (S 1032 0) ≤ 500 ∧ sm_PD (S 1046 0) (S 1032 0) (S 1071 0) (S 1008 0) ∧ 0 ≤ (S 1071 0) * ((S 1008 0) + 1) ∧ (S 1071 0) * ((S 1008 0) + 1) ≤ 11557 ∧ 0 ≤ (3 : Int) ∧ (3 : Int) < (S 1071 0) ∧ 0 ≤ (14 : Int) ∧ (14 : Int) ≤ (S 1008 0)) ∧ (∀ g60 : sv_S, (sm_pt (g60 68) (g60 69) (g60 70) = sm_pt (g52 68) (g52 69) (g52 70)) → (29 ≤ (S 1071 0) ∧ (S 1071 0) ≤ 127 ∧ 31 ≤ (S 1008 0) ∧ (S 1008 0) ≤ 90 ∧ 1 ≤ (S 1032 0) ∧ (S 1032 0) ≤ 11 ∧ 0 ≤ (S 1055 0) ∧ (S 1055 0) ≤ 19 ∧ (S 1071 0) = 29 + 6 * ((S 1032 0) - 1) + 2 * (S 1055 0) ∧ 0 ≤ (S 1046 0) ∧ (S 1046 0) + 2 * (S 1032 0) ≤ 500 ∧ sm_PD (S 1046 0) (S 1032 0) (S 1071 0) (S 1008 0) ∧ 0 ≤ (S 1071 0) * ((S 1008 0) + 1) ∧ (S 1071 0) * ((S 1008 0) + 1) ≤ 11557 ∧ 0 ≤ (3 : Int) ∧ (3 : Int) < (S 1071 0) ∧ 0 ≤ (15 : Int) ∧ (15 : Int) ≤ (S 1008 0)) ∧ (∀ g68 : sv_S, (sm_pt (g68 68) (g68 69) (g68 70) = sm_pt (g60 68) (g60 69) (g60 70)) → (29 ≤ (S 1071 0) ∧ (S 1071 0) ≤ 127 ∧ 31 ≤ (S 1008 0) ∧ (S 1008 0) ≤ 90 ∧ 1 ≤ (S 1032 0) ∧ (S 1032 0) ≤ 11 ∧ 0 ≤ (S 1055 0) ∧ (S 1055 0) ≤ 19 ∧ (S 1071 0) = 29 + 6 * ((S 1032 0) - 1) + 2 * (S 1055 0) ∧ 0 ≤ (S 1046 0) ∧ (S 1046 0) + 2 * (S 1032 0) ≤ 500 ∧ sm_PD (S 1046 0) (S 1032 0) (S 1071 0) (S 1008 0) ∧ 0 ≤ (S 1071 0) * ((S 1008 0) + 1) ∧ (S 1071 0) * ((S 1008 0) + 1) ≤ 11557 ∧ 0 ≤ (4 : Int) ∧ (4 : Int) < (S 1071 0) ∧ 0 ≤ (2 : Int) ∧ (2 : Int) ≤ (S 1008 0)) ∧ (∀ g76 : sv_S, (sm_pt (g76 68) (g76 69) (g76 70) = sm_pt (g68 68) (g68 69) (g68 70)) → (29 ≤ (S 1071 0) ∧ (S 1071 0) ≤ 127 ∧ 31 ≤ (S 1008 0) ∧ (S 1008 0) ≤ 90 ∧ 1 ≤ (S 1032 0) ∧ (S 1032 0) ≤ 11 ∧ 0 ≤ (S 1055 0) ∧ (S 1055 0) ≤ 19 ∧ (S 1071 0) = 29 + 6 * ((S 1032 0) - 1) + 2 * (S 1055 0) ∧ 0 ≤ (S 1046 0) ∧ (S 1046 0) + 2 * (S 1032 0) ≤ 500 ∧ sm_PD (S 1046 0) (S 1032 0) (S 1071 0) (S 1008 0) ∧ 0 ≤ (S 1071 0) * ((S 1008 0) + 1) ∧ (S 1071 0) * ((S 1008 0) + 1) ≤ 11557 ∧ 0 ≤ (4 : Int) ∧ (4 : Int) < (S 1071 0) ∧ 0 ≤ (18 : Int) ∧ (18 : Int) ≤ (S 1008 0)) ∧ (∀ g84 : sv_S, (sm_pt (g84 68) (g84 69) (g84 70) = sm_pt (g76 68) (g76 69) (g76 70)) → ((0 ≤ (0 : Int) ∧ (0 : Int) ≤ 4) ∧ (∀ l1_92 : Int, sv_R l1_92 → ∀ g91 : sv_S, (0 ≤ l1_92 ∧ l1_92 ≤ 4) → (0 ≤ 4 - l1_92) ∧ ((((4 : Int) ≤ l1_92) → (29 ≤ (S 1071 0) ∧ (S 1071 0) ≤ 127 ∧ 31 ≤ (S 1008 0) ∧ (S 1008 0) ≤ 90 ∧ 1 ≤ (S 1032 0) ∧ (S 1032 0) ≤ 11 ∧ 0 ≤ (S 1055 0) ∧ (S 1055 0) ≤ 19 ∧ (S 1071 0) = 29 + 6 * ((S 1032 0) - 1) + 2 * (S 1055 0) ∧ 0 ≤ (S 1046 0) ∧ (S 1046 0) + 2 * (S 1032 0) ≤ 500 ∧ sm_PD (S 1046 0) (S 1032 0) (S 1071 0) (S 1008 0) ∧ 0 ≤ (S 1071 0) * ((S 1008 0) + 1) ∧ (S 1071 0) * ((S 1008 0) + 1) ≤ 11557 ∧ 0 ≤ (10 : Int) ∧ (10 : Int) < (S 1071 0) ∧ 0 ≤ (1 : Int) ∧ (1 : Int) ≤ (S 1008 0)) ∧ (∀ g101 : sv_S, (sm_pt (g101 68) (g101 69) (g101 70) = sm_pt (g91 68) (g91 69) (g91 70)) → (29 ≤ (S 1071 0) ∧ (S 1071 0) ≤ 127 ∧ 31 ≤ (S 1008 0) ∧ (S 1008 0) ≤ 90 ∧ 1 ≤ (S 1032 0) ∧ (S 1032 0) ≤ 11 ∧ 0 ≤ (S 1055 0) ∧ (S 1055 0) ≤ 19 ∧ (S 1071 0) = 29 + 6 * ((S 1032 0) - 1) + 2 * (S 1055 0) ∧ 0 ≤ (S 1046 0) ∧ (S 1046 0) + 2 * (S 1032 0) ≤ 500 ∧ sm_PD (S 1046 0) (S 1032 0) (S 1071 0) (S 1008 0) ∧ 0 ≤ (S 1071 0) * ((S 1008 0) + 1) ∧ (S 1071 0) * ((S 1008 0) + 1) ≤ 11557 ∧ 0 ≤ (11 : Int) ∧ (11 : Int) < (S 1071 0) ∧ 0 ≤ (1 : Int) ∧ (1 : Int) ≤ (S 1008 0)) ∧ (∀ g110 : sv_S, (sm_pt (g110 68) (g110 69) (g110 70) = sm_pt (g101 68) (g101 69) (g101 70)) → (29 ≤ (S 1071 0) ∧ (S 1071 0) ≤ 127 ∧ 31 ≤ (S 1008 0) ∧ (S 1008 0) ≤ 90 ∧ 1 ≤ (S 1032 0) ∧ (S 1032 0) ≤ 11 ∧ 0 ≤ (S 1055 0) ∧ (S 1055 0) ≤ 19 ∧ (S 1071 0) = 29 + 6 * ((S 1032 0) - 1) + 2 * (S 1055 0) ∧ 0 ≤ (S 1046 0) ∧ (S 1046 0) + 2 * (S 1032 0) ≤ 500 ∧ sm_PD (S 1046 0) (S 1032 0) (S 1071 0) (S 1008 0) ∧ 0 ≤ (S 1071 0) * ((S 1008 0) + 1) ∧ (S 1071 0) * ((S 1008 0) + 1) ≤ 11557 ∧ 0 ≤ (12 : Int) ∧ (12 : Int) < (S 1071 0) ∧ 0 ≤ (1 : Int) ∧ (1 : Int) ≤ (S 1008 0)) ∧ (∀ g119 : sv_S, (sm_pt (g119 68) (g119 69) (g119 70) = sm_pt (g110 68) (g110 69) (g110 70)) → (sv_R (635000 + (639 : Int))) ∧ (635639 ≤ (635000 + (639 : Int)) ∧ (635000 + (639 : Int)) < 647790) ∧ (∀ g129 : sv_S, (sm_pt (g129 68) (g129 69) (g129 70) = sm_pt (g119 68) (g119 69) (g119 70)) → ((if 639 = (639 : Int) then (0 : Int) else (S 74 639)) = 0 ∧ (if 639 = (639 : Int) then (0 : Int) else (S 78 639)) = 0 ∧ sm_F1 (S 74) (fun i' : Int => if i' = (639 : Int) then (0 : Int) else (S 74) i') 639 ∧ sm_F1 (S 78) (fun i' : Int => if i' = (639 : Int) then (0 : Int) else (S 78) i') 639)))))) ∧ ((¬ ((4 : Int) ≤ l1_92)) → (sv_R ((5 : Int) + l1_92)) ∧ (sv_R ((14 : Int) + l1_92)) ∧ (29 ≤ (S 1071 0) ∧ (S 1071 0) ≤ 127 ∧ 31 ≤ (S 1008 0) ∧ (S 1008 0) ≤ 90 ∧ 1 ≤ (S 1032 0) ∧ (S 1032 0) ≤ 11 ∧ 0 ≤ (S 1055 0) ∧ (S 1055 0) ≤ 19 ∧ (S 1071 0) = 29 + 6 * ((S 1032 0) - 1) + 2 * (S 1055 0) ∧ 0 ≤ (S 1046 0) ∧ (S 1046 0) + 2 * (S 1032 0) ≤ 500 ∧ sm_PD (S 1046 0) (S 1032 0) (S 1071 0) (S 1008 0) ∧ 0 ≤ (S 1071 0) * ((S 1008 0) + 1) ∧ (S 1071 0) * ((S 1008 0) + 1) ≤ 11557 ∧ 0 ≤ ((5 : Int) + l1_92) ∧ ((5 : Int) + l1_92) < (S 1071 0) ∧ 0 ≤ (2 : Int) ∧ (2 : Int) ≤ (S 1008 0)) ∧ (∀ g140 : sv_S, (sm_pt (g140 68) (g140 69) (g140 70) = sm_pt (g91 68) (g91 69) (g91 70)) → (29 ≤ (S 1071 0) ∧ (S 1071 0) ≤ 127 ∧ 31 ≤ (S 1008 0) ∧ (S 1008 0) ≤ 90 ∧ 1 ≤ (S 1032 0) ∧ (S 1032 0) ≤ 11 ∧ 0 ≤ (S 1055 0) ∧ (S 1055 0) ≤ 19 ∧ (S 1071 0) = 29 + 6 * ((S 1032 0) - 1) + 2 * (S 1055 0) ∧ 0 ≤ (S 1046 0) ∧ (S 1046 0) + 2 * (S 1032 0) ≤ 500 ∧ sm_PD (S 1046 0) (S 1032 0) (S 1071 0) (S 1008 0) ∧ 0 ≤ (S 1071 0) * ((S 1008 0) + 1) ∧ (S 1071 0) * ((S 1008 0) + 1) ≤ 11557 ∧ 0 ≤ ((5 : Int) + l1_92) ∧ ((5 : Int) + l1_92) < (S 1071 0) ∧ 0 ≤ (4 : Int) ∧ (4 : Int) ≤ (S 1008 0)) ∧ (∀ r153 : Int, sv_R r153 → ∀ g149 : sv_S, (sm_pt (g149 68) (g149 69) (g149 70) = sm_pt (g140 68) (g140 69) (g140 70) ∧ 635640 ≤ r153 ∧ r153 < 647340) → (sv_R ((10 : Int) + l1_92)) ∧ (635639 ≤ r153 ∧ r153 < 647790) ∧ (∀ g160 : sv_S, (sm_pt (g160 68) (g160 69) (g160 70) = sm_pt (g149 68) (g149 69) (g149 70)) → (29 ≤ (S 1071 0) ∧ (S 1071 0) ≤ 127 ∧ 31 ≤ (S 1008 0) ∧ (S 1008 0) ≤ 90 ∧ 1 ≤ (S 1032 0) ∧ (S 1032 0) ≤ 11 ∧ 0 ≤ (S 1055 0) ∧ (S 1055 0) ≤ 19 ∧ (S 1071 0) = 29 + 6 * ((S 1032 0) - 1) + 2 * (S 1055 0) ∧ 0 ≤ (S 1046 0) ∧ (S 1046 0) + 2 * (S 1032 0) ≤ 500 ∧ sm_PD (S 1046 0) (S 1032 0) (S 1071 0) (S 1008 0) ∧ 0 ≤ (S 1071 0) * ((S 1008 0) + 1) ∧ (S 1071 0) * ((S 1008 0) + 1) ≤ 11557 ∧ 0 ≤ ((14 : Int) + l1_92) ∧ ((14 : Int) + l1_92) < (S 1071 0) ∧ 0 ≤ (1 : Int) ∧ (1 : Int) ≤ (S 1008 0)) ∧ (∀ g169 : sv_S, (sm_pt (g169 68) (g169 69) (g169 70) = sm_pt (g160 68) (g160 69) (g160 70)) → (sv_R (l1_92 + (1 : Int))) ∧ ((0 ≤ (l1_92 + (1 : Int)) ∧ (l1_92 + (1 : Int)) ≤ 4) ∧ (4 - (l1_92 + (1 : Int))) < (4 - l1_92))))))))))))))))))) ∧ ((¬ ((9 : Int) ≤ l1_20)) → (sv_R ((5 : Int) + l1_20)) ∧ (sv_R ((9 : Int) + l1_20)) ∧ (29 ≤ (S 1071 0) ∧ (S 1071 0) ≤ 127 ∧ 31 ≤ (S 1008 0) ∧ (S 1008 0) ≤ 90 ∧ 1 ≤ (S 1032 0) ∧ (S 1032 0) ≤ 11 ∧ 0 ≤ (S 1055 0) ∧ (S 1055 0) ≤ 19 ∧ (S 1071 0) = 29 + 6 * ((S 1032 0) - 1) + 2 * (S 1055 0) ∧ 0 ≤ (S 1046 0) ∧ (S 1046 0) + 2 * (S 1032 0) ≤ 500 ∧ sm_PD (S 1046 0) (S 1032 0) (S 1071 0) (S 1008 0) ∧ 0 ≤ (S 1071 0) * ((S 1008 0) + 1) ∧ (S 1071 0) * ((S 1008 0) + 1) ≤ 11557 ∧ 0 ≤ (0 : Int) ∧ (0 : Int) < (S 1071 0) ∧ 0 ≤ ((5 : Int) + l1_20) ∧ ((5 : Int) + l1_20) ≤ (S 1008 0)) ∧ (∀ g181 : sv_S, (sm_pt (g181 68) (g181 69) (g181 70) = sm_pt (g19 68) (g19 69) (g19 70)) → (sv_R (l1_20 + (1 : Int))) ∧ ((0 ≤ (l1_20 + (1 : Int)) ∧ (l1_20 + (1 : Int)) ≤ 9) ∧ (9 - (l1_20 + (1 : Int))) < (9 - l1_20)))))))) ∧ ((¬ ((23 : Int) ≤ l1_13)) → (((¬ l1_13 = (1 : Int)) → ((((6 : Int) ≤ l1_13) → ((((9 : Int) ≤ l1_13) → (29 ≤ (S 1071 0) ∧ (S 1071 0) ≤ 127 ∧ 31 ≤ (S 1008 0) ∧ (S 1008 0) ≤ 90 ∧ 1 ≤ (S 1032 0) ∧ (S 1032 0) ≤ 11 ∧ 0 ≤ (S 1055 0) ∧ (S 1055 0) ≤ 19 ∧ (S 1071 0) = 29 + 6 * ((S 1032 0) - 1) + 2 * (S 1055 0) ∧ 0 ≤ (S 1046 0) ∧ (S 1046 0) + 2 * (S 1032 0) ≤ 500 ∧ sm_PD (S 1046 0) (S 1032 0) (S 1071 0) (S 1008 0) ∧ 0 ≤ (S 1071 0) * ((S 1008 0) + 1) ∧ (S 1071 0) * ((S 1008 0) + 1) ≤ 11557 ∧ 0 ≤ l1_13 ∧ l1_13 < (S 1071 0) ∧ -1 ≤ (2 : Int) ∧ (2 : Int) ≤ 63) ∧ (∀ g190 : sv_S, (sm_pt (g190 68) (g190 69) (g190 70) = sm_pt (g12 68) (g12 69) (g12 70) ∧ sm_pl (g190 81) (g190 82) (g190 83) (g190 84) (g190 85) (g190 86) = sm_pl (g12 81) (g12 82) (g12 83) (g12 84) (g12 85) (g12 86)) → (sv_R (l1_13 + (1 : Int))) ∧ ((0 ≤ (l1_13 + (1 : Int)) ∧ (l1_13 + (1 : Int)) ≤ 23) ∧ (23 - (l1_13 + (1 : Int))) < (23 - l1_13)))) ∧ ((¬ ((9 : Int) ≤ l1_13)) → (29 ≤ (S 1071 0) ∧ (S 1071 0) ≤ 127 ∧ 31 ≤ (S 1008 0) ∧ (S 1008 0) ≤ 90 ∧ 1 ≤ (S 1032 0) ∧ (S 1032 0) ≤ 11 ∧ 0 ≤ (S 1055 0) ∧ (S 1055 0) ≤ 19 ∧ (S 1071 0) = 29 + 6 * ((S 1032 0) - 1) + 2 * (S 1055 0) ∧ 0 ≤ (S 1046 0) ∧ (S 1046 0) + 2 * (S 1032 0) ≤ 500 ∧ sm_PD (S 1046 0) (S 1032 0) (S 1071 0) (S 1008 0) ∧ 0 ≤ (S 1071 0) * ((S 1008 0) + 1) ∧ (S 1071 0) * ((S 1008 0) + 1) ≤ 11557 ∧ 0 ≤ l1_13 ∧ l1_13 < (S 1071 0) ∧ -1 ≤ (5 : Int) ∧ (5 : Int) ≤ 63) ∧ (∀ g198 : sv_S, (sm_pt (g198 68) (g198 69) (g198 70) = sm_pt (g12 68) (g12 69) (g12 70) ∧ sm_pl (g198 81) (g198 82) (g198 83) (g198 84) (g198 85) (g198 86) = sm_pl (g12 81) (g12 82) (g12 83) (g12 84) (g12 85) (g12 86)) → (sv_R (l1_13 + (1 : Int))) ∧ ((0 ≤ (l1_13 + (1 : Int)) ∧ (l1_13 + (1 : Int)) ≤ 23) ∧ (23 - (l1_13 + (1 : Int))) < (23 - l1_13)))))) ∧ ((¬ ((6 : Int) ≤ l1_13)) → (29 ≤ (S 1071 0) ∧ (S 1071 0) ≤ 127 ∧ 31 ≤ (S 1008 0) ∧ (S 1008 0) ≤ 90 ∧ 1 ≤ (S 1032 0) ∧ (S 1032 0) ≤ 11 ∧ 0 ≤ (S 1055 0) ∧ (S 1055 0) ≤ 19 ∧ (S 1071 0) = 29 + 6 * ((S 1032 0) - 1) + 2 * (S 1055 0) ∧ 0 ≤ (S 1046 0) ∧ (S 1046 0) + 2 * (S 1032 0) ≤ 500 ∧ sm_PD (S 1046 0) (S 1032 0) (S 1071 0) (S 1008 0) ∧ 0 ≤ (S 1071 0) * ((S 1008 0) + 1) ∧ (S 1071 0) * ((S 1008 0) + 1) ≤ 11557 ∧ 0 ≤ l1_13 ∧ l1_13 < (S 1071 0) ∧ -1 ≤ (1 : Int) ∧ (1 : Int) ≤ 63) ∧ (∀ g206 : sv_S, (sm_pt (g206 68) (g206 69) (g206 70) = sm_pt (g12 68) (g12 69) (g12 70) ∧ sm_pl (g206 81) (g206 82) (g206 83) (g206 84) (g206 85) (g206 86) = sm_pl (g12 81) (g12 82) (g12 83) (g12 84) (g12 85) (g12 86)) → (sv_R (l1_13 + (1 : Int))) ∧ ((0 ≤ (l1_13 + (1 : Int)) ∧ (l1_13 + (1 : Int)) ≤ 23) ∧ (23 - (l1_13 + (1 : Int))) < (23 - l1_13)))))) ∧ ((¬ (¬ l1_13 = (1 : Int))) → (29 ≤ (S 1071 0) ∧ (S 1071 0) ≤ 127 ∧ 31 ≤ (S 1008 0) ∧ (S 1008 0) ≤ 90 ∧ 1 ≤ (S 1032 0) ∧ (S 1032 0) ≤ 11 ∧ 0 ≤ (S 1055 0) ∧ (S 1055 0) ≤ 19 ∧ (S 1071 0) = 29 + 6 * ((S 1032 0) - 1) + 2 * (S 1055 0) ∧ 0 ≤ (S 1046 0) ∧ (S 1046 0) + 2 * (S 1032 0) ≤ 500 ∧ sm_PD (S 1046 0) (S 1032 0) (S 1071 0) (S 1008 0) ∧ 0 ≤ (S 1071 0) * ((S 1008 0) + 1) ∧ (S 1071 0) * ((S 1008 0) + 1) ≤ 11557 ∧ 0 ≤ l1_13 ∧ l1_13 < (S 1071 0) ∧ -1 ≤ (-1 : Int) ∧ (-1 : Int) ≤ 63) ∧ (∀ g214 : sv_S, (sm_pt (g214 68) (g214 69) (g214 70) = sm_pt (g12 68) (g12 69) (g12 70) ∧ sm_pl (g214 81) (g214 82) (g214 83) (g214 84) (g214 85) (g214 86) = sm_pl (g12 81) (g12 82) (g12 83) (g12 84) (g12 85) (g12 86)) → (sv_R (l1_13 + (1 : Int))) ∧ ((0 ≤ (l1_13 + (1 : Int)) ∧ (l1_13 + (1 : Int)) ≤ 23) ∧ (23 - (l1_13 + (1 : Int))) < (23 - l1_13)))))))))) := by
  intro S
  intro h1_
  rintro ⟨h2_, ⟨h3_, ⟨h4_, ⟨h5_, ⟨h6_, ⟨h7_, ⟨h8_, ⟨h9_, ⟨h10_, ⟨h11_, ⟨h12_, ⟨h13_, ⟨h14_, ⟨h15_, ⟨h16_, ⟨h17_, h18_⟩⟩⟩⟩⟩⟩⟩⟩⟩⟩⟩⟩⟩⟩⟩⟩
  refine ⟨⟨h2_, ⟨h3_, ⟨h4_, ⟨h5_, ⟨h6_, ⟨h7_, ⟨h8_, ⟨h9_, ⟨h10_, ⟨h11_, ⟨h12_, ⟨h13_, (la_beginWork_0 h14_ h15_)⟩⟩⟩⟩⟩⟩⟩⟩⟩⟩⟩⟩, ?_⟩
  intro g2
  intro _
  refine ⟨la_beginWork_1, ?_⟩
  refine ⟨la_beginWork_2, ?_⟩
  intro l1_13
  intro h19_
  intro g12
  rintro ⟨h20_, h21_⟩
  refine ⟨(la_beginWork_3 h21_), ?_⟩
  refine ⟨?_, ?_⟩
  · skip
    intro h22_
    refine ⟨la_beginWork_4, ?_⟩
    intro l1_20
    intro h23_
    intro g19
    rintro ⟨h24_, h25_⟩
    refine ⟨(la_beginWork_5 h25_), ?_⟩
    refine ⟨?_, ?_⟩
    · skip
      intro h26_
      refine ⟨⟨h2_, ⟨h3_, ⟨h4_, ⟨h5_, ⟨h6_, ⟨h7_, ⟨h8_, ⟨h9_, ⟨h10_, ⟨h11_, ⟨h12_, ⟨h13_, (la_beginWork_6 h2_ h4_ h14_ h15_)⟩⟩⟩⟩⟩⟩⟩⟩⟩⟩⟩⟩, ?_⟩
      intro g28
      intro h27_
      refine ⟨⟨h2_, ⟨h3_, ⟨h4_, ⟨h5_, ⟨h6_, ⟨h7_, ⟨h8_, ⟨h9_, ⟨h10_, ⟨h11_, ⟨h12_, ⟨h13_, (la_beginWork_7 h2_ h4_ h14_ h15_)⟩⟩⟩⟩⟩⟩⟩⟩⟩⟩⟩⟩, ?_⟩
      intro g36
      intro h28_
      refine ⟨⟨h2_, ⟨h3_, ⟨h4_, ⟨h5_, ⟨h6_, ⟨h7_, ⟨h8_, ⟨h9_, ⟨h10_, ⟨h11_, ⟨h12_, ⟨h13_, (la_beginWork_8 h2_ h4_ h14_ h15_)⟩⟩⟩⟩⟩⟩⟩⟩⟩⟩⟩⟩, ?_⟩
      intro g44
      intro h29_
      refine ⟨⟨h2_, ⟨h3_, ⟨h4_, ⟨h5_, ⟨h6_, ⟨h7_, ⟨h8_, ⟨h9_, ⟨h10_, ⟨h11_, ⟨h12_, ⟨h13_, (la_beginWork_9 h2_ h4_ h14_ h15_)⟩⟩⟩⟩⟩⟩⟩⟩⟩⟩⟩⟩, ?_⟩
      intro g52
      intro h30_
      refine ⟨⟨h2_, ⟨h3_, ⟨h4_, ⟨h5_, ⟨h6_, ⟨h7_, ⟨h8_, ⟨h9_, ⟨h10_, ⟨h11_, ⟨h12_, ⟨h13_, (la_beginWork_10 h2_ h4_ h14_ h15_)⟩⟩⟩⟩⟩⟩⟩⟩⟩⟩⟩⟩, ?_⟩
      intro g60
      intro h31_
      refine ⟨⟨h2_, ⟨h3_, ⟨h4_, ⟨h5_, ⟨h6_, ⟨h7_, ⟨h8_, ⟨h9_, ⟨h10_, ⟨h11_, ⟨h12_, ⟨h13_, (la_beginWork_11 h2_ h4_ h14_ h15_)⟩⟩⟩⟩⟩⟩⟩⟩⟩⟩⟩⟩, ?_⟩
      intro g68
      intro h32_
      refine ⟨⟨h2_, ⟨h3_, ⟨h4_, ⟨h5_, ⟨h6_, ⟨h7_, ⟨h8_, ⟨h9_, ⟨h10_, ⟨h11_, ⟨h12_, ⟨h13_, (la_beginWork_12 h2_ h4_ h14_ h15_)⟩⟩⟩⟩⟩⟩⟩⟩⟩⟩⟩⟩, ?_⟩
      intro g76
      intro h33_
      refine ⟨⟨h2_, ⟨h3_, ⟨h4_, ⟨h5_, ⟨h6_, ⟨h7_, ⟨h8_, ⟨h9_, ⟨h10_, ⟨h11_, ⟨h12_, ⟨h13_, (la_beginWork_13 h2_ h4_ h14_ h15_)⟩⟩⟩⟩⟩⟩⟩⟩⟩⟩⟩⟩, ?_⟩
      intro g84
      intro h34_
      refine ⟨la_beginWork_14, ?_⟩
      intro l1_92
      intro h35_
      intro g91
      rintro ⟨h36_, h37_⟩
      refine ⟨(la_beginWork_15 h37_), ?_⟩
      refine ⟨?_, ?_⟩
      · skip
        intro h38_
        refine ⟨⟨h2_, ⟨h3_, ⟨h4_, ⟨h5_, ⟨h6_, ⟨h7_, ⟨h8_, ⟨h9_, ⟨h10_, ⟨h11_, ⟨h12_, ⟨h13_, (la_beginWork_16 h2_ h4_ h14_ h15_)⟩⟩⟩⟩⟩⟩⟩⟩⟩⟩⟩⟩, ?_⟩
        intro g101
        intro h39_
        refine ⟨⟨h2_, ⟨h3_, ⟨h4_, ⟨h5_, ⟨h6_, ⟨h7_, ⟨h8_, ⟨h9_, ⟨h10_, ⟨h11_, ⟨h12_, ⟨h13_, (la_beginWork_17 h2_ h4_ h14_ h15_)⟩⟩⟩⟩⟩⟩⟩⟩⟩⟩⟩⟩, ?_⟩
        intro g110
        intro h40_
        refine ⟨⟨h2_, ⟨h3_, ⟨h4_, ⟨h5_, ⟨h6_, ⟨h7_, ⟨h8_, ⟨h9_, ⟨h10_, ⟨h11_, ⟨h12_, ⟨h13_, (la_beginWork_18 h2_ h4_ h14_ h15_)⟩⟩⟩⟩⟩⟩⟩⟩⟩⟩⟩⟩, ?_⟩
        intro g119
        intro h41_
        refine ⟨la_beginWork_19, ?_⟩
        refine ⟨la_beginWork_20, ?_⟩
        intro g129
        intro h42_
        refine ⟨?_, ?_⟩
        · skip
          have e43_ : (if (639 : Int) = 639 then 0 else S 74 639 : Int) = 0 := if_pos la_beginWork_21
          exact e43_
        refine ⟨?_, ?_⟩
        · skip
          have e44_ : (if (639 : Int) = 639 then 0 else S 78 639 : Int) = 0 := if_pos la_beginWork_21
          exact e44_
        refine ⟨(sm_F1_up sm_F1_rf (Int.le_refl _)), ?_⟩
        exact (sm_F1_up sm_F1_rf (Int.le_refl _))
      intro h45_
      refine ⟨(la_beginWork_22 h36_ h45_), ?_⟩
      refine ⟨(la_beginWork_23 h36_ h45_), ?_⟩
      refine ⟨⟨h2_, ⟨h3_, ⟨h4_, ⟨h5_, ⟨h6_, ⟨h7_, ⟨h8_, ⟨h9_, ⟨h10_, ⟨h11_, ⟨h12_, ⟨h13_, (la_beginWork_24 h2_ h4_ h14_ h15_ h36_ h45_)⟩⟩⟩⟩⟩⟩⟩⟩⟩⟩⟩⟩, ?_⟩
      intro g140
      intro h46_
      refine ⟨⟨h2_, ⟨h3_, ⟨h4_, ⟨h5_, ⟨h6_, ⟨h7_, ⟨h8_, ⟨h9_, ⟨h10_, ⟨h11_, ⟨h12_, ⟨h13_, (la_beginWork_25 h2_ h4_ h14_ h15_ h36_ h45_)⟩⟩⟩⟩⟩⟩⟩⟩⟩⟩⟩⟩, ?_⟩
      intro r153
      intro h47_
      intro g149
      rintro ⟨h48_, ⟨h49_, h50_⟩⟩
      refine ⟨(la_beginWork_26 h36_ h45_), ?_⟩
      refine ⟨(la_beginWork_27 h49_ h50_), ?_⟩
      intro g160
      intro h51_
      refine ⟨⟨h2_, ⟨h3_, ⟨h4_, ⟨h5_, ⟨h6_, ⟨h7_, ⟨h8_, ⟨h9_, ⟨h10_, ⟨h11_, ⟨h12_, ⟨h13_, (la_beginWork_28 h2_ h4_ h14_ h15_ h36_ h45_)⟩⟩⟩⟩⟩⟩⟩⟩⟩⟩⟩⟩, ?_⟩
      intro g169
      intro h52_
      refine ⟨(la_beginWork_29 h36_ h45_), ?_⟩
      refine ⟨(la_beginWork_30 h36_ h45_), ?_⟩
      exact la_beginWork_31
    intro h53_
    refine ⟨(la_beginWork_32 h24_ h53_), ?_⟩
    refine ⟨(la_beginWork_33 h24_ h53_), ?_⟩
    refine ⟨⟨h2_, ⟨h3_, ⟨h4_, ⟨h5_, ⟨h6_, ⟨h7_, ⟨h8_, ⟨h9_, ⟨h10_, ⟨h11_, ⟨h12_, ⟨h13_, (la_beginWork_34 h2_ h4_ h14_ h15_ h24_ h53_)⟩⟩⟩⟩⟩⟩⟩⟩⟩⟩⟩⟩, ?_⟩
    intro g181
    intro h54_
    refine ⟨(la_beginWork_35 h24_ h53_), ?_⟩
    refine ⟨(la_beginWork_36 h24_ h53_), ?_⟩
    exact la_beginWork_37
  intro h55_
  refine ⟨?_, ?_⟩
  · skip
    intro h56_
    refine ⟨?_, ?_⟩
    · skip
      intro h57_
      refine ⟨?_, ?_⟩
      · skip
        intro h58_
        refine ⟨⟨h2_, ⟨h3_, ⟨h4_, ⟨h5_, ⟨h6_, ⟨h7_, ⟨h8_, ⟨h9_, ⟨h10_, ⟨h11_, ⟨h12_, ⟨h13_, (la_beginWork_40 h2_ h14_ h15_ h55_ h58_)⟩⟩⟩⟩⟩⟩⟩⟩⟩⟩⟩⟩, ?_⟩
        intro g190
        rintro ⟨h59_, h60_⟩
        refine ⟨(la_beginWork_41 h55_ h58_), ?_⟩
        refine ⟨(la_beginWork_42 h55_ h58_), ?_⟩
        exact la_beginWork_43
      intro h61_
      refine ⟨⟨h2_, ⟨h3_, ⟨h4_, ⟨h5_, ⟨h6_, ⟨h7_, ⟨h8_, ⟨h9_, ⟨h10_, ⟨h11_, ⟨h12_, ⟨h13_, (la_beginWork_44 h2_ h14_ h15_ h57_ h61_)⟩⟩⟩⟩⟩⟩⟩⟩⟩⟩⟩⟩, ?_⟩
      intro g198
      rintro ⟨h62_, h63_⟩
      refine ⟨(la_beginWork_45 h57_ h61_), ?_⟩
      refine ⟨(la_beginWork_46 h57_ h61_), ?_⟩
      exact la_beginWork_43
    intro h64_
    refine ⟨⟨h2_, ⟨h3_, ⟨h4_, ⟨h5_, ⟨h6_, ⟨h7_, ⟨h8_, ⟨h9_, ⟨h10_, ⟨h11_, ⟨h12_, ⟨h13_, (la_beginWork_47 h2_ h14_ h15_ h20_ h64_)⟩⟩⟩⟩⟩⟩⟩⟩⟩⟩⟩⟩, ?_⟩
    intro g206
    rintro ⟨h65_, h66_⟩
    refine ⟨(la_beginWork_48 h20_ h64_), ?_⟩
    refine ⟨(la_beginWork_49 h20_ h64_), ?_⟩
    exact la_beginWork_43
  intro h67_
  refine ⟨⟨h2_, ⟨h3_, ⟨h4_, ⟨h5_, ⟨h6_, ⟨h7_, ⟨h8_, ⟨h9_, ⟨h10_, ⟨h11_, ⟨h12_, ⟨h13_, (la_beginWork_50 h2_ h14_ h15_ h67_)⟩⟩⟩⟩⟩⟩⟩⟩⟩⟩⟩⟩, ?_⟩
  intro g214
  rintro ⟨h68_, h69_⟩
  refine ⟨(la_beginWork_51 h67_), ?_⟩
  refine ⟨(la_beginWork_52 h67_), ?_⟩
  exact la_beginWork_43
set_option maxRecDepth 8000 in
set_option maxHeartbeats 2000000 in
theorem t_beginWork : ∀ (S : sv_S), sm_ok S → (29 ≤ (S 1071 0) ∧ (S 1071 0) ≤ 127 ∧ 31 ≤ (S 1008 0) ∧ (S 1008 0) ≤ 90 ∧ 1 ≤ (S 1032 0) ∧ (S 1032 0) ≤ 11 ∧ 0 ≤ (S 1055 0) ∧ (S 1055 0) ≤ 19 ∧ (S 1071 0) = 29 + 6 * ((S 1032 0) - 1) + 2 * (S 1055 0) ∧ 0 ≤ (S 1046 0) ∧ (S 1046 0) + 2 * (S 1032 0) ≤ 500 ∧ sm_PD (S 1046 0) (S 1032 0) (S 1071 0) (S 1008 0) ∧ 0 ≤ (S 1071 0) * ((S 1008 0) + 1) ∧ (S 1071 0) * ((S 1008 0) + 1) ≤ 11557 ∧ 31 ≤ (S 1007 0) ∧ (S 1007 0) ≤ 400 ∧ sm_LN (S 4) 400 (S 1007 0)) → sv_T sm_XS sm_cs sm_L sm_sh 4 (q_beginWork S) 293 0 (lv_args 0 [.ref 0]) [] S := by
  intro S hok hpre
  have h := f_beginWork S hok hpre
  have hM := sm_h293
  show sv_T sm_XS sm_cs sm_L sm_sh 4 (q_beginWork S) 293 0 [(0, .ref 0)] [] S
  refine sv_aload_n hM dX12_beginWork_0 rfl rfl ?_
  refine sv_sipush (d := (639 : Int)) hM dX12_beginWork_1 rfl rfl ?_
  obtain ⟨o1, h⟩ := h
  refine sv_callV hM dX12_beginWork_4 sm_iv_1104 (by decide) (sm_a0 _) rfl rfl (Nat.le_of_ble_eq_true rfl) sm_h234 (Nat.le_of_ble_eq_true rfl) (Nat.le_of_ble_eq_true rfl) (F' := 2) (Nat.le_of_ble_eq_true rfl) rfl (t_clearState (639 : Int) S hok (⟨by decide, by decide⟩ : sv_R (639 : Int)) o1) (fun v S1 hq => ?_)
  obtain ⟨rfl, ok3, md4, hpo5⟩ := hq
  obtain ⟨g2, rfl⟩ : ∃ g, S1 = sv_sts S [68, 69, 70, 81, 82, 83, 84, 85, 86, 76, 77] g := ⟨_, md4.eq⟩
  show sv_T sm_XS sm_cs sm_L sm_sh 4 (q_beginWork S) 293 7 [(0, .ref 0)] [] (sv_sts S [68, 69, 70, 81, 82, 83, 84, 85, 86, 76, 77] g2)
  have md6 : sv_mod [68, 69, 70, 81, 82, 83, 84, 85, 86, 1143, 1144, 5, 1011, 74, 78, 76, 77] S (sv_sts S [68, 69, 70, 81, 82, 83, 84, 85, 86, 76, 77] g2) := sv_mod.sts sv_mod.rf (by decide)
  have h := h g2 hpo5
  refine sv_aload_n hM dX12_beginWork_7 rfl rfl ?_
  refine sv_getA hM dX12_beginWork_8 sm_fl_235 (sm_a0 _) sm_k125 rfl ?_
  refine sv_sipush (d := (639 : Int)) hM dX12_beginWork_11 rfl rfl ?_
  refine sv_iconst (d := (0 : Int)) hM dX12_beginWork_14 rfl rfl ?_
  obtain ⟨o7, h⟩ := h
  refine sv_iast sm_X hM dX12_beginWork_15 (sm_a74 _) (by decide) o7.1 o7.2 rfl ?_
  have ok8 : sm_ok (sv_up (sv_sts S [68, 69, 70, 81, 82, 83, 84, 85, 86, 76, 77] g2) 74 (639 : Int) (0 : Int)) := sm_upI ok3 sm_r74 (⟨by decide, by decide⟩ : sv_R (0 : Int))
  have md9 : sv_mod [68, 69, 70, 81, 82, 83, 84, 85, 86, 1143, 1144, 5, 1011, 74, 78, 76, 77] S (sv_up (sv_sts S [68, 69, 70, 81, 82, 83, 84, 85, 86, 76, 77] g2) 74 (639 : Int) (0 : Int)) := sv_mod.up md6 (by decide)
  refine sv_aload_n hM dX12_beginWork_16 rfl rfl ?_
  refine sv_getA hM dX12_beginWork_17 sm_fl_247 (sm_a0 _) sm_k130 rfl ?_
  refine sv_sipush (d := (639 : Int)) hM dX12_beginWork_20 rfl rfl ?_
  refine sv_iconst (d := (0 : Int)) hM dX12_beginWork_23 rfl rfl ?_
  refine sv_iast sm_X hM dX12_beginWork_24 (sm_a78 _) (by decide) o7.1 o7.2 rfl ?_
  have ok10 : sm_ok (sv_up (sv_up (sv_sts S [68, 69, 70, 81, 82, 83, 84, 85, 86, 76, 77] g2) 74 (639 : Int) (0 : Int)) 78 (639 : Int) (0 : Int)) := sm_upI ok8 sm_r78 (⟨by decide, by decide⟩ : sv_R (0 : Int))
  have md11 : sv_mod [68, 69, 70, 81, 82, 83, 84, 85, 86, 1143, 1144, 5, 1011, 74, 78, 76, 77] S (sv_up (sv_up (sv_sts S [68, 69, 70, 81, 82, 83, 84, 85, 86, 76, 77] g2) 74 (639 : Int) (0 : Int)) 78 (639 : Int) (0 : Int)) := sv_mod.up md9 (by decide)
  refine sv_iconst (d := (0 : Int)) hM dX12_beginWork_25 rfl rfl ?_
  refine sv_istore_n hM dX12_beginWork_26 (by decide) rfl ?_
  show sv_T sm_XS sm_cs sm_L sm_sh 4 (q_beginWork S) 293 27 [(0, .ref 0), (1, sv_I (0 : Int))] [] (sv_up (sv_up (sv_sts S [68, 69, 70, 81, 82, 83, 84, 85, 86, 76, 77] g2) 74 (639 : Int) (0 : Int)) 78 (639 : Int) (0 : Int))
  obtain ⟨hin15, h⟩ := h
  have hJ : ∀ a : Int × sv_S, (sv_R a.1 ∧ sm_ok (sv_sts (sv_up (sv_up (sv_sts S [68, 69, 70, 81, 82, 83, 84, 85, 86, 76, 77] g2) 74 (639 : Int) (0 : Int)) 78 (639 : Int) (0 : Int)) [68, 69, 70, 81, 82, 83, 84, 85, 86] a.2) ∧ (0 ≤ a.1 ∧ a.1 ≤ 23)) → sv_T sm_XS sm_cs sm_L sm_sh 4 (q_beginWork S) 293 27 [(0, .ref 0), (1, sv_I a.1)] [] (sv_sts (sv_up (sv_up (sv_sts S [68, 69, 70, 81, 82, 83, 84, 85, 86, 76, 77] g2) 74 (639 : Int) (0 : Int)) 78 (639 : Int) (0 : Int)) [68, 69, 70, 81, 82, 83, 84, 85, 86] a.2) := by
    refine sv_loop (α := Int × sv_S) (fun a => sv_R a.1 ∧ sm_ok (sv_sts (sv_up (sv_up (sv_sts S [68, 69, 70, 81, 82, 83, 84, 85, 86, 76, 77] g2) 74 (639 : Int) (0 : Int)) 78 (639 : Int) (0 : Int)) [68, 69, 70, 81, 82, 83, 84, 85, 86] a.2) ∧ (0 ≤ a.1 ∧ a.1 ≤ 23)) (fun a => 23 - a.1) (fun a => sv_T sm_XS sm_cs sm_L sm_sh 4 (q_beginWork S) 293 27 [(0, .ref 0), (1, sv_I a.1)] [] (sv_sts (sv_up (sv_up (sv_sts S [68, 69, 70, 81, 82, 83, 84, 85, 86, 76, 77] g2) 74 (639 : Int) (0 : Int)) 78 (639 : Int) (0 : Int)) [68, 69, 70, 81, 82, 83, 84, 85, 86] a.2)) (fun a q => (h a.1 q.1 a.2 q.2.2).1) (fun a q ih14 => ?_)
    obtain ⟨l1_13, g12⟩ := a
    obtain ⟨hl1_13, ok16, hin15i⟩ := q
    have h := (h l1_13 hl1_13 g12 hin15i).2
    show sv_T sm_XS sm_cs sm_L sm_sh 4 (q_beginWork S) 293 27 [(0, .ref 0), (1, sv_I l1_13)] [] (sv_sts (sv_up (sv_up (sv_sts S [68, 69, 70, 81, 82, 83, 84, 85, 86, 76, 77] g2) 74 (639 : Int) (0 : Int)) 78 (639 : Int) (0 : Int)) [68, 69, 70, 81, 82, 83, 84, 85, 86] g12)
    have md17 : sv_mod [68, 69, 70, 81, 82, 83, 84, 85, 86, 1143, 1144, 5, 1011, 74, 78, 76, 77] S (sv_sts (sv_up (sv_up (sv_sts S [68, 69, 70, 81, 82, 83, 84, 85, 86, 76, 77] g2) 74 (639 : Int) (0 : Int)) 78 (639 : Int) (0 : Int)) [68, 69, 70, 81, 82, 83, 84, 85, 86] g12) := sv_mod.sts md11 (by decide)
    have md18 : sv_mod [68, 69, 70, 81, 82, 83, 84, 85, 86] (sv_up (sv_up (sv_sts S [68, 69, 70, 81, 82, 83, 84, 85, 86, 76, 77] g2) 74 (639 : Int) (0 : Int)) 78 (639 : Int) (0 : Int)) (sv_sts (sv_up (sv_up (sv_sts S [68, 69, 70, 81, 82, 83, 84, 85, 86, 76, 77] g2) 74 (639 : Int) (0 : Int)) 78 (639 : Int) (0 : Int)) [68, 69, 70, 81, 82, 83, 84, 85, 86] g12) := sv_mod.sts sv_mod.rf (by decide)
    refine sv_iload_n hM dX12_beginWork_27 rfl rfl ?_
    refine sv_bipush (d := (23 : Int)) hM dX12_beginWork_28 rfl rfl ?_
    refine sv_icmp_ge hM dX12_beginWork_30 hl1_13 (⟨by decide, by decide⟩ : sv_R (23 : Int)) (t := 74) rfl rfl (fun hc => ?_) (fun hc => ?_)
    · have h := h.1 (hc)
      refine sv_iconst (d := (0 : Int)) hM dX12_beginWork_74 rfl rfl ?_
      refine sv_istore_n hM dX12_beginWork_75 (by decide) rfl ?_
      show sv_T sm_XS sm_cs sm_L sm_sh 4 (q_beginWork S) 293 76 [(0, .ref 0), (1, sv_I (0 : Int))] [] (sv_sts (sv_up (sv_up (sv_sts S [68, 69, 70, 81, 82, 83, 84, 85, 86, 76, 77] g2) 74 (639 : Int) (0 : Int)) 78 (639 : Int) (0 : Int)) [68, 69, 70, 81, 82, 83, 84, 85, 86] g12)
      obtain ⟨hin22, h⟩ := h
      have hJ : ∀ a : Int × sv_S, (sv_R a.1 ∧ sm_ok (sv_sts (sv_sts (sv_up (sv_up (sv_sts S [68, 69, 70, 81, 82, 83, 84, 85, 86, 76, 77] g2) 74 (639 : Int) (0 : Int)) 78 (639 : Int) (0 : Int)) [68, 69, 70, 81, 82, 83, 84, 85, 86] g12) [68, 69, 70] a.2) ∧ (0 ≤ a.1 ∧ a.1 ≤ 9)) → sv_T sm_XS sm_cs sm_L sm_sh 4 (q_beginWork S) 293 76 [(0, .ref 0), (1, sv_I a.1)] [] (sv_sts (sv_sts (sv_up (sv_up (sv_sts S [68, 69, 70, 81, 82, 83, 84, 85, 86, 76, 77] g2) 74 (639 : Int) (0 : Int)) 78 (639 : Int) (0 : Int)) [68, 69, 70, 81, 82, 83, 84, 85, 86] g12) [68, 69, 70] a.2) := by
        refine sv_loop (α := Int × sv_S) (fun a => sv_R a.1 ∧ sm_ok (sv_sts (sv_sts (sv_up (sv_up (sv_sts S [68, 69, 70, 81, 82, 83, 84, 85, 86, 76, 77] g2) 74 (639 : Int) (0 : Int)) 78 (639 : Int) (0 : Int)) [68, 69, 70, 81, 82, 83, 84, 85, 86] g12) [68, 69, 70] a.2) ∧ (0 ≤ a.1 ∧ a.1 ≤ 9)) (fun a => 9 - a.1) (fun a => sv_T sm_XS sm_cs sm_L sm_sh 4 (q_beginWork S) 293 76 [(0, .ref 0), (1, sv_I a.1)] [] (sv_sts (sv_sts (sv_up (sv_up (sv_sts S [68, 69, 70, 81, 82, 83, 84, 85, 86, 76, 77] g2) 74 (639 : Int) (0 : Int)) 78 (639 : Int) (0 : Int)) [68, 69, 70, 81, 82, 83, 84, 85, 86] g12) [68, 69, 70] a.2)) (fun a q => (h a.1 q.1 a.2 q.2.2).1) (fun a q ih21 => ?_)
        obtain ⟨l1_20, g19⟩ := a
        obtain ⟨hl1_20, ok23, hin22i⟩ := q
        have h := (h l1_20 hl1_20 g19 hin22i).2
        show sv_T sm_XS sm_cs sm_L sm_sh 4 (q_beginWork S) 293 76 [(0, .ref 0), (1, sv_I l1_20)] [] (sv_sts (sv_sts (sv_up (sv_up (sv_sts S [68, 69, 70, 81, 82, 83, 84, 85, 86, 76, 77] g2) 74 (639 : Int) (0 : Int)) 78 (639 : Int) (0 : Int)) [68, 69, 70, 81, 82, 83, 84, 85, 86] g12) [68, 69, 70] g19)
        have md24 : sv_mod [68, 69, 70, 81, 82, 83, 84, 85, 86, 1143, 1144, 5, 1011, 74, 78, 76, 77] S (sv_sts (sv_sts (sv_up (sv_up (sv_sts S [68, 69, 70, 81, 82, 83, 84, 85, 86, 76, 77] g2) 74 (639 : Int) (0 : Int)) 78 (639 : Int) (0 : Int)) [68, 69, 70, 81, 82, 83, 84, 85, 86] g12) [68, 69, 70] g19) := sv_mod.sts md17 (by decide)
        have md25 : sv_mod [68, 69, 70, 81, 82, 83, 84, 85, 86] (sv_up (sv_up (sv_sts S [68, 69, 70, 81, 82, 83, 84, 85, 86, 76, 77] g2) 74 (639 : Int) (0 : Int)) 78 (639 : Int) (0 : Int)) (sv_sts (sv_sts (sv_up (sv_up (sv_sts S [68, 69, 70, 81, 82, 83, 84, 85, 86, 76, 77] g2) 74 (639 : Int) (0 : Int)) 78 (639 : Int) (0 : Int)) [68, 69, 70, 81, 82, 83, 84, 85, 86] g12) [68, 69, 70] g19) := sv_mod.sts md18 (by decide)
        have md26 : sv_mod [68, 69, 70] (sv_sts (sv_up (sv_up (sv_sts S [68, 69, 70, 81, 82, 83, 84, 85, 86, 76, 77] g2) 74 (639 : Int) (0 : Int)) 78 (639 : Int) (0 : Int)) [68, 69, 70, 81, 82, 83, 84, 85, 86] g12) (sv_sts (sv_sts (sv_up (sv_up (sv_sts S [68, 69, 70, 81, 82, 83, 84, 85, 86, 76, 77] g2) 74 (639 : Int) (0 : Int)) 78 (639 : Int) (0 : Int)) [68, 69, 70, 81, 82, 83, 84, 85, 86] g12) [68, 69, 70] g19) := sv_mod.sts sv_mod.rf (by decide)
        refine sv_iload_n hM dX12_beginWork_76 rfl rfl ?_
        refine sv_bipush (d := (9 : Int)) hM dX12_beginWork_77 rfl rfl ?_
        refine sv_icmp_ge hM dX12_beginWork_79 hl1_20 (⟨by decide, by decide⟩ : sv_R (9 : Int)) (t := 100) rfl rfl (fun hc => ?_) (fun hc => ?_)
        · have h := h.1 (hc)
          refine sv_aload_n hM dX12_beginWork_100 rfl rfl ?_
          refine sv_iconst (d := (1 : Int)) hM dX12_beginWork_101 rfl rfl ?_
          refine sv_iconst (d := (2 : Int)) hM dX12_beginWork_102 rfl rfl ?_
          refine sv_bipush (d := (10 : Int)) hM dX12_beginWork_103 rfl rfl ?_
          obtain ⟨o27, h⟩ := h
          refine sv_callV hM dX12_beginWork_105 sm_iv_1370 (by decide) (sm_a0 _) rfl rfl (Nat.le_of_ble_eq_true rfl) sm_h292 (Nat.le_of_ble_eq_true rfl) (Nat.le_of_ble_eq_true rfl) (F' := 3) (Nat.le_of_ble_eq_true rfl) rfl (t_hasField (1 : Int) (2 : Int) (10 : Int) (sv_sts (sv_sts (sv_up (sv_up (sv_sts S [68, 69, 70, 81, 82, 83, 84, 85, 86, 76, 77] g2) 74 (639 : Int) (0 : Int)) 78 (639 : Int) (0 : Int)) [68, 69, 70, 81, 82, 83, 84, 85, 86] g12) [68, 69, 70] g19) ok23 (⟨by decide, by decide⟩ : sv_R (1 : Int)) (⟨by decide, by decide⟩ : sv_R (2 : Int)) (⟨by decide, by decide⟩ : sv_R (10 : Int)) o27) (fun v S1 hq => ?_)
          obtain ⟨rfl, ok29, md30, hpo31⟩ := hq
          obtain ⟨g28, rfl⟩ : ∃ g, S1 = sv_sts (sv_sts (sv_sts (sv_up (sv_up (sv_sts S [68, 69, 70, 81, 82, 83, 84, 85, 86, 76, 77] g2) 74 (639 : Int) (0 : Int)) 78 (639 : Int) (0 : Int)) [68, 69, 70, 81, 82, 83, 84, 85, 86] g12) [68, 69, 70] g19) [68, 69, 70] g := ⟨_, md30.eq⟩
          show sv_T sm_XS sm_cs sm_L sm_sh 4 (q_beginWork S) 293 108 [(0, .ref 0), (1, sv_I l1_20)] [] (sv_sts (sv_sts (sv_sts (sv_up (sv_up (sv_sts S [68, 69, 70, 81, 82, 83, 84, 85, 86, 76, 77] g2) 74 (639 : Int) (0 : Int)) 78 (639 : Int) (0 : Int)) [68, 69, 70, 81, 82, 83, 84, 85, 86] g12) [68, 69, 70] g19) [68, 69, 70] g28)
          have md32 : sv_mod [68, 69, 70, 81, 82, 83, 84, 85, 86, 1143, 1144, 5, 1011, 74, 78, 76, 77] S (sv_sts (sv_sts (sv_sts (sv_up (sv_up (sv_sts S [68, 69, 70, 81, 82, 83, 84, 85, 86, 76, 77] g2) 74 (639 : Int) (0 : Int)) 78 (639 : Int) (0 : Int)) [68, 69, 70, 81, 82, 83, 84, 85, 86] g12) [68, 69, 70] g19) [68, 69, 70] g28) := sv_mod.sts md24 (by decide)
          have md33 : sv_mod [68, 69, 70, 81, 82, 83, 84, 85, 86] (sv_up (sv_up (sv_sts S [68, 69, 70, 81, 82, 83, 84, 85, 86, 76, 77] g2) 74 (639 : Int) (0 : Int)) 78 (639 : Int) (0 : Int)) (sv_sts (sv_sts (sv_sts (sv_up (sv_up (sv_sts S [68, 69, 70, 81, 82, 83, 84, 85, 86, 76, 77] g2) 74 (639 : Int) (0 : Int)) 78 (639 : Int) (0 : Int)) [68, 69, 70, 81, 82, 83, 84, 85, 86] g12) [68, 69, 70] g19) [68, 69, 70] g28) := sv_mod.sts md25 (by decide)
          have md34 : sv_mod [68, 69, 70] (sv_sts (sv_up (sv_up (sv_sts S [68, 69, 70, 81, 82, 83, 84, 85, 86, 76, 77] g2) 74 (639 : Int) (0 : Int)) 78 (639 : Int) (0 : Int)) [68, 69, 70, 81, 82, 83, 84, 85, 86] g12) (sv_sts (sv_sts (sv_sts (sv_up (sv_up (sv_sts S [68, 69, 70, 81, 82, 83, 84, 85, 86, 76, 77] g2) 74 (639 : Int) (0 : Int)) 78 (639 : Int) (0 : Int)) [68, 69, 70, 81, 82, 83, 84, 85, 86] g12) [68, 69, 70] g19) [68, 69, 70] g28) := sv_mod.sts md26 (by decide)
          have h := h g28 hpo31
          refine sv_aload_n hM dX12_beginWork_108 rfl rfl ?_
          refine sv_iconst (d := (1 : Int)) hM dX12_beginWork_109 rfl rfl ?_
          refine sv_bipush (d := (17 : Int)) hM dX12_beginWork_110 rfl rfl ?_
          refine sv_bipush (d := (21 : Int)) hM dX12_beginWork_112 rfl rfl ?_
          obtain ⟨o35, h⟩ := h
          refine sv_callV hM dX12_beginWork_114 sm_iv_1370 (by decide) (sm_a0 _) rfl rfl (Nat.le_of_ble_eq_true rfl) sm_h292 (Nat.le_of_ble_eq_true rfl) (Nat.le_of_ble_eq_true rfl) (F' := 3) (Nat.le_of_ble_eq_true rfl) rfl (t_hasField (1 : Int) (17 : Int) (21 : Int) (sv_sts (sv_sts (sv_sts (sv_up (sv_up (sv_sts S [68, 69, 70, 81, 82, 83, 84, 85, 86, 76, 77] g2) 74 (639 : Int) (0 : Int)) 78 (639 : Int) (0 : Int)) [68, 69, 70, 81, 82, 83, 84, 85, 86] g12) [68, 69, 70] g19) [68, 69, 70] g28) ok29 (⟨by decide, by decide⟩ : sv_R (1 : Int)) (⟨by decide, by decide⟩ : sv_R (17 : Int)) (⟨by decide, by decide⟩ : sv_R (21 : Int)) o35) (fun v S1 hq => ?_)
          obtain ⟨rfl, ok37, md38, hpo39⟩ := hq
          obtain ⟨g36, rfl⟩ : ∃ g, S1 = sv_sts (sv_sts (sv_sts (sv_sts (sv_up (sv_up (sv_sts S [68, 69, 70, 81, 82, 83, 84, 85, 86, 76, 77] g2) 74 (639 : Int) (0 : Int)) 78 (639 : Int) (0 : Int)) [68, 69, 70, 81, 82, 83, 84, 85, 86] g12) [68, 69, 70] g19) [68, 69, 70] g28) [68, 69, 70] g := ⟨_, md38.eq⟩
          show sv_T sm_XS sm_cs sm_L sm_sh 4 (q_beginWork S) 293 117 [(0, .ref 0), (1, sv_I l1_20)] [] (sv_sts (sv_sts (sv_sts (sv_sts (sv_up (sv_up (sv_sts S [68, 69, 70, 81, 82, 83, 84, 85, 86, 76, 77] g2) 74 (639 : Int) (0 : Int)) 78 (639 : Int) (0 : Int)) [68, 69, 70, 81, 82, 83, 84, 85, 86] g12) [68, 69, 70] g19) [68, 69, 70] g28) [68, 69, 70] g36)
          have md40 : sv_mod [68, 69, 70, 81, 82, 83, 84, 85, 86, 1143, 1144, 5, 1011, 74, 78, 76, 77] S (sv_sts (sv_sts (sv_sts (sv_sts (sv_up (sv_up (sv_sts S [68, 69, 70, 81, 82, 83, 84, 85, 86, 76, 77] g2) 74 (639 : Int) (0 : Int)) 78 (639 : Int) (0 : Int)) [68, 69, 70, 81, 82, 83, 84, 85, 86] g12) [68, 69, 70] g19) [68, 69, 70] g28) [68, 69, 70] g36) := sv_mod.sts md32 (by decide)
          have md41 : sv_mod [68, 69, 70, 81, 82, 83, 84, 85, 86] (sv_up (sv_up (sv_sts S [68, 69, 70, 81, 82, 83, 84, 85, 86, 76, 77] g2) 74 (639 : Int) (0 : Int)) 78 (639 : Int) (0 : Int)) (sv_sts (sv_sts (sv_sts (sv_sts (sv_up (sv_up (sv_sts S [68, 69, 70, 81, 82, 83, 84, 85, 86, 76, 77] g2) 74 (639 : Int) (0 : Int)) 78 (639 : Int) (0 : Int)) [68, 69, 70, 81, 82, 83, 84, 85, 86] g12) [68, 69, 70] g19) [68, 69, 70] g28) [68, 69, 70] g36) := sv_mod.sts md33 (by decide)
          have md42 : sv_mod [68, 69, 70] (sv_sts (sv_up (sv_up (sv_sts S [68, 69, 70, 81, 82, 83, 84, 85, 86, 76, 77] g2) 74 (639 : Int) (0 : Int)) 78 (639 : Int) (0 : Int)) [68, 69, 70, 81, 82, 83, 84, 85, 86] g12) (sv_sts (sv_sts (sv_sts (sv_sts (sv_up (sv_up (sv_sts S [68, 69, 70, 81, 82, 83, 84, 85, 86, 76, 77] g2) 74 (639 : Int) (0 : Int)) 78 (639 : Int) (0 : Int)) [68, 69, 70, 81, 82, 83, 84, 85, 86] g12) [68, 69, 70] g19) [68, 69, 70] g28) [68, 69, 70] g36) := sv_mod.sts md34 (by decide)
          have h := h g36 hpo39
          refine sv_aload_n hM dX12_beginWork_117 rfl rfl ?_
          refine sv_iconst (d := (2 : Int)) hM dX12_beginWork_118 rfl rfl ?_
          refine sv_bipush (d := (16 : Int)) hM dX12_beginWork_119 rfl rfl ?_
          refine sv_bipush (d := (20 : Int)) hM dX12_beginWork_121 rfl rfl ?_
          obtain ⟨o43, h⟩ := h
          refine sv_callV hM dX12_beginWork_123 sm_iv_1370 (by decide) (sm_a0 _) rfl rfl (Nat.le_of_ble_eq_true rfl) sm_h292 (Nat.le_of_ble_eq_true rfl) (Nat.le_of_ble_eq_true rfl) (F' := 3) (Nat.le_of_ble_eq_true rfl) rfl (t_hasField (2 : Int) (16 : Int) (20 : Int) (sv_sts (sv_sts (sv_sts (sv_sts (sv_up (sv_up (sv_sts S [68, 69, 70, 81, 82, 83, 84, 85, 86, 76, 77] g2) 74 (639 : Int) (0 : Int)) 78 (639 : Int) (0 : Int)) [68, 69, 70, 81, 82, 83, 84, 85, 86] g12) [68, 69, 70] g19) [68, 69, 70] g28) [68, 69, 70] g36) ok37 (⟨by decide, by decide⟩ : sv_R (2 : Int)) (⟨by decide, by decide⟩ : sv_R (16 : Int)) (⟨by decide, by decide⟩ : sv_R (20 : Int)) o43) (fun v S1 hq => ?_)
          obtain ⟨rfl, ok45, md46, hpo47⟩ := hq
          obtain ⟨g44, rfl⟩ : ∃ g, S1 = sv_sts (sv_sts (sv_sts (sv_sts (sv_sts (sv_up (sv_up (sv_sts S [68, 69, 70, 81, 82, 83, 84, 85, 86, 76, 77] g2) 74 (639 : Int) (0 : Int)) 78 (639 : Int) (0 : Int)) [68, 69, 70, 81, 82, 83, 84, 85, 86] g12) [68, 69, 70] g19) [68, 69, 70] g28) [68, 69, 70] g36) [68, 69, 70] g := ⟨_, md46.eq⟩
          show sv_T sm_XS sm_cs sm_L sm_sh 4 (q_beginWork S) 293 126 [(0, .ref 0), (1, sv_I l1_20)] [] (sv_sts (sv_sts (sv_sts (sv_sts (sv_sts (sv_up (sv_up (sv_sts S [68, 69, 70, 81, 82, 83, 84, 85, 86, 76, 77] g2) 74 (639 : Int) (0 : Int)) 78 (639 : Int) (0 : Int)) [68, 69, 70, 81, 82, 83, 84, 85, 86] g12) [68, 69, 70] g19) [68, 69, 70] g28) [68, 69, 70] g36) [68, 69, 70] g44)
          have md48 : sv_mod [68, 69, 70, 81, 82, 83, 84, 85, 86, 1143, 1144, 5, 1011, 74, 78, 76, 77] S (sv_sts (sv_sts (sv_sts (sv_sts (sv_sts (sv_up (sv_up (sv_sts S [68, 69, 70, 81, 82, 83, 84, 85, 86, 76, 77] g2) 74 (639 : Int) (0 : Int)) 78 (639 : Int) (0 : Int)) [68, 69, 70, 81, 82, 83, 84, 85, 86] g12) [68, 69, 70] g19) [68, 69, 70] g28) [68, 69, 70] g36) [68, 69, 70] g44) := sv_mod.sts md40 (by decide)
          have md49 : sv_mod [68, 69, 70, 81, 82, 83, 84, 85, 86] (sv_up (sv_up (sv_sts S [68, 69, 70, 81, 82, 83, 84, 85, 86, 76, 77] g2) 74 (639 : Int) (0 : Int)) 78 (639 : Int) (0 : Int)) (sv_sts (sv_sts (sv_sts (sv_sts (sv_sts (sv_up (sv_up (sv_sts S [68, 69, 70, 81, 82, 83, 84, 85, 86, 76, 77] g2) 74 (639 : Int) (0 : Int)) 78 (639 : Int) (0 : Int)) [68, 69, 70, 81, 82, 83, 84, 85, 86] g12) [68, 69, 70] g19) [68, 69, 70] g28) [68, 69, 70] g36) [68, 69, 70] g44) := sv_mod.sts md41 (by decide)
          have md50 : sv_mod [68, 69, 70] (sv_sts (sv_up (sv_up (sv_sts S [68, 69, 70, 81, 82, 83, 84, 85, 86, 76, 77] g2) 74 (639 : Int) (0 : Int)) 78 (639 : Int) (0 : Int)) [68, 69, 70, 81, 82, 83, 84, 85, 86] g12) (sv_sts (sv_sts (sv_sts (sv_sts (sv_sts (sv_up (sv_up (sv_sts S [68, 69, 70, 81, 82, 83, 84, 85, 86, 76, 77] g2) 74 (639 : Int) (0 : Int)) 78 (639 : Int) (0 : Int)) [68, 69, 70, 81, 82, 83, 84, 85, 86] g12) [68, 69, 70] g19) [68, 69, 70] g28) [68, 69, 70] g36) [68, 69, 70] g44) := sv_mod.sts md42 (by decide)
          have h := h g44 hpo47
          refine sv_aload_n hM dX12_beginWork_126 rfl rfl ?_
          refine sv_iconst (d := (3 : Int)) hM dX12_beginWork_127 rfl rfl ?_
          refine sv_iconst (d := (2 : Int)) hM dX12_beginWork_128 rfl rfl ?_
          refine sv_bipush (d := (11 : Int)) hM dX12_beginWork_129 rfl rfl ?_
          obtain ⟨o51, h⟩ := h
          refine sv_callV hM dX12_beginWork_131 sm_iv_1370 (by decide) (sm_a0 _) rfl rfl (Nat.le_of_ble_eq_true rfl) sm_h292 (Nat.le_of_ble_eq_true rfl) (Nat.le_of_ble_eq_true rfl) (F' := 3) (Nat.le_of_ble_eq_true rfl) rfl (t_hasField (3 : Int) (2 : Int) (11 : Int) (sv_sts (sv_sts (sv_sts (sv_sts (sv_sts (sv_up (sv_up (sv_sts S [68, 69, 70, 81, 82, 83, 84, 85, 86, 76, 77] g2) 74 (639 : Int) (0 : Int)) 78 (639 : Int) (0 : Int)) [68, 69, 70, 81, 82, 83, 84, 85, 86] g12) [68, 69, 70] g19) [68, 69, 70] g28) [68, 69, 70] g36) [68, 69, 70] g44) ok45 (⟨by decide, by decide⟩ : sv_R (3 : Int)) (⟨by decide, by decide⟩ : sv_R (2 : Int)) (⟨by decide, by decide⟩ : sv_R (11 : Int)) o51) (fun v S1 hq => ?_)
          obtain ⟨rfl, ok53, md54, hpo55⟩ := hq
          obtain ⟨g52, rfl⟩ : ∃ g, S1 = sv_sts (sv_sts (sv_sts (sv_sts (sv_sts (sv_sts (sv_up (sv_up (sv_sts S [68, 69, 70, 81, 82, 83, 84, 85, 86, 76, 77] g2) 74 (639 : Int) (0 : Int)) 78 (639 : Int) (0 : Int)) [68, 69, 70, 81, 82, 83, 84, 85, 86] g12) [68, 69, 70] g19) [68, 69, 70] g28) [68, 69, 70] g36) [68, 69, 70] g44) [68, 69, 70] g := ⟨_, md54.eq⟩
          show sv_T sm_XS sm_cs sm_L sm_sh 4 (q_beginWork S) 293 134 [(0, .ref 0), (1, sv_I l1_20)] [] (sv_sts (sv_sts (sv_sts (sv_sts (sv_sts (sv_sts (sv_up (sv_up (sv_sts S [68, 69, 70, 81, 82, 83, 84, 85, 86, 76, 77] g2) 74 (639 : Int) (0 : Int)) 78 (639 : Int) (0 : Int)) [68, 69, 70, 81, 82, 83, 84, 85, 86] g12) [68, 69, 70] g19) [68, 69, 70] g28) [68, 69, 70] g36) [68, 69, 70] g44) [68, 69, 70] g52)
          have md56 : sv_mod [68, 69, 70, 81, 82, 83, 84, 85, 86, 1143, 1144, 5, 1011, 74, 78, 76, 77] S (sv_sts (sv_sts (sv_sts (sv_sts (sv_sts (sv_sts (sv_up (sv_up (sv_sts S [68, 69, 70, 81, 82, 83, 84, 85, 86, 76, 77] g2) 74 (639 : Int) (0 : Int)) 78 (639 : Int) (0 : Int)) [68, 69, 70, 81, 82, 83, 84, 85, 86] g12) [68, 69, 70] g19) [68, 69, 70] g28) [68, 69, 70] g36) [68, 69, 70] g44) [68, 69, 70] g52) := sv_mod.sts md48 (by decide)
          have md57 : sv_mod [68, 69, 70, 81, 82, 83, 84, 85, 86] (sv_up (sv_up (sv_sts S [68, 69, 70, 81, 82, 83, 84, 85, 86, 76, 77] g2) 74 (639 : Int) (0 : Int)) 78 (639 : Int) (0 : Int)) (sv_sts (sv_sts (sv_sts (sv_sts (sv_sts (sv_sts (sv_up (sv_up (sv_sts S [68, 69, 70, 81, 82, 83, 84, 85, 86, 76, 77] g2) 74 (639 : Int) (0 : Int)) 78 (639 : Int) (0 : Int)) [68, 69, 70, 81, 82, 83, 84, 85, 86] g12) [68, 69, 70] g19) [68, 69, 70] g28) [68, 69, 70] g36) [68, 69, 70] g44) [68, 69, 70] g52) := sv_mod.sts md49 (by decide)
          have md58 : sv_mod [68, 69, 70] (sv_sts (sv_up (sv_up (sv_sts S [68, 69, 70, 81, 82, 83, 84, 85, 86, 76, 77] g2) 74 (639 : Int) (0 : Int)) 78 (639 : Int) (0 : Int)) [68, 69, 70, 81, 82, 83, 84, 85, 86] g12) (sv_sts (sv_sts (sv_sts (sv_sts (sv_sts (sv_sts (sv_up (sv_up (sv_sts S [68, 69, 70, 81, 82, 83, 84, 85, 86, 76, 77] g2) 74 (639 : Int) (0 : Int)) 78 (639 : Int) (0 : Int)) [68, 69, 70, 81, 82, 83, 84, 85, 86] g12) [68, 69, 70] g19) [68, 69, 70] g28) [68, 69, 70] g36) [68, 69, 70] g44) [68, 69, 70] g52) := sv_mod.sts md50 (by decide)
          have h := h g52 hpo55
          refine sv_aload_n hM dX12_beginWork_134 rfl rfl ?_
          refine sv_iconst (d := (3 : Int)) hM dX12_beginWork_135 rfl rfl ?_
          refine sv_bipush (d := (14 : Int)) hM dX12_beginWork_136 rfl rfl ?_
          refine sv_bipush (d := (18 : Int)) hM dX12_beginWork_138 rfl rfl ?_
          obtain ⟨o59, h⟩ := h
          refine sv_callV hM dX12_beginWork_140 sm_iv_1370 (by decide) (sm_a0 _) rfl rfl (Nat.le_of_ble_eq_true rfl) sm_h292 (Nat.le_of_ble_eq_true rfl) (Nat.le_of_ble_eq_true rfl) (F' := 3) (Nat.le_of_ble_eq_true rfl) rfl (t_hasField (3 : Int) (14 : Int) (18 : Int) (sv_sts (sv_sts (sv_sts (sv_sts (sv_sts (sv_sts (sv_up (sv_up (sv_sts S [68, 69, 70, 81, 82, 83, 84, 85, 86, 76, 77] g2) 74 (639 : Int) (0 : Int)) 78 (639 : Int) (0 : Int)) [68, 69, 70, 81, 82, 83, 84, 85, 86] g12) [68, 69, 70] g19) [68, 69, 70] g28) [68, 69, 70] g36) [68, 69, 70] g44) [68, 69, 70] g52) ok53 (⟨by decide, by decide⟩ : sv_R (3 : Int)) (⟨by decide, by decide⟩ : sv_R (14 : Int)) (⟨by decide, by decide⟩ : sv_R (18 : Int)) o59) (fun v S1 hq => ?_)
          obtain ⟨rfl, ok61, md62, hpo63⟩ := hq
          obtain ⟨g60, rfl⟩ : ∃ g, S1 = sv_sts (sv_sts (sv_sts (sv_sts (sv_sts (sv_sts (sv_sts (sv_up (sv_up (sv_sts S [68, 69, 70, 81, 82, 83, 84, 85, 86, 76, 77] g2) 74 (639 : Int) (0 : Int)) 78 (639 : Int) (0 : Int)) [68, 69, 70, 81, 82, 83, 84, 85, 86] g12) [68, 69, 70] g19) [68, 69, 70] g28) [68, 69, 70] g36) [68, 69, 70] g44) [68, 69, 70] g52) [68, 69, 70] g := ⟨_, md62.eq⟩
          show sv_T sm_XS sm_cs sm_L sm_sh 4 (q_beginWork S) 293 143 [(0, .ref 0), (1, sv_I l1_20)] [] (sv_sts (sv_sts (sv_sts (sv_sts (sv_sts (sv_sts (sv_sts (sv_up (sv_up (sv_sts S [68, 69, 70, 81, 82, 83, 84, 85, 86, 76, 77] g2) 74 (639 : Int) (0 : Int)) 78 (639 : Int) (0 : Int)) [68, 69, 70, 81, 82, 83, 84, 85, 86] g12) [68, 69, 70] g19) [68, 69, 70] g28) [68, 69, 70] g36) [68, 69, 70] g44) [68, 69, 70] g52) [68, 69, 70] g60)
          have md64 : sv_mod [68, 69, 70, 81, 82, 83, 84, 85, 86, 1143, 1144, 5, 1011, 74, 78, 76, 77] S (sv_sts (sv_sts (sv_sts (sv_sts (sv_sts (sv_sts (sv_sts (sv_up (sv_up (sv_sts S [68, 69, 70, 81, 82, 83, 84, 85, 86, 76, 77] g2) 74 (639 : Int) (0 : Int)) 78 (639 : Int) (0 : Int)) [68, 69, 70, 81, 82, 83, 84, 85, 86] g12) [68, 69, 70] g19) [68, 69, 70] g28) [68, 69, 70] g36) [68, 69, 70] g44) [68, 69, 70] g52) [68, 69, 70] g60) := sv_mod.sts md56 (by decide)
          have md65 : sv_mod [68, 69, 70, 81, 82, 83, 84, 85, 86] (sv_up (sv_up (sv_sts S [68, 69, 70, 81, 82, 83, 84, 85, 86, 76, 77] g2) 74 (639 : Int) (0 : Int)) 78 (639 : Int) (0 : Int)) (sv_sts (sv_sts (sv_sts (sv_sts (sv_sts (sv_sts (sv_sts (sv_up (sv_up (sv_sts S [68, 69, 70, 81, 82, 83, 84, 85, 86, 76, 77] g2) 74 (639 : Int) (0 : Int)) 78 (639 : Int) (0 : Int)) [68, 69, 70, 81, 82, 83, 84, 85, 86] g12) [68, 69, 70] g19) [68, 69, 70] g28) [68, 69, 70] g36) [68, 69, 70] g44) [68, 69, 70] g52) [68, 69, 70] g60) := sv_mod.sts md57 (by decide)
          have md66 : sv_mod [68, 69, 70] (sv_sts (sv_up (sv_up (sv_sts S [68, 69, 70, 81, 82, 83, 84, 85, 86, 76, 77] g2) 74 (639 : Int) (0 : Int)) 78 (639 : Int) (0 : Int)) [68, 69, 70, 81, 82, 83, 84, 85, 86] g12) (sv_sts (sv_sts (sv_sts (sv_sts (sv_sts (sv_sts (sv_sts (sv_up (sv_up (sv_sts S [68, 69, 70, 81, 82, 83, 84, 85, 86, 76, 77] g2) 74 (639 : Int) (0 : Int)) 78 (639 : Int) (0 : Int)) [68, 69, 70, 81, 82, 83, 84, 85, 86] g12) [68, 69, 70] g19) [68, 69, 70] g28) [68, 69, 70] g36) [68, 69, 70] g44) [68, 69, 70] g52) [68, 69, 70] g60) := sv_mod.sts md58 (by decide)
          have h := h g60 hpo63
          refine sv_aload_n hM dX12_beginWork_143 rfl rfl ?_
          refine sv_iconst (d := (3 : Int)) hM dX12_beginWork_144 rfl rfl ?_
          refine sv_bipush (d := (15 : Int)) hM dX12_beginWork_145 rfl rfl ?_
          refine sv_bipush (d := (19 : Int)) hM dX12_beginWork_147 rfl rfl ?_
          obtain ⟨o67, h⟩ := h
          refine sv_callV hM dX12_beginWork_149 sm_iv_1370 (by decide) (sm_a0 _) rfl rfl (Nat.le_of_ble_eq_true rfl) sm_h292 (Nat.le_of_ble_eq_true rfl) (Nat.le_of_ble_eq_true rfl) (F' := 3) (Nat.le_of_ble_eq_true rfl) rfl (t_hasField (3 : Int) (15 : Int) (19 : Int) (sv_sts (sv_sts (sv_sts (sv_sts (sv_sts (sv_sts (sv_sts (sv_up (sv_up (sv_sts S [68, 69, 70, 81, 82, 83, 84, 85, 86, 76, 77] g2) 74 (639 : Int) (0 : Int)) 78 (639 : Int) (0 : Int)) [68, 69, 70, 81, 82, 83, 84, 85, 86] g12) [68, 69, 70] g19) [68, 69, 70] g28) [68, 69, 70] g36) [68, 69, 70] g44) [68, 69, 70] g52) [68, 69, 70] g60) ok61 (⟨by decide, by decide⟩ : sv_R (3 : Int)) (⟨by decide, by decide⟩ : sv_R (15 : Int)) (⟨by decide, by decide⟩ : sv_R (19 : Int)) o67) (fun v S1 hq => ?_)
          obtain ⟨rfl, ok69, md70, hpo71⟩ := hq
          obtain ⟨g68, rfl⟩ : ∃ g, S1 = sv_sts (sv_sts (sv_sts (sv_sts (sv_sts (sv_sts (sv_sts (sv_sts (sv_up (sv_up (sv_sts S [68, 69, 70, 81, 82, 83, 84, 85, 86, 76, 77] g2) 74 (639 : Int) (0 : Int)) 78 (639 : Int) (0 : Int)) [68, 69, 70, 81, 82, 83, 84, 85, 86] g12) [68, 69, 70] g19) [68, 69, 70] g28) [68, 69, 70] g36) [68, 69, 70] g44) [68, 69, 70] g52) [68, 69, 70] g60) [68, 69, 70] g := ⟨_, md70.eq⟩
          show sv_T sm_XS sm_cs sm_L sm_sh 4 (q_beginWork S) 293 152 [(0, .ref 0), (1, sv_I l1_20)] [] (sv_sts (sv_sts (sv_sts (sv_sts (sv_sts (sv_sts (sv_sts (sv_sts (sv_up (sv_up (sv_sts S [68, 69, 70, 81, 82, 83, 84, 85, 86, 76, 77] g2) 74 (639 : Int) (0 : Int)) 78 (639 : Int) (0 : Int)) [68, 69, 70, 81, 82, 83, 84, 85, 86] g12) [68, 69, 70] g19) [68, 69, 70] g28) [68, 69, 70] g36) [68, 69, 70] g44) [68, 69, 70] g52) [68, 69, 70] g60) [68, 69, 70] g68)
          have md72 : sv_mod [68, 69, 70, 81, 82, 83, 84, 85, 86, 1143, 1144, 5, 1011, 74, 78, 76, 77] S (sv_sts (sv_sts (sv_sts (sv_sts (sv_sts (sv_sts (sv_sts (sv_sts (sv_up (sv_up (sv_sts S [68, 69, 70, 81, 82, 83, 84, 85, 86, 76, 77] g2) 74 (639 : Int) (0 : Int)) 78 (639 : Int) (0 : Int)) [68, 69, 70, 81, 82, 83, 84, 85, 86] g12) [68, 69, 70] g19) [68, 69, 70] g28) [68, 69, 70] g36) [68, 69, 70] g44) [68, 69, 70] g52) [68, 69, 70] g60) [68, 69, 70] g68) := sv_mod.sts md64 (by decide)
          have md73 : sv_mod [68, 69, 70, 81, 82, 83, 84, 85, 86] (sv_up (sv_up (sv_sts S [68, 69, 70, 81, 82, 83, 84, 85, 86, 76, 77] g2) 74 (639 : Int) (0 : Int)) 78 (639 : Int) (0 : Int)) (sv_sts (sv_sts (sv_sts (sv_sts (sv_sts (sv_sts (sv_sts (sv_sts (sv_up (sv_up (sv_sts S [68, 69, 70, 81, 82, 83, 84, 85, 86, 76, 77] g2) 74 (639 : Int) (0 : Int)) 78 (639 : Int) (0 : Int)) [68, 69, 70, 81, 82, 83, 84, 85, 86] g12) [68, 69, 70] g19) [68, 69, 70] g28) [68, 69, 70] g36) [68, 69, 70] g44) [68, 69, 70] g52) [68, 69, 70] g60) [68, 69, 70] g68) := sv_mod.sts md65 (by decide)
          have md74 : sv_mod [68, 69, 70] (sv_sts (sv_up (sv_up (sv_sts S [68, 69, 70, 81, 82, 83, 84, 85, 86, 76, 77] g2) 74 (639 : Int) (0 : Int)) 78 (639 : Int) (0 : Int)) [68, 69, 70, 81, 82, 83, 84, 85, 86] g12) (sv_sts (sv_sts (sv_sts (sv_sts (sv_sts (sv_sts (sv_sts (sv_sts (sv_up (sv_up (sv_sts S [68, 69, 70, 81, 82, 83, 84, 85, 86, 76, 77] g2) 74 (639 : Int) (0 : Int)) 78 (639 : Int) (0 : Int)) [68, 69, 70, 81, 82, 83, 84, 85, 86] g12) [68, 69, 70] g19) [68, 69, 70] g28) [68, 69, 70] g36) [68, 69, 70] g44) [68, 69, 70] g52) [68, 69, 70] g60) [68, 69, 70] g68) := sv_mod.sts md66 (by decide)
          have h := h g68 hpo71
          refine sv_aload_n hM dX12_beginWork_152 rfl rfl ?_
          refine sv_iconst (d := (4 : Int)) hM dX12_beginWork_153 rfl rfl ?_
          refine sv_iconst (d := (2 : Int)) hM dX12_beginWork_154 rfl rfl ?_
          refine sv_bipush (d := (12 : Int)) hM dX12_beginWork_155 rfl rfl ?_
          obtain ⟨o75, h⟩ := h
          refine sv_callV hM dX12_beginWork_157 sm_iv_1370 (by decide) (sm_a0 _) rfl rfl (Nat.le_of_ble_eq_true rfl) sm_h292 (Nat.le_of_ble_eq_true rfl) (Nat.le_of_ble_eq_true rfl) (F' := 3) (Nat.le_of_ble_eq_true rfl) rfl (t_hasField (4 : Int) (2 : Int) (12 : Int) (sv_sts (sv_sts (sv_sts (sv_sts (sv_sts (sv_sts (sv_sts (sv_sts (sv_up (sv_up (sv_sts S [68, 69, 70, 81, 82, 83, 84, 85, 86, 76, 77] g2) 74 (639 : Int) (0 : Int)) 78 (639 : Int) (0 : Int)) [68, 69, 70, 81, 82, 83, 84, 85, 86] g12) [68, 69, 70] g19) [68, 69, 70] g28) [68, 69, 70] g36) [68, 69, 70] g44) [68, 69, 70] g52) [68, 69, 70] g60) [68, 69, 70] g68) ok69 (⟨by decide, by decide⟩ : sv_R (4 : Int)) (⟨by decide, by decide⟩ : sv_R (2 : Int)) (⟨by decide, by decide⟩ : sv_R (12 : Int)) o75) (fun v S1 hq => ?_)
          obtain ⟨rfl, ok77, md78, hpo79⟩ := hq
          obtain ⟨g76, rfl⟩ : ∃ g, S1 = sv_sts (sv_sts (sv_sts (sv_sts (sv_sts (sv_sts (sv_sts (sv_sts (sv_sts (sv_up (sv_up (sv_sts S [68, 69, 70, 81, 82, 83, 84, 85, 86, 76, 77] g2) 74 (639 : Int) (0 : Int)) 78 (639 : Int) (0 : Int)) [68, 69, 70, 81, 82, 83, 84, 85, 86] g12) [68, 69, 70] g19) [68, 69, 70] g28) [68, 69, 70] g36) [68, 69, 70] g44) [68, 69, 70] g52) [68, 69, 70] g60) [68, 69, 70] g68) [68, 69, 70] g := ⟨_, md78.eq⟩
          show sv_T sm_XS sm_cs sm_L sm_sh 4 (q_beginWork S) 293 160 [(0, .ref 0), (1, sv_I l1_20)] [] (sv_sts (sv_sts (sv_sts (sv_sts (sv_sts (sv_sts (sv_sts (sv_sts (sv_sts (sv_up (sv_up (sv_sts S [68, 69, 70, 81, 82, 83, 84, 85, 86, 76, 77] g2) 74 (639 : Int) (0 : Int)) 78 (639 : Int) (0 : Int)) [68, 69, 70, 81, 82, 83, 84, 85, 86] g12) [68, 69, 70] g19) [68, 69, 70] g28) [68, 69, 70] g36) [68, 69, 70] g44) [68, 69, 70] g52) [68, 69, 70] g60) [68, 69, 70] g68) [68, 69, 70] g76)
          have md80 : sv_mod [68, 69, 70, 81, 82, 83, 84, 85, 86, 1143, 1144, 5, 1011, 74, 78, 76, 77] S (sv_sts (sv_sts (sv_sts (sv_sts (sv_sts (sv_sts (sv_sts (sv_sts (sv_sts (sv_up (sv_up (sv_sts S [68, 69, 70, 81, 82, 83, 84, 85, 86, 76, 77] g2) 74 (639 : Int) (0 : Int)) 78 (639 : Int) (0 : Int)) [68, 69, 70, 81, 82, 83, 84, 85, 86] g12) [68, 69, 70] g19) [68, 69, 70] g28) [68, 69, 70] g36) [68, 69, 70] g44) [68, 69, 70] g52) [68, 69, 70] g60) [68, 69, 70] g68) [68, 69, 70] g76) := sv_mod.sts md72 (by decide)
          have md81 : sv_mod [68, 69, 70, 81, 82, 83, 84, 85, 86] (sv_up (sv_up (sv_sts S [68, 69, 70, 81, 82, 83, 84, 85, 86, 76, 77] g2) 74 (639 : Int) (0 : Int)) 78 (639 : Int) (0 : Int)) (sv_sts (sv_sts (sv_sts (sv_sts (sv_sts (sv_sts (sv_sts (sv_sts (sv_sts (sv_up (sv_up (sv_sts S [68, 69, 70, 81, 82, 83, 84, 85, 86, 76, 77] g2) 74 (639 : Int) (0 : Int)) 78 (639 : Int) (0 : Int)) [68, 69, 70, 81, 82, 83, 84, 85, 86] g12) [68, 69, 70] g19) [68, 69, 70] g28) [68, 69, 70] g36) [68, 69, 70] g44) [68, 69, 70] g52) [68, 69, 70] g60) [68, 69, 70] g68) [68, 69, 70] g76) := sv_mod.sts md73 (by decide)
          have md82 : sv_mod [68, 69, 70] (sv_sts (sv_up (sv_up (sv_sts S [68, 69, 70, 81, 82, 83, 84, 85, 86, 76, 77] g2) 74 (639 : Int) (0 : Int)) 78 (639 : Int) (0 : Int)) [68, 69, 70, 81, 82, 83, 84, 85, 86] g12) (sv_sts (sv_sts (sv_sts (sv_sts (sv_sts (sv_sts (sv_sts (sv_sts (sv_sts (sv_up (sv_up (sv_sts S [68, 69, 70, 81, 82, 83, 84, 85, 86, 76, 77] g2) 74 (639 : Int) (0 : Int)) 78 (639 : Int) (0 : Int)) [68, 69, 70, 81, 82, 83, 84, 85, 86] g12) [68, 69, 70] g19) [68, 69, 70] g28) [68, 69, 70] g36) [68, 69, 70] g44) [68, 69, 70] g52) [68, 69, 70] g60) [68, 69, 70] g68) [68, 69, 70] g76) := sv_mod.sts md74 (by decide)
          have h := h g76 hpo79
          refine sv_aload_n hM dX12_beginWork_160 rfl rfl ?_
          refine sv_iconst (d := (4 : Int)) hM dX12_beginWork_161 rfl rfl ?_
          refine sv_bipush (d := (18 : Int)) hM dX12_beginWork_162 rfl rfl ?_
          refine sv_bipush (d := (22 : Int)) hM dX12_beginWork_164 rfl rfl ?_
          obtain ⟨o83, h⟩ := h
          refine sv_callV hM dX12_beginWork_166 sm_iv_1370 (by decide) (sm_a0 _) rfl rfl (Nat.le_of_ble_eq_true rfl) sm_h292 (Nat.le_of_ble_eq_true rfl) (Nat.le_of_ble_eq_true rfl) (F' := 3) (Nat.le_of_ble_eq_true rfl) rfl (t_hasField (4 : Int) (18 : Int) (22 : Int) (sv_sts (sv_sts (sv_sts (sv_sts (sv_sts (sv_sts (sv_sts (sv_sts (sv_sts (sv_up (sv_up (sv_sts S [68, 69, 70, 81, 82, 83, 84, 85, 86, 76, 77] g2) 74 (639 : Int) (0 : Int)) 78 (639 : Int) (0 : Int)) [68, 69, 70, 81, 82, 83, 84, 85, 86] g12) [68, 69, 70] g19) [68, 69, 70] g28) [68, 69, 70] g36) [68, 69, 70] g44) [68, 69, 70] g52) [68, 69, 70] g60) [68, 69, 70] g68) [68, 69, 70] g76) ok77 (⟨by decide, by decide⟩ : sv_R (4 : Int)) (⟨by decide, by decide⟩ : sv_R (18 : Int)) (⟨by decide, by decide⟩ : sv_R (22 : Int)) o83) (fun v S1 hq => ?_)
          obtain ⟨rfl, ok85, md86, hpo87⟩ := hq
          obtain ⟨g84, rfl⟩ : ∃ g, S1 = sv_sts (sv_sts (sv_sts (sv_sts (sv_sts (sv_sts (sv_sts (sv_sts (sv_sts (sv_sts (sv_up (sv_up (sv_sts S [68, 69, 70, 81, 82, 83, 84, 85, 86, 76, 77] g2) 74 (639 : Int) (0 : Int)) 78 (639 : Int) (0 : Int)) [68, 69, 70, 81, 82, 83, 84, 85, 86] g12) [68, 69, 70] g19) [68, 69, 70] g28) [68, 69, 70] g36) [68, 69, 70] g44) [68, 69, 70] g52) [68, 69, 70] g60) [68, 69, 70] g68) [68, 69, 70] g76) [68, 69, 70] g := ⟨_, md86.eq⟩
          show sv_T sm_XS sm_cs sm_L sm_sh 4 (q_beginWork S) 293 169 [(0, .ref 0), (1, sv_I l1_20)] [] (sv_sts (sv_sts (sv_sts (sv_sts (sv_sts (sv_sts (sv_sts (sv_sts (sv_sts (sv_sts (sv_up (sv_up (sv_sts S [68, 69, 70, 81, 82, 83, 84, 85, 86, 76, 77] g2) 74 (639 : Int) (0 : Int)) 78 (639 : Int) (0 : Int)) [68, 69, 70, 81, 82, 83, 84, 85, 86] g12) [68, 69, 70] g19) [68, 69, 70] g28) [68, 69, 70] g36) [68, 69, 70] g44) [68, 69, 70] g52) [68, 69, 70] g60) [68, 69, 70] g68) [68, 69, 70] g76) [68, 69, 70] g84)
          have md88 : sv_mod [68, 69, 70, 81, 82, 83, 84, 85, 86, 1143, 1144, 5, 1011, 74, 78, 76, 77] S (sv_sts (sv_sts (sv_sts (sv_sts (sv_sts (sv_sts (sv_sts (sv_sts (sv_sts (sv_sts (sv_up (sv_up (sv_sts S [68, 69, 70, 81, 82, 83, 84, 85, 86, 76, 77] g2) 74 (639 : Int) (0 : Int)) 78 (639 : Int) (0 : Int)) [68, 69, 70, 81, 82, 83, 84, 85, 86] g12) [68, 69, 70] g19) [68, 69, 70] g28) [68, 69, 70] g36) [68, 69, 70] g44) [68, 69, 70] g52) [68, 69, 70] g60) [68, 69, 70] g68) [68, 69, 70] g76) [68, 69, 70] g84) := sv_mod.sts md80 (by decide)
          have md89 : sv_mod [68, 69, 70, 81, 82, 83, 84, 85, 86] (sv_up (sv_up (sv_sts S [68, 69, 70, 81, 82, 83, 84, 85, 86, 76, 77] g2) 74 (639 : Int) (0 : Int)) 78 (639 : Int) (0 : Int)) (sv_sts (sv_sts (sv_sts (sv_sts (sv_sts (sv_sts (sv_sts (sv_sts (sv_sts (sv_sts (sv_up (sv_up (sv_sts S [68, 69, 70, 81, 82, 83, 84, 85, 86, 76, 77] g2) 74 (639 : Int) (0 : Int)) 78 (639 : Int) (0 : Int)) [68, 69, 70, 81, 82, 83, 84, 85, 86] g12) [68, 69, 70] g19) [68, 69, 70] g28) [68, 69, 70] g36) [68, 69, 70] g44) [68, 69, 70] g52) [68, 69, 70] g60) [68, 69, 70] g68) [68, 69, 70] g76) [68, 69, 70] g84) := sv_mod.sts md81 (by decide)
          have md90 : sv_mod [68, 69, 70] (sv_sts (sv_up (sv_up (sv_sts S [68, 69, 70, 81, 82, 83, 84, 85, 86, 76, 77] g2) 74 (639 : Int) (0 : Int)) 78 (639 : Int) (0 : Int)) [68, 69, 70, 81, 82, 83, 84, 85, 86] g12) (sv_sts (sv_sts (sv_sts (sv_sts (sv_sts (sv_sts (sv_sts (sv_sts (sv_sts (sv_sts (sv_up (sv_up (sv_sts S [68, 69, 70, 81, 82, 83, 84, 85, 86, 76, 77] g2) 74 (639 : Int) (0 : Int)) 78 (639 : Int) (0 : Int)) [68, 69, 70, 81, 82, 83, 84, 85, 86] g12) [68, 69, 70] g19) [68, 69, 70] g28) [68, 69, 70] g36) [68, 69, 70] g44) [68, 69, 70] g52) [68, 69, 70] g60) [68, 69, 70] g68) [68, 69, 70] g76) [68, 69, 70] g84) := sv_mod.sts md82 (by decide)
          have h := h g84 hpo87
          refine sv_iconst (d := (0 : Int)) hM dX12_beginWork_169 rfl rfl ?_
          refine sv_istore_n hM dX12_beginWork_170 (by decide) rfl ?_
          show sv_T sm_XS sm_cs sm_L sm_sh 4 (q_beginWork S) 293 171 [(0, .ref 0), (1, sv_I (0 : Int))] [] (sv_sts (sv_sts (sv_sts (sv_sts (sv_sts (sv_sts (sv_sts (sv_sts (sv_sts (sv_sts (sv_up (sv_up (sv_sts S [68, 69, 70, 81, 82, 83, 84, 85, 86, 76, 77] g2) 74 (639 : Int) (0 : Int)) 78 (639 : Int) (0 : Int)) [68, 69, 70, 81, 82, 83, 84, 85, 86] g12) [68, 69, 70] g19) [68, 69, 70] g28) [68, 69, 70] g36) [68, 69, 70] g44) [68, 69, 70] g52) [68, 69, 70] g60) [68, 69, 70] g68) [68, 69, 70] g76) [68, 69, 70] g84)
          obtain ⟨hin94, h⟩ := h
          have hJ : ∀ a : Int × sv_S, (sv_R a.1 ∧ sm_ok (sv_sts (sv_sts (sv_sts (sv_sts (sv_sts (sv_sts (sv_sts (sv_sts (sv_sts (sv_sts (sv_sts (sv_up (sv_up (sv_sts S [68, 69, 70, 81, 82, 83, 84, 85, 86, 76, 77] g2) 74 (639 : Int) (0 : Int)) 78 (639 : Int) (0 : Int)) [68, 69, 70, 81, 82, 83, 84, 85, 86] g12) [68, 69, 70] g19) [68, 69, 70] g28) [68, 69, 70] g36) [68, 69, 70] g44) [68, 69, 70] g52) [68, 69, 70] g60) [68, 69, 70] g68) [68, 69, 70] g76) [68, 69, 70] g84) [68, 69, 70] a.2) ∧ (0 ≤ a.1 ∧ a.1 ≤ 4)) → sv_T sm_XS sm_cs sm_L sm_sh 4 (q_beginWork S) 293 171 [(0, .ref 0), (1, sv_I a.1)] [] (sv_sts (sv_sts (sv_sts (sv_sts (sv_sts (sv_sts (sv_sts (sv_sts (sv_sts (sv_sts (sv_sts (sv_up (sv_up (sv_sts S [68, 69, 70, 81, 82, 83, 84, 85, 86, 76, 77] g2) 74 (639 : Int) (0 : Int)) 78 (639 : Int) (0 : Int)) [68, 69, 70, 81, 82, 83, 84, 85, 86] g12) [68, 69, 70] g19) [68, 69, 70] g28) [68, 69, 70] g36) [68, 69, 70] g44) [68, 69, 70] g52) [68, 69, 70] g60) [68, 69, 70] g68) [68, 69, 70] g76) [68, 69, 70] g84) [68, 69, 70] a.2) := by
            refine sv_loop (α := Int × sv_S) (fun a => sv_R a.1 ∧ sm_ok (sv_sts (sv_sts (sv_sts (sv_sts (sv_sts (sv_sts (sv_sts (sv_sts (sv_sts (sv_sts (sv_sts (sv_up (sv_up (sv_sts S [68, 69, 70, 81, 82, 83, 84, 85, 86, 76, 77] g2) 74 (639 : Int) (0 : Int)) 78 (639 : Int) (0 : Int)) [68, 69, 70, 81, 82, 83, 84, 85, 86] g12) [68, 69, 70] g19) [68, 69, 70] g28) [68, 69, 70] g36) [68, 69, 70] g44) [68, 69, 70] g52) [68, 69, 70] g60) [68, 69, 70] g68) [68, 69, 70] g76) [68, 69, 70] g84) [68, 69, 70] a.2) ∧ (0 ≤ a.1 ∧ a.1 ≤ 4)) (fun a => 4 - a.1) (fun a => sv_T sm_XS sm_cs sm_L sm_sh 4 (q_beginWork S) 293 171 [(0, .ref 0), (1, sv_I a.1)] [] (sv_sts (sv_sts (sv_sts (sv_sts (sv_sts (sv_sts (sv_sts (sv_sts (sv_sts (sv_sts (sv_sts (sv_up (sv_up (sv_sts S [68, 69, 70, 81, 82, 83, 84, 85, 86, 76, 77] g2) 74 (639 : Int) (0 : Int)) 78 (639 : Int) (0 : Int)) [68, 69, 70, 81, 82, 83, 84, 85, 86] g12) [68, 69, 70] g19) [68, 69, 70] g28) [68, 69, 70] g36) [68, 69, 70] g44) [68, 69, 70] g52) [68, 69, 70] g60) [68, 69, 70] g68) [68, 69, 70] g76) [68, 69, 70] g84) [68, 69, 70] a.2)) (fun a q => (h a.1 q.1 a.2 q.2.2).1) (fun a q ih93 => ?_)
            obtain ⟨l1_92, g91⟩ := a
            obtain ⟨hl1_92, ok95, hin94i⟩ := q
            have h := (h l1_92 hl1_92 g91 hin94i).2
            show sv_T sm_XS sm_cs sm_L sm_sh 4 (q_beginWork S) 293 171 [(0, .ref 0), (1, sv_I l1_92)] [] (sv_sts (sv_sts (sv_sts (sv_sts (sv_sts (sv_sts (sv_sts (sv_sts (sv_sts (sv_sts (sv_sts (sv_up (sv_up (sv_sts S [68, 69, 70, 81, 82, 83, 84, 85, 86, 76, 77] g2) 74 (639 : Int) (0 : Int)) 78 (639 : Int) (0 : Int)) [68, 69, 70, 81, 82, 83, 84, 85, 86] g12) [68, 69, 70] g19) [68, 69, 70] g28) [68, 69, 70] g36) [68, 69, 70] g44) [68, 69, 70] g52) [68, 69, 70] g60) [68, 69, 70] g68) [68, 69, 70] g76) [68, 69, 70] g84) [68, 69, 70] g91)
            have md96 : sv_mod [68, 69, 70, 81, 82, 83, 84, 85, 86, 1143, 1144, 5, 1011, 74, 78, 76, 77] S (sv_sts (sv_sts (sv_sts (sv_sts (sv_sts (sv_sts (sv_sts (sv_sts (sv_sts (sv_sts (sv_sts (sv_up (sv_up (sv_sts S [68, 69, 70, 81, 82, 83, 84, 85, 86, 76, 77] g2) 74 (639 : Int) (0 : Int)) 78 (639 : Int) (0 : Int)) [68, 69, 70, 81, 82, 83, 84, 85, 86] g12) [68, 69, 70] g19) [68, 69, 70] g28) [68, 69, 70] g36) [68, 69, 70] g44) [68, 69, 70] g52) [68, 69, 70] g60) [68, 69, 70] g68) [68, 69, 70] g76) [68, 69, 70] g84) [68, 69, 70] g91) := sv_mod.sts md88 (by decide)
            have md97 : sv_mod [68, 69, 70, 81, 82, 83, 84, 85, 86] (sv_up (sv_up (sv_sts S [68, 69, 70, 81, 82, 83, 84, 85, 86, 76, 77] g2) 74 (639 : Int) (0 : Int)) 78 (639 : Int) (0 : Int)) (sv_sts (sv_sts (sv_sts (sv_sts (sv_sts (sv_sts (sv_sts (sv_sts (sv_sts (sv_sts (sv_sts (sv_up (sv_up (sv_sts S [68, 69, 70, 81, 82, 83, 84, 85, 86, 76, 77] g2) 74 (639 : Int) (0 : Int)) 78 (639 : Int) (0 : Int)) [68, 69, 70, 81, 82, 83, 84, 85, 86] g12) [68, 69, 70] g19) [68, 69, 70] g28) [68, 69, 70] g36) [68, 69, 70] g44) [68, 69, 70] g52) [68, 69, 70] g60) [68, 69, 70] g68) [68, 69, 70] g76) [68, 69, 70] g84) [68, 69, 70] g91) := sv_mod.sts md89 (by decide)
            have md98 : sv_mod [68, 69, 70] (sv_sts (sv_up (sv_up (sv_sts S [68, 69, 70, 81, 82, 83, 84, 85, 86, 76, 77] g2) 74 (639 : Int) (0 : Int)) 78 (639 : Int) (0 : Int)) [68, 69, 70, 81, 82, 83, 84, 85, 86] g12) (sv_sts (sv_sts (sv_sts (sv_sts (sv_sts (sv_sts (sv_sts (sv_sts (sv_sts (sv_sts (sv_sts (sv_up (sv_up (sv_sts S [68, 69, 70, 81, 82, 83, 84, 85, 86, 76, 77] g2) 74 (639 : Int) (0 : Int)) 78 (639 : Int) (0 : Int)) [68, 69, 70, 81, 82, 83, 84, 85, 86] g12) [68, 69, 70] g19) [68, 69, 70] g28) [68, 69, 70] g36) [68, 69, 70] g44) [68, 69, 70] g52) [68, 69, 70] g60) [68, 69, 70] g68) [68, 69, 70] g76) [68, 69, 70] g84) [68, 69, 70] g91) := sv_mod.sts md90 (by decide)
            have md99 : sv_mod [68, 69, 70] (sv_sts (sv_sts (sv_sts (sv_sts (sv_sts (sv_sts (sv_sts (sv_sts (sv_sts (sv_sts (sv_up (sv_up (sv_sts S [68, 69, 70, 81, 82, 83, 84, 85, 86, 76, 77] g2) 74 (639 : Int) (0 : Int)) 78 (639 : Int) (0 : Int)) [68, 69, 70, 81, 82, 83, 84, 85, 86] g12) [68, 69, 70] g19) [68, 69, 70] g28) [68, 69, 70] g36) [68, 69, 70] g44) [68, 69, 70] g52) [68, 69, 70] g60) [68, 69, 70] g68) [68, 69, 70] g76) [68, 69, 70] g84) (sv_sts (sv_sts (sv_sts (sv_sts (sv_sts (sv_sts (sv_sts (sv_sts (sv_sts (sv_sts (sv_sts (sv_up (sv_up (sv_sts S [68, 69, 70, 81, 82, 83, 84, 85, 86, 76, 77] g2) 74 (639 : Int) (0 : Int)) 78 (639 : Int) (0 : Int)) [68, 69, 70, 81, 82, 83, 84, 85, 86] g12) [68, 69, 70] g19) [68, 69, 70] g28) [68, 69, 70] g36) [68, 69, 70] g44) [68, 69, 70] g52) [68, 69, 70] g60) [68, 69, 70] g68) [68, 69, 70] g76) [68, 69, 70] g84) [68, 69, 70] g91) := sv_mod.sts sv_mod.rf (by decide)
            refine sv_iload_n hM dX12_beginWork_171 rfl rfl ?_
            refine sv_iconst (d := (4 : Int)) hM dX12_beginWork_172 rfl rfl ?_
            refine sv_icmp_ge hM dX12_beginWork_173 hl1_92 (⟨by decide, by decide⟩ : sv_R (4 : Int)) (t := 222) rfl rfl (fun hc => ?_) (fun hc => ?_)
            · have h := h.1 (hc)
              refine sv_aload_n hM dX12_beginWork_222 rfl rfl ?_
              refine sv_bipush (d := (10 : Int)) hM dX12_beginWork_223 rfl rfl ?_
              refine sv_iconst (d := (1 : Int)) hM dX12_beginWork_225 rfl rfl ?_
              refine sv_iconst (d := (1 : Int)) hM dX12_beginWork_226 rfl rfl ?_
              obtain ⟨o100, h⟩ := h
              refine sv_callV hM dX12_beginWork_227 sm_iv_1370 (by decide) (sm_a0 _) rfl rfl (Nat.le_of_ble_eq_true rfl) sm_h292 (Nat.le_of_ble_eq_true rfl) (Nat.le_of_ble_eq_true rfl) (F' := 3) (Nat.le_of_ble_eq_true rfl) rfl (t_hasField (10 : Int) (1 : Int) (1 : Int) (sv_sts (sv_sts (sv_sts (sv_sts (sv_sts (sv_sts (sv_sts (sv_sts (sv_sts (sv_sts (sv_sts (sv_up (sv_up (sv_sts S [68, 69, 70, 81, 82, 83, 84, 85, 86, 76, 77] g2) 74 (639 : Int) (0 : Int)) 78 (639 : Int) (0 : Int)) [68, 69, 70, 81, 82, 83, 84, 85, 86] g12) [68, 69, 70] g19) [68, 69, 70] g28) [68, 69, 70] g36) [68, 69, 70] g44) [68, 69, 70] g52) [68, 69, 70] g60) [68, 69, 70] g68) [68, 69, 70] g76) [68, 69, 70] g84) [68, 69, 70] g91) ok95 (⟨by decide, by decide⟩ : sv_R (10 : Int)) (⟨by decide, by decide⟩ : sv_R (1 : Int)) (⟨by decide, by decide⟩ : sv_R (1 : Int)) o100) (fun v S1 hq => ?_)
              obtain ⟨rfl, ok102, md103, hpo104⟩ := hq
              obtain ⟨g101, rfl⟩ : ∃ g, S1 = sv_sts (sv_sts (sv_sts (sv_sts (sv_sts (sv_sts (sv_sts (sv_sts (sv_sts (sv_sts (sv_sts (sv_sts (sv_up (sv_up (sv_sts S [68, 69, 70, 81, 82, 83, 84, 85, 86, 76, 77] g2) 74 (639 : Int) (0 : Int)) 78 (639 : Int) (0 : Int)) [68, 69, 70, 81, 82, 83, 84, 85, 86] g12) [68, 69, 70] g19) [68, 69, 70] g28) [68, 69, 70] g36) [68, 69, 70] g44) [68, 69, 70] g52) [68, 69, 70] g60) [68, 69, 70] g68) [68, 69, 70] g76) [68, 69, 70] g84) [68, 69, 70] g91) [68, 69, 70] g := ⟨_, md103.eq⟩
              show sv_T sm_XS sm_cs sm_L sm_sh 4 (q_beginWork S) 293 230 [(0, .ref 0), (1, sv_I l1_92)] [] (sv_sts (sv_sts (sv_sts (sv_sts (sv_sts (sv_sts (sv_sts (sv_sts (sv_sts (sv_sts (sv_sts (sv_sts (sv_up (sv_up (sv_sts S [68, 69, 70, 81, 82, 83, 84, 85, 86, 76, 77] g2) 74 (639 : Int) (0 : Int)) 78 (639 : Int) (0 : Int)) [68, 69, 70, 81, 82, 83, 84, 85, 86] g12) [68, 69, 70] g19) [68, 69, 70] g28) [68, 69, 70] g36) [68, 69, 70] g44) [68, 69, 70] g52) [68, 69, 70] g60) [68, 69, 70] g68) [68, 69, 70] g76) [68, 69, 70] g84) [68, 69, 70] g91) [68, 69, 70] g101)
              have md105 : sv_mod [68, 69, 70, 81, 82, 83, 84, 85, 86, 1143, 1144, 5, 1011, 74, 78, 76, 77] S (sv_sts (sv_sts (sv_sts (sv_sts (sv_sts (sv_sts (sv_sts (sv_sts (sv_sts (sv_sts (sv_sts (sv_sts (sv_up (sv_up (sv_sts S [68, 69, 70, 81, 82, 83, 84, 85, 86, 76, 77] g2) 74 (639 : Int) (0 : Int)) 78 (639 : Int) (0 : Int)) [68, 69, 70, 81, 82, 83, 84, 85, 86] g12) [68, 69, 70] g19) [68, 69, 70] g28) [68, 69, 70] g36) [68, 69, 70] g44) [68, 69, 70] g52) [68, 69, 70] g60) [68, 69, 70] g68) [68, 69, 70] g76) [68, 69, 70] g84) [68, 69, 70] g91) [68, 69, 70] g101) := sv_mod.sts md96 (by decide)
              have md106 : sv_mod [68, 69, 70, 81, 82, 83, 84, 85, 86] (sv_up (sv_up (sv_sts S [68, 69, 70, 81, 82, 83, 84, 85, 86, 76, 77] g2) 74 (639 : Int) (0 : Int)) 78 (639 : Int) (0 : Int)) (sv_sts (sv_sts (sv_sts (sv_sts (sv_sts (sv_sts (sv_sts (sv_sts (sv_sts (sv_sts (sv_sts (sv_sts (sv_up (sv_up (sv_sts S [68, 69, 70, 81, 82, 83, 84, 85, 86, 76, 77] g2) 74 (639 : Int) (0 : Int)) 78 (639 : Int) (0 : Int)) [68, 69, 70, 81, 82, 83, 84, 85, 86] g12) [68, 69, 70] g19) [68, 69, 70] g28) [68, 69, 70] g36) [68, 69, 70] g44) [68, 69, 70] g52) [68, 69, 70] g60) [68, 69, 70] g68) [68, 69, 70] g76) [68, 69, 70] g84) [68, 69, 70] g91) [68, 69, 70] g101) := sv_mod.sts md97 (by decide)
              have md107 : sv_mod [68, 69, 70] (sv_sts (sv_up (sv_up (sv_sts S [68, 69, 70, 81, 82, 83, 84, 85, 86, 76, 77] g2) 74 (639 : Int) (0 : Int)) 78 (639 : Int) (0 : Int)) [68, 69, 70, 81, 82, 83, 84, 85, 86] g12) (sv_sts (sv_sts (sv_sts (sv_sts (sv_sts (sv_sts (sv_sts (sv_sts (sv_sts (sv_sts (sv_sts (sv_sts (sv_up (sv_up (sv_sts S [68, 69, 70, 81, 82, 83, 84, 85, 86, 76, 77] g2) 74 (639 : Int) (0 : Int)) 78 (639 : Int) (0 : Int)) [68, 69, 70, 81, 82, 83, 84, 85, 86] g12) [68, 69, 70] g19) [68, 69, 70] g28) [68, 69, 70] g36) [68, 69, 70] g44) [68, 69, 70] g52) [68, 69, 70] g60) [68, 69, 70] g68) [68, 69, 70] g76) [68, 69, 70] g84) [68, 69, 70] g91) [68, 69, 70] g101) := sv_mod.sts md98 (by decide)
              have md108 : sv_mod [68, 69, 70] (sv_sts (sv_sts (sv_sts (sv_sts (sv_sts (sv_sts (sv_sts (sv_sts (sv_sts (sv_sts (sv_up (sv_up (sv_sts S [68, 69, 70, 81, 82, 83, 84, 85, 86, 76, 77] g2) 74 (639 : Int) (0 : Int)) 78 (639 : Int) (0 : Int)) [68, 69, 70, 81, 82, 83, 84, 85, 86] g12) [68, 69, 70] g19) [68, 69, 70] g28) [68, 69, 70] g36) [68, 69, 70] g44) [68, 69, 70] g52) [68, 69, 70] g60) [68, 69, 70] g68) [68, 69, 70] g76) [68, 69, 70] g84) (sv_sts (sv_sts (sv_sts (sv_sts (sv_sts (sv_sts (sv_sts (sv_sts (sv_sts (sv_sts (sv_sts (sv_sts (sv_up (sv_up (sv_sts S [68, 69, 70, 81, 82, 83, 84, 85, 86, 76, 77] g2) 74 (639 : Int) (0 : Int)) 78 (639 : Int) (0 : Int)) [68, 69, 70, 81, 82, 83, 84, 85, 86] g12) [68, 69, 70] g19) [68, 69, 70] g28) [68, 69, 70] g36) [68, 69, 70] g44) [68, 69, 70] g52) [68, 69, 70] g60) [68, 69, 70] g68) [68, 69, 70] g76) [68, 69, 70] g84) [68, 69, 70] g91) [68, 69, 70] g101) := sv_mod.sts md99 (by decide)
              have h := h g101 hpo104
              refine sv_aload_n hM dX12_beginWork_230 rfl rfl ?_
              refine sv_bipush (d := (11 : Int)) hM dX12_beginWork_231 rfl rfl ?_
              refine sv_iconst (d := (1 : Int)) hM dX12_beginWork_233 rfl rfl ?_
              refine sv_iconst (d := (3 : Int)) hM dX12_beginWork_234 rfl rfl ?_
              obtain ⟨o109, h⟩ := h
              refine sv_callV hM dX12_beginWork_235 sm_iv_1370 (by decide) (sm_a0 _) rfl rfl (Nat.le_of_ble_eq_true rfl) sm_h292 (Nat.le_of_ble_eq_true rfl) (Nat.le_of_ble_eq_true rfl) (F' := 3) (Nat.le_of_ble_eq_true rfl) rfl (t_hasField (11 : Int) (1 : Int) (3 : Int) (sv_sts (sv_sts (sv_sts (sv_sts (sv_sts (sv_sts (sv_sts (sv_sts (sv_sts (sv_sts (sv_sts (sv_sts (sv_up (sv_up (sv_sts S [68, 69, 70, 81, 82, 83, 84, 85, 86, 76, 77] g2) 74 (639 : Int) (0 : Int)) 78 (639 : Int) (0 : Int)) [68, 69, 70, 81, 82, 83, 84, 85, 86] g12) [68, 69, 70] g19) [68, 69, 70] g28) [68, 69, 70] g36) [68, 69, 70] g44) [68, 69, 70] g52) [68, 69, 70] g60) [68, 69, 70] g68) [68, 69, 70] g76) [68, 69, 70] g84) [68, 69, 70] g91) [68, 69, 70] g101) ok102 (⟨by decide, by decide⟩ : sv_R (11 : Int)) (⟨by decide, by decide⟩ : sv_R (1 : Int)) (⟨by decide, by decide⟩ : sv_R (3 : Int)) o109) (fun v S1 hq => ?_)
              obtain ⟨rfl, ok111, md112, hpo113⟩ := hq
              obtain ⟨g110, rfl⟩ : ∃ g, S1 = sv_sts (sv_sts (sv_sts (sv_sts (sv_sts (sv_sts (sv_sts (sv_sts (sv_sts (sv_sts (sv_sts (sv_sts (sv_sts (sv_up (sv_up (sv_sts S [68, 69, 70, 81, 82, 83, 84, 85, 86, 76, 77] g2) 74 (639 : Int) (0 : Int)) 78 (639 : Int) (0 : Int)) [68, 69, 70, 81, 82, 83, 84, 85, 86] g12) [68, 69, 70] g19) [68, 69, 70] g28) [68, 69, 70] g36) [68, 69, 70] g44) [68, 69, 70] g52) [68, 69, 70] g60) [68, 69, 70] g68) [68, 69, 70] g76) [68, 69, 70] g84) [68, 69, 70] g91) [68, 69, 70] g101) [68, 69, 70] g := ⟨_, md112.eq⟩
              show sv_T sm_XS sm_cs sm_L sm_sh 4 (q_beginWork S) 293 238 [(0, .ref 0), (1, sv_I l1_92)] [] (sv_sts (sv_sts (sv_sts (sv_sts (sv_sts (sv_sts (sv_sts (sv_sts (sv_sts (sv_sts (sv_sts (sv_sts (sv_sts (sv_up (sv_up (sv_sts S [68, 69, 70, 81, 82, 83, 84, 85, 86, 76, 77] g2) 74 (639 : Int) (0 : Int)) 78 (639 : Int) (0 : Int)) [68, 69, 70, 81, 82, 83, 84, 85, 86] g12) [68, 69, 70] g19) [68, 69, 70] g28) [68, 69, 70] g36) [68, 69, 70] g44) [68, 69, 70] g52) [68, 69, 70] g60) [68, 69, 70] g68) [68, 69, 70] g76) [68, 69, 70] g84) [68, 69, 70] g91) [68, 69, 70] g101) [68, 69, 70] g110)
              have md114 : sv_mod [68, 69, 70, 81, 82, 83, 84, 85, 86, 1143, 1144, 5, 1011, 74, 78, 76, 77] S (sv_sts (sv_sts (sv_sts (sv_sts (sv_sts (sv_sts (sv_sts (sv_sts (sv_sts (sv_sts (sv_sts (sv_sts (sv_sts (sv_up (sv_up (sv_sts S [68, 69, 70, 81, 82, 83, 84, 85, 86, 76, 77] g2) 74 (639 : Int) (0 : Int)) 78 (639 : Int) (0 : Int)) [68, 69, 70, 81, 82, 83, 84, 85, 86] g12) [68, 69, 70] g19) [68, 69, 70] g28) [68, 69, 70] g36) [68, 69, 70] g44) [68, 69, 70] g52) [68, 69, 70] g60) [68, 69, 70] g68) [68, 69, 70] g76) [68, 69, 70] g84) [68, 69, 70] g91) [68, 69, 70] g101) [68, 69, 70] g110) := sv_mod.sts md105 (by decide)
              have md115 : sv_mod [68, 69, 70, 81, 82, 83, 84, 85, 86] (sv_up (sv_up (sv_sts S [68, 69, 70, 81, 82, 83, 84, 85, 86, 76, 77] g2) 74 (639 : Int) (0 : Int)) 78 (639 : Int) (0 : Int)) (sv_sts (sv_sts (sv_sts (sv_sts (sv_sts (sv_sts (sv_sts (sv_sts (sv_sts (sv_sts (sv_sts (sv_sts (sv_sts (sv_up (sv_up (sv_sts S [68, 69, 70, 81, 82, 83, 84, 85, 86, 76, 77] g2) 74 (639 : Int) (0 : Int)) 78 (639 : Int) (0 : Int)) [68, 69, 70, 81, 82, 83, 84, 85, 86] g12) [68, 69, 70] g19) [68, 69, 70] g28) [68, 69, 70] g36) [68, 69, 70] g44) [68, 69, 70] g52) [68, 69, 70] g60) [68, 69, 70] g68) [68, 69, 70] g76) [68, 69, 70] g84) [68, 69, 70] g91) [68, 69, 70] g101) [68, 69, 70] g110) := sv_mod.sts md106 (by decide)
              have md116 : sv_mod [68, 69, 70] (sv_sts (sv_up (sv_up (sv_sts S [68, 69, 70, 81, 82, 83, 84, 85, 86, 76, 77] g2) 74 (639 : Int) (0 : Int)) 78 (639 : Int) (0 : Int)) [68, 69, 70, 81, 82, 83, 84, 85, 86] g12) (sv_sts (sv_sts (sv_sts (sv_sts (sv_sts (sv_sts (sv_sts (sv_sts (sv_sts (sv_sts (sv_sts (sv_sts (sv_sts (sv_up (sv_up (sv_sts S [68, 69, 70, 81, 82, 83, 84, 85, 86, 76, 77] g2) 74 (639 : Int) (0 : Int)) 78 (639 : Int) (0 : Int)) [68, 69, 70, 81, 82, 83, 84, 85, 86] g12) [68, 69, 70] g19) [68, 69, 70] g28) [68, 69, 70] g36) [68, 69, 70] g44) [68, 69, 70] g52) [68, 69, 70] g60) [68, 69, 70] g68) [68, 69, 70] g76) [68, 69, 70] g84) [68, 69, 70] g91) [68, 69, 70] g101) [68, 69, 70] g110) := sv_mod.sts md107 (by decide)
              have md117 : sv_mod [68, 69, 70] (sv_sts (sv_sts (sv_sts (sv_sts (sv_sts (sv_sts (sv_sts (sv_sts (sv_sts (sv_sts (sv_up (sv_up (sv_sts S [68, 69, 70, 81, 82, 83, 84, 85, 86, 76, 77] g2) 74 (639 : Int) (0 : Int)) 78 (639 : Int) (0 : Int)) [68, 69, 70, 81, 82, 83, 84, 85, 86] g12) [68, 69, 70] g19) [68, 69, 70] g28) [68, 69, 70] g36) [68, 69, 70] g44) [68, 69, 70] g52) [68, 69, 70] g60) [68, 69, 70] g68) [68, 69, 70] g76) [68, 69, 70] g84) (sv_sts (sv_sts (sv_sts (sv_sts (sv_sts (sv_sts (sv_sts (sv_sts (sv_sts (sv_sts (sv_sts (sv_sts (sv_sts (sv_up (sv_up (sv_sts S [68, 69, 70, 81, 82, 83, 84, 85, 86, 76, 77] g2) 74 (639 : Int) (0 : Int)) 78 (639 : Int) (0 : Int)) [68, 69, 70, 81, 82, 83, 84, 85, 86] g12) [68, 69, 70] g19) [68, 69, 70] g28) [68, 69, 70] g36) [68, 69, 70] g44) [68, 69, 70] g52) [68, 69, 70] g60) [68, 69, 70] g68) [68, 69, 70] g76) [68, 69, 70] g84) [68, 69, 70] g91) [68, 69, 70] g101) [68, 69, 70] g110) := sv_mod.sts md108 (by decide)
              have h := h g110 hpo113
              refine sv_aload_n hM dX12_beginWork_238 rfl rfl ?_
              refine sv_bipush (d := (12 : Int)) hM dX12_beginWork_239 rfl rfl ?_
              refine sv_iconst (d := (1 : Int)) hM dX12_beginWork_241 rfl rfl ?_
              refine sv_iconst (d := (4 : Int)) hM dX12_beginWork_242 rfl rfl ?_
              obtain ⟨o118, h⟩ := h
              refine sv_callV hM dX12_beginWork_243 sm_iv_1370 (by decide) (sm_a0 _) rfl rfl (Nat.le_of_ble_eq_true rfl) sm_h292 (Nat.le_of_ble_eq_true rfl) (Nat.le_of_ble_eq_true rfl) (F' := 3) (Nat.le_of_ble_eq_true rfl) rfl (t_hasField (12 : Int) (1 : Int) (4 : Int) (sv_sts (sv_sts (sv_sts (sv_sts (sv_sts (sv_sts (sv_sts (sv_sts (sv_sts (sv_sts (sv_sts (sv_sts (sv_sts (sv_up (sv_up (sv_sts S [68, 69, 70, 81, 82, 83, 84, 85, 86, 76, 77] g2) 74 (639 : Int) (0 : Int)) 78 (639 : Int) (0 : Int)) [68, 69, 70, 81, 82, 83, 84, 85, 86] g12) [68, 69, 70] g19) [68, 69, 70] g28) [68, 69, 70] g36) [68, 69, 70] g44) [68, 69, 70] g52) [68, 69, 70] g60) [68, 69, 70] g68) [68, 69, 70] g76) [68, 69, 70] g84) [68, 69, 70] g91) [68, 69, 70] g101) [68, 69, 70] g110) ok111 (⟨by decide, by decide⟩ : sv_R (12 : Int)) (⟨by decide, by decide⟩ : sv_R (1 : Int)) (⟨by decide, by decide⟩ : sv_R (4 : Int)) o118) (fun v S1 hq => ?_)
              obtain ⟨rfl, ok120, md121, hpo122⟩ := hq
              obtain ⟨g119, rfl⟩ : ∃ g, S1 = sv_sts (sv_sts (sv_sts (sv_sts (sv_sts (sv_sts (sv_sts (sv_sts (sv_sts (sv_sts (sv_sts (sv_sts (sv_sts (sv_sts (sv_up (sv_up (sv_sts S [68, 69, 70, 81, 82, 83, 84, 85, 86, 76, 77] g2) 74 (639 : Int) (0 : Int)) 78 (639 : Int) (0 : Int)) [68, 69, 70, 81, 82, 83, 84, 85, 86] g12) [68, 69, 70] g19) [68, 69, 70] g28) [68, 69, 70] g36) [68, 69, 70] g44) [68, 69, 70] g52) [68, 69, 70] g60) [68, 69, 70] g68) [68, 69, 70] g76) [68, 69, 70] g84) [68, 69, 70] g91) [68, 69, 70] g101) [68, 69, 70] g110) [68, 69, 70] g := ⟨_, md121.eq⟩
              show sv_T sm_XS sm_cs sm_L sm_sh 4 (q_beginWork S) 293 246 [(0, .ref 0), (1, sv_I l1_92)] [] (sv_sts (sv_sts (sv_sts (sv_sts (sv_sts (sv_sts (sv_sts (sv_sts (sv_sts (sv_sts (sv_sts (sv_sts (sv_sts (sv_sts (sv_up (sv_up (sv_sts S [68, 69, 70, 81, 82, 83, 84, 85, 86, 76, 77] g2) 74 (639 : Int) (0 : Int)) 78 (639 : Int) (0 : Int)) [68, 69, 70, 81, 82, 83, 84, 85, 86] g12) [68, 69, 70] g19) [68, 69, 70] g28) [68, 69, 70] g36) [68, 69, 70] g44) [68, 69, 70] g52) [68, 69, 70] g60) [68, 69, 70] g68) [68, 69, 70] g76) [68, 69, 70] g84) [68, 69, 70] g91) [68, 69, 70] g101) [68, 69, 70] g110) [68, 69, 70] g119)
              have md123 : sv_mod [68, 69, 70, 81, 82, 83, 84, 85, 86, 1143, 1144, 5, 1011, 74, 78, 76, 77] S (sv_sts (sv_sts (sv_sts (sv_sts (sv_sts (sv_sts (sv_sts (sv_sts (sv_sts (sv_sts (sv_sts (sv_sts (sv_sts (sv_sts (sv_up (sv_up (sv_sts S [68, 69, 70, 81, 82, 83, 84, 85, 86, 76, 77] g2) 74 (639 : Int) (0 : Int)) 78 (639 : Int) (0 : Int)) [68, 69, 70, 81, 82, 83, 84, 85, 86] g12) [68, 69, 70] g19) [68, 69, 70] g28) [68, 69, 70] g36) [68, 69, 70] g44) [68, 69, 70] g52) [68, 69, 70] g60) [68, 69, 70] g68) [68, 69, 70] g76) [68, 69, 70] g84) [68, 69, 70] g91) [68, 69, 70] g101) [68, 69, 70] g110) [68, 69, 70] g119) := sv_mod.sts md114 (by decide)
              have md124 : sv_mod [68, 69, 70, 81, 82, 83, 84, 85, 86] (sv_up (sv_up (sv_sts S [68, 69, 70, 81, 82, 83, 84, 85, 86, 76, 77] g2) 74 (639 : Int) (0 : Int)) 78 (639 : Int) (0 : Int)) (sv_sts (sv_sts (sv_sts (sv_sts (sv_sts (sv_sts (sv_sts (sv_sts (sv_sts (sv_sts (sv_sts (sv_sts (sv_sts (sv_sts (sv_up (sv_up (sv_sts S [68, 69, 70, 81, 82, 83, 84, 85, 86, 76, 77] g2) 74 (639 : Int) (0 : Int)) 78 (639 : Int) (0 : Int)) [68, 69, 70, 81, 82, 83, 84, 85, 86] g12) [68, 69, 70] g19) [68, 69, 70] g28) [68, 69, 70] g36) [68, 69, 70] g44) [68, 69, 70] g52) [68, 69, 70] g60) [68, 69, 70] g68) [68, 69, 70] g76) [68, 69, 70] g84) [68, 69, 70] g91) [68, 69, 70] g101) [68, 69, 70] g110) [68, 69, 70] g119) := sv_mod.sts md115 (by decide)
              have md125 : sv_mod [68, 69, 70] (sv_sts (sv_up (sv_up (sv_sts S [68, 69, 70, 81, 82, 83, 84, 85, 86, 76, 77] g2) 74 (639 : Int) (0 : Int)) 78 (639 : Int) (0 : Int)) [68, 69, 70, 81, 82, 83, 84, 85, 86] g12) (sv_sts (sv_sts (sv_sts (sv_sts (sv_sts (sv_sts (sv_sts (sv_sts (sv_sts (sv_sts (sv_sts (sv_sts (sv_sts (sv_sts (sv_up (sv_up (sv_sts S [68, 69, 70, 81, 82, 83, 84, 85, 86, 76, 77] g2) 74 (639 : Int) (0 : Int)) 78 (639 : Int) (0 : Int)) [68, 69, 70, 81, 82, 83, 84, 85, 86] g12) [68, 69, 70] g19) [68, 69, 70] g28) [68, 69, 70] g36) [68, 69, 70] g44) [68, 69, 70] g52) [68, 69, 70] g60) [68, 69, 70] g68) [68, 69, 70] g76) [68, 69, 70] g84) [68, 69, 70] g91) [68, 69, 70] g101) [68, 69, 70] g110) [68, 69, 70] g119) := sv_mod.sts md116 (by decide)
              have md126 : sv_mod [68, 69, 70] (sv_sts (sv_sts (sv_sts (sv_sts (sv_sts (sv_sts (sv_sts (sv_sts (sv_sts (sv_sts (sv_up (sv_up (sv_sts S [68, 69, 70, 81, 82, 83, 84, 85, 86, 76, 77] g2) 74 (639 : Int) (0 : Int)) 78 (639 : Int) (0 : Int)) [68, 69, 70, 81, 82, 83, 84, 85, 86] g12) [68, 69, 70] g19) [68, 69, 70] g28) [68, 69, 70] g36) [68, 69, 70] g44) [68, 69, 70] g52) [68, 69, 70] g60) [68, 69, 70] g68) [68, 69, 70] g76) [68, 69, 70] g84) (sv_sts (sv_sts (sv_sts (sv_sts (sv_sts (sv_sts (sv_sts (sv_sts (sv_sts (sv_sts (sv_sts (sv_sts (sv_sts (sv_sts (sv_up (sv_up (sv_sts S [68, 69, 70, 81, 82, 83, 84, 85, 86, 76, 77] g2) 74 (639 : Int) (0 : Int)) 78 (639 : Int) (0 : Int)) [68, 69, 70, 81, 82, 83, 84, 85, 86] g12) [68, 69, 70] g19) [68, 69, 70] g28) [68, 69, 70] g36) [68, 69, 70] g44) [68, 69, 70] g52) [68, 69, 70] g60) [68, 69, 70] g68) [68, 69, 70] g76) [68, 69, 70] g84) [68, 69, 70] g91) [68, 69, 70] g101) [68, 69, 70] g110) [68, 69, 70] g119) := sv_mod.sts md117 (by decide)
              have h := h g119 hpo122
              refine sv_aload_n hM dX12_beginWork_246 rfl rfl ?_
              refine sv_aload_n hM dX12_beginWork_247 rfl rfl ?_
              refine sv_sipush (d := (639 : Int)) hM dX12_beginWork_248 rfl rfl ?_
              refine sv_callV hM dX12_beginWork_251 sm_iv_1098 (by decide) (sm_a0 _) rfl rfl (Nat.le_of_ble_eq_true rfl) sm_h227 (Nat.le_of_ble_eq_true rfl) (Nat.le_of_ble_eq_true rfl) (F' := 0) (Nat.le_of_ble_eq_true rfl) rfl (t_thisAt (639 : Int) (sv_sts (sv_sts (sv_sts (sv_sts (sv_sts (sv_sts (sv_sts (sv_sts (sv_sts (sv_sts (sv_sts (sv_sts (sv_sts (sv_sts (sv_up (sv_up (sv_sts S [68, 69, 70, 81, 82, 83, 84, 85, 86, 76, 77] g2) 74 (639 : Int) (0 : Int)) 78 (639 : Int) (0 : Int)) [68, 69, 70, 81, 82, 83, 84, 85, 86] g12) [68, 69, 70] g19) [68, 69, 70] g28) [68, 69, 70] g36) [68, 69, 70] g44) [68, 69, 70] g52) [68, 69, 70] g60) [68, 69, 70] g68) [68, 69, 70] g76) [68, 69, 70] g84) [68, 69, 70] g91) [68, 69, 70] g101) [68, 69, 70] g110) [68, 69, 70] g119) ok120 (⟨by decide, by decide⟩ : sv_R (639 : Int))) (fun v S1 hq => ?_)
              obtain ⟨rfl, hS1⟩ := hq
              obtain rfl : (sv_sts (sv_sts (sv_sts (sv_sts (sv_sts (sv_sts (sv_sts (sv_sts (sv_sts (sv_sts (sv_sts (sv_sts (sv_sts (sv_sts (sv_up (sv_up (sv_sts S [68, 69, 70, 81, 82, 83, 84, 85, 86, 76, 77] g2) 74 (639 : Int) (0 : Int)) 78 (639 : Int) (0 : Int)) [68, 69, 70, 81, 82, 83, 84, 85, 86] g12) [68, 69, 70] g19) [68, 69, 70] g28) [68, 69, 70] g36) [68, 69, 70] g44) [68, 69, 70] g52) [68, 69, 70] g60) [68, 69, 70] g68) [68, 69, 70] g76) [68, 69, 70] g84) [68, 69, 70] g91) [68, 69, 70] g101) [68, 69, 70] g110) [68, 69, 70] g119) = S1 := hS1.symm
              show sv_T sm_XS sm_cs sm_L sm_sh 4 (q_beginWork S) 293 254 [(0, .ref 0), (1, sv_I l1_92)] [sv_I (635000 + (639 : Int)), .ref 0] (sv_sts (sv_sts (sv_sts (sv_sts (sv_sts (sv_sts (sv_sts (sv_sts (sv_sts (sv_sts (sv_sts (sv_sts (sv_sts (sv_sts (sv_up (sv_up (sv_sts S [68, 69, 70, 81, 82, 83, 84, 85, 86, 76, 77] g2) 74 (639 : Int) (0 : Int)) 78 (639 : Int) (0 : Int)) [68, 69, 70, 81, 82, 83, 84, 85, 86] g12) [68, 69, 70] g19) [68, 69, 70] g28) [68, 69, 70] g36) [68, 69, 70] g44) [68, 69, 70] g52) [68, 69, 70] g60) [68, 69, 70] g68) [68, 69, 70] g76) [68, 69, 70] g84) [68, 69, 70] g91) [68, 69, 70] g101) [68, 69, 70] g110) [68, 69, 70] g119)
              refine sv_iconst (d := (1 : Int)) hM dX12_beginWork_254 rfl rfl ?_
              obtain ⟨o127, h⟩ := h
              obtain ⟨o128, h⟩ := h
              refine sv_callV hM dX12_beginWork_255 sm_iv_1072 (by decide) (sm_a0 _) rfl rfl (Nat.le_of_ble_eq_true rfl) sm_h213 (Nat.le_of_ble_eq_true rfl) (Nat.le_of_ble_eq_true rfl) (F' := 2) (Nat.le_of_ble_eq_true rfl) rfl (t_addSort (635000 + (639 : Int)) (1 : Int) (sv_sts (sv_sts (sv_sts (sv_sts (sv_sts (sv_sts (sv_sts (sv_sts (sv_sts (sv_sts (sv_sts (sv_sts (sv_sts (sv_sts (sv_up (sv_up (sv_sts S [68, 69, 70, 81, 82, 83, 84, 85, 86, 76, 77] g2) 74 (639 : Int) (0 : Int)) 78 (639 : Int) (0 : Int)) [68, 69, 70, 81, 82, 83, 84, 85, 86] g12) [68, 69, 70] g19) [68, 69, 70] g28) [68, 69, 70] g36) [68, 69, 70] g44) [68, 69, 70] g52) [68, 69, 70] g60) [68, 69, 70] g68) [68, 69, 70] g76) [68, 69, 70] g84) [68, 69, 70] g91) [68, 69, 70] g101) [68, 69, 70] g110) [68, 69, 70] g119) ok120 o127 (⟨by decide, by decide⟩ : sv_R (1 : Int)) o128) (fun v S1 hq => ?_)
              obtain ⟨rfl, ok130, md131, hpo132⟩ := hq
              obtain ⟨g129, rfl⟩ : ∃ g, S1 = sv_sts (sv_sts (sv_sts (sv_sts (sv_sts (sv_sts (sv_sts (sv_sts (sv_sts (sv_sts (sv_sts (sv_sts (sv_sts (sv_sts (sv_sts (sv_up (sv_up (sv_sts S [68, 69, 70, 81, 82, 83, 84, 85, 86, 76, 77] g2) 74 (639 : Int) (0 : Int)) 78 (639 : Int) (0 : Int)) [68, 69, 70, 81, 82, 83, 84, 85, 86] g12) [68, 69, 70] g19) [68, 69, 70] g28) [68, 69, 70] g36) [68, 69, 70] g44) [68, 69, 70] g52) [68, 69, 70] g60) [68, 69, 70] g68) [68, 69, 70] g76) [68, 69, 70] g84) [68, 69, 70] g91) [68, 69, 70] g101) [68, 69, 70] g110) [68, 69, 70] g119) [68, 69, 70] g := ⟨_, md131.eq⟩
              show sv_T sm_XS sm_cs sm_L sm_sh 4 (q_beginWork S) 293 258 [(0, .ref 0), (1, sv_I l1_92)] [] (sv_sts (sv_sts (sv_sts (sv_sts (sv_sts (sv_sts (sv_sts (sv_sts (sv_sts (sv_sts (sv_sts (sv_sts (sv_sts (sv_sts (sv_sts (sv_up (sv_up (sv_sts S [68, 69, 70, 81, 82, 83, 84, 85, 86, 76, 77] g2) 74 (639 : Int) (0 : Int)) 78 (639 : Int) (0 : Int)) [68, 69, 70, 81, 82, 83, 84, 85, 86] g12) [68, 69, 70] g19) [68, 69, 70] g28) [68, 69, 70] g36) [68, 69, 70] g44) [68, 69, 70] g52) [68, 69, 70] g60) [68, 69, 70] g68) [68, 69, 70] g76) [68, 69, 70] g84) [68, 69, 70] g91) [68, 69, 70] g101) [68, 69, 70] g110) [68, 69, 70] g119) [68, 69, 70] g129)
              have md133 : sv_mod [68, 69, 70, 81, 82, 83, 84, 85, 86, 1143, 1144, 5, 1011, 74, 78, 76, 77] S (sv_sts (sv_sts (sv_sts (sv_sts (sv_sts (sv_sts (sv_sts (sv_sts (sv_sts (sv_sts (sv_sts (sv_sts (sv_sts (sv_sts (sv_sts (sv_up (sv_up (sv_sts S [68, 69, 70, 81, 82, 83, 84, 85, 86, 76, 77] g2) 74 (639 : Int) (0 : Int)) 78 (639 : Int) (0 : Int)) [68, 69, 70, 81, 82, 83, 84, 85, 86] g12) [68, 69, 70] g19) [68, 69, 70] g28) [68, 69, 70] g36) [68, 69, 70] g44) [68, 69, 70] g52) [68, 69, 70] g60) [68, 69, 70] g68) [68, 69, 70] g76) [68, 69, 70] g84) [68, 69, 70] g91) [68, 69, 70] g101) [68, 69, 70] g110) [68, 69, 70] g119) [68, 69, 70] g129) := sv_mod.sts md123 (by decide)
              have md134 : sv_mod [68, 69, 70, 81, 82, 83, 84, 85, 86] (sv_up (sv_up (sv_sts S [68, 69, 70, 81, 82, 83, 84, 85, 86, 76, 77] g2) 74 (639 : Int) (0 : Int)) 78 (639 : Int) (0 : Int)) (sv_sts (sv_sts (sv_sts (sv_sts (sv_sts (sv_sts (sv_sts (sv_sts (sv_sts (sv_sts (sv_sts (sv_sts (sv_sts (sv_sts (sv_sts (sv_up (sv_up (sv_sts S [68, 69, 70, 81, 82, 83, 84, 85, 86, 76, 77] g2) 74 (639 : Int) (0 : Int)) 78 (639 : Int) (0 : Int)) [68, 69, 70, 81, 82, 83, 84, 85, 86] g12) [68, 69, 70] g19) [68, 69, 70] g28) [68, 69, 70] g36) [68, 69, 70] g44) [68, 69, 70] g52) [68, 69, 70] g60) [68, 69, 70] g68) [68, 69, 70] g76) [68, 69, 70] g84) [68, 69, 70] g91) [68, 69, 70] g101) [68, 69, 70] g110) [68, 69, 70] g119) [68, 69, 70] g129) := sv_mod.sts md124 (by decide)
              have md135 : sv_mod [68, 69, 70] (sv_sts (sv_up (sv_up (sv_sts S [68, 69, 70, 81, 82, 83, 84, 85, 86, 76, 77] g2) 74 (639 : Int) (0 : Int)) 78 (639 : Int) (0 : Int)) [68, 69, 70, 81, 82, 83, 84, 85, 86] g12) (sv_sts (sv_sts (sv_sts (sv_sts (sv_sts (sv_sts (sv_sts (sv_sts (sv_sts (sv_sts (sv_sts (sv_sts (sv_sts (sv_sts (sv_sts (sv_up (sv_up (sv_sts S [68, 69, 70, 81, 82, 83, 84, 85, 86, 76, 77] g2) 74 (639 : Int) (0 : Int)) 78 (639 : Int) (0 : Int)) [68, 69, 70, 81, 82, 83, 84, 85, 86] g12) [68, 69, 70] g19) [68, 69, 70] g28) [68, 69, 70] g36) [68, 69, 70] g44) [68, 69, 70] g52) [68, 69, 70] g60) [68, 69, 70] g68) [68, 69, 70] g76) [68, 69, 70] g84) [68, 69, 70] g91) [68, 69, 70] g101) [68, 69, 70] g110) [68, 69, 70] g119) [68, 69, 70] g129) := sv_mod.sts md125 (by decide)
              have md136 : sv_mod [68, 69, 70] (sv_sts (sv_sts (sv_sts (sv_sts (sv_sts (sv_sts (sv_sts (sv_sts (sv_sts (sv_sts (sv_up (sv_up (sv_sts S [68, 69, 70, 81, 82, 83, 84, 85, 86, 76, 77] g2) 74 (639 : Int) (0 : Int)) 78 (639 : Int) (0 : Int)) [68, 69, 70, 81, 82, 83, 84, 85, 86] g12) [68, 69, 70] g19) [68, 69, 70] g28) [68, 69, 70] g36) [68, 69, 70] g44) [68, 69, 70] g52) [68, 69, 70] g60) [68, 69, 70] g68) [68, 69, 70] g76) [68, 69, 70] g84) (sv_sts (sv_sts (sv_sts (sv_sts (sv_sts (sv_sts (sv_sts (sv_sts (sv_sts (sv_sts (sv_sts (sv_sts (sv_sts (sv_sts (sv_sts (sv_up (sv_up (sv_sts S [68, 69, 70, 81, 82, 83, 84, 85, 86, 76, 77] g2) 74 (639 : Int) (0 : Int)) 78 (639 : Int) (0 : Int)) [68, 69, 70, 81, 82, 83, 84, 85, 86] g12) [68, 69, 70] g19) [68, 69, 70] g28) [68, 69, 70] g36) [68, 69, 70] g44) [68, 69, 70] g52) [68, 69, 70] g60) [68, 69, 70] g68) [68, 69, 70] g76) [68, 69, 70] g84) [68, 69, 70] g91) [68, 69, 70] g101) [68, 69, 70] g110) [68, 69, 70] g119) [68, 69, 70] g129) := sv_mod.sts md126 (by decide)
              have h := h g129 hpo132
              exact sv_vret hM dX12_beginWork_258 rfl ⟨rfl, ok130, md133, h⟩
            · have h := h.2 (hc)
              refine sv_aload_n hM dX12_beginWork_176 rfl rfl ?_
              refine sv_iconst (d := (5 : Int)) hM dX12_beginWork_177 rfl rfl ?_
              refine sv_iload_n hM dX12_beginWork_178 rfl rfl ?_
              refine sv_iadd hM dX12_beginWork_179 rfl ?_
              refine sv_iconst (d := (2 : Int)) hM dX12_beginWork_180 rfl rfl ?_
              refine sv_bipush (d := (14 : Int)) hM dX12_beginWork_181 rfl rfl ?_
              refine sv_iload_n hM dX12_beginWork_183 rfl rfl ?_
              refine sv_iadd hM dX12_beginWork_184 rfl ?_
              obtain ⟨o137, h⟩ := h
              obtain ⟨o138, h⟩ := h
              obtain ⟨o139, h⟩ := h
              refine sv_callV hM dX12_beginWork_185 sm_iv_1370 (by decide) (sm_a0 _) rfl rfl (Nat.le_of_ble_eq_true rfl) sm_h292 (Nat.le_of_ble_eq_true rfl) (Nat.le_of_ble_eq_true rfl) (F' := 3) (Nat.le_of_ble_eq_true rfl) rfl (t_hasField ((5 : Int) + l1_92) (2 : Int) ((14 : Int) + l1_92) (sv_sts (sv_sts (sv_sts (sv_sts (sv_sts (sv_sts (sv_sts (sv_sts (sv_sts (sv_sts (sv_sts (sv_up (sv_up (sv_sts S [68, 69, 70, 81, 82, 83, 84, 85, 86, 76, 77] g2) 74 (639 : Int) (0 : Int)) 78 (639 : Int) (0 : Int)) [68, 69, 70, 81, 82, 83, 84, 85, 86] g12) [68, 69, 70] g19) [68, 69, 70] g28) [68, 69, 70] g36) [68, 69, 70] g44) [68, 69, 70] g52) [68, 69, 70] g60) [68, 69, 70] g68) [68, 69, 70] g76) [68, 69, 70] g84) [68, 69, 70] g91) ok95 o137 (⟨by decide, by decide⟩ : sv_R (2 : Int)) o138 o139) (fun v S1 hq => ?_)
              obtain ⟨rfl, ok141, md142, hpo143⟩ := hq
              obtain ⟨g140, rfl⟩ : ∃ g, S1 = sv_sts (sv_sts (sv_sts (sv_sts (sv_sts (sv_sts (sv_sts (sv_sts (sv_sts (sv_sts (sv_sts (sv_sts (sv_up (sv_up (sv_sts S [68, 69, 70, 81, 82, 83, 84, 85, 86, 76, 77] g2) 74 (639 : Int) (0 : Int)) 78 (639 : Int) (0 : Int)) [68, 69, 70, 81, 82, 83, 84, 85, 86] g12) [68, 69, 70] g19) [68, 69, 70] g28) [68, 69, 70] g36) [68, 69, 70] g44) [68, 69, 70] g52) [68, 69, 70] g60) [68, 69, 70] g68) [68, 69, 70] g76) [68, 69, 70] g84) [68, 69, 70] g91) [68, 69, 70] g := ⟨_, md142.eq⟩
              show sv_T sm_XS sm_cs sm_L sm_sh 4 (q_beginWork S) 293 188 [(0, .ref 0), (1, sv_I l1_92)] [] (sv_sts (sv_sts (sv_sts (sv_sts (sv_sts (sv_sts (sv_sts (sv_sts (sv_sts (sv_sts (sv_sts (sv_sts (sv_up (sv_up (sv_sts S [68, 69, 70, 81, 82, 83, 84, 85, 86, 76, 77] g2) 74 (639 : Int) (0 : Int)) 78 (639 : Int) (0 : Int)) [68, 69, 70, 81, 82, 83, 84, 85, 86] g12) [68, 69, 70] g19) [68, 69, 70] g28) [68, 69, 70] g36) [68, 69, 70] g44) [68, 69, 70] g52) [68, 69, 70] g60) [68, 69, 70] g68) [68, 69, 70] g76) [68, 69, 70] g84) [68, 69, 70] g91) [68, 69, 70] g140)
              have md144 : sv_mod [68, 69, 70, 81, 82, 83, 84, 85, 86, 1143, 1144, 5, 1011, 74, 78, 76, 77] S (sv_sts (sv_sts (sv_sts (sv_sts (sv_sts (sv_sts (sv_sts (sv_sts (sv_sts (sv_sts (sv_sts (sv_sts (sv_up (sv_up (sv_sts S [68, 69, 70, 81, 82, 83, 84, 85, 86, 76, 77] g2) 74 (639 : Int) (0 : Int)) 78 (639 : Int) (0 : Int)) [68, 69, 70, 81, 82, 83, 84, 85, 86] g12) [68, 69, 70] g19) [68, 69, 70] g28) [68, 69, 70] g36) [68, 69, 70] g44) [68, 69, 70] g52) [68, 69, 70] g60) [68, 69, 70] g68) [68, 69, 70] g76) [68, 69, 70] g84) [68, 69, 70] g91) [68, 69, 70] g140) := sv_mod.sts md96 (by decide)
              have md145 : sv_mod [68, 69, 70, 81, 82, 83, 84, 85, 86] (sv_up (sv_up (sv_sts S [68, 69, 70, 81, 82, 83, 84, 85, 86, 76, 77] g2) 74 (639 : Int) (0 : Int)) 78 (639 : Int) (0 : Int)) (sv_sts (sv_sts (sv_sts (sv_sts (sv_sts (sv_sts (sv_sts (sv_sts (sv_sts (sv_sts (sv_sts (sv_sts (sv_up (sv_up (sv_sts S [68, 69, 70, 81, 82, 83, 84, 85, 86, 76, 77] g2) 74 (639 : Int) (0 : Int)) 78 (639 : Int) (0 : Int)) [68, 69, 70, 81, 82, 83, 84, 85, 86] g12) [68, 69, 70] g19) [68, 69, 70] g28) [68, 69, 70] g36) [68, 69, 70] g44) [68, 69, 70] g52) [68, 69, 70] g60) [68, 69, 70] g68) [68, 69, 70] g76) [68, 69, 70] g84) [68, 69, 70] g91) [68, 69, 70] g140) := sv_mod.sts md97 (by decide)
              have md146 : sv_mod [68, 69, 70] (sv_sts (sv_up (sv_up (sv_sts S [68, 69, 70, 81, 82, 83, 84, 85, 86, 76, 77] g2) 74 (639 : Int) (0 : Int)) 78 (639 : Int) (0 : Int)) [68, 69, 70, 81, 82, 83, 84, 85, 86] g12) (sv_sts (sv_sts (sv_sts (sv_sts (sv_sts (sv_sts (sv_sts (sv_sts (sv_sts (sv_sts (sv_sts (sv_sts (sv_up (sv_up (sv_sts S [68, 69, 70, 81, 82, 83, 84, 85, 86, 76, 77] g2) 74 (639 : Int) (0 : Int)) 78 (639 : Int) (0 : Int)) [68, 69, 70, 81, 82, 83, 84, 85, 86] g12) [68, 69, 70] g19) [68, 69, 70] g28) [68, 69, 70] g36) [68, 69, 70] g44) [68, 69, 70] g52) [68, 69, 70] g60) [68, 69, 70] g68) [68, 69, 70] g76) [68, 69, 70] g84) [68, 69, 70] g91) [68, 69, 70] g140) := sv_mod.sts md98 (by decide)
              have md147 : sv_mod [68, 69, 70] (sv_sts (sv_sts (sv_sts (sv_sts (sv_sts (sv_sts (sv_sts (sv_sts (sv_sts (sv_sts (sv_up (sv_up (sv_sts S [68, 69, 70, 81, 82, 83, 84, 85, 86, 76, 77] g2) 74 (639 : Int) (0 : Int)) 78 (639 : Int) (0 : Int)) [68, 69, 70, 81, 82, 83, 84, 85, 86] g12) [68, 69, 70] g19) [68, 69, 70] g28) [68, 69, 70] g36) [68, 69, 70] g44) [68, 69, 70] g52) [68, 69, 70] g60) [68, 69, 70] g68) [68, 69, 70] g76) [68, 69, 70] g84) (sv_sts (sv_sts (sv_sts (sv_sts (sv_sts (sv_sts (sv_sts (sv_sts (sv_sts (sv_sts (sv_sts (sv_sts (sv_up (sv_up (sv_sts S [68, 69, 70, 81, 82, 83, 84, 85, 86, 76, 77] g2) 74 (639 : Int) (0 : Int)) 78 (639 : Int) (0 : Int)) [68, 69, 70, 81, 82, 83, 84, 85, 86] g12) [68, 69, 70] g19) [68, 69, 70] g28) [68, 69, 70] g36) [68, 69, 70] g44) [68, 69, 70] g52) [68, 69, 70] g60) [68, 69, 70] g68) [68, 69, 70] g76) [68, 69, 70] g84) [68, 69, 70] g91) [68, 69, 70] g140) := sv_mod.sts md99 (by decide)
              have h := h g140 hpo143
              refine sv_aload_n hM dX12_beginWork_188 rfl rfl ?_
              refine sv_aload_n hM dX12_beginWork_189 rfl rfl ?_
              refine sv_iconst (d := (5 : Int)) hM dX12_beginWork_190 rfl rfl ?_
              refine sv_iload_n hM dX12_beginWork_191 rfl rfl ?_
              refine sv_iadd hM dX12_beginWork_192 rfl ?_
              refine sv_iconst (d := (4 : Int)) hM dX12_beginWork_193 rfl rfl ?_
              obtain ⟨o148, h⟩ := h
              refine sv_callV hM dX12_beginWork_194 sm_iv_1244 (by decide) (sm_a0 _) rfl rfl (Nat.le_of_ble_eq_true rfl) sm_h253 (Nat.le_of_ble_eq_true rfl) (Nat.le_of_ble_eq_true rfl) (F' := 2) (Nat.le_of_ble_eq_true rfl) rfl (t_fresh_ ((5 : Int) + l1_92) (4 : Int) (sv_sts (sv_sts (sv_sts (sv_sts (sv_sts (sv_sts (sv_sts (sv_sts (sv_sts (sv_sts (sv_sts (sv_sts (sv_up (sv_up (sv_sts S [68, 69, 70, 81, 82, 83, 84, 85, 86, 76, 77] g2) 74 (639 : Int) (0 : Int)) 78 (639 : Int) (0 : Int)) [68, 69, 70, 81, 82, 83, 84, 85, 86] g12) [68, 69, 70] g19) [68, 69, 70] g28) [68, 69, 70] g36) [68, 69, 70] g44) [68, 69, 70] g52) [68, 69, 70] g60) [68, 69, 70] g68) [68, 69, 70] g76) [68, 69, 70] g84) [68, 69, 70] g91) [68, 69, 70] g140) ok141 o137 (⟨by decide, by decide⟩ : sv_R (4 : Int)) o148) (fun v S1 hq => ?_)
              obtain ⟨r153, rfl, hr153, ok150, md151, hpo152⟩ := hq
              obtain ⟨g149, rfl⟩ : ∃ g, S1 = sv_sts (sv_sts (sv_sts (sv_sts (sv_sts (sv_sts (sv_sts (sv_sts (sv_sts (sv_sts (sv_sts (sv_sts (sv_sts (sv_up (sv_up (sv_sts S [68, 69, 70, 81, 82, 83, 84, 85, 86, 76, 77] g2) 74 (639 : Int) (0 : Int)) 78 (639 : Int) (0 : Int)) [68, 69, 70, 81, 82, 83, 84, 85, 86] g12) [68, 69, 70] g19) [68, 69, 70] g28) [68, 69, 70] g36) [68, 69, 70] g44) [68, 69, 70] g52) [68, 69, 70] g60) [68, 69, 70] g68) [68, 69, 70] g76) [68, 69, 70] g84) [68, 69, 70] g91) [68, 69, 70] g140) [68, 69, 70] g := ⟨_, md151.eq⟩
              show sv_T sm_XS sm_cs sm_L sm_sh 4 (q_beginWork S) 293 197 [(0, .ref 0), (1, sv_I l1_92)] [sv_I r153, .ref 0] (sv_sts (sv_sts (sv_sts (sv_sts (sv_sts (sv_sts (sv_sts (sv_sts (sv_sts (sv_sts (sv_sts (sv_sts (sv_sts (sv_up (sv_up (sv_sts S [68, 69, 70, 81, 82, 83, 84, 85, 86, 76, 77] g2) 74 (639 : Int) (0 : Int)) 78 (639 : Int) (0 : Int)) [68, 69, 70, 81, 82, 83, 84, 85, 86] g12) [68, 69, 70] g19) [68, 69, 70] g28) [68, 69, 70] g36) [68, 69, 70] g44) [68, 69, 70] g52) [68, 69, 70] g60) [68, 69, 70] g68) [68, 69, 70] g76) [68, 69, 70] g84) [68, 69, 70] g91) [68, 69, 70] g140) [68, 69, 70] g149)
              have md154 : sv_mod [68, 69, 70, 81, 82, 83, 84, 85, 86, 1143, 1144, 5, 1011, 74, 78, 76, 77] S (sv_sts (sv_sts (sv_sts (sv_sts (sv_sts (sv_sts (sv_sts (sv_sts (sv_sts (sv_sts (sv_sts (sv_sts (sv_sts (sv_up (sv_up (sv_sts S [68, 69, 70, 81, 82, 83, 84, 85, 86, 76, 77] g2) 74 (639 : Int) (0 : Int)) 78 (639 : Int) (0 : Int)) [68, 69, 70, 81, 82, 83, 84, 85, 86] g12) [68, 69, 70] g19) [68, 69, 70] g28) [68, 69, 70] g36) [68, 69, 70] g44) [68, 69, 70] g52) [68, 69, 70] g60) [68, 69, 70] g68) [68, 69, 70] g76) [68, 69, 70] g84) [68, 69, 70] g91) [68, 69, 70] g140) [68, 69, 70] g149) := sv_mod.sts md144 (by decide)
              have md155 : sv_mod [68, 69, 70, 81, 82, 83, 84, 85, 86] (sv_up (sv_up (sv_sts S [68, 69, 70, 81, 82, 83, 84, 85, 86, 76, 77] g2) 74 (639 : Int) (0 : Int)) 78 (639 : Int) (0 : Int)) (sv_sts (sv_sts (sv_sts (sv_sts (sv_sts (sv_sts (sv_sts (sv_sts (sv_sts (sv_sts (sv_sts (sv_sts (sv_sts (sv_up (sv_up (sv_sts S [68, 69, 70, 81, 82, 83, 84, 85, 86, 76, 77] g2) 74 (639 : Int) (0 : Int)) 78 (639 : Int) (0 : Int)) [68, 69, 70, 81, 82, 83, 84, 85, 86] g12) [68, 69, 70] g19) [68, 69, 70] g28) [68, 69, 70] g36) [68, 69, 70] g44) [68, 69, 70] g52) [68, 69, 70] g60) [68, 69, 70] g68) [68, 69, 70] g76) [68, 69, 70] g84) [68, 69, 70] g91) [68, 69, 70] g140) [68, 69, 70] g149) := sv_mod.sts md145 (by decide)
              have md156 : sv_mod [68, 69, 70] (sv_sts (sv_up (sv_up (sv_sts S [68, 69, 70, 81, 82, 83, 84, 85, 86, 76, 77] g2) 74 (639 : Int) (0 : Int)) 78 (639 : Int) (0 : Int)) [68, 69, 70, 81, 82, 83, 84, 85, 86] g12) (sv_sts (sv_sts (sv_sts (sv_sts (sv_sts (sv_sts (sv_sts (sv_sts (sv_sts (sv_sts (sv_sts (sv_sts (sv_sts (sv_up (sv_up (sv_sts S [68, 69, 70, 81, 82, 83, 84, 85, 86, 76, 77] g2) 74 (639 : Int) (0 : Int)) 78 (639 : Int) (0 : Int)) [68, 69, 70, 81, 82, 83, 84, 85, 86] g12) [68, 69, 70] g19) [68, 69, 70] g28) [68, 69, 70] g36) [68, 69, 70] g44) [68, 69, 70] g52) [68, 69, 70] g60) [68, 69, 70] g68) [68, 69, 70] g76) [68, 69, 70] g84) [68, 69, 70] g91) [68, 69, 70] g140) [68, 69, 70] g149) := sv_mod.sts md146 (by decide)
              have md157 : sv_mod [68, 69, 70] (sv_sts (sv_sts (sv_sts (sv_sts (sv_sts (sv_sts (sv_sts (sv_sts (sv_sts (sv_sts (sv_up (sv_up (sv_sts S [68, 69, 70, 81, 82, 83, 84, 85, 86, 76, 77] g2) 74 (639 : Int) (0 : Int)) 78 (639 : Int) (0 : Int)) [68, 69, 70, 81, 82, 83, 84, 85, 86] g12) [68, 69, 70] g19) [68, 69, 70] g28) [68, 69, 70] g36) [68, 69, 70] g44) [68, 69, 70] g52) [68, 69, 70] g60) [68, 69, 70] g68) [68, 69, 70] g76) [68, 69, 70] g84) (sv_sts (sv_sts (sv_sts (sv_sts (sv_sts (sv_sts (sv_sts (sv_sts (sv_sts (sv_sts (sv_sts (sv_sts (sv_sts (sv_up (sv_up (sv_sts S [68, 69, 70, 81, 82, 83, 84, 85, 86, 76, 77] g2) 74 (639 : Int) (0 : Int)) 78 (639 : Int) (0 : Int)) [68, 69, 70, 81, 82, 83, 84, 85, 86] g12) [68, 69, 70] g19) [68, 69, 70] g28) [68, 69, 70] g36) [68, 69, 70] g44) [68, 69, 70] g52) [68, 69, 70] g60) [68, 69, 70] g68) [68, 69, 70] g76) [68, 69, 70] g84) [68, 69, 70] g91) [68, 69, 70] g140) [68, 69, 70] g149) := sv_mod.sts md147 (by decide)
              have h := h r153 hr153 g149 hpo152
              refine sv_bipush (d := (10 : Int)) hM dX12_beginWork_197 rfl rfl ?_
              refine sv_iload_n hM dX12_beginWork_199 rfl rfl ?_
              refine sv_iadd hM dX12_beginWork_200 rfl ?_
              obtain ⟨o158, h⟩ := h
              obtain ⟨o159, h⟩ := h
              refine sv_callV hM dX12_beginWork_201 sm_iv_1078 (by decide) (sm_a0 _) rfl rfl (Nat.le_of_ble_eq_true rfl) sm_h215 (Nat.le_of_ble_eq_true rfl) (Nat.le_of_ble_eq_true rfl) (F' := 2) (Nat.le_of_ble_eq_true rfl) rfl (t_addString r153 ((10 : Int) + l1_92) (sv_sts (sv_sts (sv_sts (sv_sts (sv_sts (sv_sts (sv_sts (sv_sts (sv_sts (sv_sts (sv_sts (sv_sts (sv_sts (sv_up (sv_up (sv_sts S [68, 69, 70, 81, 82, 83, 84, 85, 86, 76, 77] g2) 74 (639 : Int) (0 : Int)) 78 (639 : Int) (0 : Int)) [68, 69, 70, 81, 82, 83, 84, 85, 86] g12) [68, 69, 70] g19) [68, 69, 70] g28) [68, 69, 70] g36) [68, 69, 70] g44) [68, 69, 70] g52) [68, 69, 70] g60) [68, 69, 70] g68) [68, 69, 70] g76) [68, 69, 70] g84) [68, 69, 70] g91) [68, 69, 70] g140) [68, 69, 70] g149) ok150 hr153 o158 o159) (fun v S1 hq => ?_)
              obtain ⟨rfl, ok161, md162, hpo163⟩ := hq
              obtain ⟨g160, rfl⟩ : ∃ g, S1 = sv_sts (sv_sts (sv_sts (sv_sts (sv_sts (sv_sts (sv_sts (sv_sts (sv_sts (sv_sts (sv_sts (sv_sts (sv_sts (sv_sts (sv_up (sv_up (sv_sts S [68, 69, 70, 81, 82, 83, 84, 85, 86, 76, 77] g2) 74 (639 : Int) (0 : Int)) 78 (639 : Int) (0 : Int)) [68, 69, 70, 81, 82, 83, 84, 85, 86] g12) [68, 69, 70] g19) [68, 69, 70] g28) [68, 69, 70] g36) [68, 69, 70] g44) [68, 69, 70] g52) [68, 69, 70] g60) [68, 69, 70] g68) [68, 69, 70] g76) [68, 69, 70] g84) [68, 69, 70] g91) [68, 69, 70] g140) [68, 69, 70] g149) [68, 69, 70] g := ⟨_, md162.eq⟩
              show sv_T sm_XS sm_cs sm_L sm_sh 4 (q_beginWork S) 293 204 [(0, .ref 0), (1, sv_I l1_92)] [] (sv_sts (sv_sts (sv_sts (sv_sts (sv_sts (sv_sts (sv_sts (sv_sts (sv_sts (sv_sts (sv_sts (sv_sts (sv_sts (sv_sts (sv_up (sv_up (sv_sts S [68, 69, 70, 81, 82, 83, 84, 85, 86, 76, 77] g2) 74 (639 : Int) (0 : Int)) 78 (639 : Int) (0 : Int)) [68, 69, 70, 81, 82, 83, 84, 85, 86] g12) [68, 69, 70] g19) [68, 69, 70] g28) [68, 69, 70] g36) [68, 69, 70] g44) [68, 69, 70] g52) [68, 69, 70] g60) [68, 69, 70] g68) [68, 69, 70] g76) [68, 69, 70] g84) [68, 69, 70] g91) [68, 69, 70] g140) [68, 69, 70] g149) [68, 69, 70] g160)
              have md164 : sv_mod [68, 69, 70, 81, 82, 83, 84, 85, 86, 1143, 1144, 5, 1011, 74, 78, 76, 77] S (sv_sts (sv_sts (sv_sts (sv_sts (sv_sts (sv_sts (sv_sts (sv_sts (sv_sts (sv_sts (sv_sts (sv_sts (sv_sts (sv_sts (sv_up (sv_up (sv_sts S [68, 69, 70, 81, 82, 83, 84, 85, 86, 76, 77] g2) 74 (639 : Int) (0 : Int)) 78 (639 : Int) (0 : Int)) [68, 69, 70, 81, 82, 83, 84, 85, 86] g12) [68, 69, 70] g19) [68, 69, 70] g28) [68, 69, 70] g36) [68, 69, 70] g44) [68, 69, 70] g52) [68, 69, 70] g60) [68, 69, 70] g68) [68, 69, 70] g76) [68, 69, 70] g84) [68, 69, 70] g91) [68, 69, 70] g140) [68, 69, 70] g149) [68, 69, 70] g160) := sv_mod.sts md154 (by decide)
              have md165 : sv_mod [68, 69, 70, 81, 82, 83, 84, 85, 86] (sv_up (sv_up (sv_sts S [68, 69, 70, 81, 82, 83, 84, 85, 86, 76, 77] g2) 74 (639 : Int) (0 : Int)) 78 (639 : Int) (0 : Int)) (sv_sts (sv_sts (sv_sts (sv_sts (sv_sts (sv_sts (sv_sts (sv_sts (sv_sts (sv_sts (sv_sts (sv_sts (sv_sts (sv_sts (sv_up (sv_up (sv_sts S [68, 69, 70, 81, 82, 83, 84, 85, 86, 76, 77] g2) 74 (639 : Int) (0 : Int)) 78 (639 : Int) (0 : Int)) [68, 69, 70, 81, 82, 83, 84, 85, 86] g12) [68, 69, 70] g19) [68, 69, 70] g28) [68, 69, 70] g36) [68, 69, 70] g44) [68, 69, 70] g52) [68, 69, 70] g60) [68, 69, 70] g68) [68, 69, 70] g76) [68, 69, 70] g84) [68, 69, 70] g91) [68, 69, 70] g140) [68, 69, 70] g149) [68, 69, 70] g160) := sv_mod.sts md155 (by decide)
              have md166 : sv_mod [68, 69, 70] (sv_sts (sv_up (sv_up (sv_sts S [68, 69, 70, 81, 82, 83, 84, 85, 86, 76, 77] g2) 74 (639 : Int) (0 : Int)) 78 (639 : Int) (0 : Int)) [68, 69, 70, 81, 82, 83, 84, 85, 86] g12) (sv_sts (sv_sts (sv_sts (sv_sts (sv_sts (sv_sts (sv_sts (sv_sts (sv_sts (sv_sts (sv_sts (sv_sts (sv_sts (sv_sts (sv_up (sv_up (sv_sts S [68, 69, 70, 81, 82, 83, 84, 85, 86, 76, 77] g2) 74 (639 : Int) (0 : Int)) 78 (639 : Int) (0 : Int)) [68, 69, 70, 81, 82, 83, 84, 85, 86] g12) [68, 69, 70] g19) [68, 69, 70] g28) [68, 69, 70] g36) [68, 69, 70] g44) [68, 69, 70] g52) [68, 69, 70] g60) [68, 69, 70] g68) [68, 69, 70] g76) [68, 69, 70] g84) [68, 69, 70] g91) [68, 69, 70] g140) [68, 69, 70] g149) [68, 69, 70] g160) := sv_mod.sts md156 (by decide)
              have md167 : sv_mod [68, 69, 70] (sv_sts (sv_sts (sv_sts (sv_sts (sv_sts (sv_sts (sv_sts (sv_sts (sv_sts (sv_sts (sv_up (sv_up (sv_sts S [68, 69, 70, 81, 82, 83, 84, 85, 86, 76, 77] g2) 74 (639 : Int) (0 : Int)) 78 (639 : Int) (0 : Int)) [68, 69, 70, 81, 82, 83, 84, 85, 86] g12) [68, 69, 70] g19) [68, 69, 70] g28) [68, 69, 70] g36) [68, 69, 70] g44) [68, 69, 70] g52) [68, 69, 70] g60) [68, 69, 70] g68) [68, 69, 70] g76) [68, 69, 70] g84) (sv_sts (sv_sts (sv_sts (sv_sts (sv_sts (sv_sts (sv_sts (sv_sts (sv_sts (sv_sts (sv_sts (sv_sts (sv_sts (sv_sts (sv_up (sv_up (sv_sts S [68, 69, 70, 81, 82, 83, 84, 85, 86, 76, 77] g2) 74 (639 : Int) (0 : Int)) 78 (639 : Int) (0 : Int)) [68, 69, 70, 81, 82, 83, 84, 85, 86] g12) [68, 69, 70] g19) [68, 69, 70] g28) [68, 69, 70] g36) [68, 69, 70] g44) [68, 69, 70] g52) [68, 69, 70] g60) [68, 69, 70] g68) [68, 69, 70] g76) [68, 69, 70] g84) [68, 69, 70] g91) [68, 69, 70] g140) [68, 69, 70] g149) [68, 69, 70] g160) := sv_mod.sts md157 (by decide)
              have h := h g160 hpo163
              refine sv_aload_n hM dX12_beginWork_204 rfl rfl ?_
              refine sv_bipush (d := (14 : Int)) hM dX12_beginWork_205 rfl rfl ?_
              refine sv_iload_n hM dX12_beginWork_207 rfl rfl ?_
              refine sv_iadd hM dX12_beginWork_208 rfl ?_
              refine sv_iconst (d := (1 : Int)) hM dX12_beginWork_209 rfl rfl ?_
              refine sv_iconst (d := (5 : Int)) hM dX12_beginWork_210 rfl rfl ?_
              refine sv_iload_n hM dX12_beginWork_211 rfl rfl ?_
              refine sv_iadd hM dX12_beginWork_212 rfl ?_
              obtain ⟨o168, h⟩ := h
              refine sv_callV hM dX12_beginWork_213 sm_iv_1370 (by decide) (sm_a0 _) rfl rfl (Nat.le_of_ble_eq_true rfl) sm_h292 (Nat.le_of_ble_eq_true rfl) (Nat.le_of_ble_eq_true rfl) (F' := 3) (Nat.le_of_ble_eq_true rfl) rfl (t_hasField ((14 : Int) + l1_92) (1 : Int) ((5 : Int) + l1_92) (sv_sts (sv_sts (sv_sts (sv_sts (sv_sts (sv_sts (sv_sts (sv_sts (sv_sts (sv_sts (sv_sts (sv_sts (sv_sts (sv_sts (sv_up (sv_up (sv_sts S [68, 69, 70, 81, 82, 83, 84, 85, 86, 76, 77] g2) 74 (639 : Int) (0 : Int)) 78 (639 : Int) (0 : Int)) [68, 69, 70, 81, 82, 83, 84, 85, 86] g12) [68, 69, 70] g19) [68, 69, 70] g28) [68, 69, 70] g36) [68, 69, 70] g44) [68, 69, 70] g52) [68, 69, 70] g60) [68, 69, 70] g68) [68, 69, 70] g76) [68, 69, 70] g84) [68, 69, 70] g91) [68, 69, 70] g140) [68, 69, 70] g149) [68, 69, 70] g160) ok161 o138 (⟨by decide, by decide⟩ : sv_R (1 : Int)) o137 o168) (fun v S1 hq => ?_)
              obtain ⟨rfl, ok170, md171, hpo172⟩ := hq
              obtain ⟨g169, rfl⟩ : ∃ g, S1 = sv_sts (sv_sts (sv_sts (sv_sts (sv_sts (sv_sts (sv_sts (sv_sts (sv_sts (sv_sts (sv_sts (sv_sts (sv_sts (sv_sts (sv_sts (sv_up (sv_up (sv_sts S [68, 69, 70, 81, 82, 83, 84, 85, 86, 76, 77] g2) 74 (639 : Int) (0 : Int)) 78 (639 : Int) (0 : Int)) [68, 69, 70, 81, 82, 83, 84, 85, 86] g12) [68, 69, 70] g19) [68, 69, 70] g28) [68, 69, 70] g36) [68, 69, 70] g44) [68, 69, 70] g52) [68, 69, 70] g60) [68, 69, 70] g68) [68, 69, 70] g76) [68, 69, 70] g84) [68, 69, 70] g91) [68, 69, 70] g140) [68, 69, 70] g149) [68, 69, 70] g160) [68, 69, 70] g := ⟨_, md171.eq⟩
              show sv_T sm_XS sm_cs sm_L sm_sh 4 (q_beginWork S) 293 216 [(0, .ref 0), (1, sv_I l1_92)] [] (sv_sts (sv_sts (sv_sts (sv_sts (sv_sts (sv_sts (sv_sts (sv_sts (sv_sts (sv_sts (sv_sts (sv_sts (sv_sts (sv_sts (sv_sts (sv_up (sv_up (sv_sts S [68, 69, 70, 81, 82, 83, 84, 85, 86, 76, 77] g2) 74 (639 : Int) (0 : Int)) 78 (639 : Int) (0 : Int)) [68, 69, 70, 81, 82, 83, 84, 85, 86] g12) [68, 69, 70] g19) [68, 69, 70] g28) [68, 69, 70] g36) [68, 69, 70] g44) [68, 69, 70] g52) [68, 69, 70] g60) [68, 69, 70] g68) [68, 69, 70] g76) [68, 69, 70] g84) [68, 69, 70] g91) [68, 69, 70] g140) [68, 69, 70] g149) [68, 69, 70] g160) [68, 69, 70] g169)
              have md173 : sv_mod [68, 69, 70, 81, 82, 83, 84, 85, 86, 1143, 1144, 5, 1011, 74, 78, 76, 77] S (sv_sts (sv_sts (sv_sts (sv_sts (sv_sts (sv_sts (sv_sts (sv_sts (sv_sts (sv_sts (sv_sts (sv_sts (sv_sts (sv_sts (sv_sts (sv_up (sv_up (sv_sts S [68, 69, 70, 81, 82, 83, 84, 85, 86, 76, 77] g2) 74 (639 : Int) (0 : Int)) 78 (639 : Int) (0 : Int)) [68, 69, 70, 81, 82, 83, 84, 85, 86] g12) [68, 69, 70] g19) [68, 69, 70] g28) [68, 69, 70] g36) [68, 69, 70] g44) [68, 69, 70] g52) [68, 69, 70] g60) [68, 69, 70] g68) [68, 69, 70] g76) [68, 69, 70] g84) [68, 69, 70] g91) [68, 69, 70] g140) [68, 69, 70] g149) [68, 69, 70] g160) [68, 69, 70] g169) := sv_mod.sts md164 (by decide)
              have md174 : sv_mod [68, 69, 70, 81, 82, 83, 84, 85, 86] (sv_up (sv_up (sv_sts S [68, 69, 70, 81, 82, 83, 84, 85, 86, 76, 77] g2) 74 (639 : Int) (0 : Int)) 78 (639 : Int) (0 : Int)) (sv_sts (sv_sts (sv_sts (sv_sts (sv_sts (sv_sts (sv_sts (sv_sts (sv_sts (sv_sts (sv_sts (sv_sts (sv_sts (sv_sts (sv_sts (sv_up (sv_up (sv_sts S [68, 69, 70, 81, 82, 83, 84, 85, 86, 76, 77] g2) 74 (639 : Int) (0 : Int)) 78 (639 : Int) (0 : Int)) [68, 69, 70, 81, 82, 83, 84, 85, 86] g12) [68, 69, 70] g19) [68, 69, 70] g28) [68, 69, 70] g36) [68, 69, 70] g44) [68, 69, 70] g52) [68, 69, 70] g60) [68, 69, 70] g68) [68, 69, 70] g76) [68, 69, 70] g84) [68, 69, 70] g91) [68, 69, 70] g140) [68, 69, 70] g149) [68, 69, 70] g160) [68, 69, 70] g169) := sv_mod.sts md165 (by decide)
              have md175 : sv_mod [68, 69, 70] (sv_sts (sv_up (sv_up (sv_sts S [68, 69, 70, 81, 82, 83, 84, 85, 86, 76, 77] g2) 74 (639 : Int) (0 : Int)) 78 (639 : Int) (0 : Int)) [68, 69, 70, 81, 82, 83, 84, 85, 86] g12) (sv_sts (sv_sts (sv_sts (sv_sts (sv_sts (sv_sts (sv_sts (sv_sts (sv_sts (sv_sts (sv_sts (sv_sts (sv_sts (sv_sts (sv_sts (sv_up (sv_up (sv_sts S [68, 69, 70, 81, 82, 83, 84, 85, 86, 76, 77] g2) 74 (639 : Int) (0 : Int)) 78 (639 : Int) (0 : Int)) [68, 69, 70, 81, 82, 83, 84, 85, 86] g12) [68, 69, 70] g19) [68, 69, 70] g28) [68, 69, 70] g36) [68, 69, 70] g44) [68, 69, 70] g52) [68, 69, 70] g60) [68, 69, 70] g68) [68, 69, 70] g76) [68, 69, 70] g84) [68, 69, 70] g91) [68, 69, 70] g140) [68, 69, 70] g149) [68, 69, 70] g160) [68, 69, 70] g169) := sv_mod.sts md166 (by decide)
              have md176 : sv_mod [68, 69, 70] (sv_sts (sv_sts (sv_sts (sv_sts (sv_sts (sv_sts (sv_sts (sv_sts (sv_sts (sv_sts (sv_up (sv_up (sv_sts S [68, 69, 70, 81, 82, 83, 84, 85, 86, 76, 77] g2) 74 (639 : Int) (0 : Int)) 78 (639 : Int) (0 : Int)) [68, 69, 70, 81, 82, 83, 84, 85, 86] g12) [68, 69, 70] g19) [68, 69, 70] g28) [68, 69, 70] g36) [68, 69, 70] g44) [68, 69, 70] g52) [68, 69, 70] g60) [68, 69, 70] g68) [68, 69, 70] g76) [68, 69, 70] g84) (sv_sts (sv_sts (sv_sts (sv_sts (sv_sts (sv_sts (sv_sts (sv_sts (sv_sts (sv_sts (sv_sts (sv_sts (sv_sts (sv_sts (sv_sts (sv_up (sv_up (sv_sts S [68, 69, 70, 81, 82, 83, 84, 85, 86, 76, 77] g2) 74 (639 : Int) (0 : Int)) 78 (639 : Int) (0 : Int)) [68, 69, 70, 81, 82, 83, 84, 85, 86] g12) [68, 69, 70] g19) [68, 69, 70] g28) [68, 69, 70] g36) [68, 69, 70] g44) [68, 69, 70] g52) [68, 69, 70] g60) [68, 69, 70] g68) [68, 69, 70] g76) [68, 69, 70] g84) [68, 69, 70] g91) [68, 69, 70] g140) [68, 69, 70] g149) [68, 69, 70] g160) [68, 69, 70] g169) := sv_mod.sts md167 (by decide)
              have h := h g169 hpo172
              refine sv_iinc (d := (1 : Int)) hM dX12_beginWork_216 rfl (by decide) rfl rfl ?_
              show sv_T sm_XS sm_cs sm_L sm_sh 4 (q_beginWork S) 293 219 [(0, .ref 0), (1, sv_I (l1_92 + (1 : Int)))] [] (sv_sts (sv_sts (sv_sts (sv_sts (sv_sts (sv_sts (sv_sts (sv_sts (sv_sts (sv_sts (sv_sts (sv_sts (sv_sts (sv_sts (sv_sts (sv_up (sv_up (sv_sts S [68, 69, 70, 81, 82, 83, 84, 85, 86, 76, 77] g2) 74 (639 : Int) (0 : Int)) 78 (639 : Int) (0 : Int)) [68, 69, 70, 81, 82, 83, 84, 85, 86] g12) [68, 69, 70] g19) [68, 69, 70] g28) [68, 69, 70] g36) [68, 69, 70] g44) [68, 69, 70] g52) [68, 69, 70] g60) [68, 69, 70] g68) [68, 69, 70] g76) [68, 69, 70] g84) [68, 69, 70] g91) [68, 69, 70] g140) [68, 69, 70] g149) [68, 69, 70] g160) [68, 69, 70] g169)
              refine sv_goto hM dX12_beginWork_219 (pc' := 171) rfl ?_
              obtain ⟨o177, h⟩ := h
              have eS := sv_mod.eq md176
              have hb := ih93 ((l1_92 + (1 : Int)), (sv_sts (sv_sts (sv_sts (sv_sts (sv_sts (sv_sts (sv_sts (sv_sts (sv_sts (sv_sts (sv_sts (sv_sts (sv_sts (sv_sts (sv_sts (sv_up (sv_up (sv_sts S [68, 69, 70, 81, 82, 83, 84, 85, 86, 76, 77] g2) 74 (639 : Int) (0 : Int)) 78 (639 : Int) (0 : Int)) [68, 69, 70, 81, 82, 83, 84, 85, 86] g12) [68, 69, 70] g19) [68, 69, 70] g28) [68, 69, 70] g36) [68, 69, 70] g44) [68, 69, 70] g52) [68, 69, 70] g60) [68, 69, 70] g68) [68, 69, 70] g76) [68, 69, 70] g84) [68, 69, 70] g91) [68, 69, 70] g140) [68, 69, 70] g149) [68, 69, 70] g160) [68, 69, 70] g169)) ⟨o177, (by rw [← eS]; exact ok170), h.1⟩ h.2
              have hb : sv_T sm_XS sm_cs sm_L sm_sh 4 (q_beginWork S) 293 171 [(0, .ref 0), (1, sv_I (l1_92 + (1 : Int)))] [] (sv_sts (sv_sts (sv_sts (sv_sts (sv_sts (sv_sts (sv_sts (sv_sts (sv_sts (sv_sts (sv_sts (sv_sts (sv_sts (sv_sts (sv_sts (sv_up (sv_up (sv_sts S [68, 69, 70, 81, 82, 83, 84, 85, 86, 76, 77] g2) 74 (639 : Int) (0 : Int)) 78 (639 : Int) (0 : Int)) [68, 69, 70, 81, 82, 83, 84, 85, 86] g12) [68, 69, 70] g19) [68, 69, 70] g28) [68, 69, 70] g36) [68, 69, 70] g44) [68, 69, 70] g52) [68, 69, 70] g60) [68, 69, 70] g68) [68, 69, 70] g76) [68, 69, 70] g84) [68, 69, 70] g91) [68, 69, 70] g140) [68, 69, 70] g149) [68, 69, 70] g160) [68, 69, 70] g169) := Eq.mpr (congrArg (fun Z => sv_T sm_XS sm_cs sm_L sm_sh 4 (q_beginWork S) 293 171 [(0, .ref 0), (1, sv_I (l1_92 + (1 : Int)))] [] Z) eS) hb
              exact sv_less (lv := [(0, .ref 0), (1, sv_I (l1_92 + (1 : Int)))]) (sv_Sub_cons rfl (sv_Sub_cons rfl sv_Sub_nil)) hb
          have eS := sv_mod.eq (sv_mod.rf (l := [68, 69, 70]) (S := (sv_sts (sv_sts (sv_sts (sv_sts (sv_sts (sv_sts (sv_sts (sv_sts (sv_sts (sv_sts (sv_up (sv_up (sv_sts S [68, 69, 70, 81, 82, 83, 84, 85, 86, 76, 77] g2) 74 (639 : Int) (0 : Int)) 78 (639 : Int) (0 : Int)) [68, 69, 70, 81, 82, 83, 84, 85, 86] g12) [68, 69, 70] g19) [68, 69, 70] g28) [68, 69, 70] g36) [68, 69, 70] g44) [68, 69, 70] g52) [68, 69, 70] g60) [68, 69, 70] g68) [68, 69, 70] g76) [68, 69, 70] g84)))
          have hb := hJ ((0 : Int), (sv_sts (sv_sts (sv_sts (sv_sts (sv_sts (sv_sts (sv_sts (sv_sts (sv_sts (sv_sts (sv_up (sv_up (sv_sts S [68, 69, 70, 81, 82, 83, 84, 85, 86, 76, 77] g2) 74 (639 : Int) (0 : Int)) 78 (639 : Int) (0 : Int)) [68, 69, 70, 81, 82, 83, 84, 85, 86] g12) [68, 69, 70] g19) [68, 69, 70] g28) [68, 69, 70] g36) [68, 69, 70] g44) [68, 69, 70] g52) [68, 69, 70] g60) [68, 69, 70] g68) [68, 69, 70] g76) [68, 69, 70] g84)) ⟨(⟨by decide, by decide⟩ : sv_R (0 : Int)), (by rw [← eS]; exact ok85), hin94⟩
          have hb : sv_T sm_XS sm_cs sm_L sm_sh 4 (q_beginWork S) 293 171 [(0, .ref 0), (1, sv_I (0 : Int))] [] (sv_sts (sv_sts (sv_sts (sv_sts (sv_sts (sv_sts (sv_sts (sv_sts (sv_sts (sv_sts (sv_up (sv_up (sv_sts S [68, 69, 70, 81, 82, 83, 84, 85, 86, 76, 77] g2) 74 (639 : Int) (0 : Int)) 78 (639 : Int) (0 : Int)) [68, 69, 70, 81, 82, 83, 84, 85, 86] g12) [68, 69, 70] g19) [68, 69, 70] g28) [68, 69, 70] g36) [68, 69, 70] g44) [68, 69, 70] g52) [68, 69, 70] g60) [68, 69, 70] g68) [68, 69, 70] g76) [68, 69, 70] g84) := Eq.mpr (congrArg (fun Z => sv_T sm_XS sm_cs sm_L sm_sh 4 (q_beginWork S) 293 171 [(0, .ref 0), (1, sv_I (0 : Int))] [] Z) eS) hb
          exact hb
        · have h := h.2 (hc)
          refine sv_aload_n hM dX12_beginWork_82 rfl rfl ?_
          refine sv_iconst (d := (0 : Int)) hM dX12_beginWork_83 rfl rfl ?_
          refine sv_iconst (d := (5 : Int)) hM dX12_beginWork_84 rfl rfl ?_
          refine sv_iload_n hM dX12_beginWork_85 rfl rfl ?_
          refine sv_iadd hM dX12_beginWork_86 rfl ?_
          refine sv_bipush (d := (9 : Int)) hM dX12_beginWork_87 rfl rfl ?_
          refine sv_iload_n hM dX12_beginWork_89 rfl rfl ?_
          refine sv_iadd hM dX12_beginWork_90 rfl ?_
          obtain ⟨o178, h⟩ := h
          obtain ⟨o179, h⟩ := h
          obtain ⟨o180, h⟩ := h
          refine sv_callV hM dX12_beginWork_91 sm_iv_1370 (by decide) (sm_a0 _) rfl rfl (Nat.le_of_ble_eq_true rfl) sm_h292 (Nat.le_of_ble_eq_true rfl) (Nat.le_of_ble_eq_true rfl) (F' := 3) (Nat.le_of_ble_eq_true rfl) rfl (t_hasField (0 : Int) ((5 : Int) + l1_20) ((9 : Int) + l1_20) (sv_sts (sv_sts (sv_up (sv_up (sv_sts S [68, 69, 70, 81, 82, 83, 84, 85, 86, 76, 77] g2) 74 (639 : Int) (0 : Int)) 78 (639 : Int) (0 : Int)) [68, 69, 70, 81, 82, 83, 84, 85, 86] g12) [68, 69, 70] g19) ok23 (⟨by decide, by decide⟩ : sv_R (0 : Int)) o178 o179 o180) (fun v S1 hq => ?_)
          obtain ⟨rfl, ok182, md183, hpo184⟩ := hq
          obtain ⟨g181, rfl⟩ : ∃ g, S1 = sv_sts (sv_sts (sv_sts (sv_up (sv_up (sv_sts S [68, 69, 70, 81, 82, 83, 84, 85, 86, 76, 77] g2) 74 (639 : Int) (0 : Int)) 78 (639 : Int) (0 : Int)) [68, 69, 70, 81, 82, 83, 84, 85, 86] g12) [68, 69, 70] g19) [68, 69, 70] g := ⟨_, md183.eq⟩
          show sv_T sm_XS sm_cs sm_L sm_sh 4 (q_beginWork S) 293 94 [(0, .ref 0), (1, sv_I l1_20)] [] (sv_sts (sv_sts (sv_sts (sv_up (sv_up (sv_sts S [68, 69, 70, 81, 82, 83, 84, 85, 86, 76, 77] g2) 74 (639 : Int) (0 : Int)) 78 (639 : Int) (0 : Int)) [68, 69, 70, 81, 82, 83, 84, 85, 86] g12) [68, 69, 70] g19) [68, 69, 70] g181)
          have md185 : sv_mod [68, 69, 70, 81, 82, 83, 84, 85, 86, 1143, 1144, 5, 1011, 74, 78, 76, 77] S (sv_sts (sv_sts (sv_sts (sv_up (sv_up (sv_sts S [68, 69, 70, 81, 82, 83, 84, 85, 86, 76, 77] g2) 74 (639 : Int) (0 : Int)) 78 (639 : Int) (0 : Int)) [68, 69, 70, 81, 82, 83, 84, 85, 86] g12) [68, 69, 70] g19) [68, 69, 70] g181) := sv_mod.sts md24 (by decide)
          have md186 : sv_mod [68, 69, 70, 81, 82, 83, 84, 85, 86] (sv_up (sv_up (sv_sts S [68, 69, 70, 81, 82, 83, 84, 85, 86, 76, 77] g2) 74 (639 : Int) (0 : Int)) 78 (639 : Int) (0 : Int)) (sv_sts (sv_sts (sv_sts (sv_up (sv_up (sv_sts S [68, 69, 70, 81, 82, 83, 84, 85, 86, 76, 77] g2) 74 (639 : Int) (0 : Int)) 78 (639 : Int) (0 : Int)) [68, 69, 70, 81, 82, 83, 84, 85, 86] g12) [68, 69, 70] g19) [68, 69, 70] g181) := sv_mod.sts md25 (by decide)
          have md187 : sv_mod [68, 69, 70] (sv_sts (sv_up (sv_up (sv_sts S [68, 69, 70, 81, 82, 83, 84, 85, 86, 76, 77] g2) 74 (639 : Int) (0 : Int)) 78 (639 : Int) (0 : Int)) [68, 69, 70, 81, 82, 83, 84, 85, 86] g12) (sv_sts (sv_sts (sv_sts (sv_up (sv_up (sv_sts S [68, 69, 70, 81, 82, 83, 84, 85, 86, 76, 77] g2) 74 (639 : Int) (0 : Int)) 78 (639 : Int) (0 : Int)) [68, 69, 70, 81, 82, 83, 84, 85, 86] g12) [68, 69, 70] g19) [68, 69, 70] g181) := sv_mod.sts md26 (by decide)
          have h := h g181 hpo184
          refine sv_iinc (d := (1 : Int)) hM dX12_beginWork_94 rfl (by decide) rfl rfl ?_
          show sv_T sm_XS sm_cs sm_L sm_sh 4 (q_beginWork S) 293 97 [(0, .ref 0), (1, sv_I (l1_20 + (1 : Int)))] [] (sv_sts (sv_sts (sv_sts (sv_up (sv_up (sv_sts S [68, 69, 70, 81, 82, 83, 84, 85, 86, 76, 77] g2) 74 (639 : Int) (0 : Int)) 78 (639 : Int) (0 : Int)) [68, 69, 70, 81, 82, 83, 84, 85, 86] g12) [68, 69, 70] g19) [68, 69, 70] g181)
          refine sv_goto hM dX12_beginWork_97 (pc' := 76) rfl ?_
          obtain ⟨o188, h⟩ := h
          have eS := sv_mod.eq md187
          have hb := ih21 ((l1_20 + (1 : Int)), (sv_sts (sv_sts (sv_sts (sv_up (sv_up (sv_sts S [68, 69, 70, 81, 82, 83, 84, 85, 86, 76, 77] g2) 74 (639 : Int) (0 : Int)) 78 (639 : Int) (0 : Int)) [68, 69, 70, 81, 82, 83, 84, 85, 86] g12) [68, 69, 70] g19) [68, 69, 70] g181)) ⟨o188, (by rw [← eS]; exact ok182), h.1⟩ h.2
          have hb : sv_T sm_XS sm_cs sm_L sm_sh 4 (q_beginWork S) 293 76 [(0, .ref 0), (1, sv_I (l1_20 + (1 : Int)))] [] (sv_sts (sv_sts (sv_sts (sv_up (sv_up (sv_sts S [68, 69, 70, 81, 82, 83, 84, 85, 86, 76, 77] g2) 74 (639 : Int) (0 : Int)) 78 (639 : Int) (0 : Int)) [68, 69, 70, 81, 82, 83, 84, 85, 86] g12) [68, 69, 70] g19) [68, 69, 70] g181) := Eq.mpr (congrArg (fun Z => sv_T sm_XS sm_cs sm_L sm_sh 4 (q_beginWork S) 293 76 [(0, .ref 0), (1, sv_I (l1_20 + (1 : Int)))] [] Z) eS) hb
          exact sv_less (lv := [(0, .ref 0), (1, sv_I (l1_20 + (1 : Int)))]) (sv_Sub_cons rfl (sv_Sub_cons rfl sv_Sub_nil)) hb
      have eS := sv_mod.eq (sv_mod.rf (l := [68, 69, 70]) (S := (sv_sts (sv_up (sv_up (sv_sts S [68, 69, 70, 81, 82, 83, 84, 85, 86, 76, 77] g2) 74 (639 : Int) (0 : Int)) 78 (639 : Int) (0 : Int)) [68, 69, 70, 81, 82, 83, 84, 85, 86] g12)))
      have hb := hJ ((0 : Int), (sv_sts (sv_up (sv_up (sv_sts S [68, 69, 70, 81, 82, 83, 84, 85, 86, 76, 77] g2) 74 (639 : Int) (0 : Int)) 78 (639 : Int) (0 : Int)) [68, 69, 70, 81, 82, 83, 84, 85, 86] g12)) ⟨(⟨by decide, by decide⟩ : sv_R (0 : Int)), (by rw [← eS]; exact ok16), hin22⟩
      have hb : sv_T sm_XS sm_cs sm_L sm_sh 4 (q_beginWork S) 293 76 [(0, .ref 0), (1, sv_I (0 : Int))] [] (sv_sts (sv_up (sv_up (sv_sts S [68, 69, 70, 81, 82, 83, 84, 85, 86, 76, 77] g2) 74 (639 : Int) (0 : Int)) 78 (639 : Int) (0 : Int)) [68, 69, 70, 81, 82, 83, 84, 85, 86] g12) := Eq.mpr (congrArg (fun Z => sv_T sm_XS sm_cs sm_L sm_sh 4 (q_beginWork S) 293 76 [(0, .ref 0), (1, sv_I (0 : Int))] [] Z) eS) hb
      exact hb
    · have h := h.2 (hc)
      refine sv_aload_n hM dX12_beginWork_33 rfl rfl ?_
      refine sv_iload_n hM dX12_beginWork_34 rfl rfl ?_
      refine sv_iload_n hM dX12_beginWork_35 rfl rfl ?_
      refine sv_iconst (d := (1 : Int)) hM dX12_beginWork_36 rfl rfl ?_
      refine sv_icmp_ne hM dX12_beginWork_37 hl1_13 (⟨by decide, by decide⟩ : sv_R (1 : Int)) (t := 44) rfl rfl (fun hc => ?_) (fun hc => ?_)
      · have h := h.1 (hc)
        refine sv_iload_n hM dX12_beginWork_44 rfl rfl ?_
        refine sv_bipush (d := (6 : Int)) hM dX12_beginWork_45 rfl rfl ?_
        refine sv_icmp_ge hM dX12_beginWork_47 hl1_13 (⟨by decide, by decide⟩ : sv_R (6 : Int)) (t := 54) rfl rfl (fun hc => ?_) (fun hc => ?_)
        · have h := h.1 (hc)
          refine sv_iload_n hM dX12_beginWork_54 rfl rfl ?_
          refine sv_bipush (d := (9 : Int)) hM dX12_beginWork_55 rfl rfl ?_
          refine sv_icmp_ge hM dX12_beginWork_57 hl1_13 (⟨by decide, by decide⟩ : sv_R (9 : Int)) (t := 64) rfl rfl (fun hc => ?_) (fun hc => ?_)
          · have h := h.1 (hc)
            refine sv_iconst (d := (2 : Int)) hM dX12_beginWork_64 rfl rfl ?_
            obtain ⟨o189, h⟩ := h
            refine sv_callV hM dX12_beginWork_65 sm_iv_1182 (by decide) (sm_a0 _) rfl rfl (Nat.le_of_ble_eq_true rfl) sm_h252 (Nat.le_of_ble_eq_true rfl) (Nat.le_of_ble_eq_true rfl) (F' := 2) (Nat.le_of_ble_eq_true rfl) rfl (t_newLabel l1_13 (2 : Int) (sv_sts (sv_up (sv_up (sv_sts S [68, 69, 70, 81, 82, 83, 84, 85, 86, 76, 77] g2) 74 (639 : Int) (0 : Int)) 78 (639 : Int) (0 : Int)) [68, 69, 70, 81, 82, 83, 84, 85, 86] g12) ok16 hl1_13 (⟨by decide, by decide⟩ : sv_R (2 : Int)) o189) (fun v S1 hq => ?_)
            obtain ⟨rfl, ok191, md192, hpo193⟩ := hq
            obtain ⟨g190, rfl⟩ : ∃ g, S1 = sv_sts (sv_sts (sv_up (sv_up (sv_sts S [68, 69, 70, 81, 82, 83, 84, 85, 86, 76, 77] g2) 74 (639 : Int) (0 : Int)) 78 (639 : Int) (0 : Int)) [68, 69, 70, 81, 82, 83, 84, 85, 86] g12) [68, 69, 70, 81, 82, 83, 84, 85, 86] g := ⟨_, md192.eq⟩
            show sv_T sm_XS sm_cs sm_L sm_sh 4 (q_beginWork S) 293 68 [(0, .ref 0), (1, sv_I l1_13)] [] (sv_sts (sv_sts (sv_up (sv_up (sv_sts S [68, 69, 70, 81, 82, 83, 84, 85, 86, 76, 77] g2) 74 (639 : Int) (0 : Int)) 78 (639 : Int) (0 : Int)) [68, 69, 70, 81, 82, 83, 84, 85, 86] g12) [68, 69, 70, 81, 82, 83, 84, 85, 86] g190)
            have md194 : sv_mod [68, 69, 70, 81, 82, 83, 84, 85, 86, 1143, 1144, 5, 1011, 74, 78, 76, 77] S (sv_sts (sv_sts (sv_up (sv_up (sv_sts S [68, 69, 70, 81, 82, 83, 84, 85, 86, 76, 77] g2) 74 (639 : Int) (0 : Int)) 78 (639 : Int) (0 : Int)) [68, 69, 70, 81, 82, 83, 84, 85, 86] g12) [68, 69, 70, 81, 82, 83, 84, 85, 86] g190) := sv_mod.sts md17 (by decide)
            have md195 : sv_mod [68, 69, 70, 81, 82, 83, 84, 85, 86] (sv_up (sv_up (sv_sts S [68, 69, 70, 81, 82, 83, 84, 85, 86, 76, 77] g2) 74 (639 : Int) (0 : Int)) 78 (639 : Int) (0 : Int)) (sv_sts (sv_sts (sv_up (sv_up (sv_sts S [68, 69, 70, 81, 82, 83, 84, 85, 86, 76, 77] g2) 74 (639 : Int) (0 : Int)) 78 (639 : Int) (0 : Int)) [68, 69, 70, 81, 82, 83, 84, 85, 86] g12) [68, 69, 70, 81, 82, 83, 84, 85, 86] g190) := sv_mod.sts md18 (by decide)
            have h := h g190 hpo193
            refine sv_iinc (d := (1 : Int)) hM dX12_beginWork_68 rfl (by decide) rfl rfl ?_
            show sv_T sm_XS sm_cs sm_L sm_sh 4 (q_beginWork S) 293 71 [(0, .ref 0), (1, sv_I (l1_13 + (1 : Int)))] [] (sv_sts (sv_sts (sv_up (sv_up (sv_sts S [68, 69, 70, 81, 82, 83, 84, 85, 86, 76, 77] g2) 74 (639 : Int) (0 : Int)) 78 (639 : Int) (0 : Int)) [68, 69, 70, 81, 82, 83, 84, 85, 86] g12) [68, 69, 70, 81, 82, 83, 84, 85, 86] g190)
            refine sv_goto hM dX12_beginWork_71 (pc' := 27) rfl ?_
            obtain ⟨o196, h⟩ := h
            have eS := sv_mod.eq md195
            have hb := ih14 ((l1_13 + (1 : Int)), (sv_sts (sv_sts (sv_up (sv_up (sv_sts S [68, 69, 70, 81, 82, 83, 84, 85, 86, 76, 77] g2) 74 (639 : Int) (0 : Int)) 78 (639 : Int) (0 : Int)) [68, 69, 70, 81, 82, 83, 84, 85, 86] g12) [68, 69, 70, 81, 82, 83, 84, 85, 86] g190)) ⟨o196, (by rw [← eS]; exact ok191), h.1⟩ h.2
            have hb : sv_T sm_XS sm_cs sm_L sm_sh 4 (q_beginWork S) 293 27 [(0, .ref 0), (1, sv_I (l1_13 + (1 : Int)))] [] (sv_sts (sv_sts (sv_up (sv_up (sv_sts S [68, 69, 70, 81, 82, 83, 84, 85, 86, 76, 77] g2) 74 (639 : Int) (0 : Int)) 78 (639 : Int) (0 : Int)) [68, 69, 70, 81, 82, 83, 84, 85, 86] g12) [68, 69, 70, 81, 82, 83, 84, 85, 86] g190) := Eq.mpr (congrArg (fun Z => sv_T sm_XS sm_cs sm_L sm_sh 4 (q_beginWork S) 293 27 [(0, .ref 0), (1, sv_I (l1_13 + (1 : Int)))] [] Z) eS) hb
            exact sv_less (lv := [(0, .ref 0), (1, sv_I (l1_13 + (1 : Int)))]) (sv_Sub_cons rfl (sv_Sub_cons rfl sv_Sub_nil)) hb
          · have h := h.2 (hc)
            refine sv_iconst (d := (5 : Int)) hM dX12_beginWork_60 rfl rfl ?_
            refine sv_goto hM dX12_beginWork_61 (pc' := 65) rfl ?_
            obtain ⟨o197, h⟩ := h
            refine sv_callV hM dX12_beginWork_65 sm_iv_1182 (by decide) (sm_a0 _) rfl rfl (Nat.le_of_ble_eq_true rfl) sm_h252 (Nat.le_of_ble_eq_true rfl) (Nat.le_of_ble_eq_true rfl) (F' := 2) (Nat.le_of_ble_eq_true rfl) rfl (t_newLabel l1_13 (5 : Int) (sv_sts (sv_up (sv_up (sv_sts S [68, 69, 70, 81, 82, 83, 84, 85, 86, 76, 77] g2) 74 (639 : Int) (0 : Int)) 78 (639 : Int) (0 : Int)) [68, 69, 70, 81, 82, 83, 84, 85, 86] g12) ok16 hl1_13 (⟨by decide, by decide⟩ : sv_R (5 : Int)) o197) (fun v S1 hq => ?_)
            obtain ⟨rfl, ok199, md200, hpo201⟩ := hq
            obtain ⟨g198, rfl⟩ : ∃ g, S1 = sv_sts (sv_sts (sv_up (sv_up (sv_sts S [68, 69, 70, 81, 82, 83, 84, 85, 86, 76, 77] g2) 74 (639 : Int) (0 : Int)) 78 (639 : Int) (0 : Int)) [68, 69, 70, 81, 82, 83, 84, 85, 86] g12) [68, 69, 70, 81, 82, 83, 84, 85, 86] g := ⟨_, md200.eq⟩
            show sv_T sm_XS sm_cs sm_L sm_sh 4 (q_beginWork S) 293 68 [(0, .ref 0), (1, sv_I l1_13)] [] (sv_sts (sv_sts (sv_up (sv_up (sv_sts S [68, 69, 70, 81, 82, 83, 84, 85, 86, 76, 77] g2) 74 (639 : Int) (0 : Int)) 78 (639 : Int) (0 : Int)) [68, 69, 70, 81, 82, 83, 84, 85, 86] g12) [68, 69, 70, 81, 82, 83, 84, 85, 86] g198)
            have md202 : sv_mod [68, 69, 70, 81, 82, 83, 84, 85, 86, 1143, 1144, 5, 1011, 74, 78, 76, 77] S (sv_sts (sv_sts (sv_up (sv_up (sv_sts S [68, 69, 70, 81, 82, 83, 84, 85, 86, 76, 77] g2) 74 (639 : Int) (0 : Int)) 78 (639 : Int) (0 : Int)) [68, 69, 70, 81, 82, 83, 84, 85, 86] g12) [68, 69, 70, 81, 82, 83, 84, 85, 86] g198) := sv_mod.sts md17 (by decide)
            have md203 : sv_mod [68, 69, 70, 81, 82, 83, 84, 85, 86] (sv_up (sv_up (sv_sts S [68, 69, 70, 81, 82, 83, 84, 85, 86, 76, 77] g2) 74 (639 : Int) (0 : Int)) 78 (639 : Int) (0 : Int)) (sv_sts (sv_sts (sv_up (sv_up (sv_sts S [68, 69, 70, 81, 82, 83, 84, 85, 86, 76, 77] g2) 74 (639 : Int) (0 : Int)) 78 (639 : Int) (0 : Int)) [68, 69, 70, 81, 82, 83, 84, 85, 86] g12) [68, 69, 70, 81, 82, 83, 84, 85, 86] g198) := sv_mod.sts md18 (by decide)
            have h := h g198 hpo201
            refine sv_iinc (d := (1 : Int)) hM dX12_beginWork_68 rfl (by decide) rfl rfl ?_
            show sv_T sm_XS sm_cs sm_L sm_sh 4 (q_beginWork S) 293 71 [(0, .ref 0), (1, sv_I (l1_13 + (1 : Int)))] [] (sv_sts (sv_sts (sv_up (sv_up (sv_sts S [68, 69, 70, 81, 82, 83, 84, 85, 86, 76, 77] g2) 74 (639 : Int) (0 : Int)) 78 (639 : Int) (0 : Int)) [68, 69, 70, 81, 82, 83, 84, 85, 86] g12) [68, 69, 70, 81, 82, 83, 84, 85, 86] g198)
            refine sv_goto hM dX12_beginWork_71 (pc' := 27) rfl ?_
            obtain ⟨o204, h⟩ := h
            have eS := sv_mod.eq md203
            have hb := ih14 ((l1_13 + (1 : Int)), (sv_sts (sv_sts (sv_up (sv_up (sv_sts S [68, 69, 70, 81, 82, 83, 84, 85, 86, 76, 77] g2) 74 (639 : Int) (0 : Int)) 78 (639 : Int) (0 : Int)) [68, 69, 70, 81, 82, 83, 84, 85, 86] g12) [68, 69, 70, 81, 82, 83, 84, 85, 86] g198)) ⟨o204, (by rw [← eS]; exact ok199), h.1⟩ h.2
            have hb : sv_T sm_XS sm_cs sm_L sm_sh 4 (q_beginWork S) 293 27 [(0, .ref 0), (1, sv_I (l1_13 + (1 : Int)))] [] (sv_sts (sv_sts (sv_up (sv_up (sv_sts S [68, 69, 70, 81, 82, 83, 84, 85, 86, 76, 77] g2) 74 (639 : Int) (0 : Int)) 78 (639 : Int) (0 : Int)) [68, 69, 70, 81, 82, 83, 84, 85, 86] g12) [68, 69, 70, 81, 82, 83, 84, 85, 86] g198) := Eq.mpr (congrArg (fun Z => sv_T sm_XS sm_cs sm_L sm_sh 4 (q_beginWork S) 293 27 [(0, .ref 0), (1, sv_I (l1_13 + (1 : Int)))] [] Z) eS) hb
            exact sv_less (lv := [(0, .ref 0), (1, sv_I (l1_13 + (1 : Int)))]) (sv_Sub_cons rfl (sv_Sub_cons rfl sv_Sub_nil)) hb
        · have h := h.2 (hc)
          refine sv_iconst (d := (1 : Int)) hM dX12_beginWork_50 rfl rfl ?_
          refine sv_goto hM dX12_beginWork_51 (pc' := 65) rfl ?_
          obtain ⟨o205, h⟩ := h
          refine sv_callV hM dX12_beginWork_65 sm_iv_1182 (by decide) (sm_a0 _) rfl rfl (Nat.le_of_ble_eq_true rfl) sm_h252 (Nat.le_of_ble_eq_true rfl) (Nat.le_of_ble_eq_true rfl) (F' := 2) (Nat.le_of_ble_eq_true rfl) rfl (t_newLabel l1_13 (1 : Int) (sv_sts (sv_up (sv_up (sv_sts S [68, 69, 70, 81, 82, 83, 84, 85, 86, 76, 77] g2) 74 (639 : Int) (0 : Int)) 78 (639 : Int) (0 : Int)) [68, 69, 70, 81, 82, 83, 84, 85, 86] g12) ok16 hl1_13 (⟨by decide, by decide⟩ : sv_R (1 : Int)) o205) (fun v S1 hq => ?_)
          obtain ⟨rfl, ok207, md208, hpo209⟩ := hq
          obtain ⟨g206, rfl⟩ : ∃ g, S1 = sv_sts (sv_sts (sv_up (sv_up (sv_sts S [68, 69, 70, 81, 82, 83, 84, 85, 86, 76, 77] g2) 74 (639 : Int) (0 : Int)) 78 (639 : Int) (0 : Int)) [68, 69, 70, 81, 82, 83, 84, 85, 86] g12) [68, 69, 70, 81, 82, 83, 84, 85, 86] g := ⟨_, md208.eq⟩
          show sv_T sm_XS sm_cs sm_L sm_sh 4 (q_beginWork S) 293 68 [(0, .ref 0), (1, sv_I l1_13)] [] (sv_sts (sv_sts (sv_up (sv_up (sv_sts S [68, 69, 70, 81, 82, 83, 84, 85, 86, 76, 77] g2) 74 (639 : Int) (0 : Int)) 78 (639 : Int) (0 : Int)) [68, 69, 70, 81, 82, 83, 84, 85, 86] g12) [68, 69, 70, 81, 82, 83, 84, 85, 86] g206)
          have md210 : sv_mod [68, 69, 70, 81, 82, 83, 84, 85, 86, 1143, 1144, 5, 1011, 74, 78, 76, 77] S (sv_sts (sv_sts (sv_up (sv_up (sv_sts S [68, 69, 70, 81, 82, 83, 84, 85, 86, 76, 77] g2) 74 (639 : Int) (0 : Int)) 78 (639 : Int) (0 : Int)) [68, 69, 70, 81, 82, 83, 84, 85, 86] g12) [68, 69, 70, 81, 82, 83, 84, 85, 86] g206) := sv_mod.sts md17 (by decide)
          have md211 : sv_mod [68, 69, 70, 81, 82, 83, 84, 85, 86] (sv_up (sv_up (sv_sts S [68, 69, 70, 81, 82, 83, 84, 85, 86, 76, 77] g2) 74 (639 : Int) (0 : Int)) 78 (639 : Int) (0 : Int)) (sv_sts (sv_sts (sv_up (sv_up (sv_sts S [68, 69, 70, 81, 82, 83, 84, 85, 86, 76, 77] g2) 74 (639 : Int) (0 : Int)) 78 (639 : Int) (0 : Int)) [68, 69, 70, 81, 82, 83, 84, 85, 86] g12) [68, 69, 70, 81, 82, 83, 84, 85, 86] g206) := sv_mod.sts md18 (by decide)
          have h := h g206 hpo209
          refine sv_iinc (d := (1 : Int)) hM dX12_beginWork_68 rfl (by decide) rfl rfl ?_
          show sv_T sm_XS sm_cs sm_L sm_sh 4 (q_beginWork S) 293 71 [(0, .ref 0), (1, sv_I (l1_13 + (1 : Int)))] [] (sv_sts (sv_sts (sv_up (sv_up (sv_sts S [68, 69, 70, 81, 82, 83, 84, 85, 86, 76, 77] g2) 74 (639 : Int) (0 : Int)) 78 (639 : Int) (0 : Int)) [68, 69, 70, 81, 82, 83, 84, 85, 86] g12) [68, 69, 70, 81, 82, 83, 84, 85, 86] g206)
          refine sv_goto hM dX12_beginWork_71 (pc' := 27) rfl ?_
          obtain ⟨o212, h⟩ := h
          have eS := sv_mod.eq md211
          have hb := ih14 ((l1_13 + (1 : Int)), (sv_sts (sv_sts (sv_up (sv_up (sv_sts S [68, 69, 70, 81, 82, 83, 84, 85, 86, 76, 77] g2) 74 (639 : Int) (0 : Int)) 78 (639 : Int) (0 : Int)) [68, 69, 70, 81, 82, 83, 84, 85, 86] g12) [68, 69, 70, 81, 82, 83, 84, 85, 86] g206)) ⟨o212, (by rw [← eS]; exact ok207), h.1⟩ h.2
          have hb : sv_T sm_XS sm_cs sm_L sm_sh 4 (q_beginWork S) 293 27 [(0, .ref 0), (1, sv_I (l1_13 + (1 : Int)))] [] (sv_sts (sv_sts (sv_up (sv_up (sv_sts S [68, 69, 70, 81, 82, 83, 84, 85, 86, 76, 77] g2) 74 (639 : Int) (0 : Int)) 78 (639 : Int) (0 : Int)) [68, 69, 70, 81, 82, 83, 84, 85, 86] g12) [68, 69, 70, 81, 82, 83, 84, 85, 86] g206) := Eq.mpr (congrArg (fun Z => sv_T sm_XS sm_cs sm_L sm_sh 4 (q_beginWork S) 293 27 [(0, .ref 0), (1, sv_I (l1_13 + (1 : Int)))] [] Z) eS) hb
          exact sv_less (lv := [(0, .ref 0), (1, sv_I (l1_13 + (1 : Int)))]) (sv_Sub_cons rfl (sv_Sub_cons rfl sv_Sub_nil)) hb
      · have h := h.2 (hc)
        refine sv_iconst (d := (-1 : Int)) hM dX12_beginWork_40 rfl rfl ?_
        refine sv_goto hM dX12_beginWork_41 (pc' := 65) rfl ?_
        obtain ⟨o213, h⟩ := h
        refine sv_callV hM dX12_beginWork_65 sm_iv_1182 (by decide) (sm_a0 _) rfl rfl (Nat.le_of_ble_eq_true rfl) sm_h252 (Nat.le_of_ble_eq_true rfl) (Nat.le_of_ble_eq_true rfl) (F' := 2) (Nat.le_of_ble_eq_true rfl) rfl (t_newLabel l1_13 (-1 : Int) (sv_sts (sv_up (sv_up (sv_sts S [68, 69, 70, 81, 82, 83, 84, 85, 86, 76, 77] g2) 74 (639 : Int) (0 : Int)) 78 (639 : Int) (0 : Int)) [68, 69, 70, 81, 82, 83, 84, 85, 86] g12) ok16 hl1_13 (⟨by decide, by decide⟩ : sv_R (-1 : Int)) o213) (fun v S1 hq => ?_)
        obtain ⟨rfl, ok215, md216, hpo217⟩ := hq
        obtain ⟨g214, rfl⟩ : ∃ g, S1 = sv_sts (sv_sts (sv_up (sv_up (sv_sts S [68, 69, 70, 81, 82, 83, 84, 85, 86, 76, 77] g2) 74 (639 : Int) (0 : Int)) 78 (639 : Int) (0 : Int)) [68, 69, 70, 81, 82, 83, 84, 85, 86] g12) [68, 69, 70, 81, 82, 83, 84, 85, 86] g := ⟨_, md216.eq⟩
        show sv_T sm_XS sm_cs sm_L sm_sh 4 (q_beginWork S) 293 68 [(0, .ref 0), (1, sv_I l1_13)] [] (sv_sts (sv_sts (sv_up (sv_up (sv_sts S [68, 69, 70, 81, 82, 83, 84, 85, 86, 76, 77] g2) 74 (639 : Int) (0 : Int)) 78 (639 : Int) (0 : Int)) [68, 69, 70, 81, 82, 83, 84, 85, 86] g12) [68, 69, 70, 81, 82, 83, 84, 85, 86] g214)
        have md218 : sv_mod [68, 69, 70, 81, 82, 83, 84, 85, 86, 1143, 1144, 5, 1011, 74, 78, 76, 77] S (sv_sts (sv_sts (sv_up (sv_up (sv_sts S [68, 69, 70, 81, 82, 83, 84, 85, 86, 76, 77] g2) 74 (639 : Int) (0 : Int)) 78 (639 : Int) (0 : Int)) [68, 69, 70, 81, 82, 83, 84, 85, 86] g12) [68, 69, 70, 81, 82, 83, 84, 85, 86] g214) := sv_mod.sts md17 (by decide)
        have md219 : sv_mod [68, 69, 70, 81, 82, 83, 84, 85, 86] (sv_up (sv_up (sv_sts S [68, 69, 70, 81, 82, 83, 84, 85, 86, 76, 77] g2) 74 (639 : Int) (0 : Int)) 78 (639 : Int) (0 : Int)) (sv_sts (sv_sts (sv_up (sv_up (sv_sts S [68, 69, 70, 81, 82, 83, 84, 85, 86, 76, 77] g2) 74 (639 : Int) (0 : Int)) 78 (639 : Int) (0 : Int)) [68, 69, 70, 81, 82, 83, 84, 85, 86] g12) [68, 69, 70, 81, 82, 83, 84, 85, 86] g214) := sv_mod.sts md18 (by decide)
        have h := h g214 hpo217
        refine sv_iinc (d := (1 : Int)) hM dX12_beginWork_68 rfl (by decide) rfl rfl ?_
        show sv_T sm_XS sm_cs sm_L sm_sh 4 (q_beginWork S) 293 71 [(0, .ref 0), (1, sv_I (l1_13 + (1 : Int)))] [] (sv_sts (sv_sts (sv_up (sv_up (sv_sts S [68, 69, 70, 81, 82, 83, 84, 85, 86, 76, 77] g2) 74 (639 : Int) (0 : Int)) 78 (639 : Int) (0 : Int)) [68, 69, 70, 81, 82, 83, 84, 85, 86] g12) [68, 69, 70, 81, 82, 83, 84, 85, 86] g214)
        refine sv_goto hM dX12_beginWork_71 (pc' := 27) rfl ?_
        obtain ⟨o220, h⟩ := h
        have eS := sv_mod.eq md219
        have hb := ih14 ((l1_13 + (1 : Int)), (sv_sts (sv_sts (sv_up (sv_up (sv_sts S [68, 69, 70, 81, 82, 83, 84, 85, 86, 76, 77] g2) 74 (639 : Int) (0 : Int)) 78 (639 : Int) (0 : Int)) [68, 69, 70, 81, 82, 83, 84, 85, 86] g12) [68, 69, 70, 81, 82, 83, 84, 85, 86] g214)) ⟨o220, (by rw [← eS]; exact ok215), h.1⟩ h.2
        have hb : sv_T sm_XS sm_cs sm_L sm_sh 4 (q_beginWork S) 293 27 [(0, .ref 0), (1, sv_I (l1_13 + (1 : Int)))] [] (sv_sts (sv_sts (sv_up (sv_up (sv_sts S [68, 69, 70, 81, 82, 83, 84, 85, 86, 76, 77] g2) 74 (639 : Int) (0 : Int)) 78 (639 : Int) (0 : Int)) [68, 69, 70, 81, 82, 83, 84, 85, 86] g12) [68, 69, 70, 81, 82, 83, 84, 85, 86] g214) := Eq.mpr (congrArg (fun Z => sv_T sm_XS sm_cs sm_L sm_sh 4 (q_beginWork S) 293 27 [(0, .ref 0), (1, sv_I (l1_13 + (1 : Int)))] [] Z) eS) hb
        exact sv_less (lv := [(0, .ref 0), (1, sv_I (l1_13 + (1 : Int)))]) (sv_Sub_cons rfl (sv_Sub_cons rfl sv_Sub_nil)) hb
  have eS := sv_mod.eq (sv_mod.rf (l := [68, 69, 70, 81, 82, 83, 84, 85, 86]) (S := (sv_up (sv_up (sv_sts S [68, 69, 70, 81, 82, 83, 84, 85, 86, 76, 77] g2) 74 (639 : Int) (0 : Int)) 78 (639 : Int) (0 : Int))))
  have hb := hJ ((0 : Int), (sv_up (sv_up (sv_sts S [68, 69, 70, 81, 82, 83, 84, 85, 86, 76, 77] g2) 74 (639 : Int) (0 : Int)) 78 (639 : Int) (0 : Int))) ⟨(⟨by decide, by decide⟩ : sv_R (0 : Int)), (by rw [← eS]; exact ok10), hin15⟩
  have hb : sv_T sm_XS sm_cs sm_L sm_sh 4 (q_beginWork S) 293 27 [(0, .ref 0), (1, sv_I (0 : Int))] [] (sv_up (sv_up (sv_sts S [68, 69, 70, 81, 82, 83, 84, 85, 86, 76, 77] g2) 74 (639 : Int) (0 : Int)) 78 (639 : Int) (0 : Int)) := Eq.mpr (congrArg (fun Z => sv_T sm_XS sm_cs sm_L sm_sh 4 (q_beginWork S) 293 27 [(0, .ref 0), (1, sv_I (0 : Int))] [] Z) eS) hb
  exact hb
