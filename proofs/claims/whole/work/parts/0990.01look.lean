theorem dX12_look_0 : decode cX12_look 0 = .ok (.iload_n 1, 1) := by decide +kernel
theorem dX12_look_1 : decode cX12_look 1 = .ok (.aload_n 0, 1) := by decide +kernel
theorem dX12_look_2 : decode cX12_look 2 = .ok (.getfield 328, 3) := by decide +kernel
theorem dX12_look_5 : decode cX12_look 5 = .ok (.if_icmp .ge 16, 3) := by decide +kernel
theorem dX12_look_8 : decode cX12_look 8 = .ok (.aload_n 0, 1) := by decide +kernel
theorem dX12_look_9 : decode cX12_look 9 = .ok (.getfield 13, 3) := by decide +kernel
theorem dX12_look_12 : decode cX12_look 12 = .ok (.iload_n 1, 1) := by decide +kernel
theorem dX12_look_13 : decode cX12_look 13 = .ok (.baload, 1) := by decide +kernel
theorem dX12_look_14 : decode cX12_look 14 = .ok (.sipush 255, 3) := by decide +kernel
theorem dX12_look_17 : decode cX12_look 17 = .ok (.iand, 1) := by decide +kernel
theorem dX12_look_18 : decode cX12_look 18 = .ok (.goto 4, 3) := by decide +kernel
theorem dX12_look_21 : decode cX12_look 21 = .ok (.iconst 0, 1) := by decide +kernel
theorem dX12_look_22 : decode cX12_look 22 = .ok (.ireturn, 1) := by decide +kernel
theorem dX12_isThere_0 : decode cX12_isThere 0 = .ok (.iload_n 1, 1) := by decide +kernel
theorem dX12_isThere_1 : decode cX12_isThere 1 = .ok (.aload_n 0, 1) := by decide +kernel
theorem dX12_isThere_2 : decode cX12_isThere 2 = .ok (.getfield 328, 3) := by decide +kernel
theorem dX12_isThere_5 : decode cX12_isThere 5 = .ok (.if_icmp .ge 7, 3) := by decide +kernel
theorem dX12_isThere_8 : decode cX12_isThere 8 = .ok (.iconst 1, 1) := by decide +kernel
theorem dX12_isThere_9 : decode cX12_isThere 9 = .ok (.goto 4, 3) := by decide +kernel
theorem dX12_isThere_12 : decode cX12_isThere 12 = .ok (.iconst 0, 1) := by decide +kernel
theorem dX12_isThere_13 : decode cX12_isThere 13 = .ok (.ireturn, 1) := by decide +kernel
theorem dX12_isLetter_0 : decode cX12_isLetter 0 = .ok (.iload_n 0, 1) := by decide +kernel
theorem dX12_isLetter_1 : decode cX12_isLetter 1 = .ok (.bipush 97, 2) := by decide +kernel
theorem dX12_isLetter_3 : decode cX12_isLetter 3 = .ok (.if_icmp .lt 9, 3) := by decide +kernel
theorem dX12_isLetter_6 : decode cX12_isLetter 6 = .ok (.iload_n 0, 1) := by decide +kernel
theorem dX12_isLetter_7 : decode cX12_isLetter 7 = .ok (.bipush 122, 2) := by decide +kernel
theorem dX12_isLetter_9 : decode cX12_isLetter 9 = .ok (.if_icmp .le 27, 3) := by decide +kernel
theorem dX12_isLetter_12 : decode cX12_isLetter 12 = .ok (.iload_n 0, 1) := by decide +kernel
theorem dX12_isLetter_13 : decode cX12_isLetter 13 = .ok (.bipush 65, 2) := by decide +kernel
theorem dX12_isLetter_15 : decode cX12_isLetter 15 = .ok (.if_icmp .lt 9, 3) := by decide +kernel
theorem dX12_isLetter_18 : decode cX12_isLetter 18 = .ok (.iload_n 0, 1) := by decide +kernel
theorem dX12_isLetter_19 : decode cX12_isLetter 19 = .ok (.bipush 90, 2) := by decide +kernel
theorem dX12_isLetter_21 : decode cX12_isLetter 21 = .ok (.if_icmp .le 15, 3) := by decide +kernel
theorem dX12_isLetter_24 : decode cX12_isLetter 24 = .ok (.iload_n 0, 1) := by decide +kernel
theorem dX12_isLetter_25 : decode cX12_isLetter 25 = .ok (.bipush 95, 2) := by decide +kernel
theorem dX12_isLetter_27 : decode cX12_isLetter 27 = .ok (.if_icmp .eq 9, 3) := by decide +kernel
theorem dX12_isLetter_30 : decode cX12_isLetter 30 = .ok (.iload_n 0, 1) := by decide +kernel
theorem dX12_isLetter_31 : decode cX12_isLetter 31 = .ok (.bipush 36, 2) := by decide +kernel
theorem dX12_isLetter_33 : decode cX12_isLetter 33 = .ok (.if_icmp .ne 7, 3) := by decide +kernel
theorem dX12_isLetter_36 : decode cX12_isLetter 36 = .ok (.iconst 1, 1) := by decide +kernel
theorem dX12_isLetter_37 : decode cX12_isLetter 37 = .ok (.goto 4, 3) := by decide +kernel
theorem dX12_isLetter_40 : decode cX12_isLetter 40 = .ok (.iconst 0, 1) := by decide +kernel
theorem dX12_isLetter_41 : decode cX12_isLetter 41 = .ok (.ireturn, 1) := by decide +kernel
theorem dX12_isDigit_0 : decode cX12_isDigit 0 = .ok (.iload_n 0, 1) := by decide +kernel
theorem dX12_isDigit_1 : decode cX12_isDigit 1 = .ok (.bipush 48, 2) := by decide +kernel
theorem dX12_isDigit_3 : decode cX12_isDigit 3 = .ok (.if_icmp .lt 13, 3) := by decide +kernel
theorem dX12_isDigit_6 : decode cX12_isDigit 6 = .ok (.iload_n 0, 1) := by decide +kernel
theorem dX12_isDigit_7 : decode cX12_isDigit 7 = .ok (.bipush 57, 2) := by decide +kernel
theorem dX12_isDigit_9 : decode cX12_isDigit 9 = .ok (.if_icmp .gt 7, 3) := by decide +kernel
theorem dX12_isDigit_12 : decode cX12_isDigit 12 = .ok (.iconst 1, 1) := by decide +kernel
theorem dX12_isDigit_13 : decode cX12_isDigit 13 = .ok (.goto 4, 3) := by decide +kernel
theorem dX12_isDigit_16 : decode cX12_isDigit 16 = .ok (.iconst 0, 1) := by decide +kernel
theorem dX12_isDigit_17 : decode cX12_isDigit 17 = .ok (.ireturn, 1) := by decide +kernel
theorem dX12_isWordly_0 : decode cX12_isWordly 0 = .ok (.aload_n 0, 1) := by decide +kernel
theorem dX12_isWordly_1 : decode cX12_isWordly 1 = .ok (.iload_n 1, 1) := by decide +kernel
theorem dX12_isWordly_2 : decode cX12_isWordly 2 = .ok (.invokevirtual 331, 3) := by decide +kernel
theorem dX12_isWordly_5 : decode cX12_isWordly 5 = .ok (.ifCond .eq 29, 3) := by decide +kernel
theorem dX12_isWordly_8 : decode cX12_isWordly 8 = .ok (.aload_n 0, 1) := by decide +kernel
theorem dX12_isWordly_9 : decode cX12_isWordly 9 = .ok (.iload_n 1, 1) := by decide +kernel
theorem dX12_isWordly_10 : decode cX12_isWordly 10 = .ok (.invokevirtual 334, 3) := by decide +kernel
theorem dX12_isWordly_13 : decode cX12_isWordly 13 = .ok (.invokestatic 338, 3) := by decide +kernel
theorem dX12_isWordly_16 : decode cX12_isWordly 16 = .ok (.ifCond .ne 14, 3) := by decide +kernel
theorem dX12_isWordly_19 : decode cX12_isWordly 19 = .ok (.aload_n 0, 1) := by decide +kernel
theorem dX12_isWordly_20 : decode cX12_isWordly 20 = .ok (.iload_n 1, 1) := by decide +kernel
theorem dX12_isWordly_21 : decode cX12_isWordly 21 = .ok (.invokevirtual 334, 3) := by decide +kernel
theorem dX12_isWordly_24 : decode cX12_isWordly 24 = .ok (.invokestatic 341, 3) := by decide +kernel
theorem dX12_isWordly_27 : decode cX12_isWordly 27 = .ok (.ifCond .eq 7, 3) := by decide +kernel
theorem dX12_isWordly_30 : decode cX12_isWordly 30 = .ok (.iconst 1, 1) := by decide +kernel
theorem dX12_isWordly_31 : decode cX12_isWordly 31 = .ok (.goto 4, 3) := by decide +kernel
theorem dX12_isWordly_34 : decode cX12_isWordly 34 = .ok (.iconst 0, 1) := by decide +kernel
theorem dX12_isWordly_35 : decode cX12_isWordly 35 = .ok (.ireturn, 1) := by decide +kernel
theorem dX12_skip_0 : decode cX12_skip 0 = .ok (.iconst 1, 1) := by decide +kernel
theorem dX12_skip_1 : decode cX12_skip 1 = .ok (.istore_n 1, 1) := by decide +kernel
theorem dX12_skip_2 : decode cX12_skip 2 = .ok (.iload_n 1, 1) := by decide +kernel
theorem dX12_skip_3 : decode cX12_skip 3 = .ok (.ifCond .eq 264, 3) := by decide +kernel
theorem dX12_skip_6 : decode cX12_skip 6 = .ok (.aload_n 0, 1) := by decide +kernel
theorem dX12_skip_7 : decode cX12_skip 7 = .ok (.aload_n 0, 1) := by decide +kernel
theorem dX12_skip_8 : decode cX12_skip 8 = .ok (.getfield 344, 3) := by decide +kernel
theorem dX12_skip_11 : decode cX12_skip 11 = .ok (.invokevirtual 331, 3) := by decide +kernel
theorem dX12_skip_14 : decode cX12_skip 14 = .ok (.ifCond .eq 253, 3) := by decide +kernel
theorem dX12_skip_17 : decode cX12_skip 17 = .ok (.aload_n 0, 1) := by decide +kernel
theorem dX12_skip_18 : decode cX12_skip 18 = .ok (.aload_n 0, 1) := by decide +kernel
theorem dX12_skip_19 : decode cX12_skip 19 = .ok (.getfield 344, 3) := by decide +kernel
theorem dX12_skip_22 : decode cX12_skip 22 = .ok (.invokevirtual 334, 3) := by decide +kernel
theorem dX12_skip_25 : decode cX12_skip 25 = .ok (.istore_n 2, 1) := by decide +kernel
theorem dX12_skip_26 : decode cX12_skip 26 = .ok (.iload_n 2, 1) := by decide +kernel
theorem dX12_skip_27 : decode cX12_skip 27 = .ok (.bipush 9, 2) := by decide +kernel
theorem dX12_skip_29 : decode cX12_skip 29 = .ok (.if_icmp .eq 15, 3) := by decide +kernel
theorem dX12_skip_32 : decode cX12_skip 32 = .ok (.iload_n 2, 1) := by decide +kernel
theorem dX12_skip_33 : decode cX12_skip 33 = .ok (.bipush 10, 2) := by decide +kernel
theorem dX12_skip_35 : decode cX12_skip 35 = .ok (.if_icmp .eq 9, 3) := by decide +kernel
theorem dX12_skip_38 : decode cX12_skip 38 = .ok (.iload_n 2, 1) := by decide +kernel
theorem dX12_skip_39 : decode cX12_skip 39 = .ok (.bipush 32, 2) := by decide +kernel
theorem dX12_skip_41 : decode cX12_skip 41 = .ok (.if_icmp .ne 36, 3) := by decide +kernel
theorem dX12_skip_44 : decode cX12_skip 44 = .ok (.aload_n 0, 1) := by decide +kernel
theorem dX12_skip_45 : decode cX12_skip 45 = .ok (.dup, 1) := by decide +kernel
theorem dX12_skip_46 : decode cX12_skip 46 = .ok (.getfield 347, 3) := by decide +kernel
theorem dX12_skip_49 : decode cX12_skip 49 = .ok (.iload_n 2, 1) := by decide +kernel
theorem dX12_skip_50 : decode cX12_skip 50 = .ok (.bipush 10, 2) := by decide +kernel
theorem dX12_skip_52 : decode cX12_skip 52 = .ok (.if_icmp .ne 7, 3) := by decide +kernel
theorem dX12_skip_55 : decode cX12_skip 55 = .ok (.iconst 1, 1) := by decide +kernel
theorem dX12_skip_56 : decode cX12_skip 56 = .ok (.goto 4, 3) := by decide +kernel
theorem dX12_skip_59 : decode cX12_skip 59 = .ok (.iconst 0, 1) := by decide +kernel
theorem dX12_skip_60 : decode cX12_skip 60 = .ok (.iadd, 1) := by decide +kernel
theorem dX12_skip_61 : decode cX12_skip 61 = .ok (.putfield 347, 3) := by decide +kernel
theorem dX12_skip_64 : decode cX12_skip 64 = .ok (.aload_n 0, 1) := by decide +kernel
theorem dX12_skip_65 : decode cX12_skip 65 = .ok (.dup, 1) := by decide +kernel
theorem dX12_skip_66 : decode cX12_skip 66 = .ok (.getfield 344, 3) := by decide +kernel
theorem dX12_skip_69 : decode cX12_skip 69 = .ok (.iconst 1, 1) := by decide +kernel
theorem dX12_skip_70 : decode cX12_skip 70 = .ok (.iadd, 1) := by decide +kernel
theorem dX12_skip_71 : decode cX12_skip 71 = .ok (.putfield 344, 3) := by decide +kernel
theorem dX12_skip_74 : decode cX12_skip 74 = .ok (.goto 190, 3) := by decide +kernel
theorem dX12_skip_77 : decode cX12_skip 77 = .ok (.iload_n 2, 1) := by decide +kernel
theorem dX12_skip_78 : decode cX12_skip 78 = .ok (.bipush 47, 2) := by decide +kernel
theorem dX12_skip_80 : decode cX12_skip 80 = .ok (.if_icmp .ne 55, 3) := by decide +kernel
theorem dX12_skip_83 : decode cX12_skip 83 = .ok (.aload_n 0, 1) := by decide +kernel
theorem dX12_skip_84 : decode cX12_skip 84 = .ok (.aload_n 0, 1) := by decide +kernel
theorem dX12_skip_85 : decode cX12_skip 85 = .ok (.getfield 344, 3) := by decide +kernel
theorem dX12_skip_88 : decode cX12_skip 88 = .ok (.iconst 1, 1) := by decide +kernel
theorem dX12_skip_89 : decode cX12_skip 89 = .ok (.iadd, 1) := by decide +kernel
theorem dX12_skip_90 : decode cX12_skip 90 = .ok (.invokevirtual 334, 3) := by decide +kernel
theorem dX12_skip_93 : decode cX12_skip 93 = .ok (.bipush 47, 2) := by decide +kernel
theorem dX12_skip_95 : decode cX12_skip 95 = .ok (.if_icmp .ne 40, 3) := by decide +kernel
theorem dX12_skip_98 : decode cX12_skip 98 = .ok (.aload_n 0, 1) := by decide +kernel
theorem dX12_skip_99 : decode cX12_skip 99 = .ok (.aload_n 0, 1) := by decide +kernel
theorem dX12_skip_100 : decode cX12_skip 100 = .ok (.getfield 344, 3) := by decide +kernel
theorem dX12_skip_103 : decode cX12_skip 103 = .ok (.invokevirtual 331, 3) := by decide +kernel
theorem dX12_skip_106 : decode cX12_skip 106 = .ok (.ifCond .eq 158, 3) := by decide +kernel
theorem dX12_skip_109 : decode cX12_skip 109 = .ok (.aload_n 0, 1) := by decide +kernel
theorem dX12_skip_110 : decode cX12_skip 110 = .ok (.aload_n 0, 1) := by decide +kernel
theorem dX12_skip_111 : decode cX12_skip 111 = .ok (.getfield 344, 3) := by decide +kernel
theorem dX12_skip_114 : decode cX12_skip 114 = .ok (.invokevirtual 334, 3) := by decide +kernel
theorem dX12_skip_117 : decode cX12_skip 117 = .ok (.bipush 10, 2) := by decide +kernel
theorem dX12_skip_119 : decode cX12_skip 119 = .ok (.if_icmp .eq 145, 3) := by decide +kernel
theorem dX12_skip_122 : decode cX12_skip 122 = .ok (.aload_n 0, 1) := by decide +kernel
theorem dX12_skip_123 : decode cX12_skip 123 = .ok (.dup, 1) := by decide +kernel
theorem dX12_skip_124 : decode cX12_skip 124 = .ok (.getfield 344, 3) := by decide +kernel
theorem dX12_skip_127 : decode cX12_skip 127 = .ok (.iconst 1, 1) := by decide +kernel
theorem dX12_skip_128 : decode cX12_skip 128 = .ok (.iadd, 1) := by decide +kernel
theorem dX12_skip_129 : decode cX12_skip 129 = .ok (.putfield 344, 3) := by decide +kernel
theorem dX12_skip_132 : decode cX12_skip 132 = .ok (.goto (-34), 3) := by decide +kernel
theorem dX12_skip_135 : decode cX12_skip 135 = .ok (.iload_n 2, 1) := by decide +kernel
theorem dX12_skip_136 : decode cX12_skip 136 = .ok (.bipush 47, 2) := by decide +kernel
theorem dX12_skip_138 : decode cX12_skip 138 = .ok (.if_icmp .ne 124, 3) := by decide +kernel
theorem dX12_skip_141 : decode cX12_skip 141 = .ok (.aload_n 0, 1) := by decide +kernel
theorem dX12_skip_142 : decode cX12_skip 142 = .ok (.aload_n 0, 1) := by decide +kernel
theorem dX12_skip_143 : decode cX12_skip 143 = .ok (.getfield 344, 3) := by decide +kernel
theorem dX12_skip_146 : decode cX12_skip 146 = .ok (.iconst 1, 1) := by decide +kernel
theorem dX12_skip_147 : decode cX12_skip 147 = .ok (.iadd, 1) := by decide +kernel
theorem dX12_skip_148 : decode cX12_skip 148 = .ok (.invokevirtual 334, 3) := by decide +kernel
theorem dX12_skip_151 : decode cX12_skip 151 = .ok (.bipush 42, 2) := by decide +kernel
theorem dX12_skip_153 : decode cX12_skip 153 = .ok (.if_icmp .ne 109, 3) := by decide +kernel
theorem dX12_skip_156 : decode cX12_skip 156 = .ok (.aload_n 0, 1) := by decide +kernel
theorem dX12_skip_157 : decode cX12_skip 157 = .ok (.getfield 344, 3) := by decide +kernel
theorem dX12_skip_160 : decode cX12_skip 160 = .ok (.iconst 2, 1) := by decide +kernel
theorem dX12_skip_161 : decode cX12_skip 161 = .ok (.iadd, 1) := by decide +kernel
theorem dX12_skip_162 : decode cX12_skip 162 = .ok (.istore_n 3, 1) := by decide +kernel
theorem dX12_skip_163 : decode cX12_skip 163 = .ok (.aload_n 0, 1) := by decide +kernel
theorem dX12_skip_164 : decode cX12_skip 164 = .ok (.iload_n 3, 1) := by decide +kernel
theorem dX12_skip_165 : decode cX12_skip 165 = .ok (.invokevirtual 331, 3) := by decide +kernel
theorem dX12_skip_168 : decode cX12_skip 168 = .ok (.ifCond .eq 31, 3) := by decide +kernel
theorem dX12_skip_171 : decode cX12_skip 171 = .ok (.aload_n 0, 1) := by decide +kernel
theorem dX12_skip_172 : decode cX12_skip 172 = .ok (.iload_n 3, 1) := by decide +kernel
theorem dX12_skip_173 : decode cX12_skip 173 = .ok (.invokevirtual 334, 3) := by decide +kernel
theorem dX12_skip_176 : decode cX12_skip 176 = .ok (.bipush 42, 2) := by decide +kernel
theorem dX12_skip_178 : decode cX12_skip 178 = .ok (.if_icmp .ne 15, 3) := by decide +kernel
theorem dX12_skip_181 : decode cX12_skip 181 = .ok (.aload_n 0, 1) := by decide +kernel
theorem dX12_skip_182 : decode cX12_skip 182 = .ok (.iload_n 3, 1) := by decide +kernel
theorem dX12_skip_183 : decode cX12_skip 183 = .ok (.iconst 1, 1) := by decide +kernel
theorem dX12_skip_184 : decode cX12_skip 184 = .ok (.iadd, 1) := by decide +kernel
theorem dX12_skip_185 : decode cX12_skip 185 = .ok (.invokevirtual 334, 3) := by decide +kernel
theorem dX12_skip_188 : decode cX12_skip 188 = .ok (.bipush 47, 2) := by decide +kernel
theorem dX12_skip_190 : decode cX12_skip 190 = .ok (.if_icmp .eq 9, 3) := by decide +kernel
theorem dX12_skip_193 : decode cX12_skip 193 = .ok (.iinc 3 1, 3) := by decide +kernel
theorem dX12_skip_196 : decode cX12_skip 196 = .ok (.goto (-33), 3) := by decide +kernel
theorem dX12_skip_199 : decode cX12_skip 199 = .ok (.aload_n 0, 1) := by decide +kernel
theorem dX12_skip_200 : decode cX12_skip 200 = .ok (.iload_n 3, 1) := by decide +kernel
theorem dX12_skip_201 : decode cX12_skip 201 = .ok (.invokevirtual 331, 3) := by decide +kernel
theorem dX12_skip_204 : decode cX12_skip 204 = .ok (.ifCond .ne 5, 3) := by decide +kernel
theorem dX12_skip_207 : decode cX12_skip 207 = .ok (.iconst 0, 1) := by decide +kernel
theorem dX12_skip_208 : decode cX12_skip 208 = .ok (.ireturn, 1) := by decide +kernel
theorem dX12_skip_209 : decode cX12_skip 209 = .ok (.aload_n 0, 1) := by decide +kernel
theorem dX12_skip_210 : decode cX12_skip 210 = .ok (.getfield 344, 3) := by decide +kernel
theorem dX12_skip_213 : decode cX12_skip 213 = .ok (.iload_n 3, 1) := by decide +kernel
theorem dX12_skip_214 : decode cX12_skip 214 = .ok (.iconst 2, 1) := by decide +kernel
theorem dX12_skip_215 : decode cX12_skip 215 = .ok (.iadd, 1) := by decide +kernel
theorem dX12_skip_216 : decode cX12_skip 216 = .ok (.if_icmp .ge 43, 3) := by decide +kernel
theorem dX12_skip_219 : decode cX12_skip 219 = .ok (.aload_n 0, 1) := by decide +kernel
theorem dX12_skip_220 : decode cX12_skip 220 = .ok (.dup, 1) := by decide +kernel
theorem dX12_skip_221 : decode cX12_skip 221 = .ok (.getfield 347, 3) := by decide +kernel
theorem dX12_skip_224 : decode cX12_skip 224 = .ok (.aload_n 0, 1) := by decide +kernel
theorem dX12_skip_225 : decode cX12_skip 225 = .ok (.aload_n 0, 1) := by decide +kernel
theorem dX12_skip_226 : decode cX12_skip 226 = .ok (.getfield 344, 3) := by decide +kernel
theorem dX12_skip_229 : decode cX12_skip 229 = .ok (.invokevirtual 334, 3) := by decide +kernel
theorem dX12_skip_232 : decode cX12_skip 232 = .ok (.bipush 10, 2) := by decide +kernel
theorem dX12_skip_234 : decode cX12_skip 234 = .ok (.if_icmp .ne 7, 3) := by decide +kernel
theorem dX12_skip_237 : decode cX12_skip 237 = .ok (.iconst 1, 1) := by decide +kernel
theorem dX12_skip_238 : decode cX12_skip 238 = .ok (.goto 4, 3) := by decide +kernel
theorem dX12_skip_241 : decode cX12_skip 241 = .ok (.iconst 0, 1) := by decide +kernel
theorem dX12_skip_242 : decode cX12_skip 242 = .ok (.iadd, 1) := by decide +kernel
theorem dX12_skip_243 : decode cX12_skip 243 = .ok (.putfield 347, 3) := by decide +kernel
theorem dX12_skip_246 : decode cX12_skip 246 = .ok (.aload_n 0, 1) := by decide +kernel
theorem dX12_skip_247 : decode cX12_skip 247 = .ok (.dup, 1) := by decide +kernel
theorem dX12_skip_248 : decode cX12_skip 248 = .ok (.getfield 344, 3) := by decide +kernel
theorem dX12_skip_251 : decode cX12_skip 251 = .ok (.iconst 1, 1) := by decide +kernel
theorem dX12_skip_252 : decode cX12_skip 252 = .ok (.iadd, 1) := by decide +kernel
theorem dX12_skip_253 : decode cX12_skip 253 = .ok (.putfield 344, 3) := by decide +kernel
theorem dX12_skip_256 : decode cX12_skip 256 = .ok (.goto (-47), 3) := by decide +kernel
theorem dX12_skip_259 : decode cX12_skip 259 = .ok (.goto 5, 3) := by decide +kernel
theorem dX12_skip_262 : decode cX12_skip 262 = .ok (.iconst 0, 1) := by decide +kernel
theorem dX12_skip_263 : decode cX12_skip 263 = .ok (.istore_n 1, 1) := by decide +kernel
theorem dX12_skip_264 : decode cX12_skip 264 = .ok (.goto (-262), 3) := by decide +kernel
theorem dX12_skip_267 : decode cX12_skip 267 = .ok (.iconst 1, 1) := by decide +kernel
theorem dX12_skip_268 : decode cX12_skip 268 = .ok (.ireturn, 1) := by decide +kernel

def q_look (p1 : Int) (S : sv_S) : Option Value → sv_S → Prop := fun v S' => v = some (sv_I ((if p1 < (S 1004 0) then (S 2 p1) % 256 else 0))) ∧ S' = S
set_option maxHeartbeats 2000000 in
theorem f_look : ∀ (p1 : Int) (S : sv_S), sm_ok S → sv_R p1 → (0 ≤ (S 1004 0) ∧ (S 1004 0) ≤ 4000 ∧ 0 ≤ p1) → (sv_R (S 1004 0) → ((((S 1004 0) ≤ p1) → (0 : Int) = ((if p1 < (S 1004 0) then (S 2 p1) % 256 else 0))) ∧ ((¬ ((S 1004 0) ≤ p1)) → (0 ≤ p1 ∧ p1 < 4000) ∧ ((-128 ≤ (S 2 p1) ∧ (S 2 p1) ≤ 127) → ((S 2 p1) % 256) = ((if p1 < (S 1004 0) then (S 2 p1) % 256 else 0)))))) := by
  intro p1 S hok hp1 hpre
  repeat' (first | (refine And.intro ?_ ?_) | (intro _))
  all_goals first | assumption | omega | grind
set_option maxRecDepth 8000 in
set_option maxHeartbeats 2000000 in
theorem t_look : ∀ (p1 : Int) (S : sv_S), sm_ok S → sv_R p1 → (0 ≤ (S 1004 0) ∧ (S 1004 0) ≤ 4000 ∧ 0 ≤ p1) → sv_T sm_XS sm_cs sm_L sm_sh 0 (q_look p1 S) 10 0 (lv_args 0 [.ref 0, sv_I p1]) [] S := by
  intro p1 S hok hp1 hpre
  have h := f_look p1 S hok hp1 hpre
  have hM := sm_h10
  show sv_T sm_XS sm_cs sm_L sm_sh 0 (q_look p1 S) 10 0 [(0, .ref 0), (1, sv_I p1)] [] S
  refine sv_iload_n hM dX12_look_0 rfl rfl ?_
  refine sv_aload_n hM dX12_look_1 rfl rfl ?_
  have k1 : sv_R (S 1004 0) := sm_okI hok sm_r1004 0
  have h := h k1
  refine sv_getI hM dX12_look_2 sm_fl_328 (sm_a0 _) sm_k4 rfl (x := (S 1004 0)) rfl ?_
  refine sv_icmp_ge hM dX12_look_5 hp1 k1 (t := 21) rfl rfl (fun hc => ?_) (fun hc => ?_)
  · have h := h.1 (hc)
    refine sv_iconst (d := (0 : Int)) hM dX12_look_21 rfl rfl ?_
    exact sv_iret hM dX12_look_22 rfl rfl ⟨congrArg (fun z => some (sv_I z)) h, rfl⟩
  · have h := h.2 (hc)
    refine sv_aload_n hM dX12_look_8 rfl rfl ?_
    refine sv_getA hM dX12_look_9 sm_fl_13 (sm_a0 _) sm_k3 rfl ?_
    refine sv_iload_n hM dX12_look_12 rfl rfl ?_
    obtain ⟨o2, h⟩ := h
    have k3 : (-128 ≤ (S 2 p1) ∧ (S 2 p1) ≤ 127) := sm_okB hok sm_r2 p1
    have h := h k3
    refine sv_bald hM dX12_look_13 (sm_a2 _) (by decide) o2.1 o2.2 rfl (x := (S 2 p1)) rfl ?_
    refine sv_sipush (d := (255 : Int)) hM dX12_look_14 rfl rfl ?_
    refine sv_iandm 8 (m := 256) (by decide) (by decide) (by decide) hM dX12_look_17 rfl ?_
    refine sv_goto hM dX12_look_18 (pc' := 22) rfl ?_
    exact sv_iret hM dX12_look_22 rfl rfl ⟨congrArg (fun z => some (sv_I z)) h, rfl⟩
def q_isThere (p1 : Int) (S : sv_S) : Option Value → sv_S → Prop := fun v S' => v = some (sv_I (if p1 < (S 1004 0) then 1 else 0)) ∧ S' = S
set_option maxHeartbeats 2000000 in
theorem f_isThere : ∀ (p1 : Int) (S : sv_S), sm_ok S → sv_R p1 → (sv_R (S 1004 0) → ((((S 1004 0) ≤ p1) → (0 : Int) = (if p1 < (S 1004 0) then 1 else 0)) ∧ ((¬ ((S 1004 0) ≤ p1)) → (1 : Int) = (if p1 < (S 1004 0) then 1 else 0)))) := by
  intro p1 S hok hp1
  repeat' (first | (refine And.intro ?_ ?_) | (intro _))
  all_goals first | assumption | omega | grind
set_option maxRecDepth 8000 in
set_option maxHeartbeats 2000000 in
theorem t_isThere : ∀ (p1 : Int) (S : sv_S), sm_ok S → sv_R p1 → sv_T sm_XS sm_cs sm_L sm_sh 0 (q_isThere p1 S) 11 0 (lv_args 0 [.ref 0, sv_I p1]) [] S := by
  intro p1 S hok hp1
  have h := f_isThere p1 S hok hp1
  have hM := sm_h11
  show sv_T sm_XS sm_cs sm_L sm_sh 0 (q_isThere p1 S) 11 0 [(0, .ref 0), (1, sv_I p1)] [] S
  refine sv_iload_n hM dX12_isThere_0 rfl rfl ?_
  refine sv_aload_n hM dX12_isThere_1 rfl rfl ?_
  have k1 : sv_R (S 1004 0) := sm_okI hok sm_r1004 0
  have h := h k1
  refine sv_getI hM dX12_isThere_2 sm_fl_328 (sm_a0 _) sm_k4 rfl (x := (S 1004 0)) rfl ?_
  refine sv_icmp_ge hM dX12_isThere_5 hp1 k1 (t := 12) rfl rfl (fun hc => ?_) (fun hc => ?_)
  · have h := h.1 (hc)
    refine sv_iconst (d := (0 : Int)) hM dX12_isThere_12 rfl rfl ?_
    exact sv_iret hM dX12_isThere_13 rfl (sv_nz (⟨by decide, by decide⟩ : 0 ≤ (0 : Int) ∧ (0 : Int) ≤ 1)) ⟨congrArg (fun z => some (sv_I z)) h, rfl⟩
  · have h := h.2 (hc)
    refine sv_iconst (d := (1 : Int)) hM dX12_isThere_8 rfl rfl ?_
    refine sv_goto hM dX12_isThere_9 (pc' := 13) rfl ?_
    exact sv_iret hM dX12_isThere_13 rfl (sv_nz (⟨by decide, by decide⟩ : 0 ≤ (1 : Int) ∧ (1 : Int) ≤ 1)) ⟨congrArg (fun z => some (sv_I z)) h, rfl⟩
def q_isLetter (p0 : Int) (S : sv_S) : Option Value → sv_S → Prop := fun v S' => v = some (sv_I (if (p0 ≥ 97 ∧ p0 ≤ 122 ∨ p0 ≥ 65 ∧ p0 ≤ 90 ∨ p0 = 95 ∨ p0 = 36) then 1 else 0)) ∧ S' = S
set_option maxHeartbeats 2000000 in
theorem f_isLetter : ∀ (p0 : Int) (S : sv_S), sm_ok S → sv_R p0 → (((p0 < (97 : Int)) → (((p0 < (65 : Int)) → (((p0 = (95 : Int)) → (1 : Int) = (if (p0 ≥ 97 ∧ p0 ≤ 122 ∨ p0 ≥ 65 ∧ p0 ≤ 90 ∨ p0 = 95 ∨ p0 = 36) then 1 else 0)) ∧ ((¬ (p0 = (95 : Int))) → (((¬ p0 = (36 : Int)) → (0 : Int) = (if (p0 ≥ 97 ∧ p0 ≤ 122 ∨ p0 ≥ 65 ∧ p0 ≤ 90 ∨ p0 = 95 ∨ p0 = 36) then 1 else 0)) ∧ ((¬ (¬ p0 = (36 : Int))) → (1 : Int) = (if (p0 ≥ 97 ∧ p0 ≤ 122 ∨ p0 ≥ 65 ∧ p0 ≤ 90 ∨ p0 = 95 ∨ p0 = 36) then 1 else 0)))))) ∧ ((¬ (p0 < (65 : Int))) → (((p0 ≤ (90 : Int)) → (1 : Int) = (if (p0 ≥ 97 ∧ p0 ≤ 122 ∨ p0 ≥ 65 ∧ p0 ≤ 90 ∨ p0 = 95 ∨ p0 = 36) then 1 else 0)) ∧ ((¬ (p0 ≤ (90 : Int))) → (((p0 = (95 : Int)) → (1 : Int) = (if (p0 ≥ 97 ∧ p0 ≤ 122 ∨ p0 ≥ 65 ∧ p0 ≤ 90 ∨ p0 = 95 ∨ p0 = 36) then 1 else 0)) ∧ ((¬ (p0 = (95 : Int))) → (((¬ p0 = (36 : Int)) → (0 : Int) = (if (p0 ≥ 97 ∧ p0 ≤ 122 ∨ p0 ≥ 65 ∧ p0 ≤ 90 ∨ p0 = 95 ∨ p0 = 36) then 1 else 0)) ∧ ((¬ (¬ p0 = (36 : Int))) → (1 : Int) = (if (p0 ≥ 97 ∧ p0 ≤ 122 ∨ p0 ≥ 65 ∧ p0 ≤ 90 ∨ p0 = 95 ∨ p0 = 36) then 1 else 0)))))))))) ∧ ((¬ (p0 < (97 : Int))) → (((p0 ≤ (122 : Int)) → (1 : Int) = (if (p0 ≥ 97 ∧ p0 ≤ 122 ∨ p0 ≥ 65 ∧ p0 ≤ 90 ∨ p0 = 95 ∨ p0 = 36) then 1 else 0)) ∧ ((¬ (p0 ≤ (122 : Int))) → (((p0 < (65 : Int)) → (((p0 = (95 : Int)) → (1 : Int) = (if (p0 ≥ 97 ∧ p0 ≤ 122 ∨ p0 ≥ 65 ∧ p0 ≤ 90 ∨ p0 = 95 ∨ p0 = 36) then 1 else 0)) ∧ ((¬ (p0 = (95 : Int))) → (((¬ p0 = (36 : Int)) → (0 : Int) = (if (p0 ≥ 97 ∧ p0 ≤ 122 ∨ p0 ≥ 65 ∧ p0 ≤ 90 ∨ p0 = 95 ∨ p0 = 36) then 1 else 0)) ∧ ((¬ (¬ p0 = (36 : Int))) → (1 : Int) = (if (p0 ≥ 97 ∧ p0 ≤ 122 ∨ p0 ≥ 65 ∧ p0 ≤ 90 ∨ p0 = 95 ∨ p0 = 36) then 1 else 0)))))) ∧ ((¬ (p0 < (65 : Int))) → (((p0 ≤ (90 : Int)) → (1 : Int) = (if (p0 ≥ 97 ∧ p0 ≤ 122 ∨ p0 ≥ 65 ∧ p0 ≤ 90 ∨ p0 = 95 ∨ p0 = 36) then 1 else 0)) ∧ ((¬ (p0 ≤ (90 : Int))) → (((p0 = (95 : Int)) → (1 : Int) = (if (p0 ≥ 97 ∧ p0 ≤ 122 ∨ p0 ≥ 65 ∧ p0 ≤ 90 ∨ p0 = 95 ∨ p0 = 36) then 1 else 0)) ∧ ((¬ (p0 = (95 : Int))) → (((¬ p0 = (36 : Int)) → (0 : Int) = (if (p0 ≥ 97 ∧ p0 ≤ 122 ∨ p0 ≥ 65 ∧ p0 ≤ 90 ∨ p0 = 95 ∨ p0 = 36) then 1 else 0)) ∧ ((¬ (¬ p0 = (36 : Int))) → (1 : Int) = (if (p0 ≥ 97 ∧ p0 ≤ 122 ∨ p0 ≥ 65 ∧ p0 ≤ 90 ∨ p0 = 95 ∨ p0 = 36) then 1 else 0))))))))))))) := by
  intro p0 S hok hp0
  repeat' (first | (refine And.intro ?_ ?_) | (intro _))
  all_goals first | assumption | omega | grind
set_option maxRecDepth 8000 in
set_option maxHeartbeats 2000000 in
theorem t_isLetter : ∀ (p0 : Int) (S : sv_S), sm_ok S → sv_R p0 → sv_T sm_XS sm_cs sm_L sm_sh 0 (q_isLetter p0 S) 12 0 (lv_args 0 [sv_I p0]) [] S := by
  intro p0 S hok hp0
  have h := f_isLetter p0 S hok hp0
  have hM := sm_h12
  show sv_T sm_XS sm_cs sm_L sm_sh 0 (q_isLetter p0 S) 12 0 [(0, sv_I p0)] [] S
  refine sv_iload_n hM dX12_isLetter_0 rfl rfl ?_
  refine sv_bipush (d := (97 : Int)) hM dX12_isLetter_1 rfl rfl ?_
  refine sv_icmp_lt hM dX12_isLetter_3 hp0 (⟨by decide, by decide⟩ : sv_R (97 : Int)) (t := 12) rfl rfl (fun hc => ?_) (fun hc => ?_)
  · have h := h.1 (hc)
    refine sv_iload_n hM dX12_isLetter_12 rfl rfl ?_
    refine sv_bipush (d := (65 : Int)) hM dX12_isLetter_13 rfl rfl ?_
    refine sv_icmp_lt hM dX12_isLetter_15 hp0 (⟨by decide, by decide⟩ : sv_R (65 : Int)) (t := 24) rfl rfl (fun hc => ?_) (fun hc => ?_)
    · have h := h.1 (hc)
      refine sv_iload_n hM dX12_isLetter_24 rfl rfl ?_
      refine sv_bipush (d := (95 : Int)) hM dX12_isLetter_25 rfl rfl ?_
      refine sv_icmp_eq hM dX12_isLetter_27 hp0 (⟨by decide, by decide⟩ : sv_R (95 : Int)) (t := 36) rfl rfl (fun hc => ?_) (fun hc => ?_)
      · have h := h.1 (hc)
        refine sv_iconst (d := (1 : Int)) hM dX12_isLetter_36 rfl rfl ?_
        refine sv_goto hM dX12_isLetter_37 (pc' := 41) rfl ?_
        exact sv_iret hM dX12_isLetter_41 rfl (sv_nz (⟨by decide, by decide⟩ : 0 ≤ (1 : Int) ∧ (1 : Int) ≤ 1)) ⟨congrArg (fun z => some (sv_I z)) h, rfl⟩
      · have h := h.2 (hc)
        refine sv_iload_n hM dX12_isLetter_30 rfl rfl ?_
        refine sv_bipush (d := (36 : Int)) hM dX12_isLetter_31 rfl rfl ?_
        refine sv_icmp_ne hM dX12_isLetter_33 hp0 (⟨by decide, by decide⟩ : sv_R (36 : Int)) (t := 40) rfl rfl (fun hc => ?_) (fun hc => ?_)
        · have h := h.1 (hc)
          refine sv_iconst (d := (0 : Int)) hM dX12_isLetter_40 rfl rfl ?_
          exact sv_iret hM dX12_isLetter_41 rfl (sv_nz (⟨by decide, by decide⟩ : 0 ≤ (0 : Int) ∧ (0 : Int) ≤ 1)) ⟨congrArg (fun z => some (sv_I z)) h, rfl⟩
        · have h := h.2 (hc)
          refine sv_iconst (d := (1 : Int)) hM dX12_isLetter_36 rfl rfl ?_
          refine sv_goto hM dX12_isLetter_37 (pc' := 41) rfl ?_
          exact sv_iret hM dX12_isLetter_41 rfl (sv_nz (⟨by decide, by decide⟩ : 0 ≤ (1 : Int) ∧ (1 : Int) ≤ 1)) ⟨congrArg (fun z => some (sv_I z)) h, rfl⟩
    · have h := h.2 (hc)
      refine sv_iload_n hM dX12_isLetter_18 rfl rfl ?_
      refine sv_bipush (d := (90 : Int)) hM dX12_isLetter_19 rfl rfl ?_
      refine sv_icmp_le hM dX12_isLetter_21 hp0 (⟨by decide, by decide⟩ : sv_R (90 : Int)) (t := 36) rfl rfl (fun hc => ?_) (fun hc => ?_)
      · have h := h.1 (hc)
        refine sv_iconst (d := (1 : Int)) hM dX12_isLetter_36 rfl rfl ?_
        refine sv_goto hM dX12_isLetter_37 (pc' := 41) rfl ?_
        exact sv_iret hM dX12_isLetter_41 rfl (sv_nz (⟨by decide, by decide⟩ : 0 ≤ (1 : Int) ∧ (1 : Int) ≤ 1)) ⟨congrArg (fun z => some (sv_I z)) h, rfl⟩
      · have h := h.2 (hc)
        refine sv_iload_n hM dX12_isLetter_24 rfl rfl ?_
        refine sv_bipush (d := (95 : Int)) hM dX12_isLetter_25 rfl rfl ?_
        refine sv_icmp_eq hM dX12_isLetter_27 hp0 (⟨by decide, by decide⟩ : sv_R (95 : Int)) (t := 36) rfl rfl (fun hc => ?_) (fun hc => ?_)
        · have h := h.1 (hc)
          refine sv_iconst (d := (1 : Int)) hM dX12_isLetter_36 rfl rfl ?_
          refine sv_goto hM dX12_isLetter_37 (pc' := 41) rfl ?_
          exact sv_iret hM dX12_isLetter_41 rfl (sv_nz (⟨by decide, by decide⟩ : 0 ≤ (1 : Int) ∧ (1 : Int) ≤ 1)) ⟨congrArg (fun z => some (sv_I z)) h, rfl⟩
        · have h := h.2 (hc)
          refine sv_iload_n hM dX12_isLetter_30 rfl rfl ?_
          refine sv_bipush (d := (36 : Int)) hM dX12_isLetter_31 rfl rfl ?_
          refine sv_icmp_ne hM dX12_isLetter_33 hp0 (⟨by decide, by decide⟩ : sv_R (36 : Int)) (t := 40) rfl rfl (fun hc => ?_) (fun hc => ?_)
          · have h := h.1 (hc)
            refine sv_iconst (d := (0 : Int)) hM dX12_isLetter_40 rfl rfl ?_
            exact sv_iret hM dX12_isLetter_41 rfl (sv_nz (⟨by decide, by decide⟩ : 0 ≤ (0 : Int) ∧ (0 : Int) ≤ 1)) ⟨congrArg (fun z => some (sv_I z)) h, rfl⟩
          · have h := h.2 (hc)
            refine sv_iconst (d := (1 : Int)) hM dX12_isLetter_36 rfl rfl ?_
            refine sv_goto hM dX12_isLetter_37 (pc' := 41) rfl ?_
            exact sv_iret hM dX12_isLetter_41 rfl (sv_nz (⟨by decide, by decide⟩ : 0 ≤ (1 : Int) ∧ (1 : Int) ≤ 1)) ⟨congrArg (fun z => some (sv_I z)) h, rfl⟩
  · have h := h.2 (hc)
    refine sv_iload_n hM dX12_isLetter_6 rfl rfl ?_
    refine sv_bipush (d := (122 : Int)) hM dX12_isLetter_7 rfl rfl ?_
    refine sv_icmp_le hM dX12_isLetter_9 hp0 (⟨by decide, by decide⟩ : sv_R (122 : Int)) (t := 36) rfl rfl (fun hc => ?_) (fun hc => ?_)
    · have h := h.1 (hc)
      refine sv_iconst (d := (1 : Int)) hM dX12_isLetter_36 rfl rfl ?_
      refine sv_goto hM dX12_isLetter_37 (pc' := 41) rfl ?_
      exact sv_iret hM dX12_isLetter_41 rfl (sv_nz (⟨by decide, by decide⟩ : 0 ≤ (1 : Int) ∧ (1 : Int) ≤ 1)) ⟨congrArg (fun z => some (sv_I z)) h, rfl⟩
    · have h := h.2 (hc)
      refine sv_iload_n hM dX12_isLetter_12 rfl rfl ?_
      refine sv_bipush (d := (65 : Int)) hM dX12_isLetter_13 rfl rfl ?_
      refine sv_icmp_lt hM dX12_isLetter_15 hp0 (⟨by decide, by decide⟩ : sv_R (65 : Int)) (t := 24) rfl rfl (fun hc => ?_) (fun hc => ?_)
      · have h := h.1 (hc)
        refine sv_iload_n hM dX12_isLetter_24 rfl rfl ?_
        refine sv_bipush (d := (95 : Int)) hM dX12_isLetter_25 rfl rfl ?_
        refine sv_icmp_eq hM dX12_isLetter_27 hp0 (⟨by decide, by decide⟩ : sv_R (95 : Int)) (t := 36) rfl rfl (fun hc => ?_) (fun hc => ?_)
        · have h := h.1 (hc)
          refine sv_iconst (d := (1 : Int)) hM dX12_isLetter_36 rfl rfl ?_
          refine sv_goto hM dX12_isLetter_37 (pc' := 41) rfl ?_
          exact sv_iret hM dX12_isLetter_41 rfl (sv_nz (⟨by decide, by decide⟩ : 0 ≤ (1 : Int) ∧ (1 : Int) ≤ 1)) ⟨congrArg (fun z => some (sv_I z)) h, rfl⟩
        · have h := h.2 (hc)
          refine sv_iload_n hM dX12_isLetter_30 rfl rfl ?_
          refine sv_bipush (d := (36 : Int)) hM dX12_isLetter_31 rfl rfl ?_
          refine sv_icmp_ne hM dX12_isLetter_33 hp0 (⟨by decide, by decide⟩ : sv_R (36 : Int)) (t := 40) rfl rfl (fun hc => ?_) (fun hc => ?_)
          · have h := h.1 (hc)
            refine sv_iconst (d := (0 : Int)) hM dX12_isLetter_40 rfl rfl ?_
            exact sv_iret hM dX12_isLetter_41 rfl (sv_nz (⟨by decide, by decide⟩ : 0 ≤ (0 : Int) ∧ (0 : Int) ≤ 1)) ⟨congrArg (fun z => some (sv_I z)) h, rfl⟩
          · have h := h.2 (hc)
            refine sv_iconst (d := (1 : Int)) hM dX12_isLetter_36 rfl rfl ?_
            refine sv_goto hM dX12_isLetter_37 (pc' := 41) rfl ?_
            exact sv_iret hM dX12_isLetter_41 rfl (sv_nz (⟨by decide, by decide⟩ : 0 ≤ (1 : Int) ∧ (1 : Int) ≤ 1)) ⟨congrArg (fun z => some (sv_I z)) h, rfl⟩
      · have h := h.2 (hc)
        refine sv_iload_n hM dX12_isLetter_18 rfl rfl ?_
        refine sv_bipush (d := (90 : Int)) hM dX12_isLetter_19 rfl rfl ?_
        refine sv_icmp_le hM dX12_isLetter_21 hp0 (⟨by decide, by decide⟩ : sv_R (90 : Int)) (t := 36) rfl rfl (fun hc => ?_) (fun hc => ?_)
        · have h := h.1 (hc)
          refine sv_iconst (d := (1 : Int)) hM dX12_isLetter_36 rfl rfl ?_
          refine sv_goto hM dX12_isLetter_37 (pc' := 41) rfl ?_
          exact sv_iret hM dX12_isLetter_41 rfl (sv_nz (⟨by decide, by decide⟩ : 0 ≤ (1 : Int) ∧ (1 : Int) ≤ 1)) ⟨congrArg (fun z => some (sv_I z)) h, rfl⟩
        · have h := h.2 (hc)
          refine sv_iload_n hM dX12_isLetter_24 rfl rfl ?_
          refine sv_bipush (d := (95 : Int)) hM dX12_isLetter_25 rfl rfl ?_
          refine sv_icmp_eq hM dX12_isLetter_27 hp0 (⟨by decide, by decide⟩ : sv_R (95 : Int)) (t := 36) rfl rfl (fun hc => ?_) (fun hc => ?_)
          · have h := h.1 (hc)
            refine sv_iconst (d := (1 : Int)) hM dX12_isLetter_36 rfl rfl ?_
            refine sv_goto hM dX12_isLetter_37 (pc' := 41) rfl ?_
            exact sv_iret hM dX12_isLetter_41 rfl (sv_nz (⟨by decide, by decide⟩ : 0 ≤ (1 : Int) ∧ (1 : Int) ≤ 1)) ⟨congrArg (fun z => some (sv_I z)) h, rfl⟩
          · have h := h.2 (hc)
            refine sv_iload_n hM dX12_isLetter_30 rfl rfl ?_
            refine sv_bipush (d := (36 : Int)) hM dX12_isLetter_31 rfl rfl ?_
            refine sv_icmp_ne hM dX12_isLetter_33 hp0 (⟨by decide, by decide⟩ : sv_R (36 : Int)) (t := 40) rfl rfl (fun hc => ?_) (fun hc => ?_)
            · have h := h.1 (hc)
              refine sv_iconst (d := (0 : Int)) hM dX12_isLetter_40 rfl rfl ?_
              exact sv_iret hM dX12_isLetter_41 rfl (sv_nz (⟨by decide, by decide⟩ : 0 ≤ (0 : Int) ∧ (0 : Int) ≤ 1)) ⟨congrArg (fun z => some (sv_I z)) h, rfl⟩
            · have h := h.2 (hc)
              refine sv_iconst (d := (1 : Int)) hM dX12_isLetter_36 rfl rfl ?_
              refine sv_goto hM dX12_isLetter_37 (pc' := 41) rfl ?_
              exact sv_iret hM dX12_isLetter_41 rfl (sv_nz (⟨by decide, by decide⟩ : 0 ≤ (1 : Int) ∧ (1 : Int) ≤ 1)) ⟨congrArg (fun z => some (sv_I z)) h, rfl⟩
def q_isDigit (p0 : Int) (S : sv_S) : Option Value → sv_S → Prop := fun v S' => v = some (sv_I (if (p0 ≥ 48 ∧ p0 ≤ 57) then 1 else 0)) ∧ S' = S
set_option maxHeartbeats 2000000 in
theorem f_isDigit : ∀ (p0 : Int) (S : sv_S), sm_ok S → sv_R p0 → (((p0 < (48 : Int)) → (0 : Int) = (if (p0 ≥ 48 ∧ p0 ≤ 57) then 1 else 0)) ∧ ((¬ (p0 < (48 : Int))) → ((((57 : Int) < p0) → (0 : Int) = (if (p0 ≥ 48 ∧ p0 ≤ 57) then 1 else 0)) ∧ ((¬ ((57 : Int) < p0)) → (1 : Int) = (if (p0 ≥ 48 ∧ p0 ≤ 57) then 1 else 0))))) := by
  intro p0 S hok hp0
  repeat' (first | (refine And.intro ?_ ?_) | (intro _))
  all_goals first | assumption | omega | grind
set_option maxRecDepth 8000 in
set_option maxHeartbeats 2000000 in
theorem t_isDigit : ∀ (p0 : Int) (S : sv_S), sm_ok S → sv_R p0 → sv_T sm_XS sm_cs sm_L sm_sh 0 (q_isDigit p0 S) 13 0 (lv_args 0 [sv_I p0]) [] S := by
  intro p0 S hok hp0
  have h := f_isDigit p0 S hok hp0
  have hM := sm_h13
  show sv_T sm_XS sm_cs sm_L sm_sh 0 (q_isDigit p0 S) 13 0 [(0, sv_I p0)] [] S
  refine sv_iload_n hM dX12_isDigit_0 rfl rfl ?_
  refine sv_bipush (d := (48 : Int)) hM dX12_isDigit_1 rfl rfl ?_
  refine sv_icmp_lt hM dX12_isDigit_3 hp0 (⟨by decide, by decide⟩ : sv_R (48 : Int)) (t := 16) rfl rfl (fun hc => ?_) (fun hc => ?_)
  · have h := h.1 (hc)
    refine sv_iconst (d := (0 : Int)) hM dX12_isDigit_16 rfl rfl ?_
    exact sv_iret hM dX12_isDigit_17 rfl (sv_nz (⟨by decide, by decide⟩ : 0 ≤ (0 : Int) ∧ (0 : Int) ≤ 1)) ⟨congrArg (fun z => some (sv_I z)) h, rfl⟩
  · have h := h.2 (hc)
    refine sv_iload_n hM dX12_isDigit_6 rfl rfl ?_
    refine sv_bipush (d := (57 : Int)) hM dX12_isDigit_7 rfl rfl ?_
    refine sv_icmp_gt hM dX12_isDigit_9 hp0 (⟨by decide, by decide⟩ : sv_R (57 : Int)) (t := 16) rfl rfl (fun hc => ?_) (fun hc => ?_)
    · have h := h.1 (hc)
      refine sv_iconst (d := (0 : Int)) hM dX12_isDigit_16 rfl rfl ?_
      exact sv_iret hM dX12_isDigit_17 rfl (sv_nz (⟨by decide, by decide⟩ : 0 ≤ (0 : Int) ∧ (0 : Int) ≤ 1)) ⟨congrArg (fun z => some (sv_I z)) h, rfl⟩
    · have h := h.2 (hc)
      refine sv_iconst (d := (1 : Int)) hM dX12_isDigit_12 rfl rfl ?_
      refine sv_goto hM dX12_isDigit_13 (pc' := 17) rfl ?_
      exact sv_iret hM dX12_isDigit_17 rfl (sv_nz (⟨by decide, by decide⟩ : 0 ≤ (1 : Int) ∧ (1 : Int) ≤ 1)) ⟨congrArg (fun z => some (sv_I z)) h, rfl⟩
def q_isWordly (p1 : Int) (S : sv_S) : Option Value → sv_S → Prop := fun v S' => v = some (sv_I (if p1 < (S 1004 0) ∧ (((if p1 < (S 1004 0) then (S 2 p1) % 256 else 0) ≥ 97 ∧ (if p1 < (S 1004 0) then (S 2 p1) % 256 else 0) ≤ 122 ∨ (if p1 < (S 1004 0) then (S 2 p1) % 256 else 0) ≥ 65 ∧ (if p1 < (S 1004 0) then (S 2 p1) % 256 else 0) ≤ 90 ∨ (if p1 < (S 1004 0) then (S 2 p1) % 256 else 0) = 95 ∨ (if p1 < (S 1004 0) then (S 2 p1) % 256 else 0) = 36) ∨ ((if p1 < (S 1004 0) then (S 2 p1) % 256 else 0) ≥ 48 ∧ (if p1 < (S 1004 0) then (S 2 p1) % 256 else 0) ≤ 57)) then 1 else 0)) ∧ S' = S
set_option maxHeartbeats 2000000 in
theorem f_isWordly : ∀ (p1 : Int) (S : sv_S), sm_ok S → sv_R p1 → (0 ≤ (S 1004 0) ∧ (S 1004 0) ≤ 4000 ∧ 0 ≤ p1) → (((¬ (p1 < (S 1004 0))) → (0 : Int) = (if p1 < (S 1004 0) ∧ (((if p1 < (S 1004 0) then (S 2 p1) % 256 else 0) ≥ 97 ∧ (if p1 < (S 1004 0) then (S 2 p1) % 256 else 0) ≤ 122 ∨ (if p1 < (S 1004 0) then (S 2 p1) % 256 else 0) ≥ 65 ∧ (if p1 < (S 1004 0) then (S 2 p1) % 256 else 0) ≤ 90 ∨ (if p1 < (S 1004 0) then (S 2 p1) % 256 else 0) = 95 ∨ (if p1 < (S 1004 0) then (S 2 p1) % 256 else 0) = 36) ∨ ((if p1 < (S 1004 0) then (S 2 p1) % 256 else 0) ≥ 48 ∧ (if p1 < (S 1004 0) then (S 2 p1) % 256 else 0) ≤ 57)) then 1 else 0)) ∧ ((p1 < (S 1004 0)) → (0 ≤ (S 1004 0) ∧ (S 1004 0) ≤ 4000 ∧ 0 ≤ p1) ∧ (sv_R ((if p1 < (S 1004 0) then (S 2 p1) % 256 else 0))) ∧ ((((((if p1 < (S 1004 0) then (S 2 p1) % 256 else 0)) ≥ 97 ∧ ((if p1 < (S 1004 0) then (S 2 p1) % 256 else 0)) ≤ 122 ∨ ((if p1 < (S 1004 0) then (S 2 p1) % 256 else 0)) ≥ 65 ∧ ((if p1 < (S 1004 0) then (S 2 p1) % 256 else 0)) ≤ 90 ∨ ((if p1 < (S 1004 0) then (S 2 p1) % 256 else 0)) = 95 ∨ ((if p1 < (S 1004 0) then (S 2 p1) % 256 else 0)) = 36)) → (1 : Int) = (if p1 < (S 1004 0) ∧ (((if p1 < (S 1004 0) then (S 2 p1) % 256 else 0) ≥ 97 ∧ (if p1 < (S 1004 0) then (S 2 p1) % 256 else 0) ≤ 122 ∨ (if p1 < (S 1004 0) then (S 2 p1) % 256 else 0) ≥ 65 ∧ (if p1 < (S 1004 0) then (S 2 p1) % 256 else 0) ≤ 90 ∨ (if p1 < (S 1004 0) then (S 2 p1) % 256 else 0) = 95 ∨ (if p1 < (S 1004 0) then (S 2 p1) % 256 else 0) = 36) ∨ ((if p1 < (S 1004 0) then (S 2 p1) % 256 else 0) ≥ 48 ∧ (if p1 < (S 1004 0) then (S 2 p1) % 256 else 0) ≤ 57)) then 1 else 0)) ∧ ((¬ ((((if p1 < (S 1004 0) then (S 2 p1) % 256 else 0)) ≥ 97 ∧ ((if p1 < (S 1004 0) then (S 2 p1) % 256 else 0)) ≤ 122 ∨ ((if p1 < (S 1004 0) then (S 2 p1) % 256 else 0)) ≥ 65 ∧ ((if p1 < (S 1004 0) then (S 2 p1) % 256 else 0)) ≤ 90 ∨ ((if p1 < (S 1004 0) then (S 2 p1) % 256 else 0)) = 95 ∨ ((if p1 < (S 1004 0) then (S 2 p1) % 256 else 0)) = 36))) → (((¬ ((((if p1 < (S 1004 0) then (S 2 p1) % 256 else 0)) ≥ 48 ∧ ((if p1 < (S 1004 0) then (S 2 p1) % 256 else 0)) ≤ 57))) → (0 : Int) = (if p1 < (S 1004 0) ∧ (((if p1 < (S 1004 0) then (S 2 p1) % 256 else 0) ≥ 97 ∧ (if p1 < (S 1004 0) then (S 2 p1) % 256 else 0) ≤ 122 ∨ (if p1 < (S 1004 0) then (S 2 p1) % 256 else 0) ≥ 65 ∧ (if p1 < (S 1004 0) then (S 2 p1) % 256 else 0) ≤ 90 ∨ (if p1 < (S 1004 0) then (S 2 p1) % 256 else 0) = 95 ∨ (if p1 < (S 1004 0) then (S 2 p1) % 256 else 0) = 36) ∨ ((if p1 < (S 1004 0) then (S 2 p1) % 256 else 0) ≥ 48 ∧ (if p1 < (S 1004 0) then (S 2 p1) % 256 else 0) ≤ 57)) then 1 else 0)) ∧ (((((if p1 < (S 1004 0) then (S 2 p1) % 256 else 0)) ≥ 48 ∧ ((if p1 < (S 1004 0) then (S 2 p1) % 256 else 0)) ≤ 57)) → (1 : Int) = (if p1 < (S 1004 0) ∧ (((if p1 < (S 1004 0) then (S 2 p1) % 256 else 0) ≥ 97 ∧ (if p1 < (S 1004 0) then (S 2 p1) % 256 else 0) ≤ 122 ∨ (if p1 < (S 1004 0) then (S 2 p1) % 256 else 0) ≥ 65 ∧ (if p1 < (S 1004 0) then (S 2 p1) % 256 else 0) ≤ 90 ∨ (if p1 < (S 1004 0) then (S 2 p1) % 256 else 0) = 95 ∨ (if p1 < (S 1004 0) then (S 2 p1) % 256 else 0) = 36) ∨ ((if p1 < (S 1004 0) then (S 2 p1) % 256 else 0) ≥ 48 ∧ (if p1 < (S 1004 0) then (S 2 p1) % 256 else 0) ≤ 57)) then 1 else 0))))))) := by
  intro p1 S hok hp1 hpre
  repeat' (first | (refine And.intro ?_ ?_) | (intro _))
  all_goals first | assumption | omega | grind
set_option maxRecDepth 8000 in
set_option maxHeartbeats 2000000 in
theorem t_isWordly : ∀ (p1 : Int) (S : sv_S), sm_ok S → sv_R p1 → (0 ≤ (S 1004 0) ∧ (S 1004 0) ≤ 4000 ∧ 0 ≤ p1) → sv_T sm_XS sm_cs sm_L sm_sh 1 (q_isWordly p1 S) 14 0 (lv_args 0 [.ref 0, sv_I p1]) [] S := by
  intro p1 S hok hp1 hpre
  have h := f_isWordly p1 S hok hp1 hpre
  have hM := sm_h14
  show sv_T sm_XS sm_cs sm_L sm_sh 1 (q_isWordly p1 S) 14 0 [(0, .ref 0), (1, sv_I p1)] [] S
  refine sv_aload_n hM dX12_isWordly_0 rfl rfl ?_
  refine sv_iload_n hM dX12_isWordly_1 rfl rfl ?_
  refine sv_callV hM dX12_isWordly_2 sm_iv_331 (by decide) (sm_a0 _) rfl rfl (Nat.le_of_ble_eq_true rfl) sm_h11 (Nat.le_of_ble_eq_true rfl) (Nat.le_of_ble_eq_true rfl) (F' := 0) (Nat.le_of_ble_eq_true rfl) rfl (t_isThere p1 S hok hp1) (fun v S1 hq => ?_)
  obtain ⟨rfl, hS1⟩ := hq
  obtain rfl : S = S1 := hS1.symm
  show sv_T sm_XS sm_cs sm_L sm_sh 1 (q_isWordly p1 S) 14 5 [(0, .ref 0), (1, sv_I p1)] [sv_I (if p1 < (S 1004 0) then 1 else 0)] S
  refine sv_cond_eq hM dX12_isWordly_5 (sv_Rite : sv_R (if p1 < (S 1004 0) then 1 else 0)) (t := 34) rfl rfl (fun hc => ?_) (fun hc => ?_)
  · have h := h.1 (sv_iten hc)
    refine sv_iconst (d := (0 : Int)) hM dX12_isWordly_34 rfl rfl ?_
    exact sv_iret hM dX12_isWordly_35 rfl (sv_nz (⟨by decide, by decide⟩ : 0 ≤ (0 : Int) ∧ (0 : Int) ≤ 1)) ⟨congrArg (fun z => some (sv_I z)) h, rfl⟩
  · have h := h.2 (sv_itep hc)
    refine sv_aload_n hM dX12_isWordly_8 rfl rfl ?_
    refine sv_iload_n hM dX12_isWordly_9 rfl rfl ?_
    obtain ⟨o1, h⟩ := h
    refine sv_callV hM dX12_isWordly_10 sm_iv_334 (by decide) (sm_a0 _) rfl rfl (Nat.le_of_ble_eq_true rfl) sm_h10 (Nat.le_of_ble_eq_true rfl) (Nat.le_of_ble_eq_true rfl) (F' := 0) (Nat.le_of_ble_eq_true rfl) rfl (t_look p1 S hok hp1 o1) (fun v S1 hq => ?_)
    obtain ⟨rfl, hS1⟩ := hq
    obtain rfl : S = S1 := hS1.symm
    show sv_T sm_XS sm_cs sm_L sm_sh 1 (q_isWordly p1 S) 14 13 [(0, .ref 0), (1, sv_I p1)] [sv_I ((if p1 < (S 1004 0) then (S 2 p1) % 256 else 0))] S
    obtain ⟨o2, h⟩ := h
    refine sv_callS hM dX12_isWordly_13 sm_iv_338 (Nat.le_of_ble_eq_true rfl) rfl rfl (Nat.le_of_ble_eq_true rfl) sm_h12 (Nat.le_of_ble_eq_true rfl) (Nat.le_of_ble_eq_true rfl) (F' := 0) (Nat.le_of_ble_eq_true rfl) rfl (t_isLetter ((if p1 < (S 1004 0) then (S 2 p1) % 256 else 0)) S hok o2) (fun v S1 hq => ?_)
    obtain ⟨rfl, hS1⟩ := hq
    obtain rfl : S = S1 := hS1.symm
    show sv_T sm_XS sm_cs sm_L sm_sh 1 (q_isWordly p1 S) 14 16 [(0, .ref 0), (1, sv_I p1)] [sv_I (if (((if p1 < (S 1004 0) then (S 2 p1) % 256 else 0)) ≥ 97 ∧ ((if p1 < (S 1004 0) then (S 2 p1) % 256 else 0)) ≤ 122 ∨ ((if p1 < (S 1004 0) then (S 2 p1) % 256 else 0)) ≥ 65 ∧ ((if p1 < (S 1004 0) then (S 2 p1) % 256 else 0)) ≤ 90 ∨ ((if p1 < (S 1004 0) then (S 2 p1) % 256 else 0)) = 95 ∨ ((if p1 < (S 1004 0) then (S 2 p1) % 256 else 0)) = 36) then 1 else 0)] S
    refine sv_cond_ne hM dX12_isWordly_16 (sv_Rite : sv_R (if (((if p1 < (S 1004 0) then (S 2 p1) % 256 else 0)) ≥ 97 ∧ ((if p1 < (S 1004 0) then (S 2 p1) % 256 else 0)) ≤ 122 ∨ ((if p1 < (S 1004 0) then (S 2 p1) % 256 else 0)) ≥ 65 ∧ ((if p1 < (S 1004 0) then (S 2 p1) % 256 else 0)) ≤ 90 ∨ ((if p1 < (S 1004 0) then (S 2 p1) % 256 else 0)) = 95 ∨ ((if p1 < (S 1004 0) then (S 2 p1) % 256 else 0)) = 36) then 1 else 0)) (t := 30) rfl rfl (fun hc => ?_) (fun hc => ?_)
    · have h := h.1 (sv_itep hc)
      refine sv_iconst (d := (1 : Int)) hM dX12_isWordly_30 rfl rfl ?_
      refine sv_goto hM dX12_isWordly_31 (pc' := 35) rfl ?_
      exact sv_iret hM dX12_isWordly_35 rfl (sv_nz (⟨by decide, by decide⟩ : 0 ≤ (1 : Int) ∧ (1 : Int) ≤ 1)) ⟨congrArg (fun z => some (sv_I z)) h, rfl⟩
    · have h := h.2 (fun q => hc (by rw [if_pos q]; decide))
      refine sv_aload_n hM dX12_isWordly_19 rfl rfl ?_
      refine sv_iload_n hM dX12_isWordly_20 rfl rfl ?_
      refine sv_callV hM dX12_isWordly_21 sm_iv_334 (by decide) (sm_a0 _) rfl rfl (Nat.le_of_ble_eq_true rfl) sm_h10 (Nat.le_of_ble_eq_true rfl) (Nat.le_of_ble_eq_true rfl) (F' := 0) (Nat.le_of_ble_eq_true rfl) rfl (t_look p1 S hok hp1 o1) (fun v S1 hq => ?_)
      obtain ⟨rfl, hS1⟩ := hq
      obtain rfl : S = S1 := hS1.symm
      show sv_T sm_XS sm_cs sm_L sm_sh 1 (q_isWordly p1 S) 14 24 [(0, .ref 0), (1, sv_I p1)] [sv_I ((if p1 < (S 1004 0) then (S 2 p1) % 256 else 0))] S
      refine sv_callS hM dX12_isWordly_24 sm_iv_341 (Nat.le_of_ble_eq_true rfl) rfl rfl (Nat.le_of_ble_eq_true rfl) sm_h13 (Nat.le_of_ble_eq_true rfl) (Nat.le_of_ble_eq_true rfl) (F' := 0) (Nat.le_of_ble_eq_true rfl) rfl (t_isDigit ((if p1 < (S 1004 0) then (S 2 p1) % 256 else 0)) S hok o2) (fun v S1 hq => ?_)
      obtain ⟨rfl, hS1⟩ := hq
      obtain rfl : S = S1 := hS1.symm
      show sv_T sm_XS sm_cs sm_L sm_sh 1 (q_isWordly p1 S) 14 27 [(0, .ref 0), (1, sv_I p1)] [sv_I (if (((if p1 < (S 1004 0) then (S 2 p1) % 256 else 0)) ≥ 48 ∧ ((if p1 < (S 1004 0) then (S 2 p1) % 256 else 0)) ≤ 57) then 1 else 0)] S
      refine sv_cond_eq hM dX12_isWordly_27 (sv_Rite : sv_R (if (((if p1 < (S 1004 0) then (S 2 p1) % 256 else 0)) ≥ 48 ∧ ((if p1 < (S 1004 0) then (S 2 p1) % 256 else 0)) ≤ 57) then 1 else 0)) (t := 34) rfl rfl (fun hc => ?_) (fun hc => ?_)
      · have h := h.1 (sv_iten hc)
        refine sv_iconst (d := (0 : Int)) hM dX12_isWordly_34 rfl rfl ?_
        exact sv_iret hM dX12_isWordly_35 rfl (sv_nz (⟨by decide, by decide⟩ : 0 ≤ (0 : Int) ∧ (0 : Int) ≤ 1)) ⟨congrArg (fun z => some (sv_I z)) h, rfl⟩
      · have h := h.2 (sv_itep hc)
        refine sv_iconst (d := (1 : Int)) hM dX12_isWordly_30 rfl rfl ?_
        refine sv_goto hM dX12_isWordly_31 (pc' := 35) rfl ?_
        exact sv_iret hM dX12_isWordly_35 rfl (sv_nz (⟨by decide, by decide⟩ : 0 ≤ (1 : Int) ∧ (1 : Int) ≤ 1)) ⟨congrArg (fun z => some (sv_I z)) h, rfl⟩
def q_skip (S : sv_S) : Option Value → sv_S → Prop := fun v S' => ∃ r : Int, v = some (sv_I r) ∧ sv_R r ∧ sm_ok S' ∧ sv_mod [1018, 1019] S S' ∧ ((r = 0 ∨ r = 1) ∧ (S 1018 0) ≤ (S' 1018 0) ∧ (S' 1018 0) ≤ (S' 1004 0) ∧ 1 ≤ (S' 1019 0) ∧ (S' 1019 0) ≤ 1 + (S' 1018 0))
set_option maxHeartbeats 2000000 in
theorem f_skip : ∀ (S : sv_S), sm_ok S → (0 ≤ (S 1004 0) ∧ (S 1004 0) ≤ 4000 ∧ 0 ≤ (S 1018 0) ∧ (S 1018 0) ≤ (S 1004 0) ∧ 1 ≤ (S 1019 0) ∧ (S 1019 0) ≤ 1 + (S 1018 0)) → ((((1 : Int) = 0 ∨ (1 : Int) = 1) ∧ (S 1018 0) ≤ (S 1018 0) ∧ (S 1018 0) ≤ (S 1004 0) ∧ 1 ≤ (S 1019 0) ∧ (S 1019 0) ≤ 1 + (S 1018 0)) ∧ (∀ l1_2 : Int, sv_R l1_2 → ∀ g1 : sv_S, ((l1_2 = 0 ∨ l1_2 = 1) ∧ (S 1018 0) ≤ (g1 1018 0) ∧ (g1 1018 0) ≤ (S 1004 0) ∧ 1 ≤ (g1 1019 0) ∧ (g1 1019 0) ≤ 1 + (g1 1018 0)) → (0 ≤ 2 * ((S 1004 0) - (g1 1018 0)) + l1_2) ∧ (((l1_2 = (0 : Int)) → (((1 : Int) = 0 ∨ (1 : Int) = 1) ∧ (S 1018 0) ≤ (g1 1018 0) ∧ (g1 1018 0) ≤ (S 1004 0) ∧ 1 ≤ (g1 1019 0) ∧ (g1 1019 0) ≤ 1 + (g1 1018 0))) ∧ ((¬ (l1_2 = (0 : Int))) → (sv_R (g1 1018 0) → (((¬ ((g1 1018 0) < (S 1004 0))) → (((1 : Int) = 0 ∨ (1 : Int) = 1) ∧ (S 1018 0) ≤ (g1 1018 0) ∧ (g1 1018 0) ≤ (S 1004 0) ∧ 1 ≤ (g1 1019 0) ∧ (g1 1019 0) ≤ 1 + (g1 1018 0))) ∧ (((g1 1018 0) < (S 1004 0)) → (0 ≤ (S 1004 0) ∧ (S 1004 0) ≤ 4000 ∧ 0 ≤ (g1 1018 0)) ∧ (∀ x10 : Int, ((if (g1 1018 0) < (S 1004 0) then (S 2 (g1 1018 0)) % 256 else 0)) = x10 → (sv_R x10) ∧ (((x10 = (9 : Int)) → (sv_R (g1 1019 0) → (((¬ x10 = (10 : Int)) → (sv_R ((g1 1019 0) + (0 : Int))) ∧ (sv_R ((g1 1018 0) + (1 : Int))) ∧ (((l1_2 = 0 ∨ l1_2 = 1) ∧ (S 1018 0) ≤ ((g1 1018 0) + (1 : Int)) ∧ ((g1 1018 0) + (1 : Int)) ≤ (S 1004 0) ∧ 1 ≤ ((g1 1019 0) + (0 : Int)) ∧ ((g1 1019 0) + (0 : Int)) ≤ 1 + ((g1 1018 0) + (1 : Int))) ∧ (2 * ((S 1004 0) - ((g1 1018 0) + (1 : Int))) + l1_2) < (2 * ((S 1004 0) - (g1 1018 0)) + l1_2))) ∧ ((¬ (¬ x10 = (10 : Int))) → (sv_R ((g1 1019 0) + (1 : Int))) ∧ (sv_R ((g1 1018 0) + (1 : Int))) ∧ (((l1_2 = 0 ∨ l1_2 = 1) ∧ (S 1018 0) ≤ ((g1 1018 0) + (1 : Int)) ∧ ((g1 1018 0) + (1 : Int)) ≤ (S 1004 0) ∧ 1 ≤ ((g1 1019 0) + (1 : Int)) ∧ ((g1 1019 0) + (1 : Int)) ≤ 1 + ((g1 1018 0) + (1 : Int))) ∧ (2 * ((S 1004 0) - ((g1 1018 0) + (1 : Int))) + l1_2) < (2 * ((S 1004 0) - (g1 1018 0)) + l1_2)))))) ∧ ((¬ (x10 = (9 : Int))) → (((x10 = (10 : Int)) → (sv_R (g1 1019 0) → (((¬ x10 = (10 : Int)) → (sv_R ((g1 1019 0) + (0 : Int))) ∧ (sv_R ((g1 1018 0) + (1 : Int))) ∧ (((l1_2 = 0 ∨ l1_2 = 1) ∧ (S 1018 0) ≤ ((g1 1018 0) + (1 : Int)) ∧ ((g1 1018 0) + (1 : Int)) ≤ (S 1004 0) ∧ 1 ≤ ((g1 1019 0) + (0 : Int)) ∧ ((g1 1019 0) + (0 : Int)) ≤ 1 + ((g1 1018 0) + (1 : Int))) ∧ (2 * ((S 1004 0) - ((g1 1018 0) + (1 : Int))) + l1_2) < (2 * ((S 1004 0) - (g1 1018 0)) + l1_2))) ∧ ((¬ (¬ x10 = (10 : Int))) → (sv_R ((g1 1019 0) + (1 : Int))) ∧ (sv_R ((g1 1018 0) + (1 : Int))) ∧ (((l1_2 = 0 ∨ l1_2 = 1) ∧ (S 1018 0) ≤ ((g1 1018 0) + (1 : Int)) ∧ ((g1 1018 0) + (1 : Int)) ≤ (S 1004 0) ∧ 1 ≤ ((g1 1019 0) + (1 : Int)) ∧ ((g1 1019 0) + (1 : Int)) ≤ 1 + ((g1 1018 0) + (1 : Int))) ∧ (2 * ((S 1004 0) - ((g1 1018 0) + (1 : Int))) + l1_2) < (2 * ((S 1004 0) - (g1 1018 0)) + l1_2)))))) ∧ ((¬ (x10 = (10 : Int))) → (((¬ x10 = (32 : Int)) → (((¬ x10 = (47 : Int)) → (((¬ x10 = (47 : Int)) → ((((0 : Int) = 0 ∨ (0 : Int) = 1) ∧ (S 1018 0) ≤ (g1 1018 0) ∧ (g1 1018 0) ≤ (S 1004 0) ∧ 1 ≤ (g1 1019 0) ∧ (g1 1019 0) ≤ 1 + (g1 1018 0)) ∧ (2 * ((S 1004 0) - (g1 1018 0)) + (0 : Int)) < (2 * ((S 1004 0) - (g1 1018 0)) + l1_2))) ∧ ((¬ (¬ x10 = (47 : Int))) → (sv_R ((g1 1018 0) + (1 : Int))) ∧ (0 ≤ (S 1004 0) ∧ (S 1004 0) ≤ 4000 ∧ 0 ≤ ((g1 1018 0) + (1 : Int))) ∧ (sv_R ((if ((g1 1018 0) + (1 : Int)) < (S 1004 0) then (S 2 ((g1 1018 0) + (1 : Int))) % 256 else 0))) ∧ (((¬ ((if ((g1 1018 0) + (1 : Int)) < (S 1004 0) then (S 2 ((g1 1018 0) + (1 : Int))) % 256 else 0)) = (42 : Int)) → ((((0 : Int) = 0 ∨ (0 : Int) = 1) ∧ (S 1018 0) ≤ (g1 1018 0) ∧ (g1 1018 0) ≤ (S 1004 0) ∧ 1 ≤ (g1 1019 0) ∧ (g1 1019 0) ≤ 1 + (g1 1018 0)) ∧ (2 * ((S 1004 0) - (g1 1018 0)) + (0 : Int)) < (2 * ((S 1004 0) - (g1 1018 0)) + l1_2))) ∧ ((¬ (¬ ((if ((g1 1018 0) + (1 : Int)) < (S 1004 0) then (S 2 ((g1 1018 0) + (1 : Int))) % 256 else 0)) = (42 : Int))) → (∀ x50 : Int, ((g1 1018 0) + (2 : Int)) = x50 → (sv_R x50) ∧ ((0 ≤ x50 ∧ (g1 1018 0) < x50 ∧ x50 ≤ (S 1004 0) + 2) ∧ (∀ l3_53 : Int, sv_R l3_53 → (0 ≤ l3_53 ∧ (g1 1018 0) < l3_53 ∧ l3_53 ≤ (S 1004 0) + 2) → (0 ≤ (S 1004 0) + 2 - l3_53) ∧ (((¬ (l3_53 < (S 1004 0))) → (((l3_53 < (S 1004 0)) → (((S 1018 0) ≤ (g1 1018 0) ∧ (g1 1018 0) ≤ l3_53 + 2 ∧ 0 ≤ l3_53 ∧ l3_53 < (S 1004 0) ∧ 1 ≤ (g1 1019 0) ∧ (g1 1019 0) ≤ 1 + (g1 1018 0)) ∧ (∀ g57 : sv_S, ((S 1018 0) ≤ (g57 1018 0) ∧ (g57 1018 0) ≤ l3_53 + 2 ∧ 0 ≤ l3_53 ∧ l3_53 < (S 1004 0) ∧ 1 ≤ (g57 1019 0) ∧ (g57 1019 0) ≤ 1 + (g57 1018 0)) → (0 ≤ l3_53 + 2 - (g57 1018 0)) ∧ (sv_R (g57 1018 0) → (sv_R (l3_53 + (2 : Int))) ∧ ((((l3_53 + (2 : Int)) ≤ (g57 1018 0)) → (((l1_2 = 0 ∨ l1_2 = 1) ∧ (S 1018 0) ≤ (g57 1018 0) ∧ (g57 1018 0) ≤ (S 1004 0) ∧ 1 ≤ (g57 1019 0) ∧ (g57 1019 0) ≤ 1 + (g57 1018 0)) ∧ (2 * ((S 1004 0) - (g57 1018 0)) + l1_2) < (2 * ((S 1004 0) - (g1 1018 0)) + l1_2))) ∧ ((¬ ((l3_53 + (2 : Int)) ≤ (g57 1018 0))) → (sv_R (g57 1019 0) → (0 ≤ (S 1004 0) ∧ (S 1004 0) ≤ 4000 ∧ 0 ≤ (g57 1018 0)) ∧ (sv_R ((if (g57 1018 0) < (S 1004 0) then (S 2 (g57 1018 0)) % 256 else 0))) ∧ (((¬ ((if (g57 1018 0) < (S 1004 0) then (S 2 (g57 1018 0)) % 256 else 0)) = (10 : Int)) → (sv_R ((g57 1019 0) + (0 : Int))) ∧ (sv_R ((g57 1018 0) + (1 : Int))) ∧ (((S 1018 0) ≤ ((g57 1018 0) + (1 : Int)) ∧ ((g57 1018 0) + (1 : Int)) ≤ l3_53 + 2 ∧ 0 ≤ l3_53 ∧ l3_53 < (S 1004 0) ∧ 1 ≤ ((g57 1019 0) + (0 : Int)) ∧ ((g57 1019 0) + (0 : Int)) ≤ 1 + ((g57 1018 0) + (1 : Int))) ∧ (l3_53 + 2 - ((g57 1018 0) + (1 : Int))) < (l3_53 + 2 - (g57 1018 0)))) ∧ ((¬ (¬ ((if (g57 1018 0) < (S 1004 0) then (S 2 (g57 1018 0)) % 256 else 0)) = (10 : Int))) → (sv_R ((g57 1019 0) + (1 : Int))) ∧ (sv_R ((g57 1018 0) + (1 : Int))) ∧ (((S 1018 0) ≤ ((g57 1018 0) + (1 : Int)) ∧ ((g57 1018 0) + (1 : Int)) ≤ l3_53 + 2 ∧ 0 ≤ l3_53 ∧ l3_53 < (S 1004 0) ∧ 1 ≤ ((g57 1019 0) + (1 : Int)) ∧ ((g57 1019 0) + (1 : Int)) ≤ 1 + ((g57 1018 0) + (1 : Int))) ∧ (l3_53 + 2 - ((g57 1018 0) + (1 : Int))) < (l3_53 + 2 - (g57 1018 0)))))))))))) ∧ ((¬ (l3_53 < (S 1004 0))) → (((0 : Int) = 0 ∨ (0 : Int) = 1) ∧ (S 1018 0) ≤ (g1 1018 0) ∧ (g1 1018 0) ≤ (S 1004 0) ∧ 1 ≤ (g1 1019 0) ∧ (g1 1019 0) ≤ 1 + (g1 1018 0))))) ∧ ((l3_53 < (S 1004 0)) → (0 ≤ (S 1004 0) ∧ (S 1004 0) ≤ 4000 ∧ 0 ≤ l3_53) ∧ (sv_R ((if l3_53 < (S 1004 0) then (S 2 l3_53) % 256 else 0))) ∧ (((¬ ((if l3_53 < (S 1004 0) then (S 2 l3_53) % 256 else 0)) = (42 : Int)) → (sv_R (l3_53 + (1 : Int))) ∧ ((0 ≤ (l3_53 + (1 : Int)) ∧ (g1 1018 0) < (l3_53 + (1 : Int)) ∧ (l3_53 + (1 : Int)) ≤ (S 1004 0) + 2) ∧ ((S 1004 0) + 2 - (l3_53 + (1 : Int))) < ((S 1004 0) + 2 - l3_53))) ∧ ((¬ (¬ ((if l3_53 < (S 1004 0) then (S 2 l3_53) % 256 else 0)) = (42 : Int))) → (sv_R (l3_53 + (1 : Int))) ∧ (0 ≤ (S 1004 0) ∧ (S 1004 0) ≤ 4000 ∧ 0 ≤ (l3_53 + (1 : Int))) ∧ (sv_R ((if (l3_53 + (1 : Int)) < (S 1004 0) then (S 2 (l3_53 + (1 : Int))) % 256 else 0))) ∧ (((((if (l3_53 + (1 : Int)) < (S 1004 0) then (S 2 (l3_53 + (1 : Int))) % 256 else 0)) = (47 : Int)) → (((l3_53 < (S 1004 0)) → (((S 1018 0) ≤ (g1 1018 0) ∧ (g1 1018 0) ≤ l3_53 + 2 ∧ 0 ≤ l3_53 ∧ l3_53 < (S 1004 0) ∧ 1 ≤ (g1 1019 0) ∧ (g1 1019 0) ≤ 1 + (g1 1018 0)) ∧ (∀ g95 : sv_S, ((S 1018 0) ≤ (g95 1018 0) ∧ (g95 1018 0) ≤ l3_53 + 2 ∧ 0 ≤ l3_53 ∧ l3_53 < (S 1004 0) ∧ 1 ≤ (g95 1019 0) ∧ (g95 1019 0) ≤ 1 + (g95 1018 0)) → (0 ≤ l3_53 + 2 - (g95 1018 0)) ∧ (sv_R (g95 1018 0) → (sv_R (l3_53 + (2 : Int))) ∧ ((((l3_53 + (2 : Int)) ≤ (g95 1018 0)) → (((l1_2 = 0 ∨ l1_2 = 1) ∧ (S 1018 0) ≤ (g95 1018 0) ∧ (g95 1018 0) ≤ (S 1004 0) ∧ 1 ≤ (g95 1019 0) ∧ (g95 1019 0) ≤ 1 + (g95 1018 0)) ∧ (2 * ((S 1004 0) - (g95 1018 0)) + l1_2) < (2 * ((S 1004 0) - (g1 1018 0)) + l1_2))) ∧ ((¬ ((l3_53 + (2 : Int)) ≤ (g95 1018 0))) → (sv_R (g95 1019 0) → (0 ≤ (S 1004 0) ∧ (S 1004 0) ≤ 4000 ∧ 0 ≤ (g95 1018 0)) ∧ (sv_R ((if (g95 1018 0) < (S 1004 0) then (S 2 (g95 1018 0)) % 256 else 0))) ∧ (((¬ ((if (g95 1018 0) < (S 1004 0) then (S 2 (g95 1018 0)) % 256 else 0)) = (10 : Int)) → (sv_R ((g95 1019 0) + (0 : Int))) ∧ (sv_R ((g95 1018 0) + (1 : Int))) ∧ (((S 1018 0) ≤ ((g95 1018 0) + (1 : Int)) ∧ ((g95 1018 0) + (1 : Int)) ≤ l3_53 + 2 ∧ 0 ≤ l3_53 ∧ l3_53 < (S 1004 0) ∧ 1 ≤ ((g95 1019 0) + (0 : Int)) ∧ ((g95 1019 0) + (0 : Int)) ≤ 1 + ((g95 1018 0) + (1 : Int))) ∧ (l3_53 + 2 - ((g95 1018 0) + (1 : Int))) < (l3_53 + 2 - (g95 1018 0)))) ∧ ((¬ (¬ ((if (g95 1018 0) < (S 1004 0) then (S 2 (g95 1018 0)) % 256 else 0)) = (10 : Int))) → (sv_R ((g95 1019 0) + (1 : Int))) ∧ (sv_R ((g95 1018 0) + (1 : Int))) ∧ (((S 1018 0) ≤ ((g95 1018 0) + (1 : Int)) ∧ ((g95 1018 0) + (1 : Int)) ≤ l3_53 + 2 ∧ 0 ≤ l3_53 ∧ l3_53 < (S 1004 0) ∧ 1 ≤ ((g95 1019 0) + (1 : Int)) ∧ ((g95 1019 0) + (1 : Int)) ≤ 1 + ((g95 1018 0) + (1 : Int))) ∧ (l3_53 + 2 - ((g95 1018 0) + (1 : Int))) < (l3_53 + 2 - (g95 1018 0)))))))))))) ∧ ((¬ (l3_53 < (S 1004 0))) → (((0 : Int) = 0 ∨ (0 : Int) = 1) ∧ (S 1018 0) ≤ (g1 1018 0) ∧ (g1 1018 0) ≤ (S 1004 0) ∧ 1 ≤ (g1 1019 0) ∧ (g1 1019 0) ≤ 1 + (g1 1018 0))))) ∧ ((¬ (((if (l3_53 + (1 : Int)) < (S 1004 0) then (S 2 (l3_53 + (1 : Int))) % 256 else 0)) = (47 : Int))) → ((0 ≤ (l3_53 + (1 : Int)) ∧ (g1 1018 0) < (l3_53 + (1 : Int)) ∧ (l3_53 + (1 : Int)) ≤ (S 1004 0) + 2) ∧ ((S 1004 0) + 2 - (l3_53 + (1 : Int))) < ((S 1004 0) + 2 - l3_53)))))))))))))))) ∧ ((¬ (¬ x10 = (47 : Int))) → (sv_R ((g1 1018 0) + (1 : Int))) ∧ (0 ≤ (S 1004 0) ∧ (S 1004 0) ≤ 4000 ∧ 0 ≤ ((g1 1018 0) + (1 : Int))) ∧ (sv_R ((if ((g1 1018 0) + (1 : Int)) < (S 1004 0) then (S 2 ((g1 1018 0) + (1 : Int))) % 256 else 0))) ∧ (((¬ ((if ((g1 1018 0) + (1 : Int)) < (S 1004 0) then (S 2 ((g1 1018 0) + (1 : Int))) % 256 else 0)) = (47 : Int)) → (((¬ x10 = (47 : Int)) → ((((0 : Int) = 0 ∨ (0 : Int) = 1) ∧ (S 1018 0) ≤ (g1 1018 0) ∧ (g1 1018 0) ≤ (S 1004 0) ∧ 1 ≤ (g1 1019 0) ∧ (g1 1019 0) ≤ 1 + (g1 1018 0)) ∧ (2 * ((S 1004 0) - (g1 1018 0)) + (0 : Int)) < (2 * ((S 1004 0) - (g1 1018 0)) + l1_2))) ∧ ((¬ (¬ x10 = (47 : Int))) → (((¬ ((if ((g1 1018 0) + (1 : Int)) < (S 1004 0) then (S 2 ((g1 1018 0) + (1 : Int))) % 256 else 0)) = (42 : Int)) → ((((0 : Int) = 0 ∨ (0 : Int) = 1) ∧ (S 1018 0) ≤ (g1 1018 0) ∧ (g1 1018 0) ≤ (S 1004 0) ∧ 1 ≤ (g1 1019 0) ∧ (g1 1019 0) ≤ 1 + (g1 1018 0)) ∧ (2 * ((S 1004 0) - (g1 1018 0)) + (0 : Int)) < (2 * ((S 1004 0) - (g1 1018 0)) + l1_2))) ∧ ((¬ (¬ ((if ((g1 1018 0) + (1 : Int)) < (S 1004 0) then (S 2 ((g1 1018 0) + (1 : Int))) % 256 else 0)) = (42 : Int))) → (∀ x130 : Int, ((g1 1018 0) + (2 : Int)) = x130 → (sv_R x130) ∧ ((0 ≤ x130 ∧ (g1 1018 0) < x130 ∧ x130 ≤ (S 1004 0) + 2) ∧ (∀ l3_133 : Int, sv_R l3_133 → (0 ≤ l3_133 ∧ (g1 1018 0) < l3_133 ∧ l3_133 ≤ (S 1004 0) + 2) → (0 ≤ (S 1004 0) + 2 - l3_133) ∧ (((¬ (l3_133 < (S 1004 0))) → (((l3_133 < (S 1004 0)) → (((S 1018 0) ≤ (g1 1018 0) ∧ (g1 1018 0) ≤ l3_133 + 2 ∧ 0 ≤ l3_133 ∧ l3_133 < (S 1004 0) ∧ 1 ≤ (g1 1019 0) ∧ (g1 1019 0) ≤ 1 + (g1 1018 0)) ∧ (∀ g137 : sv_S, ((S 1018 0) ≤ (g137 1018 0) ∧ (g137 1018 0) ≤ l3_133 + 2 ∧ 0 ≤ l3_133 ∧ l3_133 < (S 1004 0) ∧ 1 ≤ (g137 1019 0) ∧ (g137 1019 0) ≤ 1 + (g137 1018 0)) → (0 ≤ l3_133 + 2 - (g137 1018 0)) ∧ (sv_R (g137 1018 0) → (sv_R (l3_133 + (2 : Int))) ∧ ((((l3_133 + (2 : Int)) ≤ (g137 1018 0)) → (((l1_2 = 0 ∨ l1_2 = 1) ∧ (S 1018 0) ≤ (g137 1018 0) ∧ (g137 1018 0) ≤ (S 1004 0) ∧ 1 ≤ (g137 1019 0) ∧ (g137 1019 0) ≤ 1 + (g137 1018 0)) ∧ (2 * ((S 1004 0) - (g137 1018 0)) + l1_2) < (2 * ((S 1004 0) - (g1 1018 0)) + l1_2))) ∧ ((¬ ((l3_133 + (2 : Int)) ≤ (g137 1018 0))) → (sv_R (g137 1019 0) → (0 ≤ (S 1004 0) ∧ (S 1004 0) ≤ 4000 ∧ 0 ≤ (g137 1018 0)) ∧ (sv_R ((if (g137 1018 0) < (S 1004 0) then (S 2 (g137 1018 0)) % 256 else 0))) ∧ (((¬ ((if (g137 1018 0) < (S 1004 0) then (S 2 (g137 1018 0)) % 256 else 0)) = (10 : Int)) → (sv_R ((g137 1019 0) + (0 : Int))) ∧ (sv_R ((g137 1018 0) + (1 : Int))) ∧ (((S 1018 0) ≤ ((g137 1018 0) + (1 : Int)) ∧ ((g137 1018 0) + (1 : Int)) ≤ l3_133 + 2 ∧ 0 ≤ l3_133 ∧ l3_133 < (S 1004 0) ∧ 1 ≤ ((g137 1019 0) + (0 : Int)) ∧ ((g137 1019 0) + (0 : Int)) ≤ 1 + ((g137 1018 0) + (1 : Int))) ∧ (l3_133 + 2 - ((g137 1018 0) + (1 : Int))) < (l3_133 + 2 - (g137 1018 0)))) ∧ ((¬ (¬ ((if (g137 1018 0) < (S 1004 0) then (S 2 (g137 1018 0)) % 256 else 0)) = (10 : Int))) → (sv_R ((g137 1019 0) + (1 : Int))) ∧ (sv_R ((g137 1018 0) + (1 : Int))) ∧ (((S 1018 0) ≤ ((g137 1018 0) + (1 : Int)) ∧ ((g137 1018 0) + (1 : Int)) ≤ l3_133 + 2 ∧ 0 ≤ l3_133 ∧ l3_133 < (S 1004 0) ∧ 1 ≤ ((g137 1019 0) + (1 : Int)) ∧ ((g137 1019 0) + (1 : Int)) ≤ 1 + ((g137 1018 0) + (1 : Int))) ∧ (l3_133 + 2 - ((g137 1018 0) + (1 : Int))) < (l3_133 + 2 - (g137 1018 0)))))))))))) ∧ ((¬ (l3_133 < (S 1004 0))) → (((0 : Int) = 0 ∨ (0 : Int) = 1) ∧ (S 1018 0) ≤ (g1 1018 0) ∧ (g1 1018 0) ≤ (S 1004 0) ∧ 1 ≤ (g1 1019 0) ∧ (g1 1019 0) ≤ 1 + (g1 1018 0))))) ∧ ((l3_133 < (S 1004 0)) → (0 ≤ (S 1004 0) ∧ (S 1004 0) ≤ 4000 ∧ 0 ≤ l3_133) ∧ (sv_R ((if l3_133 < (S 1004 0) then (S 2 l3_133) % 256 else 0))) ∧ (((¬ ((if l3_133 < (S 1004 0) then (S 2 l3_133) % 256 else 0)) = (42 : Int)) → (sv_R (l3_133 + (1 : Int))) ∧ ((0 ≤ (l3_133 + (1 : Int)) ∧ (g1 1018 0) < (l3_133 + (1 : Int)) ∧ (l3_133 + (1 : Int)) ≤ (S 1004 0) + 2) ∧ ((S 1004 0) + 2 - (l3_133 + (1 : Int))) < ((S 1004 0) + 2 - l3_133))) ∧ ((¬ (¬ ((if l3_133 < (S 1004 0) then (S 2 l3_133) % 256 else 0)) = (42 : Int))) → (sv_R (l3_133 + (1 : Int))) ∧ (0 ≤ (S 1004 0) ∧ (S 1004 0) ≤ 4000 ∧ 0 ≤ (l3_133 + (1 : Int))) ∧ (sv_R ((if (l3_133 + (1 : Int)) < (S 1004 0) then (S 2 (l3_133 + (1 : Int))) % 256 else 0))) ∧ (((((if (l3_133 + (1 : Int)) < (S 1004 0) then (S 2 (l3_133 + (1 : Int))) % 256 else 0)) = (47 : Int)) → (((l3_133 < (S 1004 0)) → (((S 1018 0) ≤ (g1 1018 0) ∧ (g1 1018 0) ≤ l3_133 + 2 ∧ 0 ≤ l3_133 ∧ l3_133 < (S 1004 0) ∧ 1 ≤ (g1 1019 0) ∧ (g1 1019 0) ≤ 1 + (g1 1018 0)) ∧ (∀ g175 : sv_S, ((S 1018 0) ≤ (g175 1018 0) ∧ (g175 1018 0) ≤ l3_133 + 2 ∧ 0 ≤ l3_133 ∧ l3_133 < (S 1004 0) ∧ 1 ≤ (g175 1019 0) ∧ (g175 1019 0) ≤ 1 + (g175 1018 0)) → (0 ≤ l3_133 + 2 - (g175 1018 0)) ∧ (sv_R (g175 1018 0) → (sv_R (l3_133 + (2 : Int))) ∧ ((((l3_133 + (2 : Int)) ≤ (g175 1018 0)) → (((l1_2 = 0 ∨ l1_2 = 1) ∧ (S 1018 0) ≤ (g175 1018 0) ∧ (g175 1018 0) ≤ (S 1004 0) ∧ 1 ≤ (g175 1019 0) ∧ (g175 1019 0) ≤ 1 + (g175 1018 0)) ∧ (2 * ((S 1004 0) - (g175 1018 0)) + l1_2) < (2 * ((S 1004 0) - (g1 1018 0)) + l1_2))) ∧ ((¬ ((l3_133 + (2 : Int)) ≤ (g175 1018 0))) → (sv_R (g175 1019 0) → (0 ≤ (S 1004 0) ∧ (S 1004 0) ≤ 4000 ∧ 0 ≤ (g175 1018 0)) ∧ (sv_R ((if (g175 1018 0) < (S 1004 0) then (S 2 (g175 1018 0)) % 256 else 0))) ∧ (((¬ ((if (g175 1018 0) < (S 1004 0) then (S 2 (g175 1018 0)) % 256 else 0)) = (10 : Int)) → (sv_R ((g175 1019 0) + (0 : Int))) ∧ (sv_R ((g175 1018 0) + (1 : Int))) ∧ (((S 1018 0) ≤ ((g175 1018 0) + (1 : Int)) ∧ ((g175 1018 0) + (1 : Int)) ≤ l3_133 + 2 ∧ 0 ≤ l3_133 ∧ l3_133 < (S 1004 0) ∧ 1 ≤ ((g175 1019 0) + (0 : Int)) ∧ ((g175 1019 0) + (0 : Int)) ≤ 1 + ((g175 1018 0) + (1 : Int))) ∧ (l3_133 + 2 - ((g175 1018 0) + (1 : Int))) < (l3_133 + 2 - (g175 1018 0)))) ∧ ((¬ (¬ ((if (g175 1018 0) < (S 1004 0) then (S 2 (g175 1018 0)) % 256 else 0)) = (10 : Int))) → (sv_R ((g175 1019 0) + (1 : Int))) ∧ (sv_R ((g175 1018 0) + (1 : Int))) ∧ (((S 1018 0) ≤ ((g175 1018 0) + (1 : Int)) ∧ ((g175 1018 0) + (1 : Int)) ≤ l3_133 + 2 ∧ 0 ≤ l3_133 ∧ l3_133 < (S 1004 0) ∧ 1 ≤ ((g175 1019 0) + (1 : Int)) ∧ ((g175 1019 0) + (1 : Int)) ≤ 1 + ((g175 1018 0) + (1 : Int))) ∧ (l3_133 + 2 - ((g175 1018 0) + (1 : Int))) < (l3_133 + 2 - (g175 1018 0)))))))))))) ∧ ((¬ (l3_133 < (S 1004 0))) → (((0 : Int) = 0 ∨ (0 : Int) = 1) ∧ (S 1018 0) ≤ (g1 1018 0) ∧ (g1 1018 0) ≤ (S 1004 0) ∧ 1 ≤ (g1 1019 0) ∧ (g1 1019 0) ≤ 1 + (g1 1018 0))))) ∧ ((¬ (((if (l3_133 + (1 : Int)) < (S 1004 0) then (S 2 (l3_133 + (1 : Int))) % 256 else 0)) = (47 : Int))) → ((0 ≤ (l3_133 + (1 : Int)) ∧ (g1 1018 0) < (l3_133 + (1 : Int)) ∧ (l3_133 + (1 : Int)) ≤ (S 1004 0) + 2) ∧ ((S 1004 0) + 2 - (l3_133 + (1 : Int))) < ((S 1004 0) + 2 - l3_133)))))))))))))))) ∧ ((¬ (¬ ((if ((g1 1018 0) + (1 : Int)) < (S 1004 0) then (S 2 ((g1 1018 0) + (1 : Int))) % 256 else 0)) = (47 : Int))) → (((g1 1018 0) ≤ (g1 1018 0) ∧ (g1 1018 0) ≤ (S 1004 0) ∧ 1 ≤ (g1 1019 0) ∧ (g1 1019 0) ≤ 1 + (g1 1018 0)) ∧ (∀ g207 : sv_S, ((g1 1018 0) ≤ (g207 1018 0) ∧ (g207 1018 0) ≤ (S 1004 0) ∧ 1 ≤ (g1 1019 0) ∧ (g1 1019 0) ≤ 1 + (g207 1018 0)) → (0 ≤ (S 1004 0) - (g207 1018 0)) ∧ (sv_R (g207 1018 0) → (((¬ ((g207 1018 0) < (S 1004 0))) → (((l1_2 = 0 ∨ l1_2 = 1) ∧ (S 1018 0) ≤ (g207 1018 0) ∧ (g207 1018 0) ≤ (S 1004 0) ∧ 1 ≤ (g1 1019 0) ∧ (g1 1019 0) ≤ 1 + (g207 1018 0)) ∧ (2 * ((S 1004 0) - (g207 1018 0)) + l1_2) < (2 * ((S 1004 0) - (g1 1018 0)) + l1_2))) ∧ (((g207 1018 0) < (S 1004 0)) → (0 ≤ (S 1004 0) ∧ (S 1004 0) ≤ 4000 ∧ 0 ≤ (g207 1018 0)) ∧ (sv_R ((if (g207 1018 0) < (S 1004 0) then (S 2 (g207 1018 0)) % 256 else 0))) ∧ (((((if (g207 1018 0) < (S 1004 0) then (S 2 (g207 1018 0)) % 256 else 0)) = (10 : Int)) → (((l1_2 = 0 ∨ l1_2 = 1) ∧ (S 1018 0) ≤ (g207 1018 0) ∧ (g207 1018 0) ≤ (S 1004 0) ∧ 1 ≤ (g1 1019 0) ∧ (g1 1019 0) ≤ 1 + (g207 1018 0)) ∧ (2 * ((S 1004 0) - (g207 1018 0)) + l1_2) < (2 * ((S 1004 0) - (g1 1018 0)) + l1_2))) ∧ ((¬ (((if (g207 1018 0) < (S 1004 0) then (S 2 (g207 1018 0)) % 256 else 0)) = (10 : Int))) → (sv_R ((g207 1018 0) + (1 : Int))) ∧ (((g1 1018 0) ≤ ((g207 1018 0) + (1 : Int)) ∧ ((g207 1018 0) + (1 : Int)) ≤ (S 1004 0) ∧ 1 ≤ (g1 1019 0) ∧ (g1 1019 0) ≤ 1 + ((g207 1018 0) + (1 : Int))) ∧ ((S 1004 0) - ((g207 1018 0) + (1 : Int))) < ((S 1004 0) - (g207 1018 0))))))))))))))) ∧ ((¬ (¬ x10 = (32 : Int))) → (sv_R (g1 1019 0) → (((¬ x10 = (10 : Int)) → (sv_R ((g1 1019 0) + (0 : Int))) ∧ (sv_R ((g1 1018 0) + (1 : Int))) ∧ (((l1_2 = 0 ∨ l1_2 = 1) ∧ (S 1018 0) ≤ ((g1 1018 0) + (1 : Int)) ∧ ((g1 1018 0) + (1 : Int)) ≤ (S 1004 0) ∧ 1 ≤ ((g1 1019 0) + (0 : Int)) ∧ ((g1 1019 0) + (0 : Int)) ≤ 1 + ((g1 1018 0) + (1 : Int))) ∧ (2 * ((S 1004 0) - ((g1 1018 0) + (1 : Int))) + l1_2) < (2 * ((S 1004 0) - (g1 1018 0)) + l1_2))) ∧ ((¬ (¬ x10 = (10 : Int))) → (sv_R ((g1 1019 0) + (1 : Int))) ∧ (sv_R ((g1 1018 0) + (1 : Int))) ∧ (((l1_2 = 0 ∨ l1_2 = 1) ∧ (S 1018 0) ≤ ((g1 1018 0) + (1 : Int)) ∧ ((g1 1018 0) + (1 : Int)) ≤ (S 1004 0) ∧ 1 ≤ ((g1 1019 0) + (1 : Int)) ∧ ((g1 1019 0) + (1 : Int)) ≤ 1 + ((g1 1018 0) + (1 : Int))) ∧ (2 * ((S 1004 0) - ((g1 1018 0) + (1 : Int))) + l1_2) < (2 * ((S 1004 0) - (g1 1018 0)) + l1_2))))))))))))))))))) := by
  intro S hok hpre
  repeat' (first | (refine And.intro ?_ ?_) | (intro _))
  all_goals first | assumption | omega | grind
set_option maxRecDepth 8000 in
set_option maxHeartbeats 2000000 in
theorem t_skip : ∀ (S : sv_S), sm_ok S → (0 ≤ (S 1004 0) ∧ (S 1004 0) ≤ 4000 ∧ 0 ≤ (S 1018 0) ∧ (S 1018 0) ≤ (S 1004 0) ∧ 1 ≤ (S 1019 0) ∧ (S 1019 0) ≤ 1 + (S 1018 0)) → sv_T sm_XS sm_cs sm_L sm_sh 1 (q_skip S) 15 0 (lv_args 0 [.ref 0]) [] S := by
  intro S hok hpre
  have h := f_skip S hok hpre
  have hM := sm_h15
  show sv_T sm_XS sm_cs sm_L sm_sh 1 (q_skip S) 15 0 [(0, .ref 0)] [] S
  refine sv_iconst (d := (1 : Int)) hM dX12_skip_0 rfl rfl ?_
  refine sv_istore_n hM dX12_skip_1 (by decide) rfl ?_
  show sv_T sm_XS sm_cs sm_L sm_sh 1 (q_skip S) 15 2 [(0, .ref 0), (1, sv_I (1 : Int))] [] S
  obtain ⟨hin4, h⟩ := h
  have hJ : ∀ a : Int × sv_S, (sv_R a.1 ∧ sm_ok (sv_sts S [1018, 1019] a.2) ∧ ((a.1 = 0 ∨ a.1 = 1) ∧ (S 1018 0) ≤ (a.2 1018 0) ∧ (a.2 1018 0) ≤ (S 1004 0) ∧ 1 ≤ (a.2 1019 0) ∧ (a.2 1019 0) ≤ 1 + (a.2 1018 0))) → sv_T sm_XS sm_cs sm_L sm_sh 1 (q_skip S) 15 2 [(0, .ref 0), (1, sv_I a.1)] [] (sv_sts S [1018, 1019] a.2) := by
    refine sv_loop (α := Int × sv_S) (fun a => sv_R a.1 ∧ sm_ok (sv_sts S [1018, 1019] a.2) ∧ ((a.1 = 0 ∨ a.1 = 1) ∧ (S 1018 0) ≤ (a.2 1018 0) ∧ (a.2 1018 0) ≤ (S 1004 0) ∧ 1 ≤ (a.2 1019 0) ∧ (a.2 1019 0) ≤ 1 + (a.2 1018 0))) (fun a => 2 * ((S 1004 0) - (a.2 1018 0)) + a.1) (fun a => sv_T sm_XS sm_cs sm_L sm_sh 1 (q_skip S) 15 2 [(0, .ref 0), (1, sv_I a.1)] [] (sv_sts S [1018, 1019] a.2)) (fun a q => (h a.1 q.1 a.2 q.2.2).1) (fun a q ih3 => ?_)
    obtain ⟨l1_2, g1⟩ := a
    obtain ⟨hl1_2, ok5, hin4i⟩ := q
    have h := (h l1_2 hl1_2 g1 hin4i).2
    show sv_T sm_XS sm_cs sm_L sm_sh 1 (q_skip S) 15 2 [(0, .ref 0), (1, sv_I l1_2)] [] (sv_sts S [1018, 1019] g1)
    have md6 : sv_mod [1018, 1019] S (sv_sts S [1018, 1019] g1) := sv_mod.sts sv_mod.rf (by decide)
    have md7 : sv_mod [1018, 1019] S (sv_sts S [1018, 1019] g1) := sv_mod.sts sv_mod.rf (by decide)
    refine sv_iload_n hM dX12_skip_2 rfl rfl ?_
    refine sv_cond_eq hM dX12_skip_3 hl1_2 (t := 267) rfl rfl (fun hc => ?_) (fun hc => ?_)
    · have h := h.1 (hc)
      refine sv_iconst (d := (1 : Int)) hM dX12_skip_267 rfl rfl ?_
      exact sv_iret hM dX12_skip_268 rfl (sv_nz (⟨by decide, by decide⟩ : 0 ≤ (1 : Int) ∧ (1 : Int) ≤ 1)) ⟨(1 : Int), rfl, sv_R01 (⟨by decide, by decide⟩ : 0 ≤ (1 : Int) ∧ (1 : Int) ≤ 1), ok5, md6, h⟩
    · have h := h.2 (hc)
      refine sv_aload_n hM dX12_skip_6 rfl rfl ?_
      refine sv_aload_n hM dX12_skip_7 rfl rfl ?_
      have k8 : sv_R (g1 1018 0) := sm_okI ok5 sm_r1018 0
      have h := h k8
      refine sv_getI hM dX12_skip_8 sm_fl_344 (sm_a0 _) sm_k18 rfl (x := (g1 1018 0)) rfl ?_
      refine sv_callV hM dX12_skip_11 sm_iv_331 (by decide) (sm_a0 _) rfl rfl (Nat.le_of_ble_eq_true rfl) sm_h11 (Nat.le_of_ble_eq_true rfl) (Nat.le_of_ble_eq_true rfl) (F' := 0) (Nat.le_of_ble_eq_true rfl) rfl (t_isThere (g1 1018 0) (sv_sts S [1018, 1019] g1) ok5 k8) (fun v S1 hq => ?_)
      obtain ⟨rfl, hS1⟩ := hq
      obtain rfl : (sv_sts S [1018, 1019] g1) = S1 := hS1.symm
      show sv_T sm_XS sm_cs sm_L sm_sh 1 (q_skip S) 15 14 [(0, .ref 0), (1, sv_I l1_2)] [sv_I (if (g1 1018 0) < (S 1004 0) then 1 else 0)] (sv_sts S [1018, 1019] g1)
      refine sv_cond_eq hM dX12_skip_14 (sv_Rite : sv_R (if (g1 1018 0) < (S 1004 0) then 1 else 0)) (t := 267) rfl rfl (fun hc => ?_) (fun hc => ?_)
      · have h := h.1 (sv_iten hc)
        refine sv_iconst (d := (1 : Int)) hM dX12_skip_267 rfl rfl ?_
        exact sv_iret hM dX12_skip_268 rfl (sv_nz (⟨by decide, by decide⟩ : 0 ≤ (1 : Int) ∧ (1 : Int) ≤ 1)) ⟨(1 : Int), rfl, sv_R01 (⟨by decide, by decide⟩ : 0 ≤ (1 : Int) ∧ (1 : Int) ≤ 1), ok5, md6, h⟩
      · have h := h.2 (sv_itep hc)
        refine sv_aload_n hM dX12_skip_17 rfl rfl ?_
        refine sv_aload_n hM dX12_skip_18 rfl rfl ?_
        refine sv_getI hM dX12_skip_19 sm_fl_344 (sm_a0 _) sm_k18 rfl (x := (g1 1018 0)) rfl ?_
        obtain ⟨o9, h⟩ := h
        refine sv_callV hM dX12_skip_22 sm_iv_334 (by decide) (sm_a0 _) rfl rfl (Nat.le_of_ble_eq_true rfl) sm_h10 (Nat.le_of_ble_eq_true rfl) (Nat.le_of_ble_eq_true rfl) (F' := 0) (Nat.le_of_ble_eq_true rfl) rfl (t_look (g1 1018 0) (sv_sts S [1018, 1019] g1) ok5 k8 o9) (fun v S1 hq => ?_)
        obtain ⟨rfl, hS1⟩ := hq
        obtain rfl : (sv_sts S [1018, 1019] g1) = S1 := hS1.symm
        show sv_T sm_XS sm_cs sm_L sm_sh 1 (q_skip S) 15 25 [(0, .ref 0), (1, sv_I l1_2)] [sv_I ((if (g1 1018 0) < (S 1004 0) then (S 2 (g1 1018 0)) % 256 else 0))] (sv_sts S [1018, 1019] g1)
        obtain ⟨x10, e11⟩ : ∃ x : Int, ((if (g1 1018 0) < (S 1004 0) then (S 2 (g1 1018 0)) % 256 else 0)) = x := ⟨_, rfl⟩
        have h := h x10 e11
        refine sv_nameI e11 ?_
        refine sv_istore_n hM dX12_skip_25 (by decide) rfl ?_
        show sv_T sm_XS sm_cs sm_L sm_sh 1 (q_skip S) 15 26 [(0, .ref 0), (1, sv_I l1_2), (2, sv_I x10)] [] (sv_sts S [1018, 1019] g1)
        refine sv_iload_n hM dX12_skip_26 rfl rfl ?_
        refine sv_bipush (d := (9 : Int)) hM dX12_skip_27 rfl rfl ?_
        obtain ⟨o12, h⟩ := h
        refine sv_icmp_eq hM dX12_skip_29 o12 (⟨by decide, by decide⟩ : sv_R (9 : Int)) (t := 44) rfl rfl (fun hc => ?_) (fun hc => ?_)
        · have h := h.1 (hc)
          refine sv_aload_n hM dX12_skip_44 rfl rfl ?_
          refine sv_dupA hM dX12_skip_45 rfl ?_
          have k13 : sv_R (g1 1019 0) := sm_okI ok5 sm_r1019 0
          have h := h k13
          refine sv_getI hM dX12_skip_46 sm_fl_347 (sm_a0 _) sm_k19 rfl (x := (g1 1019 0)) rfl ?_
          refine sv_iload_n hM dX12_skip_49 rfl rfl ?_
          refine sv_bipush (d := (10 : Int)) hM dX12_skip_50 rfl rfl ?_
          refine sv_icmp_ne hM dX12_skip_52 o12 (⟨by decide, by decide⟩ : sv_R (10 : Int)) (t := 59) rfl rfl (fun hc => ?_) (fun hc => ?_)
          · have h := h.1 (hc)
            refine sv_iconst (d := (0 : Int)) hM dX12_skip_59 rfl rfl ?_
            refine sv_iadd hM dX12_skip_60 rfl ?_
            obtain ⟨o14, h⟩ := h
            refine sv_putI sm_X hM dX12_skip_61 sm_fp_347 (sm_a0 _) sm_q19 (Or.inl rfl) rfl rfl rfl rfl ?_
            have ok15 : sm_ok (sv_up (sv_sts S [1018, 1019] g1) 1019 0 ((g1 1019 0) + (0 : Int))) := sm_upI ok5 sm_r1019 o14
            have md16 : sv_mod [1018, 1019] S (sv_up (sv_sts S [1018, 1019] g1) 1019 0 ((g1 1019 0) + (0 : Int))) := sv_mod.up md6 (by decide)
            have md17 : sv_mod [1018, 1019] S (sv_up (sv_sts S [1018, 1019] g1) 1019 0 ((g1 1019 0) + (0 : Int))) := sv_mod.up md7 (by decide)
            refine sv_aload_n hM dX12_skip_64 rfl rfl ?_
            refine sv_dupA hM dX12_skip_65 rfl ?_
            refine sv_getI hM dX12_skip_66 sm_fl_344 (sm_a0 _) sm_k18 rfl (x := (g1 1018 0)) rfl ?_
            refine sv_iconst (d := (1 : Int)) hM dX12_skip_69 rfl rfl ?_
            refine sv_iadd hM dX12_skip_70 rfl ?_
            obtain ⟨o18, h⟩ := h
            refine sv_putI sm_X hM dX12_skip_71 sm_fp_344 (sm_a0 _) sm_q18 (Or.inl rfl) rfl rfl rfl rfl ?_
            have ok19 : sm_ok (sv_up (sv_up (sv_sts S [1018, 1019] g1) 1019 0 ((g1 1019 0) + (0 : Int))) 1018 0 ((g1 1018 0) + (1 : Int))) := sm_upI ok15 sm_r1018 o18
            have md20 : sv_mod [1018, 1019] S (sv_up (sv_up (sv_sts S [1018, 1019] g1) 1019 0 ((g1 1019 0) + (0 : Int))) 1018 0 ((g1 1018 0) + (1 : Int))) := sv_mod.up md16 (by decide)
            have md21 : sv_mod [1018, 1019] S (sv_up (sv_up (sv_sts S [1018, 1019] g1) 1019 0 ((g1 1019 0) + (0 : Int))) 1018 0 ((g1 1018 0) + (1 : Int))) := sv_mod.up md17 (by decide)
            refine sv_goto hM dX12_skip_74 (pc' := 264) rfl ?_
            refine sv_goto hM dX12_skip_264 (pc' := 2) rfl ?_
            have eS := sv_mod.eq md21
            have hb := ih3 (l1_2, (sv_up (sv_up (sv_sts S [1018, 1019] g1) 1019 0 ((g1 1019 0) + (0 : Int))) 1018 0 ((g1 1018 0) + (1 : Int)))) ⟨hl1_2, (by rw [← eS]; exact ok19), h.1⟩ h.2
            have hb : sv_T sm_XS sm_cs sm_L sm_sh 1 (q_skip S) 15 2 [(0, .ref 0), (1, sv_I l1_2)] [] (sv_up (sv_up (sv_sts S [1018, 1019] g1) 1019 0 ((g1 1019 0) + (0 : Int))) 1018 0 ((g1 1018 0) + (1 : Int))) := Eq.mpr (congrArg (fun Z => sv_T sm_XS sm_cs sm_L sm_sh 1 (q_skip S) 15 2 [(0, .ref 0), (1, sv_I l1_2)] [] Z) eS) hb
            exact sv_less (lv := [(0, .ref 0), (1, sv_I l1_2)]) (sv_Sub_cons rfl (sv_Sub_cons rfl sv_Sub_nil)) hb
          · have h := h.2 (hc)
            refine sv_iconst (d := (1 : Int)) hM dX12_skip_55 rfl rfl ?_
            refine sv_goto hM dX12_skip_56 (pc' := 60) rfl ?_
            refine sv_iadd hM dX12_skip_60 rfl ?_
            obtain ⟨o22, h⟩ := h
            refine sv_putI sm_X hM dX12_skip_61 sm_fp_347 (sm_a0 _) sm_q19 (Or.inl rfl) rfl rfl rfl rfl ?_
            have ok23 : sm_ok (sv_up (sv_sts S [1018, 1019] g1) 1019 0 ((g1 1019 0) + (1 : Int))) := sm_upI ok5 sm_r1019 o22
            have md24 : sv_mod [1018, 1019] S (sv_up (sv_sts S [1018, 1019] g1) 1019 0 ((g1 1019 0) + (1 : Int))) := sv_mod.up md6 (by decide)
            have md25 : sv_mod [1018, 1019] S (sv_up (sv_sts S [1018, 1019] g1) 1019 0 ((g1 1019 0) + (1 : Int))) := sv_mod.up md7 (by decide)
            refine sv_aload_n hM dX12_skip_64 rfl rfl ?_
            refine sv_dupA hM dX12_skip_65 rfl ?_
            refine sv_getI hM dX12_skip_66 sm_fl_344 (sm_a0 _) sm_k18 rfl (x := (g1 1018 0)) rfl ?_
            refine sv_iconst (d := (1 : Int)) hM dX12_skip_69 rfl rfl ?_
            refine sv_iadd hM dX12_skip_70 rfl ?_
            obtain ⟨o26, h⟩ := h
            refine sv_putI sm_X hM dX12_skip_71 sm_fp_344 (sm_a0 _) sm_q18 (Or.inl rfl) rfl rfl rfl rfl ?_
            have ok27 : sm_ok (sv_up (sv_up (sv_sts S [1018, 1019] g1) 1019 0 ((g1 1019 0) + (1 : Int))) 1018 0 ((g1 1018 0) + (1 : Int))) := sm_upI ok23 sm_r1018 o26
            have md28 : sv_mod [1018, 1019] S (sv_up (sv_up (sv_sts S [1018, 1019] g1) 1019 0 ((g1 1019 0) + (1 : Int))) 1018 0 ((g1 1018 0) + (1 : Int))) := sv_mod.up md24 (by decide)
            have md29 : sv_mod [1018, 1019] S (sv_up (sv_up (sv_sts S [1018, 1019] g1) 1019 0 ((g1 1019 0) + (1 : Int))) 1018 0 ((g1 1018 0) + (1 : Int))) := sv_mod.up md25 (by decide)
            refine sv_goto hM dX12_skip_74 (pc' := 264) rfl ?_
            refine sv_goto hM dX12_skip_264 (pc' := 2) rfl ?_
            have eS := sv_mod.eq md29
            have hb := ih3 (l1_2, (sv_up (sv_up (sv_sts S [1018, 1019] g1) 1019 0 ((g1 1019 0) + (1 : Int))) 1018 0 ((g1 1018 0) + (1 : Int)))) ⟨hl1_2, (by rw [← eS]; exact ok27), h.1⟩ h.2
            have hb : sv_T sm_XS sm_cs sm_L sm_sh 1 (q_skip S) 15 2 [(0, .ref 0), (1, sv_I l1_2)] [] (sv_up (sv_up (sv_sts S [1018, 1019] g1) 1019 0 ((g1 1019 0) + (1 : Int))) 1018 0 ((g1 1018 0) + (1 : Int))) := Eq.mpr (congrArg (fun Z => sv_T sm_XS sm_cs sm_L sm_sh 1 (q_skip S) 15 2 [(0, .ref 0), (1, sv_I l1_2)] [] Z) eS) hb
            exact sv_less (lv := [(0, .ref 0), (1, sv_I l1_2)]) (sv_Sub_cons rfl (sv_Sub_cons rfl sv_Sub_nil)) hb
        · have h := h.2 (hc)
          refine sv_iload_n hM dX12_skip_32 rfl rfl ?_
          refine sv_bipush (d := (10 : Int)) hM dX12_skip_33 rfl rfl ?_
          refine sv_icmp_eq hM dX12_skip_35 o12 (⟨by decide, by decide⟩ : sv_R (10 : Int)) (t := 44) rfl rfl (fun hc => ?_) (fun hc => ?_)
          · have h := h.1 (hc)
            refine sv_aload_n hM dX12_skip_44 rfl rfl ?_
            refine sv_dupA hM dX12_skip_45 rfl ?_
            have k30 : sv_R (g1 1019 0) := sm_okI ok5 sm_r1019 0
            have h := h k30
            refine sv_getI hM dX12_skip_46 sm_fl_347 (sm_a0 _) sm_k19 rfl (x := (g1 1019 0)) rfl ?_
            refine sv_iload_n hM dX12_skip_49 rfl rfl ?_
            refine sv_bipush (d := (10 : Int)) hM dX12_skip_50 rfl rfl ?_
            refine sv_icmp_ne hM dX12_skip_52 o12 (⟨by decide, by decide⟩ : sv_R (10 : Int)) (t := 59) rfl rfl (fun hc => ?_) (fun hc => ?_)
            · have h := h.1 (hc)
              refine sv_iconst (d := (0 : Int)) hM dX12_skip_59 rfl rfl ?_
              refine sv_iadd hM dX12_skip_60 rfl ?_
              obtain ⟨o31, h⟩ := h
              refine sv_putI sm_X hM dX12_skip_61 sm_fp_347 (sm_a0 _) sm_q19 (Or.inl rfl) rfl rfl rfl rfl ?_
              have ok32 : sm_ok (sv_up (sv_sts S [1018, 1019] g1) 1019 0 ((g1 1019 0) + (0 : Int))) := sm_upI ok5 sm_r1019 o31
              have md33 : sv_mod [1018, 1019] S (sv_up (sv_sts S [1018, 1019] g1) 1019 0 ((g1 1019 0) + (0 : Int))) := sv_mod.up md6 (by decide)
              have md34 : sv_mod [1018, 1019] S (sv_up (sv_sts S [1018, 1019] g1) 1019 0 ((g1 1019 0) + (0 : Int))) := sv_mod.up md7 (by decide)
              refine sv_aload_n hM dX12_skip_64 rfl rfl ?_
              refine sv_dupA hM dX12_skip_65 rfl ?_
              refine sv_getI hM dX12_skip_66 sm_fl_344 (sm_a0 _) sm_k18 rfl (x := (g1 1018 0)) rfl ?_
              refine sv_iconst (d := (1 : Int)) hM dX12_skip_69 rfl rfl ?_
              refine sv_iadd hM dX12_skip_70 rfl ?_
              obtain ⟨o35, h⟩ := h
              refine sv_putI sm_X hM dX12_skip_71 sm_fp_344 (sm_a0 _) sm_q18 (Or.inl rfl) rfl rfl rfl rfl ?_
              have ok36 : sm_ok (sv_up (sv_up (sv_sts S [1018, 1019] g1) 1019 0 ((g1 1019 0) + (0 : Int))) 1018 0 ((g1 1018 0) + (1 : Int))) := sm_upI ok32 sm_r1018 o35
              have md37 : sv_mod [1018, 1019] S (sv_up (sv_up (sv_sts S [1018, 1019] g1) 1019 0 ((g1 1019 0) + (0 : Int))) 1018 0 ((g1 1018 0) + (1 : Int))) := sv_mod.up md33 (by decide)
              have md38 : sv_mod [1018, 1019] S (sv_up (sv_up (sv_sts S [1018, 1019] g1) 1019 0 ((g1 1019 0) + (0 : Int))) 1018 0 ((g1 1018 0) + (1 : Int))) := sv_mod.up md34 (by decide)
              refine sv_goto hM dX12_skip_74 (pc' := 264) rfl ?_
              refine sv_goto hM dX12_skip_264 (pc' := 2) rfl ?_
              have eS := sv_mod.eq md38
              have hb := ih3 (l1_2, (sv_up (sv_up (sv_sts S [1018, 1019] g1) 1019 0 ((g1 1019 0) + (0 : Int))) 1018 0 ((g1 1018 0) + (1 : Int)))) ⟨hl1_2, (by rw [← eS]; exact ok36), h.1⟩ h.2
              have hb : sv_T sm_XS sm_cs sm_L sm_sh 1 (q_skip S) 15 2 [(0, .ref 0), (1, sv_I l1_2)] [] (sv_up (sv_up (sv_sts S [1018, 1019] g1) 1019 0 ((g1 1019 0) + (0 : Int))) 1018 0 ((g1 1018 0) + (1 : Int))) := Eq.mpr (congrArg (fun Z => sv_T sm_XS sm_cs sm_L sm_sh 1 (q_skip S) 15 2 [(0, .ref 0), (1, sv_I l1_2)] [] Z) eS) hb
              exact sv_less (lv := [(0, .ref 0), (1, sv_I l1_2)]) (sv_Sub_cons rfl (sv_Sub_cons rfl sv_Sub_nil)) hb
            · have h := h.2 (hc)
              refine sv_iconst (d := (1 : Int)) hM dX12_skip_55 rfl rfl ?_
              refine sv_goto hM dX12_skip_56 (pc' := 60) rfl ?_
              refine sv_iadd hM dX12_skip_60 rfl ?_
              obtain ⟨o39, h⟩ := h
              refine sv_putI sm_X hM dX12_skip_61 sm_fp_347 (sm_a0 _) sm_q19 (Or.inl rfl) rfl rfl rfl rfl ?_
              have ok40 : sm_ok (sv_up (sv_sts S [1018, 1019] g1) 1019 0 ((g1 1019 0) + (1 : Int))) := sm_upI ok5 sm_r1019 o39
              have md41 : sv_mod [1018, 1019] S (sv_up (sv_sts S [1018, 1019] g1) 1019 0 ((g1 1019 0) + (1 : Int))) := sv_mod.up md6 (by decide)
              have md42 : sv_mod [1018, 1019] S (sv_up (sv_sts S [1018, 1019] g1) 1019 0 ((g1 1019 0) + (1 : Int))) := sv_mod.up md7 (by decide)
              refine sv_aload_n hM dX12_skip_64 rfl rfl ?_
              refine sv_dupA hM dX12_skip_65 rfl ?_
              refine sv_getI hM dX12_skip_66 sm_fl_344 (sm_a0 _) sm_k18 rfl (x := (g1 1018 0)) rfl ?_
              refine sv_iconst (d := (1 : Int)) hM dX12_skip_69 rfl rfl ?_
              refine sv_iadd hM dX12_skip_70 rfl ?_
              obtain ⟨o43, h⟩ := h
              refine sv_putI sm_X hM dX12_skip_71 sm_fp_344 (sm_a0 _) sm_q18 (Or.inl rfl) rfl rfl rfl rfl ?_
              have ok44 : sm_ok (sv_up (sv_up (sv_sts S [1018, 1019] g1) 1019 0 ((g1 1019 0) + (1 : Int))) 1018 0 ((g1 1018 0) + (1 : Int))) := sm_upI ok40 sm_r1018 o43
              have md45 : sv_mod [1018, 1019] S (sv_up (sv_up (sv_sts S [1018, 1019] g1) 1019 0 ((g1 1019 0) + (1 : Int))) 1018 0 ((g1 1018 0) + (1 : Int))) := sv_mod.up md41 (by decide)
              have md46 : sv_mod [1018, 1019] S (sv_up (sv_up (sv_sts S [1018, 1019] g1) 1019 0 ((g1 1019 0) + (1 : Int))) 1018 0 ((g1 1018 0) + (1 : Int))) := sv_mod.up md42 (by decide)
              refine sv_goto hM dX12_skip_74 (pc' := 264) rfl ?_
              refine sv_goto hM dX12_skip_264 (pc' := 2) rfl ?_
              have eS := sv_mod.eq md46
              have hb := ih3 (l1_2, (sv_up (sv_up (sv_sts S [1018, 1019] g1) 1019 0 ((g1 1019 0) + (1 : Int))) 1018 0 ((g1 1018 0) + (1 : Int)))) ⟨hl1_2, (by rw [← eS]; exact ok44), h.1⟩ h.2
              have hb : sv_T sm_XS sm_cs sm_L sm_sh 1 (q_skip S) 15 2 [(0, .ref 0), (1, sv_I l1_2)] [] (sv_up (sv_up (sv_sts S [1018, 1019] g1) 1019 0 ((g1 1019 0) + (1 : Int))) 1018 0 ((g1 1018 0) + (1 : Int))) := Eq.mpr (congrArg (fun Z => sv_T sm_XS sm_cs sm_L sm_sh 1 (q_skip S) 15 2 [(0, .ref 0), (1, sv_I l1_2)] [] Z) eS) hb
              exact sv_less (lv := [(0, .ref 0), (1, sv_I l1_2)]) (sv_Sub_cons rfl (sv_Sub_cons rfl sv_Sub_nil)) hb
          · have h := h.2 (hc)
            refine sv_iload_n hM dX12_skip_38 rfl rfl ?_
            refine sv_bipush (d := (32 : Int)) hM dX12_skip_39 rfl rfl ?_
            refine sv_icmp_ne hM dX12_skip_41 o12 (⟨by decide, by decide⟩ : sv_R (32 : Int)) (t := 77) rfl rfl (fun hc => ?_) (fun hc => ?_)
            · have h := h.1 (hc)
              refine sv_iload_n hM dX12_skip_77 rfl rfl ?_
              refine sv_bipush (d := (47 : Int)) hM dX12_skip_78 rfl rfl ?_
              refine sv_icmp_ne hM dX12_skip_80 o12 (⟨by decide, by decide⟩ : sv_R (47 : Int)) (t := 135) rfl rfl (fun hc => ?_) (fun hc => ?_)
              · have h := h.1 (hc)
                refine sv_iload_n hM dX12_skip_135 rfl rfl ?_
                refine sv_bipush (d := (47 : Int)) hM dX12_skip_136 rfl rfl ?_
                refine sv_icmp_ne hM dX12_skip_138 o12 (⟨by decide, by decide⟩ : sv_R (47 : Int)) (t := 262) rfl rfl (fun hc => ?_) (fun hc => ?_)
                · have h := h.1 (hc)
                  refine sv_iconst (d := (0 : Int)) hM dX12_skip_262 rfl rfl ?_
                  refine sv_istore_n hM dX12_skip_263 (by decide) rfl ?_
                  show sv_T sm_XS sm_cs sm_L sm_sh 1 (q_skip S) 15 264 [(0, .ref 0), (1, sv_I (0 : Int)), (2, sv_I x10)] [] (sv_sts S [1018, 1019] g1)
                  refine sv_goto hM dX12_skip_264 (pc' := 2) rfl ?_
                  have eS := sv_mod.eq md7
                  have hb := ih3 ((0 : Int), (sv_sts S [1018, 1019] g1)) ⟨(⟨by decide, by decide⟩ : sv_R (0 : Int)), (by rw [← eS]; exact ok5), h.1⟩ h.2
                  have hb : sv_T sm_XS sm_cs sm_L sm_sh 1 (q_skip S) 15 2 [(0, .ref 0), (1, sv_I (0 : Int))] [] (sv_sts S [1018, 1019] g1) := Eq.mpr (congrArg (fun Z => sv_T sm_XS sm_cs sm_L sm_sh 1 (q_skip S) 15 2 [(0, .ref 0), (1, sv_I (0 : Int))] [] Z) eS) hb
                  exact sv_less (lv := [(0, .ref 0), (1, sv_I (0 : Int))]) (sv_Sub_cons rfl (sv_Sub_cons rfl sv_Sub_nil)) hb
                · have h := h.2 (hc)
                  refine sv_aload_n hM dX12_skip_141 rfl rfl ?_
                  refine sv_aload_n hM dX12_skip_142 rfl rfl ?_
                  refine sv_getI hM dX12_skip_143 sm_fl_344 (sm_a0 _) sm_k18 rfl (x := (g1 1018 0)) rfl ?_
                  refine sv_iconst (d := (1 : Int)) hM dX12_skip_146 rfl rfl ?_
                  refine sv_iadd hM dX12_skip_147 rfl ?_
                  obtain ⟨o47, h⟩ := h
                  obtain ⟨o48, h⟩ := h
                  refine sv_callV hM dX12_skip_148 sm_iv_334 (by decide) (sm_a0 _) rfl rfl (Nat.le_of_ble_eq_true rfl) sm_h10 (Nat.le_of_ble_eq_true rfl) (Nat.le_of_ble_eq_true rfl) (F' := 0) (Nat.le_of_ble_eq_true rfl) rfl (t_look ((g1 1018 0) + (1 : Int)) (sv_sts S [1018, 1019] g1) ok5 o47 o48) (fun v S1 hq => ?_)
                  obtain ⟨rfl, hS1⟩ := hq
                  obtain rfl : (sv_sts S [1018, 1019] g1) = S1 := hS1.symm
                  show sv_T sm_XS sm_cs sm_L sm_sh 1 (q_skip S) 15 151 [(0, .ref 0), (1, sv_I l1_2), (2, sv_I x10)] [sv_I ((if ((g1 1018 0) + (1 : Int)) < (S 1004 0) then (S 2 ((g1 1018 0) + (1 : Int))) % 256 else 0))] (sv_sts S [1018, 1019] g1)
                  refine sv_bipush (d := (42 : Int)) hM dX12_skip_151 rfl rfl ?_
                  obtain ⟨o49, h⟩ := h
                  refine sv_icmp_ne hM dX12_skip_153 o49 (⟨by decide, by decide⟩ : sv_R (42 : Int)) (t := 262) rfl rfl (fun hc => ?_) (fun hc => ?_)
                  · have h := h.1 (hc)
                    refine sv_iconst (d := (0 : Int)) hM dX12_skip_262 rfl rfl ?_
                    refine sv_istore_n hM dX12_skip_263 (by decide) rfl ?_
                    show sv_T sm_XS sm_cs sm_L sm_sh 1 (q_skip S) 15 264 [(0, .ref 0), (1, sv_I (0 : Int)), (2, sv_I x10)] [] (sv_sts S [1018, 1019] g1)
                    refine sv_goto hM dX12_skip_264 (pc' := 2) rfl ?_
                    have eS := sv_mod.eq md7
                    have hb := ih3 ((0 : Int), (sv_sts S [1018, 1019] g1)) ⟨(⟨by decide, by decide⟩ : sv_R (0 : Int)), (by rw [← eS]; exact ok5), h.1⟩ h.2
                    have hb : sv_T sm_XS sm_cs sm_L sm_sh 1 (q_skip S) 15 2 [(0, .ref 0), (1, sv_I (0 : Int))] [] (sv_sts S [1018, 1019] g1) := Eq.mpr (congrArg (fun Z => sv_T sm_XS sm_cs sm_L sm_sh 1 (q_skip S) 15 2 [(0, .ref 0), (1, sv_I (0 : Int))] [] Z) eS) hb
                    exact sv_less (lv := [(0, .ref 0), (1, sv_I (0 : Int))]) (sv_Sub_cons rfl (sv_Sub_cons rfl sv_Sub_nil)) hb
                  · have h := h.2 (hc)
                    refine sv_aload_n hM dX12_skip_156 rfl rfl ?_
                    refine sv_getI hM dX12_skip_157 sm_fl_344 (sm_a0 _) sm_k18 rfl (x := (g1 1018 0)) rfl ?_
                    refine sv_iconst (d := (2 : Int)) hM dX12_skip_160 rfl rfl ?_
                    refine sv_iadd hM dX12_skip_161 rfl ?_
                    obtain ⟨x50, e51⟩ : ∃ x : Int, ((g1 1018 0) + (2 : Int)) = x := ⟨_, rfl⟩
                    have h := h x50 e51
                    refine sv_nameI e51 ?_
                    refine sv_istore_n hM dX12_skip_162 (by decide) rfl ?_
                    show sv_T sm_XS sm_cs sm_L sm_sh 1 (q_skip S) 15 163 [(0, .ref 0), (1, sv_I l1_2), (2, sv_I x10), (3, sv_I x50)] [] (sv_sts S [1018, 1019] g1)
                    obtain ⟨o52, h⟩ := h
                    obtain ⟨hin55, h⟩ := h
                    have hJ : ∀ a : Int × Unit, (sv_R a.1 ∧ sm_ok (sv_sts S [1018, 1019] g1) ∧ (0 ≤ a.1 ∧ (g1 1018 0) < a.1 ∧ a.1 ≤ (S 1004 0) + 2)) → sv_T sm_XS sm_cs sm_L sm_sh 1 (q_skip S) 15 163 [(0, .ref 0), (1, sv_I l1_2), (2, sv_I x10), (3, sv_I a.1)] [] (sv_sts S [1018, 1019] g1) := by
                      refine sv_loop (α := Int × Unit) (fun a => sv_R a.1 ∧ sm_ok (sv_sts S [1018, 1019] g1) ∧ (0 ≤ a.1 ∧ (g1 1018 0) < a.1 ∧ a.1 ≤ (S 1004 0) + 2)) (fun a => (S 1004 0) + 2 - a.1) (fun a => sv_T sm_XS sm_cs sm_L sm_sh 1 (q_skip S) 15 163 [(0, .ref 0), (1, sv_I l1_2), (2, sv_I x10), (3, sv_I a.1)] [] (sv_sts S [1018, 1019] g1)) (fun a q => (h a.1 q.1 q.2.2).1) (fun a q ih54 => ?_)
                      obtain ⟨l3_53, _u⟩ := a
                      obtain ⟨hl3_53, ok56, hin55i⟩ := q
                      have h := (h l3_53 hl3_53 hin55i).2
                      show sv_T sm_XS sm_cs sm_L sm_sh 1 (q_skip S) 15 163 [(0, .ref 0), (1, sv_I l1_2), (2, sv_I x10), (3, sv_I l3_53)] [] (sv_sts S [1018, 1019] g1)
                      refine sv_aload_n hM dX12_skip_163 rfl rfl ?_
                      refine sv_iload_n hM dX12_skip_164 rfl rfl ?_
                      refine sv_callV hM dX12_skip_165 sm_iv_331 (by decide) (sm_a0 _) rfl rfl (Nat.le_of_ble_eq_true rfl) sm_h11 (Nat.le_of_ble_eq_true rfl) (Nat.le_of_ble_eq_true rfl) (F' := 0) (Nat.le_of_ble_eq_true rfl) rfl (t_isThere l3_53 (sv_sts S [1018, 1019] g1) ok56 hl3_53) (fun v S1 hq => ?_)
                      obtain ⟨rfl, hS1⟩ := hq
                      obtain rfl : (sv_sts S [1018, 1019] g1) = S1 := hS1.symm
                      show sv_T sm_XS sm_cs sm_L sm_sh 1 (q_skip S) 15 168 [(0, .ref 0), (1, sv_I l1_2), (2, sv_I x10), (3, sv_I l3_53)] [sv_I (if l3_53 < (S 1004 0) then 1 else 0)] (sv_sts S [1018, 1019] g1)
                      refine sv_cond_eq hM dX12_skip_168 (sv_Rite : sv_R (if l3_53 < (S 1004 0) then 1 else 0)) (t := 199) rfl rfl (fun hc => ?_) (fun hc => ?_)
                      · have h := h.1 (sv_iten hc)
                        refine sv_aload_n hM dX12_skip_199 rfl rfl ?_
                        refine sv_iload_n hM dX12_skip_200 rfl rfl ?_
                        refine sv_callV hM dX12_skip_201 sm_iv_331 (by decide) (sm_a0 _) rfl rfl (Nat.le_of_ble_eq_true rfl) sm_h11 (Nat.le_of_ble_eq_true rfl) (Nat.le_of_ble_eq_true rfl) (F' := 0) (Nat.le_of_ble_eq_true rfl) rfl (t_isThere l3_53 (sv_sts S [1018, 1019] g1) ok56 hl3_53) (fun v S1 hq => ?_)
                        obtain ⟨rfl, hS1⟩ := hq
                        obtain rfl : (sv_sts S [1018, 1019] g1) = S1 := hS1.symm
                        show sv_T sm_XS sm_cs sm_L sm_sh 1 (q_skip S) 15 204 [(0, .ref 0), (1, sv_I l1_2), (2, sv_I x10), (3, sv_I l3_53)] [sv_I (if l3_53 < (S 1004 0) then 1 else 0)] (sv_sts S [1018, 1019] g1)
                        refine sv_cond_ne hM dX12_skip_204 (sv_Rite : sv_R (if l3_53 < (S 1004 0) then 1 else 0)) (t := 209) rfl rfl (fun hc => ?_) (fun hc => ?_)
                        · have h := h.1 (sv_itep hc)
                          obtain ⟨hin59, h⟩ := h
                          have hJ : ∀ a : sv_S, (sm_ok (sv_sts (sv_sts S [1018, 1019] g1) [1018, 1019] a) ∧ ((S 1018 0) ≤ (a 1018 0) ∧ (a 1018 0) ≤ l3_53 + 2 ∧ 0 ≤ l3_53 ∧ l3_53 < (S 1004 0) ∧ 1 ≤ (a 1019 0) ∧ (a 1019 0) ≤ 1 + (a 1018 0))) → sv_T sm_XS sm_cs sm_L sm_sh 1 (q_skip S) 15 209 [(0, .ref 0), (1, sv_I l1_2), (2, sv_I x10), (3, sv_I l3_53)] [] (sv_sts (sv_sts S [1018, 1019] g1) [1018, 1019] a) := by
                            refine sv_loop (α := sv_S) (fun a => sm_ok (sv_sts (sv_sts S [1018, 1019] g1) [1018, 1019] a) ∧ ((S 1018 0) ≤ (a 1018 0) ∧ (a 1018 0) ≤ l3_53 + 2 ∧ 0 ≤ l3_53 ∧ l3_53 < (S 1004 0) ∧ 1 ≤ (a 1019 0) ∧ (a 1019 0) ≤ 1 + (a 1018 0))) (fun a => l3_53 + 2 - (a 1018 0)) (fun a => sv_T sm_XS sm_cs sm_L sm_sh 1 (q_skip S) 15 209 [(0, .ref 0), (1, sv_I l1_2), (2, sv_I x10), (3, sv_I l3_53)] [] (sv_sts (sv_sts S [1018, 1019] g1) [1018, 1019] a)) (fun a q => (h a q.2).1) (fun g57 q ih58 => ?_)
                            obtain ⟨ok60, hin59i⟩ := q
                            have h := (h g57 hin59i).2
                            show sv_T sm_XS sm_cs sm_L sm_sh 1 (q_skip S) 15 209 [(0, .ref 0), (1, sv_I l1_2), (2, sv_I x10), (3, sv_I l3_53)] [] (sv_sts (sv_sts S [1018, 1019] g1) [1018, 1019] g57)
                            have md61 : sv_mod [1018, 1019] S (sv_sts (sv_sts S [1018, 1019] g1) [1018, 1019] g57) := sv_mod.sts md6 (by decide)
                            have md62 : sv_mod [1018, 1019] S (sv_sts (sv_sts S [1018, 1019] g1) [1018, 1019] g57) := sv_mod.sts md7 (by decide)
                            have md63 : sv_mod [1018, 1019] (sv_sts S [1018, 1019] g1) (sv_sts (sv_sts S [1018, 1019] g1) [1018, 1019] g57) := sv_mod.sts sv_mod.rf (by decide)
                            refine sv_aload_n hM dX12_skip_209 rfl rfl ?_
                            have k64 : sv_R (g57 1018 0) := sm_okI ok60 sm_r1018 0
                            have h := h k64
                            refine sv_getI hM dX12_skip_210 sm_fl_344 (sm_a0 _) sm_k18 rfl (x := (g57 1018 0)) rfl ?_
                            refine sv_iload_n hM dX12_skip_213 rfl rfl ?_
                            refine sv_iconst (d := (2 : Int)) hM dX12_skip_214 rfl rfl ?_
                            refine sv_iadd hM dX12_skip_215 rfl ?_
                            obtain ⟨o65, h⟩ := h
                            refine sv_icmp_ge hM dX12_skip_216 k64 o65 (t := 259) rfl rfl (fun hc => ?_) (fun hc => ?_)
                            · have h := h.1 (hc)
                              refine sv_goto hM dX12_skip_259 (pc' := 264) rfl ?_
                              refine sv_goto hM dX12_skip_264 (pc' := 2) rfl ?_
                              have eS := sv_mod.eq md62
                              have hb := ih3 (l1_2, (sv_sts (sv_sts S [1018, 1019] g1) [1018, 1019] g57)) ⟨hl1_2, (by rw [← eS]; exact ok60), h.1⟩ h.2
                              have hb : sv_T sm_XS sm_cs sm_L sm_sh 1 (q_skip S) 15 2 [(0, .ref 0), (1, sv_I l1_2)] [] (sv_sts (sv_sts S [1018, 1019] g1) [1018, 1019] g57) := Eq.mpr (congrArg (fun Z => sv_T sm_XS sm_cs sm_L sm_sh 1 (q_skip S) 15 2 [(0, .ref 0), (1, sv_I l1_2)] [] Z) eS) hb
                              exact sv_less (lv := [(0, .ref 0), (1, sv_I l1_2)]) (sv_Sub_cons rfl (sv_Sub_cons rfl sv_Sub_nil)) hb
                            · have h := h.2 (hc)
                              refine sv_aload_n hM dX12_skip_219 rfl rfl ?_
                              refine sv_dupA hM dX12_skip_220 rfl ?_
                              have k66 : sv_R (g57 1019 0) := sm_okI ok60 sm_r1019 0
                              have h := h k66
                              refine sv_getI hM dX12_skip_221 sm_fl_347 (sm_a0 _) sm_k19 rfl (x := (g57 1019 0)) rfl ?_
                              refine sv_aload_n hM dX12_skip_224 rfl rfl ?_
                              refine sv_aload_n hM dX12_skip_225 rfl rfl ?_
                              refine sv_getI hM dX12_skip_226 sm_fl_344 (sm_a0 _) sm_k18 rfl (x := (g57 1018 0)) rfl ?_
                              obtain ⟨o67, h⟩ := h
                              refine sv_callV hM dX12_skip_229 sm_iv_334 (by decide) (sm_a0 _) rfl rfl (Nat.le_of_ble_eq_true rfl) sm_h10 (Nat.le_of_ble_eq_true rfl) (Nat.le_of_ble_eq_true rfl) (F' := 0) (Nat.le_of_ble_eq_true rfl) rfl (t_look (g57 1018 0) (sv_sts (sv_sts S [1018, 1019] g1) [1018, 1019] g57) ok60 k64 o67) (fun v S1 hq => ?_)
                              obtain ⟨rfl, hS1⟩ := hq
                              obtain rfl : (sv_sts (sv_sts S [1018, 1019] g1) [1018, 1019] g57) = S1 := hS1.symm
                              show sv_T sm_XS sm_cs sm_L sm_sh 1 (q_skip S) 15 232 [(0, .ref 0), (1, sv_I l1_2), (2, sv_I x10), (3, sv_I l3_53)] [sv_I ((if (g57 1018 0) < (S 1004 0) then (S 2 (g57 1018 0)) % 256 else 0)), sv_I (g57 1019 0), .ref 0] (sv_sts (sv_sts S [1018, 1019] g1) [1018, 1019] g57)
                              refine sv_bipush (d := (10 : Int)) hM dX12_skip_232 rfl rfl ?_
                              obtain ⟨o68, h⟩ := h
                              refine sv_icmp_ne hM dX12_skip_234 o68 (⟨by decide, by decide⟩ : sv_R (10 : Int)) (t := 241) rfl rfl (fun hc => ?_) (fun hc => ?_)
                              · have h := h.1 (hc)
                                refine sv_iconst (d := (0 : Int)) hM dX12_skip_241 rfl rfl ?_
                                refine sv_iadd hM dX12_skip_242 rfl ?_
                                obtain ⟨o69, h⟩ := h
                                refine sv_putI sm_X hM dX12_skip_243 sm_fp_347 (sm_a0 _) sm_q19 (Or.inl rfl) rfl rfl rfl rfl ?_
                                have ok70 : sm_ok (sv_up (sv_sts (sv_sts S [1018, 1019] g1) [1018, 1019] g57) 1019 0 ((g57 1019 0) + (0 : Int))) := sm_upI ok60 sm_r1019 o69
                                have md71 : sv_mod [1018, 1019] S (sv_up (sv_sts (sv_sts S [1018, 1019] g1) [1018, 1019] g57) 1019 0 ((g57 1019 0) + (0 : Int))) := sv_mod.up md61 (by decide)
                                have md72 : sv_mod [1018, 1019] S (sv_up (sv_sts (sv_sts S [1018, 1019] g1) [1018, 1019] g57) 1019 0 ((g57 1019 0) + (0 : Int))) := sv_mod.up md62 (by decide)
                                have md73 : sv_mod [1018, 1019] (sv_sts S [1018, 1019] g1) (sv_up (sv_sts (sv_sts S [1018, 1019] g1) [1018, 1019] g57) 1019 0 ((g57 1019 0) + (0 : Int))) := sv_mod.up md63 (by decide)
                                refine sv_aload_n hM dX12_skip_246 rfl rfl ?_
                                refine sv_dupA hM dX12_skip_247 rfl ?_
                                refine sv_getI hM dX12_skip_248 sm_fl_344 (sm_a0 _) sm_k18 rfl (x := (g57 1018 0)) rfl ?_
                                refine sv_iconst (d := (1 : Int)) hM dX12_skip_251 rfl rfl ?_
                                refine sv_iadd hM dX12_skip_252 rfl ?_
                                obtain ⟨o74, h⟩ := h
                                refine sv_putI sm_X hM dX12_skip_253 sm_fp_344 (sm_a0 _) sm_q18 (Or.inl rfl) rfl rfl rfl rfl ?_
                                have ok75 : sm_ok (sv_up (sv_up (sv_sts (sv_sts S [1018, 1019] g1) [1018, 1019] g57) 1019 0 ((g57 1019 0) + (0 : Int))) 1018 0 ((g57 1018 0) + (1 : Int))) := sm_upI ok70 sm_r1018 o74
                                have md76 : sv_mod [1018, 1019] S (sv_up (sv_up (sv_sts (sv_sts S [1018, 1019] g1) [1018, 1019] g57) 1019 0 ((g57 1019 0) + (0 : Int))) 1018 0 ((g57 1018 0) + (1 : Int))) := sv_mod.up md71 (by decide)
                                have md77 : sv_mod [1018, 1019] S (sv_up (sv_up (sv_sts (sv_sts S [1018, 1019] g1) [1018, 1019] g57) 1019 0 ((g57 1019 0) + (0 : Int))) 1018 0 ((g57 1018 0) + (1 : Int))) := sv_mod.up md72 (by decide)
                                have md78 : sv_mod [1018, 1019] (sv_sts S [1018, 1019] g1) (sv_up (sv_up (sv_sts (sv_sts S [1018, 1019] g1) [1018, 1019] g57) 1019 0 ((g57 1019 0) + (0 : Int))) 1018 0 ((g57 1018 0) + (1 : Int))) := sv_mod.up md73 (by decide)
                                refine sv_goto hM dX12_skip_256 (pc' := 209) rfl ?_
                                have eS := sv_mod.eq md78
                                have hb := ih58 ((sv_up (sv_up (sv_sts (sv_sts S [1018, 1019] g1) [1018, 1019] g57) 1019 0 ((g57 1019 0) + (0 : Int))) 1018 0 ((g57 1018 0) + (1 : Int)))) ⟨(by rw [← eS]; exact ok75), h.1⟩ h.2
                                have hb : sv_T sm_XS sm_cs sm_L sm_sh 1 (q_skip S) 15 209 [(0, .ref 0), (1, sv_I l1_2), (2, sv_I x10), (3, sv_I l3_53)] [] (sv_up (sv_up (sv_sts (sv_sts S [1018, 1019] g1) [1018, 1019] g57) 1019 0 ((g57 1019 0) + (0 : Int))) 1018 0 ((g57 1018 0) + (1 : Int))) := Eq.mpr (congrArg (fun Z => sv_T sm_XS sm_cs sm_L sm_sh 1 (q_skip S) 15 209 [(0, .ref 0), (1, sv_I l1_2), (2, sv_I x10), (3, sv_I l3_53)] [] Z) eS) hb
                                exact sv_less (lv := [(0, .ref 0), (1, sv_I l1_2), (2, sv_I x10), (3, sv_I l3_53)]) (sv_Sub_cons rfl (sv_Sub_cons rfl (sv_Sub_cons rfl (sv_Sub_cons rfl sv_Sub_nil)))) hb
                              · have h := h.2 (hc)
                                refine sv_iconst (d := (1 : Int)) hM dX12_skip_237 rfl rfl ?_
                                refine sv_goto hM dX12_skip_238 (pc' := 242) rfl ?_
                                refine sv_iadd hM dX12_skip_242 rfl ?_
                                obtain ⟨o79, h⟩ := h
                                refine sv_putI sm_X hM dX12_skip_243 sm_fp_347 (sm_a0 _) sm_q19 (Or.inl rfl) rfl rfl rfl rfl ?_
                                have ok80 : sm_ok (sv_up (sv_sts (sv_sts S [1018, 1019] g1) [1018, 1019] g57) 1019 0 ((g57 1019 0) + (1 : Int))) := sm_upI ok60 sm_r1019 o79
                                have md81 : sv_mod [1018, 1019] S (sv_up (sv_sts (sv_sts S [1018, 1019] g1) [1018, 1019] g57) 1019 0 ((g57 1019 0) + (1 : Int))) := sv_mod.up md61 (by decide)
                                have md82 : sv_mod [1018, 1019] S (sv_up (sv_sts (sv_sts S [1018, 1019] g1) [1018, 1019] g57) 1019 0 ((g57 1019 0) + (1 : Int))) := sv_mod.up md62 (by decide)
                                have md83 : sv_mod [1018, 1019] (sv_sts S [1018, 1019] g1) (sv_up (sv_sts (sv_sts S [1018, 1019] g1) [1018, 1019] g57) 1019 0 ((g57 1019 0) + (1 : Int))) := sv_mod.up md63 (by decide)
                                refine sv_aload_n hM dX12_skip_246 rfl rfl ?_
                                refine sv_dupA hM dX12_skip_247 rfl ?_
                                refine sv_getI hM dX12_skip_248 sm_fl_344 (sm_a0 _) sm_k18 rfl (x := (g57 1018 0)) rfl ?_
                                refine sv_iconst (d := (1 : Int)) hM dX12_skip_251 rfl rfl ?_
                                refine sv_iadd hM dX12_skip_252 rfl ?_
                                obtain ⟨o84, h⟩ := h
                                refine sv_putI sm_X hM dX12_skip_253 sm_fp_344 (sm_a0 _) sm_q18 (Or.inl rfl) rfl rfl rfl rfl ?_
                                have ok85 : sm_ok (sv_up (sv_up (sv_sts (sv_sts S [1018, 1019] g1) [1018, 1019] g57) 1019 0 ((g57 1019 0) + (1 : Int))) 1018 0 ((g57 1018 0) + (1 : Int))) := sm_upI ok80 sm_r1018 o84
                                have md86 : sv_mod [1018, 1019] S (sv_up (sv_up (sv_sts (sv_sts S [1018, 1019] g1) [1018, 1019] g57) 1019 0 ((g57 1019 0) + (1 : Int))) 1018 0 ((g57 1018 0) + (1 : Int))) := sv_mod.up md81 (by decide)
                                have md87 : sv_mod [1018, 1019] S (sv_up (sv_up (sv_sts (sv_sts S [1018, 1019] g1) [1018, 1019] g57) 1019 0 ((g57 1019 0) + (1 : Int))) 1018 0 ((g57 1018 0) + (1 : Int))) := sv_mod.up md82 (by decide)
                                have md88 : sv_mod [1018, 1019] (sv_sts S [1018, 1019] g1) (sv_up (sv_up (sv_sts (sv_sts S [1018, 1019] g1) [1018, 1019] g57) 1019 0 ((g57 1019 0) + (1 : Int))) 1018 0 ((g57 1018 0) + (1 : Int))) := sv_mod.up md83 (by decide)
                                refine sv_goto hM dX12_skip_256 (pc' := 209) rfl ?_
                                have eS := sv_mod.eq md88
                                have hb := ih58 ((sv_up (sv_up (sv_sts (sv_sts S [1018, 1019] g1) [1018, 1019] g57) 1019 0 ((g57 1019 0) + (1 : Int))) 1018 0 ((g57 1018 0) + (1 : Int)))) ⟨(by rw [← eS]; exact ok85), h.1⟩ h.2
                                have hb : sv_T sm_XS sm_cs sm_L sm_sh 1 (q_skip S) 15 209 [(0, .ref 0), (1, sv_I l1_2), (2, sv_I x10), (3, sv_I l3_53)] [] (sv_up (sv_up (sv_sts (sv_sts S [1018, 1019] g1) [1018, 1019] g57) 1019 0 ((g57 1019 0) + (1 : Int))) 1018 0 ((g57 1018 0) + (1 : Int))) := Eq.mpr (congrArg (fun Z => sv_T sm_XS sm_cs sm_L sm_sh 1 (q_skip S) 15 209 [(0, .ref 0), (1, sv_I l1_2), (2, sv_I x10), (3, sv_I l3_53)] [] Z) eS) hb
                                exact sv_less (lv := [(0, .ref 0), (1, sv_I l1_2), (2, sv_I x10), (3, sv_I l3_53)]) (sv_Sub_cons rfl (sv_Sub_cons rfl (sv_Sub_cons rfl (sv_Sub_cons rfl sv_Sub_nil)))) hb
                          have eS := sv_mod.eq (sv_mod.rf (l := [1018, 1019]) (S := (sv_sts S [1018, 1019] g1)))
                          have hb := hJ ((sv_sts S [1018, 1019] g1)) ⟨(by rw [← eS]; exact ok56), hin59⟩
                          have hb : sv_T sm_XS sm_cs sm_L sm_sh 1 (q_skip S) 15 209 [(0, .ref 0), (1, sv_I l1_2), (2, sv_I x10), (3, sv_I l3_53)] [] (sv_sts S [1018, 1019] g1) := Eq.mpr (congrArg (fun Z => sv_T sm_XS sm_cs sm_L sm_sh 1 (q_skip S) 15 209 [(0, .ref 0), (1, sv_I l1_2), (2, sv_I x10), (3, sv_I l3_53)] [] Z) eS) hb
                          exact hb
                        · have h := h.2 (fun q => hc (by rw [if_pos q]; decide))
                          refine sv_iconst (d := (0 : Int)) hM dX12_skip_207 rfl rfl ?_
                          exact sv_iret hM dX12_skip_208 rfl (sv_nz (⟨by decide, by decide⟩ : 0 ≤ (0 : Int) ∧ (0 : Int) ≤ 1)) ⟨(0 : Int), rfl, sv_R01 (⟨by decide, by decide⟩ : 0 ≤ (0 : Int) ∧ (0 : Int) ≤ 1), ok56, md6, h⟩
                      · have h := h.2 (sv_itep hc)
                        refine sv_aload_n hM dX12_skip_171 rfl rfl ?_
                        refine sv_iload_n hM dX12_skip_172 rfl rfl ?_
                        obtain ⟨o89, h⟩ := h
                        refine sv_callV hM dX12_skip_173 sm_iv_334 (by decide) (sm_a0 _) rfl rfl (Nat.le_of_ble_eq_true rfl) sm_h10 (Nat.le_of_ble_eq_true rfl) (Nat.le_of_ble_eq_true rfl) (F' := 0) (Nat.le_of_ble_eq_true rfl) rfl (t_look l3_53 (sv_sts S [1018, 1019] g1) ok56 hl3_53 o89) (fun v S1 hq => ?_)
                        obtain ⟨rfl, hS1⟩ := hq
                        obtain rfl : (sv_sts S [1018, 1019] g1) = S1 := hS1.symm
                        show sv_T sm_XS sm_cs sm_L sm_sh 1 (q_skip S) 15 176 [(0, .ref 0), (1, sv_I l1_2), (2, sv_I x10), (3, sv_I l3_53)] [sv_I ((if l3_53 < (S 1004 0) then (S 2 l3_53) % 256 else 0))] (sv_sts S [1018, 1019] g1)
                        refine sv_bipush (d := (42 : Int)) hM dX12_skip_176 rfl rfl ?_
                        obtain ⟨o90, h⟩ := h
                        refine sv_icmp_ne hM dX12_skip_178 o90 (⟨by decide, by decide⟩ : sv_R (42 : Int)) (t := 193) rfl rfl (fun hc => ?_) (fun hc => ?_)
                        · have h := h.1 (hc)
                          refine sv_iinc (d := (1 : Int)) hM dX12_skip_193 rfl (by decide) rfl rfl ?_
                          show sv_T sm_XS sm_cs sm_L sm_sh 1 (q_skip S) 15 196 [(0, .ref 0), (1, sv_I l1_2), (2, sv_I x10), (3, sv_I (l3_53 + (1 : Int)))] [] (sv_sts S [1018, 1019] g1)
                          refine sv_goto hM dX12_skip_196 (pc' := 163) rfl ?_
                          obtain ⟨o91, h⟩ := h
                          have hb := ih54 ((l3_53 + (1 : Int)), ()) ⟨o91, ok56, h.1⟩ h.2
                          exact sv_less (lv := [(0, .ref 0), (1, sv_I l1_2), (2, sv_I x10), (3, sv_I (l3_53 + (1 : Int)))]) (sv_Sub_cons rfl (sv_Sub_cons rfl (sv_Sub_cons rfl (sv_Sub_cons rfl sv_Sub_nil)))) hb
                        · have h := h.2 (hc)
                          refine sv_aload_n hM dX12_skip_181 rfl rfl ?_
                          refine sv_iload_n hM dX12_skip_182 rfl rfl ?_
                          refine sv_iconst (d := (1 : Int)) hM dX12_skip_183 rfl rfl ?_
                          refine sv_iadd hM dX12_skip_184 rfl ?_
                          obtain ⟨o92, h⟩ := h
                          obtain ⟨o93, h⟩ := h
                          refine sv_callV hM dX12_skip_185 sm_iv_334 (by decide) (sm_a0 _) rfl rfl (Nat.le_of_ble_eq_true rfl) sm_h10 (Nat.le_of_ble_eq_true rfl) (Nat.le_of_ble_eq_true rfl) (F' := 0) (Nat.le_of_ble_eq_true rfl) rfl (t_look (l3_53 + (1 : Int)) (sv_sts S [1018, 1019] g1) ok56 o92 o93) (fun v S1 hq => ?_)
                          obtain ⟨rfl, hS1⟩ := hq
                          obtain rfl : (sv_sts S [1018, 1019] g1) = S1 := hS1.symm
                          show sv_T sm_XS sm_cs sm_L sm_sh 1 (q_skip S) 15 188 [(0, .ref 0), (1, sv_I l1_2), (2, sv_I x10), (3, sv_I l3_53)] [sv_I ((if (l3_53 + (1 : Int)) < (S 1004 0) then (S 2 (l3_53 + (1 : Int))) % 256 else 0))] (sv_sts S [1018, 1019] g1)
                          refine sv_bipush (d := (47 : Int)) hM dX12_skip_188 rfl rfl ?_
                          obtain ⟨o94, h⟩ := h
                          refine sv_icmp_eq hM dX12_skip_190 o94 (⟨by decide, by decide⟩ : sv_R (47 : Int)) (t := 199) rfl rfl (fun hc => ?_) (fun hc => ?_)
                          · have h := h.1 (hc)
                            refine sv_aload_n hM dX12_skip_199 rfl rfl ?_
                            refine sv_iload_n hM dX12_skip_200 rfl rfl ?_
                            refine sv_callV hM dX12_skip_201 sm_iv_331 (by decide) (sm_a0 _) rfl rfl (Nat.le_of_ble_eq_true rfl) sm_h11 (Nat.le_of_ble_eq_true rfl) (Nat.le_of_ble_eq_true rfl) (F' := 0) (Nat.le_of_ble_eq_true rfl) rfl (t_isThere l3_53 (sv_sts S [1018, 1019] g1) ok56 hl3_53) (fun v S1 hq => ?_)
                            obtain ⟨rfl, hS1⟩ := hq
                            obtain rfl : (sv_sts S [1018, 1019] g1) = S1 := hS1.symm
                            show sv_T sm_XS sm_cs sm_L sm_sh 1 (q_skip S) 15 204 [(0, .ref 0), (1, sv_I l1_2), (2, sv_I x10), (3, sv_I l3_53)] [sv_I (if l3_53 < (S 1004 0) then 1 else 0)] (sv_sts S [1018, 1019] g1)
                            refine sv_cond_ne hM dX12_skip_204 (sv_Rite : sv_R (if l3_53 < (S 1004 0) then 1 else 0)) (t := 209) rfl rfl (fun hc => ?_) (fun hc => ?_)
                            · have h := h.1 (sv_itep hc)
                              obtain ⟨hin97, h⟩ := h
                              have hJ : ∀ a : sv_S, (sm_ok (sv_sts (sv_sts S [1018, 1019] g1) [1018, 1019] a) ∧ ((S 1018 0) ≤ (a 1018 0) ∧ (a 1018 0) ≤ l3_53 + 2 ∧ 0 ≤ l3_53 ∧ l3_53 < (S 1004 0) ∧ 1 ≤ (a 1019 0) ∧ (a 1019 0) ≤ 1 + (a 1018 0))) → sv_T sm_XS sm_cs sm_L sm_sh 1 (q_skip S) 15 209 [(0, .ref 0), (1, sv_I l1_2), (2, sv_I x10), (3, sv_I l3_53)] [] (sv_sts (sv_sts S [1018, 1019] g1) [1018, 1019] a) := by
                                refine sv_loop (α := sv_S) (fun a => sm_ok (sv_sts (sv_sts S [1018, 1019] g1) [1018, 1019] a) ∧ ((S 1018 0) ≤ (a 1018 0) ∧ (a 1018 0) ≤ l3_53 + 2 ∧ 0 ≤ l3_53 ∧ l3_53 < (S 1004 0) ∧ 1 ≤ (a 1019 0) ∧ (a 1019 0) ≤ 1 + (a 1018 0))) (fun a => l3_53 + 2 - (a 1018 0)) (fun a => sv_T sm_XS sm_cs sm_L sm_sh 1 (q_skip S) 15 209 [(0, .ref 0), (1, sv_I l1_2), (2, sv_I x10), (3, sv_I l3_53)] [] (sv_sts (sv_sts S [1018, 1019] g1) [1018, 1019] a)) (fun a q => (h a q.2).1) (fun g95 q ih96 => ?_)
                                obtain ⟨ok98, hin97i⟩ := q
                                have h := (h g95 hin97i).2
                                show sv_T sm_XS sm_cs sm_L sm_sh 1 (q_skip S) 15 209 [(0, .ref 0), (1, sv_I l1_2), (2, sv_I x10), (3, sv_I l3_53)] [] (sv_sts (sv_sts S [1018, 1019] g1) [1018, 1019] g95)
                                have md99 : sv_mod [1018, 1019] S (sv_sts (sv_sts S [1018, 1019] g1) [1018, 1019] g95) := sv_mod.sts md6 (by decide)
                                have md100 : sv_mod [1018, 1019] S (sv_sts (sv_sts S [1018, 1019] g1) [1018, 1019] g95) := sv_mod.sts md7 (by decide)
                                have md101 : sv_mod [1018, 1019] (sv_sts S [1018, 1019] g1) (sv_sts (sv_sts S [1018, 1019] g1) [1018, 1019] g95) := sv_mod.sts sv_mod.rf (by decide)
                                refine sv_aload_n hM dX12_skip_209 rfl rfl ?_
                                have k102 : sv_R (g95 1018 0) := sm_okI ok98 sm_r1018 0
                                have h := h k102
                                refine sv_getI hM dX12_skip_210 sm_fl_344 (sm_a0 _) sm_k18 rfl (x := (g95 1018 0)) rfl ?_
                                refine sv_iload_n hM dX12_skip_213 rfl rfl ?_
                                refine sv_iconst (d := (2 : Int)) hM dX12_skip_214 rfl rfl ?_
                                refine sv_iadd hM dX12_skip_215 rfl ?_
                                obtain ⟨o103, h⟩ := h
                                refine sv_icmp_ge hM dX12_skip_216 k102 o103 (t := 259) rfl rfl (fun hc => ?_) (fun hc => ?_)
                                · have h := h.1 (hc)
                                  refine sv_goto hM dX12_skip_259 (pc' := 264) rfl ?_
                                  refine sv_goto hM dX12_skip_264 (pc' := 2) rfl ?_
                                  have eS := sv_mod.eq md100
                                  have hb := ih3 (l1_2, (sv_sts (sv_sts S [1018, 1019] g1) [1018, 1019] g95)) ⟨hl1_2, (by rw [← eS]; exact ok98), h.1⟩ h.2
                                  have hb : sv_T sm_XS sm_cs sm_L sm_sh 1 (q_skip S) 15 2 [(0, .ref 0), (1, sv_I l1_2)] [] (sv_sts (sv_sts S [1018, 1019] g1) [1018, 1019] g95) := Eq.mpr (congrArg (fun Z => sv_T sm_XS sm_cs sm_L sm_sh 1 (q_skip S) 15 2 [(0, .ref 0), (1, sv_I l1_2)] [] Z) eS) hb
                                  exact sv_less (lv := [(0, .ref 0), (1, sv_I l1_2)]) (sv_Sub_cons rfl (sv_Sub_cons rfl sv_Sub_nil)) hb
                                · have h := h.2 (hc)
                                  refine sv_aload_n hM dX12_skip_219 rfl rfl ?_
                                  refine sv_dupA hM dX12_skip_220 rfl ?_
                                  have k104 : sv_R (g95 1019 0) := sm_okI ok98 sm_r1019 0
                                  have h := h k104
                                  refine sv_getI hM dX12_skip_221 sm_fl_347 (sm_a0 _) sm_k19 rfl (x := (g95 1019 0)) rfl ?_
                                  refine sv_aload_n hM dX12_skip_224 rfl rfl ?_
                                  refine sv_aload_n hM dX12_skip_225 rfl rfl ?_
                                  refine sv_getI hM dX12_skip_226 sm_fl_344 (sm_a0 _) sm_k18 rfl (x := (g95 1018 0)) rfl ?_
                                  obtain ⟨o105, h⟩ := h
                                  refine sv_callV hM dX12_skip_229 sm_iv_334 (by decide) (sm_a0 _) rfl rfl (Nat.le_of_ble_eq_true rfl) sm_h10 (Nat.le_of_ble_eq_true rfl) (Nat.le_of_ble_eq_true rfl) (F' := 0) (Nat.le_of_ble_eq_true rfl) rfl (t_look (g95 1018 0) (sv_sts (sv_sts S [1018, 1019] g1) [1018, 1019] g95) ok98 k102 o105) (fun v S1 hq => ?_)
                                  obtain ⟨rfl, hS1⟩ := hq
                                  obtain rfl : (sv_sts (sv_sts S [1018, 1019] g1) [1018, 1019] g95) = S1 := hS1.symm
                                  show sv_T sm_XS sm_cs sm_L sm_sh 1 (q_skip S) 15 232 [(0, .ref 0), (1, sv_I l1_2), (2, sv_I x10), (3, sv_I l3_53)] [sv_I ((if (g95 1018 0) < (S 1004 0) then (S 2 (g95 1018 0)) % 256 else 0)), sv_I (g95 1019 0), .ref 0] (sv_sts (sv_sts S [1018, 1019] g1) [1018, 1019] g95)
                                  refine sv_bipush (d := (10 : Int)) hM dX12_skip_232 rfl rfl ?_
                                  obtain ⟨o106, h⟩ := h
                                  refine sv_icmp_ne hM dX12_skip_234 o106 (⟨by decide, by decide⟩ : sv_R (10 : Int)) (t := 241) rfl rfl (fun hc => ?_) (fun hc => ?_)
                                  · have h := h.1 (hc)
                                    refine sv_iconst (d := (0 : Int)) hM dX12_skip_241 rfl rfl ?_
                                    refine sv_iadd hM dX12_skip_242 rfl ?_
                                    obtain ⟨o107, h⟩ := h
                                    refine sv_putI sm_X hM dX12_skip_243 sm_fp_347 (sm_a0 _) sm_q19 (Or.inl rfl) rfl rfl rfl rfl ?_
                                    have ok108 : sm_ok (sv_up (sv_sts (sv_sts S [1018, 1019] g1) [1018, 1019] g95) 1019 0 ((g95 1019 0) + (0 : Int))) := sm_upI ok98 sm_r1019 o107
                                    have md109 : sv_mod [1018, 1019] S (sv_up (sv_sts (sv_sts S [1018, 1019] g1) [1018, 1019] g95) 1019 0 ((g95 1019 0) + (0 : Int))) := sv_mod.up md99 (by decide)
                                    have md110 : sv_mod [1018, 1019] S (sv_up (sv_sts (sv_sts S [1018, 1019] g1) [1018, 1019] g95) 1019 0 ((g95 1019 0) + (0 : Int))) := sv_mod.up md100 (by decide)
                                    have md111 : sv_mod [1018, 1019] (sv_sts S [1018, 1019] g1) (sv_up (sv_sts (sv_sts S [1018, 1019] g1) [1018, 1019] g95) 1019 0 ((g95 1019 0) + (0 : Int))) := sv_mod.up md101 (by decide)
                                    refine sv_aload_n hM dX12_skip_246 rfl rfl ?_
                                    refine sv_dupA hM dX12_skip_247 rfl ?_
                                    refine sv_getI hM dX12_skip_248 sm_fl_344 (sm_a0 _) sm_k18 rfl (x := (g95 1018 0)) rfl ?_
                                    refine sv_iconst (d := (1 : Int)) hM dX12_skip_251 rfl rfl ?_
                                    refine sv_iadd hM dX12_skip_252 rfl ?_
                                    obtain ⟨o112, h⟩ := h
                                    refine sv_putI sm_X hM dX12_skip_253 sm_fp_344 (sm_a0 _) sm_q18 (Or.inl rfl) rfl rfl rfl rfl ?_
                                    have ok113 : sm_ok (sv_up (sv_up (sv_sts (sv_sts S [1018, 1019] g1) [1018, 1019] g95) 1019 0 ((g95 1019 0) + (0 : Int))) 1018 0 ((g95 1018 0) + (1 : Int))) := sm_upI ok108 sm_r1018 o112
                                    have md114 : sv_mod [1018, 1019] S (sv_up (sv_up (sv_sts (sv_sts S [1018, 1019] g1) [1018, 1019] g95) 1019 0 ((g95 1019 0) + (0 : Int))) 1018 0 ((g95 1018 0) + (1 : Int))) := sv_mod.up md109 (by decide)
                                    have md115 : sv_mod [1018, 1019] S (sv_up (sv_up (sv_sts (sv_sts S [1018, 1019] g1) [1018, 1019] g95) 1019 0 ((g95 1019 0) + (0 : Int))) 1018 0 ((g95 1018 0) + (1 : Int))) := sv_mod.up md110 (by decide)
                                    have md116 : sv_mod [1018, 1019] (sv_sts S [1018, 1019] g1) (sv_up (sv_up (sv_sts (sv_sts S [1018, 1019] g1) [1018, 1019] g95) 1019 0 ((g95 1019 0) + (0 : Int))) 1018 0 ((g95 1018 0) + (1 : Int))) := sv_mod.up md111 (by decide)
                                    refine sv_goto hM dX12_skip_256 (pc' := 209) rfl ?_
                                    have eS := sv_mod.eq md116
                                    have hb := ih96 ((sv_up (sv_up (sv_sts (sv_sts S [1018, 1019] g1) [1018, 1019] g95) 1019 0 ((g95 1019 0) + (0 : Int))) 1018 0 ((g95 1018 0) + (1 : Int)))) ⟨(by rw [← eS]; exact ok113), h.1⟩ h.2
                                    have hb : sv_T sm_XS sm_cs sm_L sm_sh 1 (q_skip S) 15 209 [(0, .ref 0), (1, sv_I l1_2), (2, sv_I x10), (3, sv_I l3_53)] [] (sv_up (sv_up (sv_sts (sv_sts S [1018, 1019] g1) [1018, 1019] g95) 1019 0 ((g95 1019 0) + (0 : Int))) 1018 0 ((g95 1018 0) + (1 : Int))) := Eq.mpr (congrArg (fun Z => sv_T sm_XS sm_cs sm_L sm_sh 1 (q_skip S) 15 209 [(0, .ref 0), (1, sv_I l1_2), (2, sv_I x10), (3, sv_I l3_53)] [] Z) eS) hb
                                    exact sv_less (lv := [(0, .ref 0), (1, sv_I l1_2), (2, sv_I x10), (3, sv_I l3_53)]) (sv_Sub_cons rfl (sv_Sub_cons rfl (sv_Sub_cons rfl (sv_Sub_cons rfl sv_Sub_nil)))) hb
                                  · have h := h.2 (hc)
                                    refine sv_iconst (d := (1 : Int)) hM dX12_skip_237 rfl rfl ?_
                                    refine sv_goto hM dX12_skip_238 (pc' := 242) rfl ?_
                                    refine sv_iadd hM dX12_skip_242 rfl ?_
                                    obtain ⟨o117, h⟩ := h
                                    refine sv_putI sm_X hM dX12_skip_243 sm_fp_347 (sm_a0 _) sm_q19 (Or.inl rfl) rfl rfl rfl rfl ?_
                                    have ok118 : sm_ok (sv_up (sv_sts (sv_sts S [1018, 1019] g1) [1018, 1019] g95) 1019 0 ((g95 1019 0) + (1 : Int))) := sm_upI ok98 sm_r1019 o117
                                    have md119 : sv_mod [1018, 1019] S (sv_up (sv_sts (sv_sts S [1018, 1019] g1) [1018, 1019] g95) 1019 0 ((g95 1019 0) + (1 : Int))) := sv_mod.up md99 (by decide)
                                    have md120 : sv_mod [1018, 1019] S (sv_up (sv_sts (sv_sts S [1018, 1019] g1) [1018, 1019] g95) 1019 0 ((g95 1019 0) + (1 : Int))) := sv_mod.up md100 (by decide)
                                    have md121 : sv_mod [1018, 1019] (sv_sts S [1018, 1019] g1) (sv_up (sv_sts (sv_sts S [1018, 1019] g1) [1018, 1019] g95) 1019 0 ((g95 1019 0) + (1 : Int))) := sv_mod.up md101 (by decide)
                                    refine sv_aload_n hM dX12_skip_246 rfl rfl ?_
                                    refine sv_dupA hM dX12_skip_247 rfl ?_
                                    refine sv_getI hM dX12_skip_248 sm_fl_344 (sm_a0 _) sm_k18 rfl (x := (g95 1018 0)) rfl ?_
                                    refine sv_iconst (d := (1 : Int)) hM dX12_skip_251 rfl rfl ?_
                                    refine sv_iadd hM dX12_skip_252 rfl ?_
                                    obtain ⟨o122, h⟩ := h
                                    refine sv_putI sm_X hM dX12_skip_253 sm_fp_344 (sm_a0 _) sm_q18 (Or.inl rfl) rfl rfl rfl rfl ?_
                                    have ok123 : sm_ok (sv_up (sv_up (sv_sts (sv_sts S [1018, 1019] g1) [1018, 1019] g95) 1019 0 ((g95 1019 0) + (1 : Int))) 1018 0 ((g95 1018 0) + (1 : Int))) := sm_upI ok118 sm_r1018 o122
                                    have md124 : sv_mod [1018, 1019] S (sv_up (sv_up (sv_sts (sv_sts S [1018, 1019] g1) [1018, 1019] g95) 1019 0 ((g95 1019 0) + (1 : Int))) 1018 0 ((g95 1018 0) + (1 : Int))) := sv_mod.up md119 (by decide)
                                    have md125 : sv_mod [1018, 1019] S (sv_up (sv_up (sv_sts (sv_sts S [1018, 1019] g1) [1018, 1019] g95) 1019 0 ((g95 1019 0) + (1 : Int))) 1018 0 ((g95 1018 0) + (1 : Int))) := sv_mod.up md120 (by decide)
                                    have md126 : sv_mod [1018, 1019] (sv_sts S [1018, 1019] g1) (sv_up (sv_up (sv_sts (sv_sts S [1018, 1019] g1) [1018, 1019] g95) 1019 0 ((g95 1019 0) + (1 : Int))) 1018 0 ((g95 1018 0) + (1 : Int))) := sv_mod.up md121 (by decide)
                                    refine sv_goto hM dX12_skip_256 (pc' := 209) rfl ?_
                                    have eS := sv_mod.eq md126
                                    have hb := ih96 ((sv_up (sv_up (sv_sts (sv_sts S [1018, 1019] g1) [1018, 1019] g95) 1019 0 ((g95 1019 0) + (1 : Int))) 1018 0 ((g95 1018 0) + (1 : Int)))) ⟨(by rw [← eS]; exact ok123), h.1⟩ h.2
                                    have hb : sv_T sm_XS sm_cs sm_L sm_sh 1 (q_skip S) 15 209 [(0, .ref 0), (1, sv_I l1_2), (2, sv_I x10), (3, sv_I l3_53)] [] (sv_up (sv_up (sv_sts (sv_sts S [1018, 1019] g1) [1018, 1019] g95) 1019 0 ((g95 1019 0) + (1 : Int))) 1018 0 ((g95 1018 0) + (1 : Int))) := Eq.mpr (congrArg (fun Z => sv_T sm_XS sm_cs sm_L sm_sh 1 (q_skip S) 15 209 [(0, .ref 0), (1, sv_I l1_2), (2, sv_I x10), (3, sv_I l3_53)] [] Z) eS) hb
                                    exact sv_less (lv := [(0, .ref 0), (1, sv_I l1_2), (2, sv_I x10), (3, sv_I l3_53)]) (sv_Sub_cons rfl (sv_Sub_cons rfl (sv_Sub_cons rfl (sv_Sub_cons rfl sv_Sub_nil)))) hb
                              have eS := sv_mod.eq (sv_mod.rf (l := [1018, 1019]) (S := (sv_sts S [1018, 1019] g1)))
                              have hb := hJ ((sv_sts S [1018, 1019] g1)) ⟨(by rw [← eS]; exact ok56), hin97⟩
                              have hb : sv_T sm_XS sm_cs sm_L sm_sh 1 (q_skip S) 15 209 [(0, .ref 0), (1, sv_I l1_2), (2, sv_I x10), (3, sv_I l3_53)] [] (sv_sts S [1018, 1019] g1) := Eq.mpr (congrArg (fun Z => sv_T sm_XS sm_cs sm_L sm_sh 1 (q_skip S) 15 209 [(0, .ref 0), (1, sv_I l1_2), (2, sv_I x10), (3, sv_I l3_53)] [] Z) eS) hb
                              exact hb
                            · have h := h.2 (fun q => hc (by rw [if_pos q]; decide))
                              refine sv_iconst (d := (0 : Int)) hM dX12_skip_207 rfl rfl ?_
                              exact sv_iret hM dX12_skip_208 rfl (sv_nz (⟨by decide, by decide⟩ : 0 ≤ (0 : Int) ∧ (0 : Int) ≤ 1)) ⟨(0 : Int), rfl, sv_R01 (⟨by decide, by decide⟩ : 0 ≤ (0 : Int) ∧ (0 : Int) ≤ 1), ok56, md6, h⟩
                          · have h := h.2 (hc)
                            refine sv_iinc (d := (1 : Int)) hM dX12_skip_193 rfl (by decide) rfl rfl ?_
                            show sv_T sm_XS sm_cs sm_L sm_sh 1 (q_skip S) 15 196 [(0, .ref 0), (1, sv_I l1_2), (2, sv_I x10), (3, sv_I (l3_53 + (1 : Int)))] [] (sv_sts S [1018, 1019] g1)
                            refine sv_goto hM dX12_skip_196 (pc' := 163) rfl ?_
                            have hb := ih54 ((l3_53 + (1 : Int)), ()) ⟨o92, ok56, h.1⟩ h.2
                            exact sv_less (lv := [(0, .ref 0), (1, sv_I l1_2), (2, sv_I x10), (3, sv_I (l3_53 + (1 : Int)))]) (sv_Sub_cons rfl (sv_Sub_cons rfl (sv_Sub_cons rfl (sv_Sub_cons rfl sv_Sub_nil)))) hb
                    exact hJ (x50, ()) ⟨o52, ok5, hin55⟩
              · have h := h.2 (hc)
                refine sv_aload_n hM dX12_skip_83 rfl rfl ?_
                refine sv_aload_n hM dX12_skip_84 rfl rfl ?_
                refine sv_getI hM dX12_skip_85 sm_fl_344 (sm_a0 _) sm_k18 rfl (x := (g1 1018 0)) rfl ?_
                refine sv_iconst (d := (1 : Int)) hM dX12_skip_88 rfl rfl ?_
                refine sv_iadd hM dX12_skip_89 rfl ?_
                obtain ⟨o127, h⟩ := h
                obtain ⟨o128, h⟩ := h
                refine sv_callV hM dX12_skip_90 sm_iv_334 (by decide) (sm_a0 _) rfl rfl (Nat.le_of_ble_eq_true rfl) sm_h10 (Nat.le_of_ble_eq_true rfl) (Nat.le_of_ble_eq_true rfl) (F' := 0) (Nat.le_of_ble_eq_true rfl) rfl (t_look ((g1 1018 0) + (1 : Int)) (sv_sts S [1018, 1019] g1) ok5 o127 o128) (fun v S1 hq => ?_)
                obtain ⟨rfl, hS1⟩ := hq
                obtain rfl : (sv_sts S [1018, 1019] g1) = S1 := hS1.symm
                show sv_T sm_XS sm_cs sm_L sm_sh 1 (q_skip S) 15 93 [(0, .ref 0), (1, sv_I l1_2), (2, sv_I x10)] [sv_I ((if ((g1 1018 0) + (1 : Int)) < (S 1004 0) then (S 2 ((g1 1018 0) + (1 : Int))) % 256 else 0))] (sv_sts S [1018, 1019] g1)
                refine sv_bipush (d := (47 : Int)) hM dX12_skip_93 rfl rfl ?_
                obtain ⟨o129, h⟩ := h
                refine sv_icmp_ne hM dX12_skip_95 o129 (⟨by decide, by decide⟩ : sv_R (47 : Int)) (t := 135) rfl rfl (fun hc => ?_) (fun hc => ?_)
                · have h := h.1 (hc)
                  refine sv_iload_n hM dX12_skip_135 rfl rfl ?_
                  refine sv_bipush (d := (47 : Int)) hM dX12_skip_136 rfl rfl ?_
                  refine sv_icmp_ne hM dX12_skip_138 o12 (⟨by decide, by decide⟩ : sv_R (47 : Int)) (t := 262) rfl rfl (fun hc => ?_) (fun hc => ?_)
                  · have h := h.1 (hc)
                    refine sv_iconst (d := (0 : Int)) hM dX12_skip_262 rfl rfl ?_
                    refine sv_istore_n hM dX12_skip_263 (by decide) rfl ?_
                    show sv_T sm_XS sm_cs sm_L sm_sh 1 (q_skip S) 15 264 [(0, .ref 0), (1, sv_I (0 : Int)), (2, sv_I x10)] [] (sv_sts S [1018, 1019] g1)
                    refine sv_goto hM dX12_skip_264 (pc' := 2) rfl ?_
                    have eS := sv_mod.eq md7
                    have hb := ih3 ((0 : Int), (sv_sts S [1018, 1019] g1)) ⟨(⟨by decide, by decide⟩ : sv_R (0 : Int)), (by rw [← eS]; exact ok5), h.1⟩ h.2
                    have hb : sv_T sm_XS sm_cs sm_L sm_sh 1 (q_skip S) 15 2 [(0, .ref 0), (1, sv_I (0 : Int))] [] (sv_sts S [1018, 1019] g1) := Eq.mpr (congrArg (fun Z => sv_T sm_XS sm_cs sm_L sm_sh 1 (q_skip S) 15 2 [(0, .ref 0), (1, sv_I (0 : Int))] [] Z) eS) hb
                    exact sv_less (lv := [(0, .ref 0), (1, sv_I (0 : Int))]) (sv_Sub_cons rfl (sv_Sub_cons rfl sv_Sub_nil)) hb
                  · have h := h.2 (hc)
                    refine sv_aload_n hM dX12_skip_141 rfl rfl ?_
                    refine sv_aload_n hM dX12_skip_142 rfl rfl ?_
                    refine sv_getI hM dX12_skip_143 sm_fl_344 (sm_a0 _) sm_k18 rfl (x := (g1 1018 0)) rfl ?_
                    refine sv_iconst (d := (1 : Int)) hM dX12_skip_146 rfl rfl ?_
                    refine sv_iadd hM dX12_skip_147 rfl ?_
                    refine sv_callV hM dX12_skip_148 sm_iv_334 (by decide) (sm_a0 _) rfl rfl (Nat.le_of_ble_eq_true rfl) sm_h10 (Nat.le_of_ble_eq_true rfl) (Nat.le_of_ble_eq_true rfl) (F' := 0) (Nat.le_of_ble_eq_true rfl) rfl (t_look ((g1 1018 0) + (1 : Int)) (sv_sts S [1018, 1019] g1) ok5 o127 o128) (fun v S1 hq => ?_)
                    obtain ⟨rfl, hS1⟩ := hq
                    obtain rfl : (sv_sts S [1018, 1019] g1) = S1 := hS1.symm
                    show sv_T sm_XS sm_cs sm_L sm_sh 1 (q_skip S) 15 151 [(0, .ref 0), (1, sv_I l1_2), (2, sv_I x10)] [sv_I ((if ((g1 1018 0) + (1 : Int)) < (S 1004 0) then (S 2 ((g1 1018 0) + (1 : Int))) % 256 else 0))] (sv_sts S [1018, 1019] g1)
                    refine sv_bipush (d := (42 : Int)) hM dX12_skip_151 rfl rfl ?_
                    refine sv_icmp_ne hM dX12_skip_153 o129 (⟨by decide, by decide⟩ : sv_R (42 : Int)) (t := 262) rfl rfl (fun hc => ?_) (fun hc => ?_)
                    · have h := h.1 (hc)
                      refine sv_iconst (d := (0 : Int)) hM dX12_skip_262 rfl rfl ?_
                      refine sv_istore_n hM dX12_skip_263 (by decide) rfl ?_
                      show sv_T sm_XS sm_cs sm_L sm_sh 1 (q_skip S) 15 264 [(0, .ref 0), (1, sv_I (0 : Int)), (2, sv_I x10)] [] (sv_sts S [1018, 1019] g1)
                      refine sv_goto hM dX12_skip_264 (pc' := 2) rfl ?_
                      have eS := sv_mod.eq md7
                      have hb := ih3 ((0 : Int), (sv_sts S [1018, 1019] g1)) ⟨(⟨by decide, by decide⟩ : sv_R (0 : Int)), (by rw [← eS]; exact ok5), h.1⟩ h.2
                      have hb : sv_T sm_XS sm_cs sm_L sm_sh 1 (q_skip S) 15 2 [(0, .ref 0), (1, sv_I (0 : Int))] [] (sv_sts S [1018, 1019] g1) := Eq.mpr (congrArg (fun Z => sv_T sm_XS sm_cs sm_L sm_sh 1 (q_skip S) 15 2 [(0, .ref 0), (1, sv_I (0 : Int))] [] Z) eS) hb
                      exact sv_less (lv := [(0, .ref 0), (1, sv_I (0 : Int))]) (sv_Sub_cons rfl (sv_Sub_cons rfl sv_Sub_nil)) hb
                    · have h := h.2 (hc)
                      refine sv_aload_n hM dX12_skip_156 rfl rfl ?_
                      refine sv_getI hM dX12_skip_157 sm_fl_344 (sm_a0 _) sm_k18 rfl (x := (g1 1018 0)) rfl ?_
                      refine sv_iconst (d := (2 : Int)) hM dX12_skip_160 rfl rfl ?_
                      refine sv_iadd hM dX12_skip_161 rfl ?_
                      obtain ⟨x130, e131⟩ : ∃ x : Int, ((g1 1018 0) + (2 : Int)) = x := ⟨_, rfl⟩
                      have h := h x130 e131
                      refine sv_nameI e131 ?_
                      refine sv_istore_n hM dX12_skip_162 (by decide) rfl ?_
                      show sv_T sm_XS sm_cs sm_L sm_sh 1 (q_skip S) 15 163 [(0, .ref 0), (1, sv_I l1_2), (2, sv_I x10), (3, sv_I x130)] [] (sv_sts S [1018, 1019] g1)
                      obtain ⟨o132, h⟩ := h
                      obtain ⟨hin135, h⟩ := h
                      have hJ : ∀ a : Int × Unit, (sv_R a.1 ∧ sm_ok (sv_sts S [1018, 1019] g1) ∧ (0 ≤ a.1 ∧ (g1 1018 0) < a.1 ∧ a.1 ≤ (S 1004 0) + 2)) → sv_T sm_XS sm_cs sm_L sm_sh 1 (q_skip S) 15 163 [(0, .ref 0), (1, sv_I l1_2), (2, sv_I x10), (3, sv_I a.1)] [] (sv_sts S [1018, 1019] g1) := by
                        refine sv_loop (α := Int × Unit) (fun a => sv_R a.1 ∧ sm_ok (sv_sts S [1018, 1019] g1) ∧ (0 ≤ a.1 ∧ (g1 1018 0) < a.1 ∧ a.1 ≤ (S 1004 0) + 2)) (fun a => (S 1004 0) + 2 - a.1) (fun a => sv_T sm_XS sm_cs sm_L sm_sh 1 (q_skip S) 15 163 [(0, .ref 0), (1, sv_I l1_2), (2, sv_I x10), (3, sv_I a.1)] [] (sv_sts S [1018, 1019] g1)) (fun a q => (h a.1 q.1 q.2.2).1) (fun a q ih134 => ?_)
                        obtain ⟨l3_133, _u⟩ := a
                        obtain ⟨hl3_133, ok136, hin135i⟩ := q
                        have h := (h l3_133 hl3_133 hin135i).2
                        show sv_T sm_XS sm_cs sm_L sm_sh 1 (q_skip S) 15 163 [(0, .ref 0), (1, sv_I l1_2), (2, sv_I x10), (3, sv_I l3_133)] [] (sv_sts S [1018, 1019] g1)
                        refine sv_aload_n hM dX12_skip_163 rfl rfl ?_
                        refine sv_iload_n hM dX12_skip_164 rfl rfl ?_
                        refine sv_callV hM dX12_skip_165 sm_iv_331 (by decide) (sm_a0 _) rfl rfl (Nat.le_of_ble_eq_true rfl) sm_h11 (Nat.le_of_ble_eq_true rfl) (Nat.le_of_ble_eq_true rfl) (F' := 0) (Nat.le_of_ble_eq_true rfl) rfl (t_isThere l3_133 (sv_sts S [1018, 1019] g1) ok136 hl3_133) (fun v S1 hq => ?_)
                        obtain ⟨rfl, hS1⟩ := hq
                        obtain rfl : (sv_sts S [1018, 1019] g1) = S1 := hS1.symm
                        show sv_T sm_XS sm_cs sm_L sm_sh 1 (q_skip S) 15 168 [(0, .ref 0), (1, sv_I l1_2), (2, sv_I x10), (3, sv_I l3_133)] [sv_I (if l3_133 < (S 1004 0) then 1 else 0)] (sv_sts S [1018, 1019] g1)
                        refine sv_cond_eq hM dX12_skip_168 (sv_Rite : sv_R (if l3_133 < (S 1004 0) then 1 else 0)) (t := 199) rfl rfl (fun hc => ?_) (fun hc => ?_)
                        · have h := h.1 (sv_iten hc)
                          refine sv_aload_n hM dX12_skip_199 rfl rfl ?_
                          refine sv_iload_n hM dX12_skip_200 rfl rfl ?_
                          refine sv_callV hM dX12_skip_201 sm_iv_331 (by decide) (sm_a0 _) rfl rfl (Nat.le_of_ble_eq_true rfl) sm_h11 (Nat.le_of_ble_eq_true rfl) (Nat.le_of_ble_eq_true rfl) (F' := 0) (Nat.le_of_ble_eq_true rfl) rfl (t_isThere l3_133 (sv_sts S [1018, 1019] g1) ok136 hl3_133) (fun v S1 hq => ?_)
                          obtain ⟨rfl, hS1⟩ := hq
                          obtain rfl : (sv_sts S [1018, 1019] g1) = S1 := hS1.symm
                          show sv_T sm_XS sm_cs sm_L sm_sh 1 (q_skip S) 15 204 [(0, .ref 0), (1, sv_I l1_2), (2, sv_I x10), (3, sv_I l3_133)] [sv_I (if l3_133 < (S 1004 0) then 1 else 0)] (sv_sts S [1018, 1019] g1)
                          refine sv_cond_ne hM dX12_skip_204 (sv_Rite : sv_R (if l3_133 < (S 1004 0) then 1 else 0)) (t := 209) rfl rfl (fun hc => ?_) (fun hc => ?_)
                          · have h := h.1 (sv_itep hc)
                            obtain ⟨hin139, h⟩ := h
                            have hJ : ∀ a : sv_S, (sm_ok (sv_sts (sv_sts S [1018, 1019] g1) [1018, 1019] a) ∧ ((S 1018 0) ≤ (a 1018 0) ∧ (a 1018 0) ≤ l3_133 + 2 ∧ 0 ≤ l3_133 ∧ l3_133 < (S 1004 0) ∧ 1 ≤ (a 1019 0) ∧ (a 1019 0) ≤ 1 + (a 1018 0))) → sv_T sm_XS sm_cs sm_L sm_sh 1 (q_skip S) 15 209 [(0, .ref 0), (1, sv_I l1_2), (2, sv_I x10), (3, sv_I l3_133)] [] (sv_sts (sv_sts S [1018, 1019] g1) [1018, 1019] a) := by
                              refine sv_loop (α := sv_S) (fun a => sm_ok (sv_sts (sv_sts S [1018, 1019] g1) [1018, 1019] a) ∧ ((S 1018 0) ≤ (a 1018 0) ∧ (a 1018 0) ≤ l3_133 + 2 ∧ 0 ≤ l3_133 ∧ l3_133 < (S 1004 0) ∧ 1 ≤ (a 1019 0) ∧ (a 1019 0) ≤ 1 + (a 1018 0))) (fun a => l3_133 + 2 - (a 1018 0)) (fun a => sv_T sm_XS sm_cs sm_L sm_sh 1 (q_skip S) 15 209 [(0, .ref 0), (1, sv_I l1_2), (2, sv_I x10), (3, sv_I l3_133)] [] (sv_sts (sv_sts S [1018, 1019] g1) [1018, 1019] a)) (fun a q => (h a q.2).1) (fun g137 q ih138 => ?_)
                              obtain ⟨ok140, hin139i⟩ := q
                              have h := (h g137 hin139i).2
                              show sv_T sm_XS sm_cs sm_L sm_sh 1 (q_skip S) 15 209 [(0, .ref 0), (1, sv_I l1_2), (2, sv_I x10), (3, sv_I l3_133)] [] (sv_sts (sv_sts S [1018, 1019] g1) [1018, 1019] g137)
                              have md141 : sv_mod [1018, 1019] S (sv_sts (sv_sts S [1018, 1019] g1) [1018, 1019] g137) := sv_mod.sts md6 (by decide)
                              have md142 : sv_mod [1018, 1019] S (sv_sts (sv_sts S [1018, 1019] g1) [1018, 1019] g137) := sv_mod.sts md7 (by decide)
                              have md143 : sv_mod [1018, 1019] (sv_sts S [1018, 1019] g1) (sv_sts (sv_sts S [1018, 1019] g1) [1018, 1019] g137) := sv_mod.sts sv_mod.rf (by decide)
                              refine sv_aload_n hM dX12_skip_209 rfl rfl ?_
                              have k144 : sv_R (g137 1018 0) := sm_okI ok140 sm_r1018 0
                              have h := h k144
                              refine sv_getI hM dX12_skip_210 sm_fl_344 (sm_a0 _) sm_k18 rfl (x := (g137 1018 0)) rfl ?_
                              refine sv_iload_n hM dX12_skip_213 rfl rfl ?_
                              refine sv_iconst (d := (2 : Int)) hM dX12_skip_214 rfl rfl ?_
                              refine sv_iadd hM dX12_skip_215 rfl ?_
                              obtain ⟨o145, h⟩ := h
                              refine sv_icmp_ge hM dX12_skip_216 k144 o145 (t := 259) rfl rfl (fun hc => ?_) (fun hc => ?_)
                              · have h := h.1 (hc)
                                refine sv_goto hM dX12_skip_259 (pc' := 264) rfl ?_
                                refine sv_goto hM dX12_skip_264 (pc' := 2) rfl ?_
                                have eS := sv_mod.eq md142
                                have hb := ih3 (l1_2, (sv_sts (sv_sts S [1018, 1019] g1) [1018, 1019] g137)) ⟨hl1_2, (by rw [← eS]; exact ok140), h.1⟩ h.2
                                have hb : sv_T sm_XS sm_cs sm_L sm_sh 1 (q_skip S) 15 2 [(0, .ref 0), (1, sv_I l1_2)] [] (sv_sts (sv_sts S [1018, 1019] g1) [1018, 1019] g137) := Eq.mpr (congrArg (fun Z => sv_T sm_XS sm_cs sm_L sm_sh 1 (q_skip S) 15 2 [(0, .ref 0), (1, sv_I l1_2)] [] Z) eS) hb
                                exact sv_less (lv := [(0, .ref 0), (1, sv_I l1_2)]) (sv_Sub_cons rfl (sv_Sub_cons rfl sv_Sub_nil)) hb
                              · have h := h.2 (hc)
                                refine sv_aload_n hM dX12_skip_219 rfl rfl ?_
                                refine sv_dupA hM dX12_skip_220 rfl ?_
                                have k146 : sv_R (g137 1019 0) := sm_okI ok140 sm_r1019 0
                                have h := h k146
                                refine sv_getI hM dX12_skip_221 sm_fl_347 (sm_a0 _) sm_k19 rfl (x := (g137 1019 0)) rfl ?_
                                refine sv_aload_n hM dX12_skip_224 rfl rfl ?_
                                refine sv_aload_n hM dX12_skip_225 rfl rfl ?_
                                refine sv_getI hM dX12_skip_226 sm_fl_344 (sm_a0 _) sm_k18 rfl (x := (g137 1018 0)) rfl ?_
                                obtain ⟨o147, h⟩ := h
                                refine sv_callV hM dX12_skip_229 sm_iv_334 (by decide) (sm_a0 _) rfl rfl (Nat.le_of_ble_eq_true rfl) sm_h10 (Nat.le_of_ble_eq_true rfl) (Nat.le_of_ble_eq_true rfl) (F' := 0) (Nat.le_of_ble_eq_true rfl) rfl (t_look (g137 1018 0) (sv_sts (sv_sts S [1018, 1019] g1) [1018, 1019] g137) ok140 k144 o147) (fun v S1 hq => ?_)
                                obtain ⟨rfl, hS1⟩ := hq
                                obtain rfl : (sv_sts (sv_sts S [1018, 1019] g1) [1018, 1019] g137) = S1 := hS1.symm
                                show sv_T sm_XS sm_cs sm_L sm_sh 1 (q_skip S) 15 232 [(0, .ref 0), (1, sv_I l1_2), (2, sv_I x10), (3, sv_I l3_133)] [sv_I ((if (g137 1018 0) < (S 1004 0) then (S 2 (g137 1018 0)) % 256 else 0)), sv_I (g137 1019 0), .ref 0] (sv_sts (sv_sts S [1018, 1019] g1) [1018, 1019] g137)
                                refine sv_bipush (d := (10 : Int)) hM dX12_skip_232 rfl rfl ?_
                                obtain ⟨o148, h⟩ := h
                                refine sv_icmp_ne hM dX12_skip_234 o148 (⟨by decide, by decide⟩ : sv_R (10 : Int)) (t := 241) rfl rfl (fun hc => ?_) (fun hc => ?_)
                                · have h := h.1 (hc)
                                  refine sv_iconst (d := (0 : Int)) hM dX12_skip_241 rfl rfl ?_
                                  refine sv_iadd hM dX12_skip_242 rfl ?_
                                  obtain ⟨o149, h⟩ := h
                                  refine sv_putI sm_X hM dX12_skip_243 sm_fp_347 (sm_a0 _) sm_q19 (Or.inl rfl) rfl rfl rfl rfl ?_
                                  have ok150 : sm_ok (sv_up (sv_sts (sv_sts S [1018, 1019] g1) [1018, 1019] g137) 1019 0 ((g137 1019 0) + (0 : Int))) := sm_upI ok140 sm_r1019 o149
                                  have md151 : sv_mod [1018, 1019] S (sv_up (sv_sts (sv_sts S [1018, 1019] g1) [1018, 1019] g137) 1019 0 ((g137 1019 0) + (0 : Int))) := sv_mod.up md141 (by decide)
                                  have md152 : sv_mod [1018, 1019] S (sv_up (sv_sts (sv_sts S [1018, 1019] g1) [1018, 1019] g137) 1019 0 ((g137 1019 0) + (0 : Int))) := sv_mod.up md142 (by decide)
                                  have md153 : sv_mod [1018, 1019] (sv_sts S [1018, 1019] g1) (sv_up (sv_sts (sv_sts S [1018, 1019] g1) [1018, 1019] g137) 1019 0 ((g137 1019 0) + (0 : Int))) := sv_mod.up md143 (by decide)
                                  refine sv_aload_n hM dX12_skip_246 rfl rfl ?_
                                  refine sv_dupA hM dX12_skip_247 rfl ?_
                                  refine sv_getI hM dX12_skip_248 sm_fl_344 (sm_a0 _) sm_k18 rfl (x := (g137 1018 0)) rfl ?_
                                  refine sv_iconst (d := (1 : Int)) hM dX12_skip_251 rfl rfl ?_
                                  refine sv_iadd hM dX12_skip_252 rfl ?_
                                  obtain ⟨o154, h⟩ := h
                                  refine sv_putI sm_X hM dX12_skip_253 sm_fp_344 (sm_a0 _) sm_q18 (Or.inl rfl) rfl rfl rfl rfl ?_
                                  have ok155 : sm_ok (sv_up (sv_up (sv_sts (sv_sts S [1018, 1019] g1) [1018, 1019] g137) 1019 0 ((g137 1019 0) + (0 : Int))) 1018 0 ((g137 1018 0) + (1 : Int))) := sm_upI ok150 sm_r1018 o154
                                  have md156 : sv_mod [1018, 1019] S (sv_up (sv_up (sv_sts (sv_sts S [1018, 1019] g1) [1018, 1019] g137) 1019 0 ((g137 1019 0) + (0 : Int))) 1018 0 ((g137 1018 0) + (1 : Int))) := sv_mod.up md151 (by decide)
                                  have md157 : sv_mod [1018, 1019] S (sv_up (sv_up (sv_sts (sv_sts S [1018, 1019] g1) [1018, 1019] g137) 1019 0 ((g137 1019 0) + (0 : Int))) 1018 0 ((g137 1018 0) + (1 : Int))) := sv_mod.up md152 (by decide)
                                  have md158 : sv_mod [1018, 1019] (sv_sts S [1018, 1019] g1) (sv_up (sv_up (sv_sts (sv_sts S [1018, 1019] g1) [1018, 1019] g137) 1019 0 ((g137 1019 0) + (0 : Int))) 1018 0 ((g137 1018 0) + (1 : Int))) := sv_mod.up md153 (by decide)
                                  refine sv_goto hM dX12_skip_256 (pc' := 209) rfl ?_
                                  have eS := sv_mod.eq md158
                                  have hb := ih138 ((sv_up (sv_up (sv_sts (sv_sts S [1018, 1019] g1) [1018, 1019] g137) 1019 0 ((g137 1019 0) + (0 : Int))) 1018 0 ((g137 1018 0) + (1 : Int)))) ⟨(by rw [← eS]; exact ok155), h.1⟩ h.2
                                  have hb : sv_T sm_XS sm_cs sm_L sm_sh 1 (q_skip S) 15 209 [(0, .ref 0), (1, sv_I l1_2), (2, sv_I x10), (3, sv_I l3_133)] [] (sv_up (sv_up (sv_sts (sv_sts S [1018, 1019] g1) [1018, 1019] g137) 1019 0 ((g137 1019 0) + (0 : Int))) 1018 0 ((g137 1018 0) + (1 : Int))) := Eq.mpr (congrArg (fun Z => sv_T sm_XS sm_cs sm_L sm_sh 1 (q_skip S) 15 209 [(0, .ref 0), (1, sv_I l1_2), (2, sv_I x10), (3, sv_I l3_133)] [] Z) eS) hb
                                  exact sv_less (lv := [(0, .ref 0), (1, sv_I l1_2), (2, sv_I x10), (3, sv_I l3_133)]) (sv_Sub_cons rfl (sv_Sub_cons rfl (sv_Sub_cons rfl (sv_Sub_cons rfl sv_Sub_nil)))) hb
                                · have h := h.2 (hc)
                                  refine sv_iconst (d := (1 : Int)) hM dX12_skip_237 rfl rfl ?_
                                  refine sv_goto hM dX12_skip_238 (pc' := 242) rfl ?_
                                  refine sv_iadd hM dX12_skip_242 rfl ?_
                                  obtain ⟨o159, h⟩ := h
                                  refine sv_putI sm_X hM dX12_skip_243 sm_fp_347 (sm_a0 _) sm_q19 (Or.inl rfl) rfl rfl rfl rfl ?_
                                  have ok160 : sm_ok (sv_up (sv_sts (sv_sts S [1018, 1019] g1) [1018, 1019] g137) 1019 0 ((g137 1019 0) + (1 : Int))) := sm_upI ok140 sm_r1019 o159
                                  have md161 : sv_mod [1018, 1019] S (sv_up (sv_sts (sv_sts S [1018, 1019] g1) [1018, 1019] g137) 1019 0 ((g137 1019 0) + (1 : Int))) := sv_mod.up md141 (by decide)
                                  have md162 : sv_mod [1018, 1019] S (sv_up (sv_sts (sv_sts S [1018, 1019] g1) [1018, 1019] g137) 1019 0 ((g137 1019 0) + (1 : Int))) := sv_mod.up md142 (by decide)
                                  have md163 : sv_mod [1018, 1019] (sv_sts S [1018, 1019] g1) (sv_up (sv_sts (sv_sts S [1018, 1019] g1) [1018, 1019] g137) 1019 0 ((g137 1019 0) + (1 : Int))) := sv_mod.up md143 (by decide)
                                  refine sv_aload_n hM dX12_skip_246 rfl rfl ?_
                                  refine sv_dupA hM dX12_skip_247 rfl ?_
                                  refine sv_getI hM dX12_skip_248 sm_fl_344 (sm_a0 _) sm_k18 rfl (x := (g137 1018 0)) rfl ?_
                                  refine sv_iconst (d := (1 : Int)) hM dX12_skip_251 rfl rfl ?_
                                  refine sv_iadd hM dX12_skip_252 rfl ?_
                                  obtain ⟨o164, h⟩ := h
                                  refine sv_putI sm_X hM dX12_skip_253 sm_fp_344 (sm_a0 _) sm_q18 (Or.inl rfl) rfl rfl rfl rfl ?_
                                  have ok165 : sm_ok (sv_up (sv_up (sv_sts (sv_sts S [1018, 1019] g1) [1018, 1019] g137) 1019 0 ((g137 1019 0) + (1 : Int))) 1018 0 ((g137 1018 0) + (1 : Int))) := sm_upI ok160 sm_r1018 o164
                                  have md166 : sv_mod [1018, 1019] S (sv_up (sv_up (sv_sts (sv_sts S [1018, 1019] g1) [1018, 1019] g137) 1019 0 ((g137 1019 0) + (1 : Int))) 1018 0 ((g137 1018 0) + (1 : Int))) := sv_mod.up md161 (by decide)
                                  have md167 : sv_mod [1018, 1019] S (sv_up (sv_up (sv_sts (sv_sts S [1018, 1019] g1) [1018, 1019] g137) 1019 0 ((g137 1019 0) + (1 : Int))) 1018 0 ((g137 1018 0) + (1 : Int))) := sv_mod.up md162 (by decide)
                                  have md168 : sv_mod [1018, 1019] (sv_sts S [1018, 1019] g1) (sv_up (sv_up (sv_sts (sv_sts S [1018, 1019] g1) [1018, 1019] g137) 1019 0 ((g137 1019 0) + (1 : Int))) 1018 0 ((g137 1018 0) + (1 : Int))) := sv_mod.up md163 (by decide)
                                  refine sv_goto hM dX12_skip_256 (pc' := 209) rfl ?_
                                  have eS := sv_mod.eq md168
                                  have hb := ih138 ((sv_up (sv_up (sv_sts (sv_sts S [1018, 1019] g1) [1018, 1019] g137) 1019 0 ((g137 1019 0) + (1 : Int))) 1018 0 ((g137 1018 0) + (1 : Int)))) ⟨(by rw [← eS]; exact ok165), h.1⟩ h.2
                                  have hb : sv_T sm_XS sm_cs sm_L sm_sh 1 (q_skip S) 15 209 [(0, .ref 0), (1, sv_I l1_2), (2, sv_I x10), (3, sv_I l3_133)] [] (sv_up (sv_up (sv_sts (sv_sts S [1018, 1019] g1) [1018, 1019] g137) 1019 0 ((g137 1019 0) + (1 : Int))) 1018 0 ((g137 1018 0) + (1 : Int))) := Eq.mpr (congrArg (fun Z => sv_T sm_XS sm_cs sm_L sm_sh 1 (q_skip S) 15 209 [(0, .ref 0), (1, sv_I l1_2), (2, sv_I x10), (3, sv_I l3_133)] [] Z) eS) hb
                                  exact sv_less (lv := [(0, .ref 0), (1, sv_I l1_2), (2, sv_I x10), (3, sv_I l3_133)]) (sv_Sub_cons rfl (sv_Sub_cons rfl (sv_Sub_cons rfl (sv_Sub_cons rfl sv_Sub_nil)))) hb
                            have eS := sv_mod.eq (sv_mod.rf (l := [1018, 1019]) (S := (sv_sts S [1018, 1019] g1)))
                            have hb := hJ ((sv_sts S [1018, 1019] g1)) ⟨(by rw [← eS]; exact ok136), hin139⟩
                            have hb : sv_T sm_XS sm_cs sm_L sm_sh 1 (q_skip S) 15 209 [(0, .ref 0), (1, sv_I l1_2), (2, sv_I x10), (3, sv_I l3_133)] [] (sv_sts S [1018, 1019] g1) := Eq.mpr (congrArg (fun Z => sv_T sm_XS sm_cs sm_L sm_sh 1 (q_skip S) 15 209 [(0, .ref 0), (1, sv_I l1_2), (2, sv_I x10), (3, sv_I l3_133)] [] Z) eS) hb
                            exact hb
                          · have h := h.2 (fun q => hc (by rw [if_pos q]; decide))
                            refine sv_iconst (d := (0 : Int)) hM dX12_skip_207 rfl rfl ?_
                            exact sv_iret hM dX12_skip_208 rfl (sv_nz (⟨by decide, by decide⟩ : 0 ≤ (0 : Int) ∧ (0 : Int) ≤ 1)) ⟨(0 : Int), rfl, sv_R01 (⟨by decide, by decide⟩ : 0 ≤ (0 : Int) ∧ (0 : Int) ≤ 1), ok136, md6, h⟩
                        · have h := h.2 (sv_itep hc)
                          refine sv_aload_n hM dX12_skip_171 rfl rfl ?_
                          refine sv_iload_n hM dX12_skip_172 rfl rfl ?_
                          obtain ⟨o169, h⟩ := h
                          refine sv_callV hM dX12_skip_173 sm_iv_334 (by decide) (sm_a0 _) rfl rfl (Nat.le_of_ble_eq_true rfl) sm_h10 (Nat.le_of_ble_eq_true rfl) (Nat.le_of_ble_eq_true rfl) (F' := 0) (Nat.le_of_ble_eq_true rfl) rfl (t_look l3_133 (sv_sts S [1018, 1019] g1) ok136 hl3_133 o169) (fun v S1 hq => ?_)
                          obtain ⟨rfl, hS1⟩ := hq
                          obtain rfl : (sv_sts S [1018, 1019] g1) = S1 := hS1.symm
                          show sv_T sm_XS sm_cs sm_L sm_sh 1 (q_skip S) 15 176 [(0, .ref 0), (1, sv_I l1_2), (2, sv_I x10), (3, sv_I l3_133)] [sv_I ((if l3_133 < (S 1004 0) then (S 2 l3_133) % 256 else 0))] (sv_sts S [1018, 1019] g1)
                          refine sv_bipush (d := (42 : Int)) hM dX12_skip_176 rfl rfl ?_
                          obtain ⟨o170, h⟩ := h
                          refine sv_icmp_ne hM dX12_skip_178 o170 (⟨by decide, by decide⟩ : sv_R (42 : Int)) (t := 193) rfl rfl (fun hc => ?_) (fun hc => ?_)
                          · have h := h.1 (hc)
                            refine sv_iinc (d := (1 : Int)) hM dX12_skip_193 rfl (by decide) rfl rfl ?_
                            show sv_T sm_XS sm_cs sm_L sm_sh 1 (q_skip S) 15 196 [(0, .ref 0), (1, sv_I l1_2), (2, sv_I x10), (3, sv_I (l3_133 + (1 : Int)))] [] (sv_sts S [1018, 1019] g1)
                            refine sv_goto hM dX12_skip_196 (pc' := 163) rfl ?_
                            obtain ⟨o171, h⟩ := h
                            have hb := ih134 ((l3_133 + (1 : Int)), ()) ⟨o171, ok136, h.1⟩ h.2
                            exact sv_less (lv := [(0, .ref 0), (1, sv_I l1_2), (2, sv_I x10), (3, sv_I (l3_133 + (1 : Int)))]) (sv_Sub_cons rfl (sv_Sub_cons rfl (sv_Sub_cons rfl (sv_Sub_cons rfl sv_Sub_nil)))) hb
                          · have h := h.2 (hc)
                            refine sv_aload_n hM dX12_skip_181 rfl rfl ?_
                            refine sv_iload_n hM dX12_skip_182 rfl rfl ?_
                            refine sv_iconst (d := (1 : Int)) hM dX12_skip_183 rfl rfl ?_
                            refine sv_iadd hM dX12_skip_184 rfl ?_
                            obtain ⟨o172, h⟩ := h
                            obtain ⟨o173, h⟩ := h
                            refine sv_callV hM dX12_skip_185 sm_iv_334 (by decide) (sm_a0 _) rfl rfl (Nat.le_of_ble_eq_true rfl) sm_h10 (Nat.le_of_ble_eq_true rfl) (Nat.le_of_ble_eq_true rfl) (F' := 0) (Nat.le_of_ble_eq_true rfl) rfl (t_look (l3_133 + (1 : Int)) (sv_sts S [1018, 1019] g1) ok136 o172 o173) (fun v S1 hq => ?_)
                            obtain ⟨rfl, hS1⟩ := hq
                            obtain rfl : (sv_sts S [1018, 1019] g1) = S1 := hS1.symm
                            show sv_T sm_XS sm_cs sm_L sm_sh 1 (q_skip S) 15 188 [(0, .ref 0), (1, sv_I l1_2), (2, sv_I x10), (3, sv_I l3_133)] [sv_I ((if (l3_133 + (1 : Int)) < (S 1004 0) then (S 2 (l3_133 + (1 : Int))) % 256 else 0))] (sv_sts S [1018, 1019] g1)
                            refine sv_bipush (d := (47 : Int)) hM dX12_skip_188 rfl rfl ?_
                            obtain ⟨o174, h⟩ := h
                            refine sv_icmp_eq hM dX12_skip_190 o174 (⟨by decide, by decide⟩ : sv_R (47 : Int)) (t := 199) rfl rfl (fun hc => ?_) (fun hc => ?_)
                            · have h := h.1 (hc)
                              refine sv_aload_n hM dX12_skip_199 rfl rfl ?_
                              refine sv_iload_n hM dX12_skip_200 rfl rfl ?_
                              refine sv_callV hM dX12_skip_201 sm_iv_331 (by decide) (sm_a0 _) rfl rfl (Nat.le_of_ble_eq_true rfl) sm_h11 (Nat.le_of_ble_eq_true rfl) (Nat.le_of_ble_eq_true rfl) (F' := 0) (Nat.le_of_ble_eq_true rfl) rfl (t_isThere l3_133 (sv_sts S [1018, 1019] g1) ok136 hl3_133) (fun v S1 hq => ?_)
                              obtain ⟨rfl, hS1⟩ := hq
                              obtain rfl : (sv_sts S [1018, 1019] g1) = S1 := hS1.symm
                              show sv_T sm_XS sm_cs sm_L sm_sh 1 (q_skip S) 15 204 [(0, .ref 0), (1, sv_I l1_2), (2, sv_I x10), (3, sv_I l3_133)] [sv_I (if l3_133 < (S 1004 0) then 1 else 0)] (sv_sts S [1018, 1019] g1)
                              refine sv_cond_ne hM dX12_skip_204 (sv_Rite : sv_R (if l3_133 < (S 1004 0) then 1 else 0)) (t := 209) rfl rfl (fun hc => ?_) (fun hc => ?_)
                              · have h := h.1 (sv_itep hc)
                                obtain ⟨hin177, h⟩ := h
                                have hJ : ∀ a : sv_S, (sm_ok (sv_sts (sv_sts S [1018, 1019] g1) [1018, 1019] a) ∧ ((S 1018 0) ≤ (a 1018 0) ∧ (a 1018 0) ≤ l3_133 + 2 ∧ 0 ≤ l3_133 ∧ l3_133 < (S 1004 0) ∧ 1 ≤ (a 1019 0) ∧ (a 1019 0) ≤ 1 + (a 1018 0))) → sv_T sm_XS sm_cs sm_L sm_sh 1 (q_skip S) 15 209 [(0, .ref 0), (1, sv_I l1_2), (2, sv_I x10), (3, sv_I l3_133)] [] (sv_sts (sv_sts S [1018, 1019] g1) [1018, 1019] a) := by
                                  refine sv_loop (α := sv_S) (fun a => sm_ok (sv_sts (sv_sts S [1018, 1019] g1) [1018, 1019] a) ∧ ((S 1018 0) ≤ (a 1018 0) ∧ (a 1018 0) ≤ l3_133 + 2 ∧ 0 ≤ l3_133 ∧ l3_133 < (S 1004 0) ∧ 1 ≤ (a 1019 0) ∧ (a 1019 0) ≤ 1 + (a 1018 0))) (fun a => l3_133 + 2 - (a 1018 0)) (fun a => sv_T sm_XS sm_cs sm_L sm_sh 1 (q_skip S) 15 209 [(0, .ref 0), (1, sv_I l1_2), (2, sv_I x10), (3, sv_I l3_133)] [] (sv_sts (sv_sts S [1018, 1019] g1) [1018, 1019] a)) (fun a q => (h a q.2).1) (fun g175 q ih176 => ?_)
                                  obtain ⟨ok178, hin177i⟩ := q
                                  have h := (h g175 hin177i).2
                                  show sv_T sm_XS sm_cs sm_L sm_sh 1 (q_skip S) 15 209 [(0, .ref 0), (1, sv_I l1_2), (2, sv_I x10), (3, sv_I l3_133)] [] (sv_sts (sv_sts S [1018, 1019] g1) [1018, 1019] g175)
                                  have md179 : sv_mod [1018, 1019] S (sv_sts (sv_sts S [1018, 1019] g1) [1018, 1019] g175) := sv_mod.sts md6 (by decide)
                                  have md180 : sv_mod [1018, 1019] S (sv_sts (sv_sts S [1018, 1019] g1) [1018, 1019] g175) := sv_mod.sts md7 (by decide)
                                  have md181 : sv_mod [1018, 1019] (sv_sts S [1018, 1019] g1) (sv_sts (sv_sts S [1018, 1019] g1) [1018, 1019] g175) := sv_mod.sts sv_mod.rf (by decide)
                                  refine sv_aload_n hM dX12_skip_209 rfl rfl ?_
                                  have k182 : sv_R (g175 1018 0) := sm_okI ok178 sm_r1018 0
                                  have h := h k182
                                  refine sv_getI hM dX12_skip_210 sm_fl_344 (sm_a0 _) sm_k18 rfl (x := (g175 1018 0)) rfl ?_
                                  refine sv_iload_n hM dX12_skip_213 rfl rfl ?_
                                  refine sv_iconst (d := (2 : Int)) hM dX12_skip_214 rfl rfl ?_
                                  refine sv_iadd hM dX12_skip_215 rfl ?_
                                  obtain ⟨o183, h⟩ := h
                                  refine sv_icmp_ge hM dX12_skip_216 k182 o183 (t := 259) rfl rfl (fun hc => ?_) (fun hc => ?_)
                                  · have h := h.1 (hc)
                                    refine sv_goto hM dX12_skip_259 (pc' := 264) rfl ?_
                                    refine sv_goto hM dX12_skip_264 (pc' := 2) rfl ?_
                                    have eS := sv_mod.eq md180
                                    have hb := ih3 (l1_2, (sv_sts (sv_sts S [1018, 1019] g1) [1018, 1019] g175)) ⟨hl1_2, (by rw [← eS]; exact ok178), h.1⟩ h.2
                                    have hb : sv_T sm_XS sm_cs sm_L sm_sh 1 (q_skip S) 15 2 [(0, .ref 0), (1, sv_I l1_2)] [] (sv_sts (sv_sts S [1018, 1019] g1) [1018, 1019] g175) := Eq.mpr (congrArg (fun Z => sv_T sm_XS sm_cs sm_L sm_sh 1 (q_skip S) 15 2 [(0, .ref 0), (1, sv_I l1_2)] [] Z) eS) hb
                                    exact sv_less (lv := [(0, .ref 0), (1, sv_I l1_2)]) (sv_Sub_cons rfl (sv_Sub_cons rfl sv_Sub_nil)) hb
                                  · have h := h.2 (hc)
                                    refine sv_aload_n hM dX12_skip_219 rfl rfl ?_
                                    refine sv_dupA hM dX12_skip_220 rfl ?_
                                    have k184 : sv_R (g175 1019 0) := sm_okI ok178 sm_r1019 0
                                    have h := h k184
                                    refine sv_getI hM dX12_skip_221 sm_fl_347 (sm_a0 _) sm_k19 rfl (x := (g175 1019 0)) rfl ?_
                                    refine sv_aload_n hM dX12_skip_224 rfl rfl ?_
                                    refine sv_aload_n hM dX12_skip_225 rfl rfl ?_
                                    refine sv_getI hM dX12_skip_226 sm_fl_344 (sm_a0 _) sm_k18 rfl (x := (g175 1018 0)) rfl ?_
                                    obtain ⟨o185, h⟩ := h
                                    refine sv_callV hM dX12_skip_229 sm_iv_334 (by decide) (sm_a0 _) rfl rfl (Nat.le_of_ble_eq_true rfl) sm_h10 (Nat.le_of_ble_eq_true rfl) (Nat.le_of_ble_eq_true rfl) (F' := 0) (Nat.le_of_ble_eq_true rfl) rfl (t_look (g175 1018 0) (sv_sts (sv_sts S [1018, 1019] g1) [1018, 1019] g175) ok178 k182 o185) (fun v S1 hq => ?_)
                                    obtain ⟨rfl, hS1⟩ := hq
                                    obtain rfl : (sv_sts (sv_sts S [1018, 1019] g1) [1018, 1019] g175) = S1 := hS1.symm
                                    show sv_T sm_XS sm_cs sm_L sm_sh 1 (q_skip S) 15 232 [(0, .ref 0), (1, sv_I l1_2), (2, sv_I x10), (3, sv_I l3_133)] [sv_I ((if (g175 1018 0) < (S 1004 0) then (S 2 (g175 1018 0)) % 256 else 0)), sv_I (g175 1019 0), .ref 0] (sv_sts (sv_sts S [1018, 1019] g1) [1018, 1019] g175)
                                    refine sv_bipush (d := (10 : Int)) hM dX12_skip_232 rfl rfl ?_
                                    obtain ⟨o186, h⟩ := h
                                    refine sv_icmp_ne hM dX12_skip_234 o186 (⟨by decide, by decide⟩ : sv_R (10 : Int)) (t := 241) rfl rfl (fun hc => ?_) (fun hc => ?_)
                                    · have h := h.1 (hc)
                                      refine sv_iconst (d := (0 : Int)) hM dX12_skip_241 rfl rfl ?_
                                      refine sv_iadd hM dX12_skip_242 rfl ?_
                                      obtain ⟨o187, h⟩ := h
                                      refine sv_putI sm_X hM dX12_skip_243 sm_fp_347 (sm_a0 _) sm_q19 (Or.inl rfl) rfl rfl rfl rfl ?_
                                      have ok188 : sm_ok (sv_up (sv_sts (sv_sts S [1018, 1019] g1) [1018, 1019] g175) 1019 0 ((g175 1019 0) + (0 : Int))) := sm_upI ok178 sm_r1019 o187
                                      have md189 : sv_mod [1018, 1019] S (sv_up (sv_sts (sv_sts S [1018, 1019] g1) [1018, 1019] g175) 1019 0 ((g175 1019 0) + (0 : Int))) := sv_mod.up md179 (by decide)
                                      have md190 : sv_mod [1018, 1019] S (sv_up (sv_sts (sv_sts S [1018, 1019] g1) [1018, 1019] g175) 1019 0 ((g175 1019 0) + (0 : Int))) := sv_mod.up md180 (by decide)
                                      have md191 : sv_mod [1018, 1019] (sv_sts S [1018, 1019] g1) (sv_up (sv_sts (sv_sts S [1018, 1019] g1) [1018, 1019] g175) 1019 0 ((g175 1019 0) + (0 : Int))) := sv_mod.up md181 (by decide)
                                      refine sv_aload_n hM dX12_skip_246 rfl rfl ?_
                                      refine sv_dupA hM dX12_skip_247 rfl ?_
                                      refine sv_getI hM dX12_skip_248 sm_fl_344 (sm_a0 _) sm_k18 rfl (x := (g175 1018 0)) rfl ?_
                                      refine sv_iconst (d := (1 : Int)) hM dX12_skip_251 rfl rfl ?_
                                      refine sv_iadd hM dX12_skip_252 rfl ?_
                                      obtain ⟨o192, h⟩ := h
                                      refine sv_putI sm_X hM dX12_skip_253 sm_fp_344 (sm_a0 _) sm_q18 (Or.inl rfl) rfl rfl rfl rfl ?_
                                      have ok193 : sm_ok (sv_up (sv_up (sv_sts (sv_sts S [1018, 1019] g1) [1018, 1019] g175) 1019 0 ((g175 1019 0) + (0 : Int))) 1018 0 ((g175 1018 0) + (1 : Int))) := sm_upI ok188 sm_r1018 o192
                                      have md194 : sv_mod [1018, 1019] S (sv_up (sv_up (sv_sts (sv_sts S [1018, 1019] g1) [1018, 1019] g175) 1019 0 ((g175 1019 0) + (0 : Int))) 1018 0 ((g175 1018 0) + (1 : Int))) := sv_mod.up md189 (by decide)
                                      have md195 : sv_mod [1018, 1019] S (sv_up (sv_up (sv_sts (sv_sts S [1018, 1019] g1) [1018, 1019] g175) 1019 0 ((g175 1019 0) + (0 : Int))) 1018 0 ((g175 1018 0) + (1 : Int))) := sv_mod.up md190 (by decide)
                                      have md196 : sv_mod [1018, 1019] (sv_sts S [1018, 1019] g1) (sv_up (sv_up (sv_sts (sv_sts S [1018, 1019] g1) [1018, 1019] g175) 1019 0 ((g175 1019 0) + (0 : Int))) 1018 0 ((g175 1018 0) + (1 : Int))) := sv_mod.up md191 (by decide)
                                      refine sv_goto hM dX12_skip_256 (pc' := 209) rfl ?_
                                      have eS := sv_mod.eq md196
                                      have hb := ih176 ((sv_up (sv_up (sv_sts (sv_sts S [1018, 1019] g1) [1018, 1019] g175) 1019 0 ((g175 1019 0) + (0 : Int))) 1018 0 ((g175 1018 0) + (1 : Int)))) ⟨(by rw [← eS]; exact ok193), h.1⟩ h.2
                                      have hb : sv_T sm_XS sm_cs sm_L sm_sh 1 (q_skip S) 15 209 [(0, .ref 0), (1, sv_I l1_2), (2, sv_I x10), (3, sv_I l3_133)] [] (sv_up (sv_up (sv_sts (sv_sts S [1018, 1019] g1) [1018, 1019] g175) 1019 0 ((g175 1019 0) + (0 : Int))) 1018 0 ((g175 1018 0) + (1 : Int))) := Eq.mpr (congrArg (fun Z => sv_T sm_XS sm_cs sm_L sm_sh 1 (q_skip S) 15 209 [(0, .ref 0), (1, sv_I l1_2), (2, sv_I x10), (3, sv_I l3_133)] [] Z) eS) hb
                                      exact sv_less (lv := [(0, .ref 0), (1, sv_I l1_2), (2, sv_I x10), (3, sv_I l3_133)]) (sv_Sub_cons rfl (sv_Sub_cons rfl (sv_Sub_cons rfl (sv_Sub_cons rfl sv_Sub_nil)))) hb
                                    · have h := h.2 (hc)
                                      refine sv_iconst (d := (1 : Int)) hM dX12_skip_237 rfl rfl ?_
                                      refine sv_goto hM dX12_skip_238 (pc' := 242) rfl ?_
                                      refine sv_iadd hM dX12_skip_242 rfl ?_
                                      obtain ⟨o197, h⟩ := h
                                      refine sv_putI sm_X hM dX12_skip_243 sm_fp_347 (sm_a0 _) sm_q19 (Or.inl rfl) rfl rfl rfl rfl ?_
                                      have ok198 : sm_ok (sv_up (sv_sts (sv_sts S [1018, 1019] g1) [1018, 1019] g175) 1019 0 ((g175 1019 0) + (1 : Int))) := sm_upI ok178 sm_r1019 o197
                                      have md199 : sv_mod [1018, 1019] S (sv_up (sv_sts (sv_sts S [1018, 1019] g1) [1018, 1019] g175) 1019 0 ((g175 1019 0) + (1 : Int))) := sv_mod.up md179 (by decide)
                                      have md200 : sv_mod [1018, 1019] S (sv_up (sv_sts (sv_sts S [1018, 1019] g1) [1018, 1019] g175) 1019 0 ((g175 1019 0) + (1 : Int))) := sv_mod.up md180 (by decide)
                                      have md201 : sv_mod [1018, 1019] (sv_sts S [1018, 1019] g1) (sv_up (sv_sts (sv_sts S [1018, 1019] g1) [1018, 1019] g175) 1019 0 ((g175 1019 0) + (1 : Int))) := sv_mod.up md181 (by decide)
                                      refine sv_aload_n hM dX12_skip_246 rfl rfl ?_
                                      refine sv_dupA hM dX12_skip_247 rfl ?_
                                      refine sv_getI hM dX12_skip_248 sm_fl_344 (sm_a0 _) sm_k18 rfl (x := (g175 1018 0)) rfl ?_
                                      refine sv_iconst (d := (1 : Int)) hM dX12_skip_251 rfl rfl ?_
                                      refine sv_iadd hM dX12_skip_252 rfl ?_
                                      obtain ⟨o202, h⟩ := h
                                      refine sv_putI sm_X hM dX12_skip_253 sm_fp_344 (sm_a0 _) sm_q18 (Or.inl rfl) rfl rfl rfl rfl ?_
                                      have ok203 : sm_ok (sv_up (sv_up (sv_sts (sv_sts S [1018, 1019] g1) [1018, 1019] g175) 1019 0 ((g175 1019 0) + (1 : Int))) 1018 0 ((g175 1018 0) + (1 : Int))) := sm_upI ok198 sm_r1018 o202
                                      have md204 : sv_mod [1018, 1019] S (sv_up (sv_up (sv_sts (sv_sts S [1018, 1019] g1) [1018, 1019] g175) 1019 0 ((g175 1019 0) + (1 : Int))) 1018 0 ((g175 1018 0) + (1 : Int))) := sv_mod.up md199 (by decide)
                                      have md205 : sv_mod [1018, 1019] S (sv_up (sv_up (sv_sts (sv_sts S [1018, 1019] g1) [1018, 1019] g175) 1019 0 ((g175 1019 0) + (1 : Int))) 1018 0 ((g175 1018 0) + (1 : Int))) := sv_mod.up md200 (by decide)
                                      have md206 : sv_mod [1018, 1019] (sv_sts S [1018, 1019] g1) (sv_up (sv_up (sv_sts (sv_sts S [1018, 1019] g1) [1018, 1019] g175) 1019 0 ((g175 1019 0) + (1 : Int))) 1018 0 ((g175 1018 0) + (1 : Int))) := sv_mod.up md201 (by decide)
                                      refine sv_goto hM dX12_skip_256 (pc' := 209) rfl ?_
                                      have eS := sv_mod.eq md206
                                      have hb := ih176 ((sv_up (sv_up (sv_sts (sv_sts S [1018, 1019] g1) [1018, 1019] g175) 1019 0 ((g175 1019 0) + (1 : Int))) 1018 0 ((g175 1018 0) + (1 : Int)))) ⟨(by rw [← eS]; exact ok203), h.1⟩ h.2
                                      have hb : sv_T sm_XS sm_cs sm_L sm_sh 1 (q_skip S) 15 209 [(0, .ref 0), (1, sv_I l1_2), (2, sv_I x10), (3, sv_I l3_133)] [] (sv_up (sv_up (sv_sts (sv_sts S [1018, 1019] g1) [1018, 1019] g175) 1019 0 ((g175 1019 0) + (1 : Int))) 1018 0 ((g175 1018 0) + (1 : Int))) := Eq.mpr (congrArg (fun Z => sv_T sm_XS sm_cs sm_L sm_sh 1 (q_skip S) 15 209 [(0, .ref 0), (1, sv_I l1_2), (2, sv_I x10), (3, sv_I l3_133)] [] Z) eS) hb
                                      exact sv_less (lv := [(0, .ref 0), (1, sv_I l1_2), (2, sv_I x10), (3, sv_I l3_133)]) (sv_Sub_cons rfl (sv_Sub_cons rfl (sv_Sub_cons rfl (sv_Sub_cons rfl sv_Sub_nil)))) hb
                                have eS := sv_mod.eq (sv_mod.rf (l := [1018, 1019]) (S := (sv_sts S [1018, 1019] g1)))
                                have hb := hJ ((sv_sts S [1018, 1019] g1)) ⟨(by rw [← eS]; exact ok136), hin177⟩
                                have hb : sv_T sm_XS sm_cs sm_L sm_sh 1 (q_skip S) 15 209 [(0, .ref 0), (1, sv_I l1_2), (2, sv_I x10), (3, sv_I l3_133)] [] (sv_sts S [1018, 1019] g1) := Eq.mpr (congrArg (fun Z => sv_T sm_XS sm_cs sm_L sm_sh 1 (q_skip S) 15 209 [(0, .ref 0), (1, sv_I l1_2), (2, sv_I x10), (3, sv_I l3_133)] [] Z) eS) hb
                                exact hb
                              · have h := h.2 (fun q => hc (by rw [if_pos q]; decide))
                                refine sv_iconst (d := (0 : Int)) hM dX12_skip_207 rfl rfl ?_
                                exact sv_iret hM dX12_skip_208 rfl (sv_nz (⟨by decide, by decide⟩ : 0 ≤ (0 : Int) ∧ (0 : Int) ≤ 1)) ⟨(0 : Int), rfl, sv_R01 (⟨by decide, by decide⟩ : 0 ≤ (0 : Int) ∧ (0 : Int) ≤ 1), ok136, md6, h⟩
                            · have h := h.2 (hc)
                              refine sv_iinc (d := (1 : Int)) hM dX12_skip_193 rfl (by decide) rfl rfl ?_
                              show sv_T sm_XS sm_cs sm_L sm_sh 1 (q_skip S) 15 196 [(0, .ref 0), (1, sv_I l1_2), (2, sv_I x10), (3, sv_I (l3_133 + (1 : Int)))] [] (sv_sts S [1018, 1019] g1)
                              refine sv_goto hM dX12_skip_196 (pc' := 163) rfl ?_
                              have hb := ih134 ((l3_133 + (1 : Int)), ()) ⟨o172, ok136, h.1⟩ h.2
                              exact sv_less (lv := [(0, .ref 0), (1, sv_I l1_2), (2, sv_I x10), (3, sv_I (l3_133 + (1 : Int)))]) (sv_Sub_cons rfl (sv_Sub_cons rfl (sv_Sub_cons rfl (sv_Sub_cons rfl sv_Sub_nil)))) hb
                      exact hJ (x130, ()) ⟨o132, ok5, hin135⟩
                · have h := h.2 (hc)
                  obtain ⟨hin209, h⟩ := h
                  have hJ : ∀ a : sv_S, (sm_ok (sv_sts (sv_sts S [1018, 1019] g1) [1018] a) ∧ ((g1 1018 0) ≤ (a 1018 0) ∧ (a 1018 0) ≤ (S 1004 0) ∧ 1 ≤ (g1 1019 0) ∧ (g1 1019 0) ≤ 1 + (a 1018 0))) → sv_T sm_XS sm_cs sm_L sm_sh 1 (q_skip S) 15 98 [(0, .ref 0), (1, sv_I l1_2), (2, sv_I x10)] [] (sv_sts (sv_sts S [1018, 1019] g1) [1018] a) := by
                    refine sv_loop (α := sv_S) (fun a => sm_ok (sv_sts (sv_sts S [1018, 1019] g1) [1018] a) ∧ ((g1 1018 0) ≤ (a 1018 0) ∧ (a 1018 0) ≤ (S 1004 0) ∧ 1 ≤ (g1 1019 0) ∧ (g1 1019 0) ≤ 1 + (a 1018 0))) (fun a => (S 1004 0) - (a 1018 0)) (fun a => sv_T sm_XS sm_cs sm_L sm_sh 1 (q_skip S) 15 98 [(0, .ref 0), (1, sv_I l1_2), (2, sv_I x10)] [] (sv_sts (sv_sts S [1018, 1019] g1) [1018] a)) (fun a q => (h a q.2).1) (fun g207 q ih208 => ?_)
                    obtain ⟨ok210, hin209i⟩ := q
                    have h := (h g207 hin209i).2
                    show sv_T sm_XS sm_cs sm_L sm_sh 1 (q_skip S) 15 98 [(0, .ref 0), (1, sv_I l1_2), (2, sv_I x10)] [] (sv_sts (sv_sts S [1018, 1019] g1) [1018] g207)
                    have md211 : sv_mod [1018, 1019] S (sv_sts (sv_sts S [1018, 1019] g1) [1018] g207) := sv_mod.sts md6 (by decide)
                    have md212 : sv_mod [1018, 1019] S (sv_sts (sv_sts S [1018, 1019] g1) [1018] g207) := sv_mod.sts md7 (by decide)
                    have md213 : sv_mod [1018] (sv_sts S [1018, 1019] g1) (sv_sts (sv_sts S [1018, 1019] g1) [1018] g207) := sv_mod.sts sv_mod.rf (by decide)
                    refine sv_aload_n hM dX12_skip_98 rfl rfl ?_
                    refine sv_aload_n hM dX12_skip_99 rfl rfl ?_
                    have k214 : sv_R (g207 1018 0) := sm_okI ok210 sm_r1018 0
                    have h := h k214
                    refine sv_getI hM dX12_skip_100 sm_fl_344 (sm_a0 _) sm_k18 rfl (x := (g207 1018 0)) rfl ?_
                    refine sv_callV hM dX12_skip_103 sm_iv_331 (by decide) (sm_a0 _) rfl rfl (Nat.le_of_ble_eq_true rfl) sm_h11 (Nat.le_of_ble_eq_true rfl) (Nat.le_of_ble_eq_true rfl) (F' := 0) (Nat.le_of_ble_eq_true rfl) rfl (t_isThere (g207 1018 0) (sv_sts (sv_sts S [1018, 1019] g1) [1018] g207) ok210 k214) (fun v S1 hq => ?_)
                    obtain ⟨rfl, hS1⟩ := hq
                    obtain rfl : (sv_sts (sv_sts S [1018, 1019] g1) [1018] g207) = S1 := hS1.symm
                    show sv_T sm_XS sm_cs sm_L sm_sh 1 (q_skip S) 15 106 [(0, .ref 0), (1, sv_I l1_2), (2, sv_I x10)] [sv_I (if (g207 1018 0) < (S 1004 0) then 1 else 0)] (sv_sts (sv_sts S [1018, 1019] g1) [1018] g207)
                    refine sv_cond_eq hM dX12_skip_106 (sv_Rite : sv_R (if (g207 1018 0) < (S 1004 0) then 1 else 0)) (t := 264) rfl rfl (fun hc => ?_) (fun hc => ?_)
                    · have h := h.1 (sv_iten hc)
                      refine sv_goto hM dX12_skip_264 (pc' := 2) rfl ?_
                      have eS := sv_mod.eq md212
                      have hb := ih3 (l1_2, (sv_sts (sv_sts S [1018, 1019] g1) [1018] g207)) ⟨hl1_2, (by rw [← eS]; exact ok210), h.1⟩ h.2
                      have hb : sv_T sm_XS sm_cs sm_L sm_sh 1 (q_skip S) 15 2 [(0, .ref 0), (1, sv_I l1_2)] [] (sv_sts (sv_sts S [1018, 1019] g1) [1018] g207) := Eq.mpr (congrArg (fun Z => sv_T sm_XS sm_cs sm_L sm_sh 1 (q_skip S) 15 2 [(0, .ref 0), (1, sv_I l1_2)] [] Z) eS) hb
                      exact sv_less (lv := [(0, .ref 0), (1, sv_I l1_2)]) (sv_Sub_cons rfl (sv_Sub_cons rfl sv_Sub_nil)) hb
                    · have h := h.2 (sv_itep hc)
                      refine sv_aload_n hM dX12_skip_109 rfl rfl ?_
                      refine sv_aload_n hM dX12_skip_110 rfl rfl ?_
                      refine sv_getI hM dX12_skip_111 sm_fl_344 (sm_a0 _) sm_k18 rfl (x := (g207 1018 0)) rfl ?_
                      obtain ⟨o215, h⟩ := h
                      refine sv_callV hM dX12_skip_114 sm_iv_334 (by decide) (sm_a0 _) rfl rfl (Nat.le_of_ble_eq_true rfl) sm_h10 (Nat.le_of_ble_eq_true rfl) (Nat.le_of_ble_eq_true rfl) (F' := 0) (Nat.le_of_ble_eq_true rfl) rfl (t_look (g207 1018 0) (sv_sts (sv_sts S [1018, 1019] g1) [1018] g207) ok210 k214 o215) (fun v S1 hq => ?_)
                      obtain ⟨rfl, hS1⟩ := hq
                      obtain rfl : (sv_sts (sv_sts S [1018, 1019] g1) [1018] g207) = S1 := hS1.symm
                      show sv_T sm_XS sm_cs sm_L sm_sh 1 (q_skip S) 15 117 [(0, .ref 0), (1, sv_I l1_2), (2, sv_I x10)] [sv_I ((if (g207 1018 0) < (S 1004 0) then (S 2 (g207 1018 0)) % 256 else 0))] (sv_sts (sv_sts S [1018, 1019] g1) [1018] g207)
                      refine sv_bipush (d := (10 : Int)) hM dX12_skip_117 rfl rfl ?_
                      obtain ⟨o216, h⟩ := h
                      refine sv_icmp_eq hM dX12_skip_119 o216 (⟨by decide, by decide⟩ : sv_R (10 : Int)) (t := 264) rfl rfl (fun hc => ?_) (fun hc => ?_)
                      · have h := h.1 (hc)
                        refine sv_goto hM dX12_skip_264 (pc' := 2) rfl ?_
                        have eS := sv_mod.eq md212
                        have hb := ih3 (l1_2, (sv_sts (sv_sts S [1018, 1019] g1) [1018] g207)) ⟨hl1_2, (by rw [← eS]; exact ok210), h.1⟩ h.2
                        have hb : sv_T sm_XS sm_cs sm_L sm_sh 1 (q_skip S) 15 2 [(0, .ref 0), (1, sv_I l1_2)] [] (sv_sts (sv_sts S [1018, 1019] g1) [1018] g207) := Eq.mpr (congrArg (fun Z => sv_T sm_XS sm_cs sm_L sm_sh 1 (q_skip S) 15 2 [(0, .ref 0), (1, sv_I l1_2)] [] Z) eS) hb
                        exact sv_less (lv := [(0, .ref 0), (1, sv_I l1_2)]) (sv_Sub_cons rfl (sv_Sub_cons rfl sv_Sub_nil)) hb
                      · have h := h.2 (hc)
                        refine sv_aload_n hM dX12_skip_122 rfl rfl ?_
                        refine sv_dupA hM dX12_skip_123 rfl ?_
                        refine sv_getI hM dX12_skip_124 sm_fl_344 (sm_a0 _) sm_k18 rfl (x := (g207 1018 0)) rfl ?_
                        refine sv_iconst (d := (1 : Int)) hM dX12_skip_127 rfl rfl ?_
                        refine sv_iadd hM dX12_skip_128 rfl ?_
                        obtain ⟨o217, h⟩ := h
                        refine sv_putI sm_X hM dX12_skip_129 sm_fp_344 (sm_a0 _) sm_q18 (Or.inl rfl) rfl rfl rfl rfl ?_
                        have ok218 : sm_ok (sv_up (sv_sts (sv_sts S [1018, 1019] g1) [1018] g207) 1018 0 ((g207 1018 0) + (1 : Int))) := sm_upI ok210 sm_r1018 o217
                        have md219 : sv_mod [1018, 1019] S (sv_up (sv_sts (sv_sts S [1018, 1019] g1) [1018] g207) 1018 0 ((g207 1018 0) + (1 : Int))) := sv_mod.up md211 (by decide)
                        have md220 : sv_mod [1018, 1019] S (sv_up (sv_sts (sv_sts S [1018, 1019] g1) [1018] g207) 1018 0 ((g207 1018 0) + (1 : Int))) := sv_mod.up md212 (by decide)
                        have md221 : sv_mod [1018] (sv_sts S [1018, 1019] g1) (sv_up (sv_sts (sv_sts S [1018, 1019] g1) [1018] g207) 1018 0 ((g207 1018 0) + (1 : Int))) := sv_mod.up md213 (by decide)
                        refine sv_goto hM dX12_skip_132 (pc' := 98) rfl ?_
                        have eS := sv_mod.eq md221
                        have hb := ih208 ((sv_up (sv_sts (sv_sts S [1018, 1019] g1) [1018] g207) 1018 0 ((g207 1018 0) + (1 : Int)))) ⟨(by rw [← eS]; exact ok218), h.1⟩ h.2
                        have hb : sv_T sm_XS sm_cs sm_L sm_sh 1 (q_skip S) 15 98 [(0, .ref 0), (1, sv_I l1_2), (2, sv_I x10)] [] (sv_up (sv_sts (sv_sts S [1018, 1019] g1) [1018] g207) 1018 0 ((g207 1018 0) + (1 : Int))) := Eq.mpr (congrArg (fun Z => sv_T sm_XS sm_cs sm_L sm_sh 1 (q_skip S) 15 98 [(0, .ref 0), (1, sv_I l1_2), (2, sv_I x10)] [] Z) eS) hb
                        exact sv_less (lv := [(0, .ref 0), (1, sv_I l1_2), (2, sv_I x10)]) (sv_Sub_cons rfl (sv_Sub_cons rfl (sv_Sub_cons rfl sv_Sub_nil))) hb
                  have eS := sv_mod.eq (sv_mod.rf (l := [1018]) (S := (sv_sts S [1018, 1019] g1)))
                  have hb := hJ ((sv_sts S [1018, 1019] g1)) ⟨(by rw [← eS]; exact ok5), hin209⟩
                  have hb : sv_T sm_XS sm_cs sm_L sm_sh 1 (q_skip S) 15 98 [(0, .ref 0), (1, sv_I l1_2), (2, sv_I x10)] [] (sv_sts S [1018, 1019] g1) := Eq.mpr (congrArg (fun Z => sv_T sm_XS sm_cs sm_L sm_sh 1 (q_skip S) 15 98 [(0, .ref 0), (1, sv_I l1_2), (2, sv_I x10)] [] Z) eS) hb
                  exact hb
            · have h := h.2 (hc)
              refine sv_aload_n hM dX12_skip_44 rfl rfl ?_
              refine sv_dupA hM dX12_skip_45 rfl ?_
              have k222 : sv_R (g1 1019 0) := sm_okI ok5 sm_r1019 0
              have h := h k222
              refine sv_getI hM dX12_skip_46 sm_fl_347 (sm_a0 _) sm_k19 rfl (x := (g1 1019 0)) rfl ?_
              refine sv_iload_n hM dX12_skip_49 rfl rfl ?_
              refine sv_bipush (d := (10 : Int)) hM dX12_skip_50 rfl rfl ?_
              refine sv_icmp_ne hM dX12_skip_52 o12 (⟨by decide, by decide⟩ : sv_R (10 : Int)) (t := 59) rfl rfl (fun hc => ?_) (fun hc => ?_)
              · have h := h.1 (hc)
                refine sv_iconst (d := (0 : Int)) hM dX12_skip_59 rfl rfl ?_
                refine sv_iadd hM dX12_skip_60 rfl ?_
                obtain ⟨o223, h⟩ := h
                refine sv_putI sm_X hM dX12_skip_61 sm_fp_347 (sm_a0 _) sm_q19 (Or.inl rfl) rfl rfl rfl rfl ?_
                have ok224 : sm_ok (sv_up (sv_sts S [1018, 1019] g1) 1019 0 ((g1 1019 0) + (0 : Int))) := sm_upI ok5 sm_r1019 o223
                have md225 : sv_mod [1018, 1019] S (sv_up (sv_sts S [1018, 1019] g1) 1019 0 ((g1 1019 0) + (0 : Int))) := sv_mod.up md6 (by decide)
                have md226 : sv_mod [1018, 1019] S (sv_up (sv_sts S [1018, 1019] g1) 1019 0 ((g1 1019 0) + (0 : Int))) := sv_mod.up md7 (by decide)
                refine sv_aload_n hM dX12_skip_64 rfl rfl ?_
                refine sv_dupA hM dX12_skip_65 rfl ?_
                refine sv_getI hM dX12_skip_66 sm_fl_344 (sm_a0 _) sm_k18 rfl (x := (g1 1018 0)) rfl ?_
                refine sv_iconst (d := (1 : Int)) hM dX12_skip_69 rfl rfl ?_
                refine sv_iadd hM dX12_skip_70 rfl ?_
                obtain ⟨o227, h⟩ := h
                refine sv_putI sm_X hM dX12_skip_71 sm_fp_344 (sm_a0 _) sm_q18 (Or.inl rfl) rfl rfl rfl rfl ?_
                have ok228 : sm_ok (sv_up (sv_up (sv_sts S [1018, 1019] g1) 1019 0 ((g1 1019 0) + (0 : Int))) 1018 0 ((g1 1018 0) + (1 : Int))) := sm_upI ok224 sm_r1018 o227
                have md229 : sv_mod [1018, 1019] S (sv_up (sv_up (sv_sts S [1018, 1019] g1) 1019 0 ((g1 1019 0) + (0 : Int))) 1018 0 ((g1 1018 0) + (1 : Int))) := sv_mod.up md225 (by decide)
                have md230 : sv_mod [1018, 1019] S (sv_up (sv_up (sv_sts S [1018, 1019] g1) 1019 0 ((g1 1019 0) + (0 : Int))) 1018 0 ((g1 1018 0) + (1 : Int))) := sv_mod.up md226 (by decide)
                refine sv_goto hM dX12_skip_74 (pc' := 264) rfl ?_
                refine sv_goto hM dX12_skip_264 (pc' := 2) rfl ?_
                have eS := sv_mod.eq md230
                have hb := ih3 (l1_2, (sv_up (sv_up (sv_sts S [1018, 1019] g1) 1019 0 ((g1 1019 0) + (0 : Int))) 1018 0 ((g1 1018 0) + (1 : Int)))) ⟨hl1_2, (by rw [← eS]; exact ok228), h.1⟩ h.2
                have hb : sv_T sm_XS sm_cs sm_L sm_sh 1 (q_skip S) 15 2 [(0, .ref 0), (1, sv_I l1_2)] [] (sv_up (sv_up (sv_sts S [1018, 1019] g1) 1019 0 ((g1 1019 0) + (0 : Int))) 1018 0 ((g1 1018 0) + (1 : Int))) := Eq.mpr (congrArg (fun Z => sv_T sm_XS sm_cs sm_L sm_sh 1 (q_skip S) 15 2 [(0, .ref 0), (1, sv_I l1_2)] [] Z) eS) hb
                exact sv_less (lv := [(0, .ref 0), (1, sv_I l1_2)]) (sv_Sub_cons rfl (sv_Sub_cons rfl sv_Sub_nil)) hb
              · have h := h.2 (hc)
                refine sv_iconst (d := (1 : Int)) hM dX12_skip_55 rfl rfl ?_
                refine sv_goto hM dX12_skip_56 (pc' := 60) rfl ?_
                refine sv_iadd hM dX12_skip_60 rfl ?_
                obtain ⟨o231, h⟩ := h
                refine sv_putI sm_X hM dX12_skip_61 sm_fp_347 (sm_a0 _) sm_q19 (Or.inl rfl) rfl rfl rfl rfl ?_
                have ok232 : sm_ok (sv_up (sv_sts S [1018, 1019] g1) 1019 0 ((g1 1019 0) + (1 : Int))) := sm_upI ok5 sm_r1019 o231
                have md233 : sv_mod [1018, 1019] S (sv_up (sv_sts S [1018, 1019] g1) 1019 0 ((g1 1019 0) + (1 : Int))) := sv_mod.up md6 (by decide)
                have md234 : sv_mod [1018, 1019] S (sv_up (sv_sts S [1018, 1019] g1) 1019 0 ((g1 1019 0) + (1 : Int))) := sv_mod.up md7 (by decide)
                refine sv_aload_n hM dX12_skip_64 rfl rfl ?_
                refine sv_dupA hM dX12_skip_65 rfl ?_
                refine sv_getI hM dX12_skip_66 sm_fl_344 (sm_a0 _) sm_k18 rfl (x := (g1 1018 0)) rfl ?_
                refine sv_iconst (d := (1 : Int)) hM dX12_skip_69 rfl rfl ?_
                refine sv_iadd hM dX12_skip_70 rfl ?_
                obtain ⟨o235, h⟩ := h
                refine sv_putI sm_X hM dX12_skip_71 sm_fp_344 (sm_a0 _) sm_q18 (Or.inl rfl) rfl rfl rfl rfl ?_
                have ok236 : sm_ok (sv_up (sv_up (sv_sts S [1018, 1019] g1) 1019 0 ((g1 1019 0) + (1 : Int))) 1018 0 ((g1 1018 0) + (1 : Int))) := sm_upI ok232 sm_r1018 o235
                have md237 : sv_mod [1018, 1019] S (sv_up (sv_up (sv_sts S [1018, 1019] g1) 1019 0 ((g1 1019 0) + (1 : Int))) 1018 0 ((g1 1018 0) + (1 : Int))) := sv_mod.up md233 (by decide)
                have md238 : sv_mod [1018, 1019] S (sv_up (sv_up (sv_sts S [1018, 1019] g1) 1019 0 ((g1 1019 0) + (1 : Int))) 1018 0 ((g1 1018 0) + (1 : Int))) := sv_mod.up md234 (by decide)
                refine sv_goto hM dX12_skip_74 (pc' := 264) rfl ?_
                refine sv_goto hM dX12_skip_264 (pc' := 2) rfl ?_
                have eS := sv_mod.eq md238
                have hb := ih3 (l1_2, (sv_up (sv_up (sv_sts S [1018, 1019] g1) 1019 0 ((g1 1019 0) + (1 : Int))) 1018 0 ((g1 1018 0) + (1 : Int)))) ⟨hl1_2, (by rw [← eS]; exact ok236), h.1⟩ h.2
                have hb : sv_T sm_XS sm_cs sm_L sm_sh 1 (q_skip S) 15 2 [(0, .ref 0), (1, sv_I l1_2)] [] (sv_up (sv_up (sv_sts S [1018, 1019] g1) 1019 0 ((g1 1019 0) + (1 : Int))) 1018 0 ((g1 1018 0) + (1 : Int))) := Eq.mpr (congrArg (fun Z => sv_T sm_XS sm_cs sm_L sm_sh 1 (q_skip S) 15 2 [(0, .ref 0), (1, sv_I l1_2)] [] Z) eS) hb
                exact sv_less (lv := [(0, .ref 0), (1, sv_I l1_2)]) (sv_Sub_cons rfl (sv_Sub_cons rfl sv_Sub_nil)) hb
  have eS := sv_mod.eq (sv_mod.rf (l := [1018, 1019]) (S := S))
  have hb := hJ ((1 : Int), S) ⟨(⟨by decide, by decide⟩ : sv_R (1 : Int)), (by rw [← eS]; exact hok), hin4⟩
  have hb : sv_T sm_XS sm_cs sm_L sm_sh 1 (q_skip S) 15 2 [(0, .ref 0), (1, sv_I (1 : Int))] [] S := Eq.mpr (congrArg (fun Z => sv_T sm_XS sm_cs sm_L sm_sh 1 (q_skip S) 15 2 [(0, .ref 0), (1, sv_I (1 : Int))] [] Z) eS) hb
  exact hb
