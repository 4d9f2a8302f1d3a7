theorem dX12_isThere_0 : decode cX12_isThere 0 = .ok (.iload_n 1, 1) := by decide +kernel
theorem dX12_isThere_1 : decode cX12_isThere 1 = .ok (.aload_n 0, 1) := by decide +kernel
theorem dX12_isThere_2 : decode cX12_isThere 2 = .ok (.getfield 328, 3) := by decide +kernel
theorem dX12_isThere_5 : decode cX12_isThere 5 = .ok (.if_icmp .ge 7, 3) := by decide +kernel
theorem dX12_isThere_8 : decode cX12_isThere 8 = .ok (.iconst 1, 1) := by decide +kernel
theorem dX12_isThere_9 : decode cX12_isThere 9 = .ok (.goto 4, 3) := by decide +kernel
theorem dX12_isThere_12 : decode cX12_isThere 12 = .ok (.iconst 0, 1) := by decide +kernel
theorem dX12_isThere_13 : decode cX12_isThere 13 = .ok (.ireturn, 1) := by decide +kernel
theorem dX12_skip_0 : decode cX12_skip 0 = .ok (.iconst 1, 1) := by decide +kernel
theorem dX12_skip_1 : decode cX12_skip 1 = .ok (.istore_n 1, 1) := by decide +kernel
theorem dX12_skip_2 : decode cX12_skip 2 = .ok (.iload_n 1, 1) := by decide +kernel
theorem dX12_skip_3 : decode cX12_skip 3 = .ok (.ifCond .eq 264, 3) := by decide +kernel
theorem dX12_skip_6 : decode cX12_skip 6 = .ok (.aload_n 0, 1) := by decide +kernel
theorem dX12_skip_7 : decode cX12_skip 7 = .ok (.aload_n 0, 1) := by decide +kernel
theorem dX12_skip_8 : decode cX12_skip 8 = .ok (.getfield 344, 3) := by decide +kernel
theorem dX12_skip_11 : decode cX12_skip 11 = .ok (.invokevirtual 331, 3) := by decide +kernel
theorem dX12_skip_14 : decode cX12_skip 14 = .ok (.ifCond .eq 253, 3) := by decide +kernel
theorem dX12_skip_17 : decode cX12_skip 17 = .ok (.aload_n 0, 1) := by decide +kernel
theorem dX12_skip_18 : decode cX12_skip 18 = .ok (.aload_n 0, 1) := by decide +kernel
theorem dX12_skip_19 : decode cX12_skip 19 = .ok (.getfield 344, 3) := by decide +kernel
theorem dX12_skip_22 : decode cX12_skip 22 = .ok (.invokevirtual 334, 3) := by decide +kernel
theorem dX12_skip_25 : decode cX12_skip 25 = .ok (.istore_n 2, 1) := by decide +kernel
theorem dX12_skip_26 : decode cX12_skip 26 = .ok (.iload_n 2, 1) := by decide +kernel
theorem dX12_skip_27 : decode cX12_skip 27 = .ok (.bipush 9, 2) := by decide +kernel
theorem dX12_skip_29 : decode cX12_skip 29 = .ok (.if_icmp .eq 15, 3) := by decide +kernel
theorem dX12_skip_32 : decode cX12_skip 32 = .ok (.iload_n 2, 1) := by decide +kernel
theorem dX12_skip_33 : decode cX12_skip 33 = .ok (.bipush 10, 2) := by decide +kernel
theorem dX12_skip_35 : decode cX12_skip 35 = .ok (.if_icmp .eq 9, 3) := by decide +kernel
theorem dX12_skip_38 : decode cX12_skip 38 = .ok (.iload_n 2, 1) := by decide +kernel
theorem dX12_skip_39 : decode cX12_skip 39 = .ok (.bipush 32, 2) := by decide +kernel
theorem dX12_skip_41 : decode cX12_skip 41 = .ok (.if_icmp .ne 36, 3) := by decide +kernel
theorem dX12_skip_44 : decode cX12_skip 44 = .ok (.aload_n 0, 1) := by decide +kernel
theorem dX12_skip_45 : decode cX12_skip 45 = .ok (.dup, 1) := by decide +kernel
theorem dX12_skip_46 : decode cX12_skip 46 = .ok (.getfield 347, 3) := by decide +kernel
theorem dX12_skip_49 : decode cX12_skip 49 = .ok (.iload_n 2, 1) := by decide +kernel
theorem dX12_skip_50 : decode cX12_skip 50 = .ok (.bipush 10, 2) := by decide +kernel
theorem dX12_skip_52 : decode cX12_skip 52 = .ok (.if_icmp .ne 7, 3) := by decide +kernel
theorem dX12_skip_55 : decode cX12_skip 55 = .ok (.iconst 1, 1) := by decide +kernel
theorem dX12_skip_56 : decode cX12_skip 56 = .ok (.goto 4, 3) := by decide +kernel
theorem dX12_skip_59 : decode cX12_skip 59 = .ok (.iconst 0, 1) := by decide +kernel
theorem dX12_skip_60 : decode cX12_skip 60 = .ok (.iadd, 1) := by decide +kernel
theorem dX12_skip_61 : decode cX12_skip 61 = .ok (.putfield 347, 3) := by decide +kernel
theorem dX12_skip_64 : decode cX12_skip 64 = .ok (.aload_n 0, 1) := by decide +kernel
theorem dX12_skip_65 : decode cX12_skip 65 = .ok (.dup, 1) := by decide +kernel
theorem dX12_skip_66 : decode cX12_skip 66 = .ok (.getfield 344, 3) := by decide +kernel
theorem dX12_skip_69 : decode cX12_skip 69 = .ok (.iconst 1, 1) := by decide +kernel
theorem dX12_skip_70 : decode cX12_skip 70 = .ok (.iadd, 1) := by decide +kernel
theorem dX12_skip_71 : decode cX12_skip 71 = .ok (.putfield 344, 3) := by decide +kernel
theorem dX12_skip_74 : decode cX12_skip 74 = .ok (.goto 190, 3) := by decide +kernel
theorem dX12_skip_77 : decode cX12_skip 77 = .ok (.iload_n 2, 1) := by decide +kernel
theorem dX12_skip_78 : decode cX12_skip 78 = .ok (.bipush 47, 2) := by decide +kernel
theorem dX12_skip_80 : decode cX12_skip 80 = .ok (.if_icmp .ne 55, 3) := by decide +kernel
theorem dX12_skip_83 : decode cX12_skip 83 = .ok (.aload_n 0, 1) := by decide +kernel
theorem dX12_skip_84 : decode cX12_skip 84 = .ok (.aload_n 0, 1) := by decide +kernel
theorem dX12_skip_85 : decode cX12_skip 85 = .ok (.getfield 344, 3) := by decide +kernel
theorem dX12_skip_88 : decode cX12_skip 88 = .ok (.iconst 1, 1) := by decide +kernel
theorem dX12_skip_89 : decode cX12_skip 89 = .ok (.iadd, 1) := by decide +kernel
theorem dX12_skip_90 : decode cX12_skip 90 = .ok (.invokevirtual 334, 3) := by decide +kernel
theorem dX12_skip_93 : decode cX12_skip 93 = .ok (.bipush 47, 2) := by decide +kernel
theorem dX12_skip_95 : decode cX12_skip 95 = .ok (.if_icmp .ne 40, 3) := by decide +kernel
theorem dX12_skip_98 : decode cX12_skip 98 = .ok (.aload_n 0, 1) := by decide +kernel
theorem dX12_skip_99 : decode cX12_skip 99 = .ok (.aload_n 0, 1) := by decide +kernel
theorem dX12_skip_100 : decode cX12_skip 100 = .ok (.getfield 344, 3) := by decide +kernel
theorem dX12_skip_103 : decode cX12_skip 103 = .ok (.invokevirtual 331, 3) := by decide +kernel
theorem dX12_skip_106 : decode cX12_skip 106 = .ok (.ifCond .eq 158, 3) := by decide +kernel
theorem dX12_skip_109 : decode cX12_skip 109 = .ok (.aload_n 0, 1) := by decide +kernel
theorem dX12_skip_110 : decode cX12_skip 110 = .ok (.aload_n 0, 1) := by decide +kernel
theorem dX12_skip_111 : decode cX12_skip 111 = .ok (.getfield 344, 3) := by decide +kernel
theorem dX12_skip_114 : decode cX12_skip 114 = .ok (.invokevirtual 334, 3) := by decide +kernel
theorem dX12_skip_117 : decode cX12_skip 117 = .ok (.bipush 10, 2) := by decide +kernel
theorem dX12_skip_119 : decode cX12_skip 119 = .ok (.if_icmp .eq 145, 3) := by decide +kernel
theorem dX12_skip_122 : decode cX12_skip 122 = .ok (.aload_n 0, 1) := by decide +kernel
theorem dX12_skip_123 : decode cX12_skip 123 = .ok (.dup, 1) := by decide +kernel
theorem dX12_skip_124 : decode cX12_skip 124 = .ok (.getfield 344, 3) := by decide +kernel
theorem dX12_skip_127 : decode cX12_skip 127 = .ok (.iconst 1, 1) := by decide +kernel
theorem dX12_skip_128 : decode cX12_skip 128 = .ok (.iadd, 1) := by decide +kernel
theorem dX12_skip_129 : decode cX12_skip 129 = .ok (.putfield 344, 3) := by decide +kernel
theorem dX12_skip_132 : decode cX12_skip 132 = .ok (.goto (-34), 3) := by decide +kernel
theorem dX12_skip_135 : decode cX12_skip 135 = .ok (.iload_n 2, 1) := by decide +kernel
theorem dX12_skip_136 : decode cX12_skip 136 = .ok (.bipush 47, 2) := by decide +kernel
theorem dX12_skip_138 : decode cX12_skip 138 = .ok (.if_icmp .ne 124, 3) := by decide +kernel
theorem dX12_skip_141 : decode cX12_skip 141 = .ok (.aload_n 0, 1) := by decide +kernel
theorem dX12_skip_142 : decode cX12_skip 142 = .ok (.aload_n 0, 1) := by decide +kernel
theorem dX12_skip_143 : decode cX12_skip 143 = .ok (.getfield 344, 3) := by decide +kernel
theorem dX12_skip_146 : decode cX12_skip 146 = .ok (.iconst 1, 1) := by decide +kernel
theorem dX12_skip_147 : decode cX12_skip 147 = .ok (.iadd, 1) := by decide +kernel
theorem dX12_skip_148 : decode cX12_skip 148 = .ok (.invokevirtual 334, 3) := by decide +kernel
theorem dX12_skip_151 : decode cX12_skip 151 = .ok (.bipush 42, 2) := by decide +kernel
theorem dX12_skip_153 : decode cX12_skip 153 = .ok (.if_icmp .ne 109, 3) := by decide +kernel
theorem dX12_skip_156 : decode cX12_skip 156 = .ok (.aload_n 0, 1) := by decide +kernel
theorem dX12_skip_157 : decode cX12_skip 157 = .ok (.getfield 344, 3) := by decide +kernel
theorem dX12_skip_160 : decode cX12_skip 160 = .ok (.iconst 2, 1) := by decide +kernel
theorem dX12_skip_161 : decode cX12_skip 161 = .ok (.iadd, 1) := by decide +kernel
theorem dX12_skip_162 : decode cX12_skip 162 = .ok (.istore_n 3, 1) := by decide +kernel
theorem dX12_skip_163 : decode cX12_skip 163 = .ok (.aload_n 0, 1) := by decide +kernel
theorem dX12_skip_164 : decode cX12_skip 164 = .ok (.iload_n 3, 1) := by decide +kernel
theorem dX12_skip_165 : decode cX12_skip 165 = .ok (.invokevirtual 331, 3) := by decide +kernel
theorem dX12_skip_168 : decode cX12_skip 168 = .ok (.ifCond .eq 31, 3) := by decide +kernel
theorem dX12_skip_171 : decode cX12_skip 171 = .ok (.aload_n 0, 1) := by decide +kernel
theorem dX12_skip_172 : decode cX12_skip 172 = .ok (.iload_n 3, 1) := by decide +kernel
theorem dX12_skip_173 : decode cX12_skip 173 = .ok (.invokevirtual 334, 3) := by decide +kernel
theorem dX12_skip_176 : decode cX12_skip 176 = .ok (.bipush 42, 2) := by decide +kernel
theorem dX12_skip_178 : decode cX12_skip 178 = .ok (.if_icmp .ne 15, 3) := by decide +kernel
theorem dX12_skip_181 : decode cX12_skip 181 = .ok (.aload_n 0, 1) := by decide +kernel
theorem dX12_skip_182 : decode cX12_skip 182 = .ok (.iload_n 3, 1) := by decide +kernel
theorem dX12_skip_183 : decode cX12_skip 183 = .ok (.iconst 1, 1) := by decide +kernel
theorem dX12_skip_184 : decode cX12_skip 184 = .ok (.iadd, 1) := by decide +kernel
theorem dX12_skip_185 : decode cX12_skip 185 = .ok (.invokevirtual 334, 3) := by decide +kernel
theorem dX12_skip_188 : decode cX12_skip 188 = .ok (.bipush 47, 2) := by decide +kernel
theorem dX12_skip_190 : decode cX12_skip 190 = .ok (.if_icmp .eq 9, 3) := by decide +kernel
theorem dX12_skip_193 : decode cX12_skip 193 = .ok (.iinc 3 1, 3) := by decide +kernel
theorem dX12_skip_196 : decode cX12_skip 196 = .ok (.goto (-33), 3) := by decide +kernel
theorem dX12_skip_199 : decode cX12_skip 199 = .ok (.aload_n 0, 1) := by decide +kernel
theorem dX12_skip_200 : decode cX12_skip 200 = .ok (.iload_n 3, 1) := by decide +kernel
theorem dX12_skip_201 : decode cX12_skip 201 = .ok (.invokevirtual 331, 3) := by decide +kernel
theorem dX12_skip_204 : decode cX12_skip 204 = .ok (.ifCond .ne 5, 3) := by decide +kernel
theorem dX12_skip_207 : decode cX12_skip 207 = .ok (.iconst 0, 1) := by decide +kernel
theorem dX12_skip_208 : decode cX12_skip 208 = .ok (.ireturn, 1) := by decide +kernel
theorem dX12_skip_209 : decode cX12_skip 209 = .ok (.aload_n 0, 1) := by decide +kernel
theorem dX12_skip_210 : decode cX12_skip 210 = .ok (.getfield 344, 3) := by decide +kernel
theorem dX12_skip_213 : decode cX12_skip 213 = .ok (.iload_n 3, 1) := by decide +kernel
theorem dX12_skip_214 : decode cX12_skip 214 = .ok (.iconst 2, 1) := by decide +kernel
theorem dX12_skip_215 : decode cX12_skip 215 = .ok (.iadd, 1) := by decide +kernel
theorem dX12_skip_216 : decode cX12_skip 216 = .ok (.if_icmp .ge 43, 3) := by decide +kernel
theorem dX12_skip_219 : decode cX12_skip 219 = .ok (.aload_n 0, 1) := by decide +kernel
theorem dX12_skip_220 : decode cX12_skip 220 = .ok (.dup, 1) := by decide +kernel
theorem dX12_skip_221 : decode cX12_skip 221 = .ok (.getfield 347, 3) := by decide +kernel
theorem dX12_skip_224 : decode cX12_skip 224 = .ok (.aload_n 0, 1) := by decide +kernel
theorem dX12_skip_225 : decode cX12_skip 225 = .ok (.aload_n 0, 1) := by decide +kernel
theorem dX12_skip_226 : decode cX12_skip 226 = .ok (.getfield 344, 3) := by decide +kernel
theorem dX12_skip_229 : decode cX12_skip 229 = .ok (.invokevirtual 334, 3) := by decide +kernel
theorem dX12_skip_232 : decode cX12_skip 232 = .ok (.bipush 10, 2) := by decide +kernel
theorem dX12_skip_234 : decode cX12_skip 234 = .ok (.if_icmp .ne 7, 3) := by decide +kernel
theorem dX12_skip_237 : decode cX12_skip 237 = .ok (.iconst 1, 1) := by decide +kernel
theorem dX12_skip_238 : decode cX12_skip 238 = .ok (.goto 4, 3) := by decide +kernel
theorem dX12_skip_241 : decode cX12_skip 241 = .ok (.iconst 0, 1) := by decide +kernel
theorem dX12_skip_242 : decode cX12_skip 242 = .ok (.iadd, 1) := by decide +kernel
theorem dX12_skip_243 : decode cX12_skip 243 = .ok (.putfield 347, 3) := by decide +kernel
theorem dX12_skip_246 : decode cX12_skip 246 = .ok (.aload_n 0, 1) := by decide +kernel
theorem dX12_skip_247 : decode cX12_skip 247 = .ok (.dup, 1) := by decide +kernel
theorem dX12_skip_248 : decode cX12_skip 248 = .ok (.getfield 344, 3) := by decide +kernel
theorem dX12_skip_251 : decode cX12_skip 251 = .ok (.iconst 1, 1) := by decide +kernel
theorem dX12_skip_252 : decode cX12_skip 252 = .ok (.iadd, 1) := by decide +kernel
theorem dX12_skip_253 : decode cX12_skip 253 = .ok (.putfield 344, 3) := by decide +kernel
theorem dX12_skip_256 : decode cX12_skip 256 = .ok (.goto (-47), 3) := by decide +kernel
theorem dX12_skip_259 : decode cX12_skip 259 = .ok (.goto 5, 3) := by decide +kernel
theorem dX12_skip_262 : decode cX12_skip 262 = .ok (.iconst 0, 1) := by decide +kernel
theorem dX12_skip_263 : decode cX12_skip 263 = .ok (.istore_n 1, 1) := by decide +kernel
theorem dX12_skip_264 : decode cX12_skip 264 = .ok (.goto (-262), 3) := by decide +kernel
theorem dX12_skip_267 : decode cX12_skip 267 = .ok (.iconst 1, 1) := by decide +kernel
theorem dX12_skip_268 : decode cX12_skip 268 = .ok (.ireturn, 1) := by decide +kernel
theorem dX12_cut_0 : decode cX12_cut 0 = .ok (.aload_n 0, 1) := by decide +kernel
theorem dX12_cut_1 : decode cX12_cut 1 = .ok (.iconst 0, 1) := by decide +kernel
theorem dX12_cut_2 : decode cX12_cut 2 = .ok (.putfield 350, 3) := by decide +kernel
theorem dX12_cut_5 : decode cX12_cut 5 = .ok (.aload_n 0, 1) := by decide +kernel
theorem dX12_cut_6 : decode cX12_cut 6 = .ok (.iconst 0, 1) := by decide +kernel
theorem dX12_cut_7 : decode cX12_cut 7 = .ok (.putfield 344, 3) := by decide +kernel
theorem dX12_cut_10 : decode cX12_cut 10 = .ok (.aload_n 0, 1) := by decide +kernel
theorem dX12_cut_11 : decode cX12_cut 11 = .ok (.iconst 1, 1) := by decide +kernel
theorem dX12_cut_12 : decode cX12_cut 12 = .ok (.putfield 347, 3) := by decide +kernel
theorem dX12_cut_15 : decode cX12_cut 15 = .ok (.iconst 1, 1) := by decide +kernel
theorem dX12_cut_16 : decode cX12_cut 16 = .ok (.istore_n 1, 1) := by decide +kernel
theorem dX12_cut_17 : decode cX12_cut 17 = .ok (.iload_n 1, 1) := by decide +kernel
theorem dX12_cut_18 : decode cX12_cut 18 = .ok (.ifCond .eq 138, 3) := by decide +kernel
theorem dX12_cut_21 : decode cX12_cut 21 = .ok (.aload_n 0, 1) := by decide +kernel
theorem dX12_cut_22 : decode cX12_cut 22 = .ok (.invokevirtual 353, 3) := by decide +kernel
theorem dX12_cut_25 : decode cX12_cut 25 = .ok (.istore_n 2, 1) := by decide +kernel
theorem dX12_cut_26 : decode cX12_cut 26 = .ok (.aload_n 0, 1) := by decide +kernel
theorem dX12_cut_27 : decode cX12_cut 27 = .ok (.getfield 33, 3) := by decide +kernel
theorem dX12_cut_30 : decode cX12_cut 30 = .ok (.aload_n 0, 1) := by decide +kernel
theorem dX12_cut_31 : decode cX12_cut 31 = .ok (.getfield 350, 3) := by decide +kernel
theorem dX12_cut_34 : decode cX12_cut 34 = .ok (.aload_n 0, 1) := by decide +kernel
theorem dX12_cut_35 : decode cX12_cut 35 = .ok (.getfield 344, 3) := by decide +kernel
theorem dX12_cut_38 : decode cX12_cut 38 = .ok (.iastore, 1) := by decide +kernel
theorem dX12_cut_39 : decode cX12_cut 39 = .ok (.aload_n 0, 1) := by decide +kernel
theorem dX12_cut_40 : decode cX12_cut 40 = .ok (.getfield 39, 3) := by decide +kernel
theorem dX12_cut_43 : decode cX12_cut 43 = .ok (.aload_n 0, 1) := by decide +kernel
theorem dX12_cut_44 : decode cX12_cut 44 = .ok (.getfield 350, 3) := by decide +kernel
theorem dX12_cut_47 : decode cX12_cut 47 = .ok (.aload_n 0, 1) := by decide +kernel
theorem dX12_cut_48 : decode cX12_cut 48 = .ok (.getfield 347, 3) := by decide +kernel
theorem dX12_cut_51 : decode cX12_cut 51 = .ok (.iastore, 1) := by decide +kernel
theorem dX12_cut_52 : decode cX12_cut 52 = .ok (.iload_n 2, 1) := by decide +kernel
theorem dX12_cut_53 : decode cX12_cut 53 = .ok (.ifCond .ne 17, 3) := by decide +kernel
theorem dX12_cut_56 : decode cX12_cut 56 = .ok (.aload_n 0, 1) := by decide +kernel
theorem dX12_cut_57 : decode cX12_cut 57 = .ok (.getfield 27, 3) := by decide +kernel
theorem dX12_cut_60 : decode cX12_cut 60 = .ok (.aload_n 0, 1) := by decide +kernel
theorem dX12_cut_61 : decode cX12_cut 61 = .ok (.getfield 350, 3) := by decide +kernel
theorem dX12_cut_64 : decode cX12_cut 64 = .ok (.bipush 6, 2) := by decide +kernel
theorem dX12_cut_66 : decode cX12_cut 66 = .ok (.iastore, 1) := by decide +kernel
theorem dX12_cut_67 : decode cX12_cut 67 = .ok (.goto 31, 3) := by decide +kernel
theorem dX12_cut_70 : decode cX12_cut 70 = .ok (.aload_n 0, 1) := by decide +kernel
theorem dX12_cut_71 : decode cX12_cut 71 = .ok (.aload_n 0, 1) := by decide +kernel
theorem dX12_cut_72 : decode cX12_cut 72 = .ok (.getfield 344, 3) := by decide +kernel
theorem dX12_cut_75 : decode cX12_cut 75 = .ok (.invokevirtual 331, 3) := by decide +kernel
theorem dX12_cut_78 : decode cX12_cut 78 = .ok (.ifCond .ne 16, 3) := by decide +kernel
theorem dX12_cut_81 : decode cX12_cut 81 = .ok (.aload_n 0, 1) := by decide +kernel
theorem dX12_cut_82 : decode cX12_cut 82 = .ok (.getfield 27, 3) := by decide +kernel
theorem dX12_cut_85 : decode cX12_cut 85 = .ok (.aload_n 0, 1) := by decide +kernel
theorem dX12_cut_86 : decode cX12_cut 86 = .ok (.getfield 350, 3) := by decide +kernel
theorem dX12_cut_89 : decode cX12_cut 89 = .ok (.iconst 0, 1) := by decide +kernel
theorem dX12_cut_90 : decode cX12_cut 90 = .ok (.iastore, 1) := by decide +kernel
theorem dX12_cut_91 : decode cX12_cut 91 = .ok (.goto 7, 3) := by decide +kernel
theorem dX12_cut_94 : decode cX12_cut 94 = .ok (.aload_n 0, 1) := by decide +kernel
theorem dX12_cut_95 : decode cX12_cut 95 = .ok (.invokevirtual 357, 3) := by decide +kernel
theorem dX12_cut_98 : decode cX12_cut 98 = .ok (.aload_n 0, 1) := by decide +kernel
theorem dX12_cut_99 : decode cX12_cut 99 = .ok (.getfield 36, 3) := by decide +kernel
theorem dX12_cut_102 : decode cX12_cut 102 = .ok (.aload_n 0, 1) := by decide +kernel
theorem dX12_cut_103 : decode cX12_cut 103 = .ok (.getfield 350, 3) := by decide +kernel
theorem dX12_cut_106 : decode cX12_cut 106 = .ok (.aload_n 0, 1) := by decide +kernel
theorem dX12_cut_107 : decode cX12_cut 107 = .ok (.getfield 344, 3) := by decide +kernel
theorem dX12_cut_110 : decode cX12_cut 110 = .ok (.iastore, 1) := by decide +kernel
theorem dX12_cut_111 : decode cX12_cut 111 = .ok (.aload_n 0, 1) := by decide +kernel
theorem dX12_cut_112 : decode cX12_cut 112 = .ok (.getfield 27, 3) := by decide +kernel
theorem dX12_cut_115 : decode cX12_cut 115 = .ok (.aload_n 0, 1) := by decide +kernel
theorem dX12_cut_116 : decode cX12_cut 116 = .ok (.getfield 350, 3) := by decide +kernel
theorem dX12_cut_119 : decode cX12_cut 119 = .ok (.iaload, 1) := by decide +kernel
theorem dX12_cut_120 : decode cX12_cut 120 = .ok (.bipush 6, 2) := by decide +kernel
theorem dX12_cut_122 : decode cX12_cut 122 = .ok (.if_icmp .eq 19, 3) := by decide +kernel
theorem dX12_cut_125 : decode cX12_cut 125 = .ok (.aload_n 0, 1) := by decide +kernel
theorem dX12_cut_126 : decode cX12_cut 126 = .ok (.getfield 27, 3) := by decide +kernel
theorem dX12_cut_129 : decode cX12_cut 129 = .ok (.aload_n 0, 1) := by decide +kernel
theorem dX12_cut_130 : decode cX12_cut 130 = .ok (.getfield 350, 3) := by decide +kernel
theorem dX12_cut_133 : decode cX12_cut 133 = .ok (.iaload, 1) := by decide +kernel
theorem dX12_cut_134 : decode cX12_cut 134 = .ok (.ifCond .eq 7, 3) := by decide +kernel
theorem dX12_cut_137 : decode cX12_cut 137 = .ok (.iconst 1, 1) := by decide +kernel
theorem dX12_cut_138 : decode cX12_cut 138 = .ok (.goto 4, 3) := by decide +kernel
theorem dX12_cut_141 : decode cX12_cut 141 = .ok (.iconst 0, 1) := by decide +kernel
theorem dX12_cut_142 : decode cX12_cut 142 = .ok (.istore_n 1, 1) := by decide +kernel
theorem dX12_cut_143 : decode cX12_cut 143 = .ok (.aload_n 0, 1) := by decide +kernel
theorem dX12_cut_144 : decode cX12_cut 144 = .ok (.dup, 1) := by decide +kernel
theorem dX12_cut_145 : decode cX12_cut 145 = .ok (.getfield 350, 3) := by decide +kernel
theorem dX12_cut_148 : decode cX12_cut 148 = .ok (.iconst 1, 1) := by decide +kernel
theorem dX12_cut_149 : decode cX12_cut 149 = .ok (.iadd, 1) := by decide +kernel
theorem dX12_cut_150 : decode cX12_cut 150 = .ok (.putfield 350, 3) := by decide +kernel
theorem dX12_cut_153 : decode cX12_cut 153 = .ok (.goto (-136), 3) := by decide +kernel
theorem dX12_cut_156 : decode cX12_cut 156 = .ok (.return_, 1) := by decide +kernel
theorem dX12_beginList_0 : decode cX12_beginList 0 = .ok (.aload_n 0, 1) := by decide +kernel
theorem dX12_beginList_1 : decode cX12_beginList 1 = .ok (.getfield 56, 3) := by decide +kernel
theorem dX12_beginList_4 : decode cX12_beginList 4 = .ok (.aload_n 0, 1) := by decide +kernel
theorem dX12_beginList_5 : decode cX12_beginList 5 = .ok (.getfield 424, 3) := by decide +kernel
theorem dX12_beginList_8 : decode cX12_beginList 8 = .ok (.iconst (-1), 1) := by decide +kernel
theorem dX12_beginList_9 : decode cX12_beginList 9 = .ok (.iastore, 1) := by decide +kernel
theorem dX12_beginList_10 : decode cX12_beginList 10 = .ok (.aload_n 0, 1) := by decide +kernel
theorem dX12_beginList_11 : decode cX12_beginList 11 = .ok (.dup, 1) := by decide +kernel
theorem dX12_beginList_12 : decode cX12_beginList 12 = .ok (.getfield 424, 3) := by decide +kernel
theorem dX12_beginList_15 : decode cX12_beginList 15 = .ok (.iconst 1, 1) := by decide +kernel
theorem dX12_beginList_16 : decode cX12_beginList 16 = .ok (.iadd, 1) := by decide +kernel
theorem dX12_beginList_17 : decode cX12_beginList 17 = .ok (.putfield 424, 3) := by decide +kernel
theorem dX12_beginList_20 : decode cX12_beginList 20 = .ok (.return_, 1) := by decide +kernel
theorem dX12_ended_0 : decode cX12_ended 0 = .ok (.aload_n 0, 1) := by decide +kernel
theorem dX12_ended_1 : decode cX12_ended 1 = .ok (.dup, 1) := by decide +kernel
theorem dX12_ended_2 : decode cX12_ended 2 = .ok (.getfield 424, 3) := by decide +kernel
theorem dX12_ended_5 : decode cX12_ended 5 = .ok (.iconst 1, 1) := by decide +kernel
theorem dX12_ended_6 : decode cX12_ended 6 = .ok (.isub, 1) := by decide +kernel
theorem dX12_ended_7 : decode cX12_ended 7 = .ok (.putfield 424, 3) := by decide +kernel
theorem dX12_ended_10 : decode cX12_ended 10 = .ok (.aload_n 0, 1) := by decide +kernel
theorem dX12_ended_11 : decode cX12_ended 11 = .ok (.getfield 56, 3) := by decide +kernel
theorem dX12_ended_14 : decode cX12_ended 14 = .ok (.aload_n 0, 1) := by decide +kernel
theorem dX12_ended_15 : decode cX12_ended 15 = .ok (.getfield 424, 3) := by decide +kernel
theorem dX12_ended_18 : decode cX12_ended 18 = .ok (.iaload, 1) := by decide +kernel
theorem dX12_ended_19 : decode cX12_ended 19 = .ok (.ireturn, 1) := by decide +kernel
theorem dX12_parts_0 : decode cX12_parts 0 = .ok (.aload_n 0, 1) := by decide +kernel
theorem dX12_parts_1 : decode cX12_parts 1 = .ok (.invokevirtual 509, 3) := by decide +kernel
theorem dX12_parts_4 : decode cX12_parts 4 = .ok (.aload_n 0, 1) := by decide +kernel
theorem dX12_parts_5 : decode cX12_parts 5 = .ok (.getfield 389, 3) := by decide +kernel
theorem dX12_parts_8 : decode cX12_parts 8 = .ok (.ifCond .ne 67, 3) := by decide +kernel
theorem dX12_parts_11 : decode cX12_parts 11 = .ok (.iload_n 1, 1) := by decide +kernel
theorem dX12_parts_12 : decode cX12_parts 12 = .ok (.ifCond .eq 15, 3) := by decide +kernel
theorem dX12_parts_15 : decode cX12_parts 15 = .ok (.aload_n 0, 1) := by decide +kernel
theorem dX12_parts_16 : decode cX12_parts 16 = .ok (.bipush 25, 2) := by decide +kernel
theorem dX12_parts_18 : decode cX12_parts 18 = .ok (.invokevirtual 398, 3) := by decide +kernel
theorem dX12_parts_21 : decode cX12_parts 21 = .ok (.ifCond .eq 18, 3) := by decide +kernel
theorem dX12_parts_24 : decode cX12_parts 24 = .ok (.goto 51, 3) := by decide +kernel
theorem dX12_parts_27 : decode cX12_parts 27 = .ok (.aload_n 0, 1) := by decide +kernel
theorem dX12_parts_28 : decode cX12_parts 28 = .ok (.getfield 27, 3) := by decide +kernel
theorem dX12_parts_31 : decode cX12_parts 31 = .ok (.aload_n 0, 1) := by decide +kernel
theorem dX12_parts_32 : decode cX12_parts 32 = .ok (.getfield 392, 3) := by decide +kernel
theorem dX12_parts_35 : decode cX12_parts 35 = .ok (.iaload, 1) := by decide +kernel
theorem dX12_parts_36 : decode cX12_parts 36 = .ok (.ifCond .eq 39, 3) := by decide +kernel
theorem dX12_parts_39 : decode cX12_parts 39 = .ok (.aload_n 0, 1) := by decide +kernel
theorem dX12_parts_40 : decode cX12_parts 40 = .ok (.aload_n 0, 1) := by decide +kernel
theorem dX12_parts_41 : decode cX12_parts 41 = .ok (.bipush 11, 2) := by decide +kernel
theorem dX12_parts_43 : decode cX12_parts 43 = .ok (.invokevirtual 404, 3) := by decide +kernel
theorem dX12_parts_46 : decode cX12_parts 46 = .ok (.ifCond .eq 19, 3) := by decide +kernel
theorem dX12_parts_49 : decode cX12_parts 49 = .ok (.aload_n 0, 1) := by decide +kernel
theorem dX12_parts_50 : decode cX12_parts 50 = .ok (.bipush 36, 2) := by decide +kernel
theorem dX12_parts_52 : decode cX12_parts 52 = .ok (.aload_n 0, 1) := by decide +kernel
theorem dX12_parts_53 : decode cX12_parts 53 = .ok (.iconst 1, 1) := by decide +kernel
theorem dX12_parts_54 : decode cX12_parts 54 = .ok (.invokevirtual 524, 3) := by decide +kernel
theorem dX12_parts_57 : decode cX12_parts 57 = .ok (.iconst 0, 1) := by decide +kernel
theorem dX12_parts_58 : decode cX12_parts 58 = .ok (.iconst 0, 1) := by decide +kernel
theorem dX12_parts_59 : decode cX12_parts 59 = .ok (.invokevirtual 446, 3) := by decide +kernel
theorem dX12_parts_62 : decode cX12_parts 62 = .ok (.goto 7, 3) := by decide +kernel
theorem dX12_parts_65 : decode cX12_parts 65 = .ok (.aload_n 0, 1) := by decide +kernel
theorem dX12_parts_66 : decode cX12_parts 66 = .ok (.invokevirtual 553, 3) := by decide +kernel
theorem dX12_parts_69 : decode cX12_parts 69 = .ok (.invokevirtual 512, 3) := by decide +kernel
theorem dX12_parts_72 : decode cX12_parts 72 = .ok (.goto (-68), 3) := by decide +kernel
theorem dX12_parts_75 : decode cX12_parts 75 = .ok (.aload_n 0, 1) := by decide +kernel
theorem dX12_parts_76 : decode cX12_parts 76 = .ok (.invokevirtual 515, 3) := by decide +kernel
theorem dX12_parts_79 : decode cX12_parts 79 = .ok (.ireturn, 1) := by decide +kernel
theorem dX12_emit_0 : decode cX12_emit 0 = .ok (.aload_n 0, 1) := by decide +kernel
theorem dX12_emit_1 : decode cX12_emit 1 = .ok (.getfield 606, 3) := by decide +kernel
theorem dX12_emit_4 : decode cX12_emit 4 = .ok (.sipush 600, 3) := by decide +kernel
theorem dX12_emit_7 : decode cX12_emit 7 = .ok (.if_icmp .ne 9, 3) := by decide +kernel
theorem dX12_emit_10 : decode cX12_emit 10 = .ok (.aload_n 0, 1) := by decide +kernel
theorem dX12_emit_11 : decode cX12_emit 11 = .ok (.iconst 1, 1) := by decide +kernel
theorem dX12_emit_12 : decode cX12_emit 12 = .ok (.putfield 609, 3) := by decide +kernel
theorem dX12_emit_15 : decode cX12_emit 15 = .ok (.return_, 1) := by decide +kernel
theorem dX12_emit_16 : decode cX12_emit 16 = .ok (.aload_n 0, 1) := by decide +kernel
theorem dX12_emit_17 : decode cX12_emit 17 = .ok (.getfield 89, 3) := by decide +kernel
theorem dX12_emit_20 : decode cX12_emit 20 = .ok (.aload_n 0, 1) := by decide +kernel
theorem dX12_emit_21 : decode cX12_emit 21 = .ok (.getfield 606, 3) := by decide +kernel
theorem dX12_emit_24 : decode cX12_emit 24 = .ok (.iload_n 1, 1) := by decide +kernel
theorem dX12_emit_25 : decode cX12_emit 25 = .ok (.iastore, 1) := by decide +kernel
theorem dX12_emit_26 : decode cX12_emit 26 = .ok (.aload_n 0, 1) := by decide +kernel
theorem dX12_emit_27 : decode cX12_emit 27 = .ok (.getfield 92, 3) := by decide +kernel
theorem dX12_emit_30 : decode cX12_emit 30 = .ok (.aload_n 0, 1) := by decide +kernel
theorem dX12_emit_31 : decode cX12_emit 31 = .ok (.getfield 606, 3) := by decide +kernel
theorem dX12_emit_34 : decode cX12_emit 34 = .ok (.iload_n 2, 1) := by decide +kernel
theorem dX12_emit_35 : decode cX12_emit 35 = .ok (.iastore, 1) := by decide +kernel
theorem dX12_emit_36 : decode cX12_emit 36 = .ok (.aload_n 0, 1) := by decide +kernel
theorem dX12_emit_37 : decode cX12_emit 37 = .ok (.getfield 95, 3) := by decide +kernel
theorem dX12_emit_40 : decode cX12_emit 40 = .ok (.aload_n 0, 1) := by decide +kernel
theorem dX12_emit_41 : decode cX12_emit 41 = .ok (.getfield 606, 3) := by decide +kernel
theorem dX12_emit_44 : decode cX12_emit 44 = .ok (.iload_n 3, 1) := by decide +kernel
theorem dX12_emit_45 : decode cX12_emit 45 = .ok (.iastore, 1) := by decide +kernel
theorem dX12_emit_46 : decode cX12_emit 46 = .ok (.aload_n 0, 1) := by decide +kernel
theorem dX12_emit_47 : decode cX12_emit 47 = .ok (.getfield 98, 3) := by decide +kernel
theorem dX12_emit_50 : decode cX12_emit 50 = .ok (.aload_n 0, 1) := by decide +kernel
theorem dX12_emit_51 : decode cX12_emit 51 = .ok (.getfield 606, 3) := by decide +kernel
theorem dX12_emit_54 : decode cX12_emit 54 = .ok (.aload_n 0, 1) := by decide +kernel
theorem dX12_emit_55 : decode cX12_emit 55 = .ok (.getfield 612, 3) := by decide +kernel
theorem dX12_emit_58 : decode cX12_emit 58 = .ok (.iastore, 1) := by decide +kernel
theorem dX12_emit_59 : decode cX12_emit 59 = .ok (.aload_n 0, 1) := by decide +kernel
theorem dX12_emit_60 : decode cX12_emit 60 = .ok (.dup, 1) := by decide +kernel
theorem dX12_emit_61 : decode cX12_emit 61 = .ok (.getfield 606, 3) := by decide +kernel
theorem dX12_emit_64 : decode cX12_emit 64 = .ok (.iconst 1, 1) := by decide +kernel
theorem dX12_emit_65 : decode cX12_emit 65 = .ok (.iadd, 1) := by decide +kernel
theorem dX12_emit_66 : decode cX12_emit 66 = .ok (.putfield 606, 3) := by decide +kernel
theorem dX12_emit_69 : decode cX12_emit 69 = .ok (.return_, 1) := by decide +kernel
theorem dX12_emit__0 : decode cX12_emit_ 0 = .ok (.aload_n 0, 1) := by decide +kernel
theorem dX12_emit__1 : decode cX12_emit_ 1 = .ok (.iload_n 1, 1) := by decide +kernel
theorem dX12_emit__2 : decode cX12_emit_ 2 = .ok (.iconst 0, 1) := by decide +kernel
theorem dX12_emit__3 : decode cX12_emit_ 3 = .ok (.iconst 0, 1) := by decide +kernel
theorem dX12_emit__4 : decode cX12_emit_ 4 = .ok (.invokevirtual 615, 3) := by decide +kernel
theorem dX12_emit__7 : decode cX12_emit_ 7 = .ok (.return_, 1) := by decide +kernel
theorem dX12_constant_0 : decode cX12_constant 0 = .ok (.aload_n 0, 1) := by decide +kernel
theorem dX12_constant_1 : decode cX12_constant 1 = .ok (.iconst 0, 1) := by decide +kernel
theorem dX12_constant_2 : decode cX12_constant 2 = .ok (.iload_n 1, 1) := by decide +kernel
theorem dX12_constant_3 : decode cX12_constant 3 = .ok (.iload_n 2, 1) := by decide +kernel
theorem dX12_constant_4 : decode cX12_constant 4 = .ok (.invokevirtual 615, 3) := by decide +kernel
theorem dX12_constant_7 : decode cX12_constant 7 = .ok (.return_, 1) := by decide +kernel
theorem dX12_codes_0 : decode cX12_codes 0 = .ok (.aload_n 0, 1) := by decide +kernel
theorem dX12_codes_1 : decode cX12_codes 1 = .ok (.getfield 707, 3) := by decide +kernel
theorem dX12_codes_4 : decode cX12_codes 4 = .ok (.istore_n 2, 1) := by decide +kernel
theorem dX12_codes_5 : decode cX12_codes 5 = .ok (.iload_n 1, 1) := by decide +kernel
theorem dX12_codes_6 : decode cX12_codes 6 = .ok (.istore_n 3, 1) := by decide +kernel
theorem dX12_codes_7 : decode cX12_codes 7 = .ok (.aload_n 0, 1) := by decide +kernel
theorem dX12_codes_8 : decode cX12_codes 8 = .ok (.getfield 609, 3) := by decide +kernel
theorem dX12_codes_11 : decode cX12_codes 11 = .ok (.ifCond .ne 105, 3) := by decide +kernel
theorem dX12_codes_14 : decode cX12_codes 14 = .ok (.iload_n 3, 1) := by decide +kernel
theorem dX12_codes_15 : decode cX12_codes 15 = .ok (.iconst (-1), 1) := by decide +kernel
theorem dX12_codes_16 : decode cX12_codes 16 = .ok (.if_icmp .ne 11, 3) := by decide +kernel
theorem dX12_codes_19 : decode cX12_codes 19 = .ok (.aload_n 0, 1) := by decide +kernel
theorem dX12_codes_20 : decode cX12_codes 20 = .ok (.getfield 707, 3) := by decide +kernel
theorem dX12_codes_23 : decode cX12_codes 23 = .ok (.iload_n 2, 1) := by decide +kernel
theorem dX12_codes_24 : decode cX12_codes 24 = .ok (.if_icmp .le 92, 3) := by decide +kernel
theorem dX12_codes_27 : decode cX12_codes 27 = .ok (.iload_n 3, 1) := by decide +kernel
theorem dX12_codes_28 : decode cX12_codes 28 = .ok (.iconst (-1), 1) := by decide +kernel
theorem dX12_codes_29 : decode cX12_codes 29 = .ok (.if_icmp .ne 26, 3) := by decide +kernel
theorem dX12_codes_32 : decode cX12_codes 32 = .ok (.aload_n 0, 1) := by decide +kernel
theorem dX12_codes_33 : decode cX12_codes 33 = .ok (.dup, 1) := by decide +kernel
theorem dX12_codes_34 : decode cX12_codes 34 = .ok (.getfield 707, 3) := by decide +kernel
theorem dX12_codes_37 : decode cX12_codes 37 = .ok (.iconst 1, 1) := by decide +kernel
theorem dX12_codes_38 : decode cX12_codes 38 = .ok (.isub, 1) := by decide +kernel
theorem dX12_codes_39 : decode cX12_codes 39 = .ok (.putfield 707, 3) := by decide +kernel
theorem dX12_codes_42 : decode cX12_codes 42 = .ok (.aload_n 0, 1) := by decide +kernel
theorem dX12_codes_43 : decode cX12_codes 43 = .ok (.getfield 131, 3) := by decide +kernel
theorem dX12_codes_46 : decode cX12_codes 46 = .ok (.aload_n 0, 1) := by decide +kernel
theorem dX12_codes_47 : decode cX12_codes 47 = .ok (.getfield 707, 3) := by decide +kernel
theorem dX12_codes_50 : decode cX12_codes 50 = .ok (.iaload, 1) := by decide +kernel
theorem dX12_codes_51 : decode cX12_codes 51 = .ok (.istore_n 3, 1) := by decide +kernel
theorem dX12_codes_52 : decode cX12_codes 52 = .ok (.goto (-45), 3) := by decide +kernel
theorem dX12_codes_55 : decode cX12_codes 55 = .ok (.aload_n 0, 1) := by decide +kernel
theorem dX12_codes_56 : decode cX12_codes 56 = .ok (.getfield 42, 3) := by decide +kernel
theorem dX12_codes_59 : decode cX12_codes 59 = .ok (.iload_n 3, 1) := by decide +kernel
theorem dX12_codes_60 : decode cX12_codes 60 = .ok (.iaload, 1) := by decide +kernel
theorem dX12_codes_61 : decode cX12_codes 61 = .ok (.bipush 20, 2) := by decide +kernel
theorem dX12_codes_63 : decode cX12_codes 63 = .ok (.if_icmp .ne 38, 3) := by decide +kernel
theorem dX12_codes_66 : decode cX12_codes 66 = .ok (.aload_n 0, 1) := by decide +kernel
theorem dX12_codes_67 : decode cX12_codes 67 = .ok (.getfield 131, 3) := by decide +kernel
theorem dX12_codes_70 : decode cX12_codes 70 = .ok (.aload_n 0, 1) := by decide +kernel
theorem dX12_codes_71 : decode cX12_codes 71 = .ok (.getfield 707, 3) := by decide +kernel
theorem dX12_codes_74 : decode cX12_codes 74 = .ok (.aload_n 0, 1) := by decide +kernel
theorem dX12_codes_75 : decode cX12_codes 75 = .ok (.getfield 49, 3) := by decide +kernel
theorem dX12_codes_78 : decode cX12_codes 78 = .ok (.iload_n 3, 1) := by decide +kernel
theorem dX12_codes_79 : decode cX12_codes 79 = .ok (.iaload, 1) := by decide +kernel
theorem dX12_codes_80 : decode cX12_codes 80 = .ok (.iastore, 1) := by decide +kernel
theorem dX12_codes_81 : decode cX12_codes 81 = .ok (.aload_n 0, 1) := by decide +kernel
theorem dX12_codes_82 : decode cX12_codes 82 = .ok (.dup, 1) := by decide +kernel
theorem dX12_codes_83 : decode cX12_codes 83 = .ok (.getfield 707, 3) := by decide +kernel
theorem dX12_codes_86 : decode cX12_codes 86 = .ok (.iconst 1, 1) := by decide +kernel
theorem dX12_codes_87 : decode cX12_codes 87 = .ok (.iadd, 1) := by decide +kernel
theorem dX12_codes_88 : decode cX12_codes 88 = .ok (.putfield 707, 3) := by decide +kernel
theorem dX12_codes_91 : decode cX12_codes 91 = .ok (.aload_n 0, 1) := by decide +kernel
theorem dX12_codes_92 : decode cX12_codes 92 = .ok (.iload_n 3, 1) := by decide +kernel
theorem dX12_codes_93 : decode cX12_codes 93 = .ok (.iconst 0, 1) := by decide +kernel
theorem dX12_codes_94 : decode cX12_codes 94 = .ok (.invokevirtual 644, 3) := by decide +kernel
theorem dX12_codes_97 : decode cX12_codes 97 = .ok (.istore_n 3, 1) := by decide +kernel
theorem dX12_codes_98 : decode cX12_codes 98 = .ok (.goto (-91), 3) := by decide +kernel
theorem dX12_codes_101 : decode cX12_codes 101 = .ok (.aload_n 0, 1) := by decide +kernel
theorem dX12_codes_102 : decode cX12_codes 102 = .ok (.iload_n 3, 1) := by decide +kernel
theorem dX12_codes_103 : decode cX12_codes 103 = .ok (.invokevirtual 710, 3) := by decide +kernel
theorem dX12_codes_106 : decode cX12_codes 106 = .ok (.aload_n 0, 1) := by decide +kernel
theorem dX12_codes_107 : decode cX12_codes 107 = .ok (.getfield 49, 3) := by decide +kernel
theorem dX12_codes_110 : decode cX12_codes 110 = .ok (.iload_n 3, 1) := by decide +kernel
theorem dX12_codes_111 : decode cX12_codes 111 = .ok (.iaload, 1) := by decide +kernel
theorem dX12_codes_112 : decode cX12_codes 112 = .ok (.istore_n 3, 1) := by decide +kernel
theorem dX12_codes_113 : decode cX12_codes 113 = .ok (.goto (-106), 3) := by decide +kernel
theorem dX12_codes_116 : decode cX12_codes 116 = .ok (.aload_n 0, 1) := by decide +kernel
theorem dX12_codes_117 : decode cX12_codes 117 = .ok (.iload_n 2, 1) := by decide +kernel
theorem dX12_codes_118 : decode cX12_codes 118 = .ok (.putfield 707, 3) := by decide +kernel
theorem dX12_codes_121 : decode cX12_codes 121 = .ok (.return_, 1) := by decide +kernel
theorem dX12_codeFunction_0 : decode cX12_codeFunction 0 = .ok (.aload_n 0, 1) := by decide +kernel
theorem dX12_codeFunction_1 : decode cX12_codeFunction 1 = .ok (.iload_n 1, 1) := by decide +kernel
theorem dX12_codeFunction_2 : decode cX12_codeFunction 2 = .ok (.putfield 612, 3) := by decide +kernel
theorem dX12_codeFunction_5 : decode cX12_codeFunction 5 = .ok (.aload_n 0, 1) := by decide +kernel
theorem dX12_codeFunction_6 : decode cX12_codeFunction 6 = .ok (.iconst (-1), 1) := by decide +kernel
theorem dX12_codeFunction_7 : decode cX12_codeFunction 7 = .ok (.putfield 634, 3) := by decide +kernel
theorem dX12_codeFunction_10 : decode cX12_codeFunction 10 = .ok (.aload_n 0, 1) := by decide +kernel
theorem dX12_codeFunction_11 : decode cX12_codeFunction 11 = .ok (.getfield 101, 3) := by decide +kernel
theorem dX12_codeFunction_14 : decode cX12_codeFunction 14 = .ok (.iload_n 1, 1) := by decide +kernel
theorem dX12_codeFunction_15 : decode cX12_codeFunction 15 = .ok (.aload_n 0, 1) := by decide +kernel
theorem dX12_codeFunction_16 : decode cX12_codeFunction 16 = .ok (.getfield 606, 3) := by decide +kernel
theorem dX12_codeFunction_19 : decode cX12_codeFunction 19 = .ok (.iastore, 1) := by decide +kernel
theorem dX12_codeFunction_20 : decode cX12_codeFunction 20 = .ok (.iconst 0, 1) := by decide +kernel
theorem dX12_codeFunction_21 : decode cX12_codeFunction 21 = .ok (.istore_n 2, 1) := by decide +kernel
theorem dX12_codeFunction_22 : decode cX12_codeFunction 22 = .ok (.iload_n 1, 1) := by decide +kernel
theorem dX12_codeFunction_23 : decode cX12_codeFunction 23 = .ok (.ifCond .ne 39, 3) := by decide +kernel
theorem dX12_codeFunction_26 : decode cX12_codeFunction 26 = .ok (.iload_n 2, 1) := by decide +kernel
theorem dX12_codeFunction_27 : decode cX12_codeFunction 27 = .ok (.aload_n 0, 1) := by decide +kernel
theorem dX12_codeFunction_28 : decode cX12_codeFunction 28 = .ok (.getfield 430, 3) := by decide +kernel
theorem dX12_codeFunction_31 : decode cX12_codeFunction 31 = .ok (.if_icmp .ge 31, 3) := by decide +kernel
theorem dX12_codeFunction_34 : decode cX12_codeFunction 34 = .ok (.aload_n 0, 1) := by decide +kernel
theorem dX12_codeFunction_35 : decode cX12_codeFunction 35 = .ok (.iconst 0, 1) := by decide +kernel
theorem dX12_codeFunction_36 : decode cX12_codeFunction 36 = .ok (.iconst 0, 1) := by decide +kernel
theorem dX12_codeFunction_37 : decode cX12_codeFunction 37 = .ok (.invokevirtual 656, 3) := by decide +kernel
theorem dX12_codeFunction_40 : decode cX12_codeFunction 40 = .ok (.aload_n 0, 1) := by decide +kernel
theorem dX12_codeFunction_41 : decode cX12_codeFunction 41 = .ok (.aload_n 0, 1) := by decide +kernel
theorem dX12_codeFunction_42 : decode cX12_codeFunction 42 = .ok (.getfield 86, 3) := by decide +kernel
theorem dX12_codeFunction_45 : decode cX12_codeFunction 45 = .ok (.iload_n 2, 1) := by decide +kernel
theorem dX12_codeFunction_46 : decode cX12_codeFunction 46 = .ok (.iaload, 1) := by decide +kernel
theorem dX12_codeFunction_47 : decode cX12_codeFunction 47 = .ok (.invokevirtual 704, 3) := by decide +kernel
theorem dX12_codeFunction_50 : decode cX12_codeFunction 50 = .ok (.aload_n 0, 1) := by decide +kernel
theorem dX12_codeFunction_51 : decode cX12_codeFunction 51 = .ok (.bipush 17, 2) := by decide +kernel
theorem dX12_codeFunction_53 : decode cX12_codeFunction 53 = .ok (.invokevirtual 666, 3) := by decide +kernel
theorem dX12_codeFunction_56 : decode cX12_codeFunction 56 = .ok (.iinc 2 1, 3) := by decide +kernel
theorem dX12_codeFunction_59 : decode cX12_codeFunction 59 = .ok (.goto (-37), 3) := by decide +kernel
theorem dX12_codeFunction_62 : decode cX12_codeFunction 62 = .ok (.aload_n 0, 1) := by decide +kernel
theorem dX12_codeFunction_63 : decode cX12_codeFunction 63 = .ok (.getfield 77, 3) := by decide +kernel
theorem dX12_codeFunction_66 : decode cX12_codeFunction 66 = .ok (.iload_n 1, 1) := by decide +kernel
theorem dX12_codeFunction_67 : decode cX12_codeFunction 67 = .ok (.iaload, 1) := by decide +kernel
theorem dX12_codeFunction_68 : decode cX12_codeFunction 68 = .ok (.istore_n 2, 1) := by decide +kernel
theorem dX12_codeFunction_69 : decode cX12_codeFunction 69 = .ok (.iload_n 2, 1) := by decide +kernel
theorem dX12_codeFunction_70 : decode cX12_codeFunction 70 = .ok (.iconst (-1), 1) := by decide +kernel
theorem dX12_codeFunction_71 : decode cX12_codeFunction 71 = .ok (.if_icmp .eq 61, 3) := by decide +kernel
theorem dX12_codeFunction_74 : decode cX12_codeFunction 74 = .ok (.aload_n 0, 1) := by decide +kernel
theorem dX12_codeFunction_75 : decode cX12_codeFunction 75 = .ok (.getfield 42, 3) := by decide +kernel
theorem dX12_codeFunction_78 : decode cX12_codeFunction 78 = .ok (.iload_n 2, 1) := by decide +kernel
theorem dX12_codeFunction_79 : decode cX12_codeFunction 79 = .ok (.iaload, 1) := by decide +kernel
theorem dX12_codeFunction_80 : decode cX12_codeFunction 80 = .ok (.bipush 36, 2) := by decide +kernel
theorem dX12_codeFunction_82 : decode cX12_codeFunction 82 = .ok (.if_icmp .eq 6, 3) := by decide +kernel
theorem dX12_codeFunction_85 : decode cX12_codeFunction 85 = .ok (.goto 37, 3) := by decide +kernel
theorem dX12_codeFunction_88 : decode cX12_codeFunction 88 = .ok (.aload_n 0, 1) := by decide +kernel
theorem dX12_codeFunction_89 : decode cX12_codeFunction 89 = .ok (.bipush 9, 2) := by decide +kernel
theorem dX12_codeFunction_91 : decode cX12_codeFunction 91 = .ok (.aload_n 0, 1) := by decide +kernel
theorem dX12_codeFunction_92 : decode cX12_codeFunction 92 = .ok (.iload_n 2, 1) := by decide +kernel
theorem dX12_codeFunction_93 : decode cX12_codeFunction 93 = .ok (.iconst 0, 1) := by decide +kernel
theorem dX12_codeFunction_94 : decode cX12_codeFunction 94 = .ok (.invokevirtual 644, 3) := by decide +kernel
theorem dX12_codeFunction_97 : decode cX12_codeFunction 97 = .ok (.iconst 0, 1) := by decide +kernel
theorem dX12_codeFunction_98 : decode cX12_codeFunction 98 = .ok (.invokevirtual 615, 3) := by decide +kernel
theorem dX12_codeFunction_101 : decode cX12_codeFunction 101 = .ok (.aload_n 0, 1) := by decide +kernel
theorem dX12_codeFunction_102 : decode cX12_codeFunction 102 = .ok (.aload_n 0, 1) := by decide +kernel
theorem dX12_codeFunction_103 : decode cX12_codeFunction 103 = .ok (.getfield 62, 3) := by decide +kernel
theorem dX12_codeFunction_106 : decode cX12_codeFunction 106 = .ok (.aload_n 0, 1) := by decide +kernel
theorem dX12_codeFunction_107 : decode cX12_codeFunction 107 = .ok (.iload_n 2, 1) := by decide +kernel
theorem dX12_codeFunction_108 : decode cX12_codeFunction 108 = .ok (.iconst 0, 1) := by decide +kernel
theorem dX12_codeFunction_109 : decode cX12_codeFunction 109 = .ok (.invokevirtual 644, 3) := by decide +kernel
theorem dX12_codeFunction_112 : decode cX12_codeFunction 112 = .ok (.iaload, 1) := by decide +kernel
theorem dX12_codeFunction_113 : decode cX12_codeFunction 113 = .ok (.invokevirtual 704, 3) := by decide +kernel
theorem dX12_codeFunction_116 : decode cX12_codeFunction 116 = .ok (.aload_n 0, 1) := by decide +kernel
theorem dX12_codeFunction_117 : decode cX12_codeFunction 117 = .ok (.bipush 17, 2) := by decide +kernel
theorem dX12_codeFunction_119 : decode cX12_codeFunction 119 = .ok (.invokevirtual 666, 3) := by decide +kernel
theorem dX12_codeFunction_122 : decode cX12_codeFunction 122 = .ok (.aload_n 0, 1) := by decide +kernel
theorem dX12_codeFunction_123 : decode cX12_codeFunction 123 = .ok (.getfield 49, 3) := by decide +kernel
theorem dX12_codeFunction_126 : decode cX12_codeFunction 126 = .ok (.iload_n 2, 1) := by decide +kernel
theorem dX12_codeFunction_127 : decode cX12_codeFunction 127 = .ok (.iaload, 1) := by decide +kernel
theorem dX12_codeFunction_128 : decode cX12_codeFunction 128 = .ok (.istore_n 2, 1) := by decide +kernel
theorem dX12_codeFunction_129 : decode cX12_codeFunction 129 = .ok (.goto (-60), 3) := by decide +kernel
theorem dX12_codeFunction_132 : decode cX12_codeFunction 132 = .ok (.aload_n 0, 1) := by decide +kernel
theorem dX12_codeFunction_133 : decode cX12_codeFunction 133 = .ok (.aload_n 0, 1) := by decide +kernel
theorem dX12_codeFunction_134 : decode cX12_codeFunction 134 = .ok (.getfield 77, 3) := by decide +kernel
theorem dX12_codeFunction_137 : decode cX12_codeFunction 137 = .ok (.iload_n 1, 1) := by decide +kernel
theorem dX12_codeFunction_138 : decode cX12_codeFunction 138 = .ok (.iaload, 1) := by decide +kernel
theorem dX12_codeFunction_139 : decode cX12_codeFunction 139 = .ok (.invokevirtual 713, 3) := by decide +kernel
theorem dX12_codeFunction_142 : decode cX12_codeFunction 142 = .ok (.aload_n 0, 1) := by decide +kernel
theorem dX12_codeFunction_143 : decode cX12_codeFunction 143 = .ok (.iconst 0, 1) := by decide +kernel
theorem dX12_codeFunction_144 : decode cX12_codeFunction 144 = .ok (.iconst 0, 1) := by decide +kernel
theorem dX12_codeFunction_145 : decode cX12_codeFunction 145 = .ok (.invokevirtual 656, 3) := by decide +kernel
theorem dX12_codeFunction_148 : decode cX12_codeFunction 148 = .ok (.aload_n 0, 1) := by decide +kernel
theorem dX12_codeFunction_149 : decode cX12_codeFunction 149 = .ok (.bipush 25, 2) := by decide +kernel
theorem dX12_codeFunction_151 : decode cX12_codeFunction 151 = .ok (.invokevirtual 666, 3) := by decide +kernel
theorem dX12_codeFunction_154 : decode cX12_codeFunction 154 = .ok (.return_, 1) := by decide +kernel
theorem dX12_isJump_0 : decode cX12_isJump 0 = .ok (.iload_n 0, 1) := by decide +kernel
theorem dX12_isJump_1 : decode cX12_isJump 1 = .ok (.bipush 21, 2) := by decide +kernel
theorem dX12_isJump_3 : decode cX12_isJump 3 = .ok (.if_icmp .lt 9, 3) := by decide +kernel
theorem dX12_isJump_6 : decode cX12_isJump 6 = .ok (.iload_n 0, 1) := by decide +kernel
theorem dX12_isJump_7 : decode cX12_isJump 7 = .ok (.bipush 24, 2) := by decide +kernel
theorem dX12_isJump_9 : decode cX12_isJump 9 = .ok (.if_icmp .le 15, 3) := by decide +kernel
theorem dX12_isJump_12 : decode cX12_isJump 12 = .ok (.iload_n 0, 1) := by decide +kernel
theorem dX12_isJump_13 : decode cX12_isJump 13 = .ok (.bipush 27, 2) := by decide +kernel
theorem dX12_isJump_15 : decode cX12_isJump 15 = .ok (.if_icmp .eq 9, 3) := by decide +kernel
theorem dX12_isJump_18 : decode cX12_isJump 18 = .ok (.iload_n 0, 1) := by decide +kernel
theorem dX12_isJump_19 : decode cX12_isJump 19 = .ok (.bipush 30, 2) := by decide +kernel
theorem dX12_isJump_21 : decode cX12_isJump 21 = .ok (.if_icmp .ne 7, 3) := by decide +kernel
theorem dX12_isJump_24 : decode cX12_isJump 24 = .ok (.iconst 1, 1) := by decide +kernel
theorem dX12_isJump_25 : decode cX12_isJump 25 = .ok (.goto 4, 3) := by decide +kernel
theorem dX12_isJump_28 : decode cX12_isJump 28 = .ok (.iconst 0, 1) := by decide +kernel
theorem dX12_isJump_29 : decode cX12_isJump 29 = .ok (.ireturn, 1) := by decide +kernel
theorem dX12_compile_0 : decode cX12_compile 0 = .ok (.aload_n 0, 1) := by decide +kernel
theorem dX12_compile_1 : decode cX12_compile 1 = .ok (.getfield 527, 3) := by decide +kernel
theorem dX12_compile_4 : decode cX12_compile 4 = .ok (.iconst 1, 1) := by decide +kernel
theorem dX12_compile_5 : decode cX12_compile 5 = .ok (.isub, 1) := by decide +kernel
theorem dX12_compile_6 : decode cX12_compile 6 = .ok (.bipush 10, 2) := by decide +kernel
theorem dX12_compile_8 : decode cX12_compile 8 = .ok (.if_icmp .gt 10, 3) := by decide +kernel
theorem dX12_compile_11 : decode cX12_compile 11 = .ok (.aload_n 0, 1) := by decide +kernel
theorem dX12_compile_12 : decode cX12_compile 12 = .ok (.getfield 306, 3) := by decide +kernel
theorem dX12_compile_15 : decode cX12_compile 15 = .ok (.ifCond .eq 5, 3) := by decide +kernel
theorem dX12_compile_18 : decode cX12_compile 18 = .ok (.iconst 0, 1) := by decide +kernel
theorem dX12_compile_19 : decode cX12_compile 19 = .ok (.ireturn, 1) := by decide +kernel
theorem dX12_compile_20 : decode cX12_compile 20 = .ok (.iconst 1, 1) := by decide +kernel
theorem dX12_compile_21 : decode cX12_compile 21 = .ok (.istore_n 1, 1) := by decide +kernel
theorem dX12_compile_22 : decode cX12_compile 22 = .ok (.iconst 1, 1) := by decide +kernel
theorem dX12_compile_23 : decode cX12_compile 23 = .ok (.istore_n 2, 1) := by decide +kernel
theorem dX12_compile_24 : decode cX12_compile 24 = .ok (.iload_n 2, 1) := by decide +kernel
theorem dX12_compile_25 : decode cX12_compile 25 = .ok (.aload_n 0, 1) := by decide +kernel
theorem dX12_compile_26 : decode cX12_compile 26 = .ok (.getfield 527, 3) := by decide +kernel
theorem dX12_compile_29 : decode cX12_compile 29 = .ok (.if_icmp .ge 35, 3) := by decide +kernel
theorem dX12_compile_32 : decode cX12_compile 32 = .ok (.aload_n 0, 1) := by decide +kernel
theorem dX12_compile_33 : decode cX12_compile 33 = .ok (.iload_n 2, 1) := by decide +kernel
theorem dX12_compile_34 : decode cX12_compile 34 = .ok (.invokevirtual 753, 3) := by decide +kernel
theorem dX12_compile_37 : decode cX12_compile 37 = .ok (.iload_n 1, 1) := by decide +kernel
theorem dX12_compile_38 : decode cX12_compile 38 = .ok (.ifCond .eq 18, 3) := by decide +kernel
theorem dX12_compile_41 : decode cX12_compile 41 = .ok (.aload_n 0, 1) := by decide +kernel
theorem dX12_compile_42 : decode cX12_compile 42 = .ok (.getfield 110, 3) := by decide +kernel
theorem dX12_compile_45 : decode cX12_compile 45 = .ok (.iload_n 2, 1) := by decide +kernel
theorem dX12_compile_46 : decode cX12_compile 46 = .ok (.iaload, 1) := by decide +kernel
theorem dX12_compile_47 : decode cX12_compile 47 = .ok (.bipush 12, 2) := by decide +kernel
theorem dX12_compile_49 : decode cX12_compile 49 = .ok (.if_icmp .gt 7, 3) := by decide +kernel
theorem dX12_compile_52 : decode cX12_compile 52 = .ok (.iconst 1, 1) := by decide +kernel
theorem dX12_compile_53 : decode cX12_compile 53 = .ok (.goto 4, 3) := by decide +kernel
theorem dX12_compile_56 : decode cX12_compile 56 = .ok (.iconst 0, 1) := by decide +kernel
theorem dX12_compile_57 : decode cX12_compile 57 = .ok (.istore_n 1, 1) := by decide +kernel
theorem dX12_compile_58 : decode cX12_compile 58 = .ok (.iinc 2 1, 3) := by decide +kernel
theorem dX12_compile_61 : decode cX12_compile 61 = .ok (.goto (-37), 3) := by decide +kernel
theorem dX12_compile_64 : decode cX12_compile 64 = .ok (.iload_n 1, 1) := by decide +kernel
theorem dX12_compile_65 : decode cX12_compile 65 = .ok (.ifCond .ne 5, 3) := by decide +kernel
theorem dX12_compile_68 : decode cX12_compile 68 = .ok (.iconst 0, 1) := by decide +kernel
theorem dX12_compile_69 : decode cX12_compile 69 = .ok (.ireturn, 1) := by decide +kernel
theorem dX12_compile_70 : decode cX12_compile 70 = .ok (.aload_n 0, 1) := by decide +kernel
theorem dX12_compile_71 : decode cX12_compile 71 = .ok (.iconst 0, 1) := by decide +kernel
theorem dX12_compile_72 : decode cX12_compile 72 = .ok (.putfield 606, 3) := by decide +kernel
theorem dX12_compile_75 : decode cX12_compile 75 = .ok (.aload_n 0, 1) := by decide +kernel
theorem dX12_compile_76 : decode cX12_compile 76 = .ok (.iconst 0, 1) := by decide +kernel
theorem dX12_compile_77 : decode cX12_compile 77 = .ok (.putfield 609, 3) := by decide +kernel
theorem dX12_compile_80 : decode cX12_compile 80 = .ok (.aload_n 0, 1) := by decide +kernel
theorem dX12_compile_81 : decode cX12_compile 81 = .ok (.iconst 0, 1) := by decide +kernel
theorem dX12_compile_82 : decode cX12_compile 82 = .ok (.putfield 741, 3) := by decide +kernel
theorem dX12_compile_85 : decode cX12_compile 85 = .ok (.aload_n 0, 1) := by decide +kernel
theorem dX12_compile_86 : decode cX12_compile 86 = .ok (.iconst 0, 1) := by decide +kernel
theorem dX12_compile_87 : decode cX12_compile 87 = .ok (.putfield 707, 3) := by decide +kernel
theorem dX12_compile_90 : decode cX12_compile 90 = .ok (.aload_n 0, 1) := by decide +kernel
theorem dX12_compile_91 : decode cX12_compile 91 = .ok (.iconst 0, 1) := by decide +kernel
theorem dX12_compile_92 : decode cX12_compile 92 = .ok (.putfield 650, 3) := by decide +kernel
theorem dX12_compile_95 : decode cX12_compile 95 = .ok (.aload_n 0, 1) := by decide +kernel
theorem dX12_compile_96 : decode cX12_compile 96 = .ok (.iconst 0, 1) := by decide +kernel
theorem dX12_compile_97 : decode cX12_compile 97 = .ok (.putfield 619, 3) := by decide +kernel
theorem dX12_compile_100 : decode cX12_compile 100 = .ok (.aload_n 0, 1) := by decide +kernel
theorem dX12_compile_101 : decode cX12_compile 101 = .ok (.iconst 0, 1) := by decide +kernel
theorem dX12_compile_102 : decode cX12_compile 102 = .ok (.putfield 637, 3) := by decide +kernel
theorem dX12_compile_105 : decode cX12_compile 105 = .ok (.aload_n 0, 1) := by decide +kernel
theorem dX12_compile_106 : decode cX12_compile 106 = .ok (.iconst 0, 1) := by decide +kernel
theorem dX12_compile_107 : decode cX12_compile 107 = .ok (.putfield 689, 3) := by decide +kernel
theorem dX12_compile_110 : decode cX12_compile 110 = .ok (.iconst 0, 1) := by decide +kernel
theorem dX12_compile_111 : decode cX12_compile 111 = .ok (.istore_n 2, 1) := by decide +kernel
theorem dX12_compile_112 : decode cX12_compile 112 = .ok (.iload_n 2, 1) := by decide +kernel
theorem dX12_compile_113 : decode cX12_compile 113 = .ok (.aload_n 0, 1) := by decide +kernel
theorem dX12_compile_114 : decode cX12_compile 114 = .ok (.getfield 527, 3) := by decide +kernel
theorem dX12_compile_117 : decode cX12_compile 117 = .ok (.if_icmp .ge 21, 3) := by decide +kernel
theorem dX12_compile_120 : decode cX12_compile 120 = .ok (.aload_n 0, 1) := by decide +kernel
theorem dX12_compile_121 : decode cX12_compile 121 = .ok (.getfield 609, 3) := by decide +kernel
theorem dX12_compile_124 : decode cX12_compile 124 = .ok (.ifCond .ne 14, 3) := by decide +kernel
theorem dX12_compile_127 : decode cX12_compile 127 = .ok (.aload_n 0, 1) := by decide +kernel
theorem dX12_compile_128 : decode cX12_compile 128 = .ok (.iload_n 2, 1) := by decide +kernel
theorem dX12_compile_129 : decode cX12_compile 129 = .ok (.invokevirtual 756, 3) := by decide +kernel
theorem dX12_compile_132 : decode cX12_compile 132 = .ok (.iinc 2 1, 3) := by decide +kernel
theorem dX12_compile_135 : decode cX12_compile 135 = .ok (.goto (-23), 3) := by decide +kernel
theorem dX12_compile_138 : decode cX12_compile 138 = .ok (.aload_n 0, 1) := by decide +kernel
theorem dX12_compile_139 : decode cX12_compile 139 = .ok (.getfield 609, 3) := by decide +kernel
theorem dX12_compile_142 : decode cX12_compile 142 = .ok (.ifCond .ne 12, 3) := by decide +kernel
theorem dX12_compile_145 : decode cX12_compile 145 = .ok (.aload_n 0, 1) := by decide +kernel
theorem dX12_compile_146 : decode cX12_compile 146 = .ok (.getfield 689, 3) := by decide +kernel
theorem dX12_compile_149 : decode cX12_compile 149 = .ok (.bipush 19, 2) := by decide +kernel
theorem dX12_compile_151 : decode cX12_compile 151 = .ok (.if_icmp .le 5, 3) := by decide +kernel
theorem dX12_compile_154 : decode cX12_compile 154 = .ok (.iconst 0, 1) := by decide +kernel
theorem dX12_compile_155 : decode cX12_compile 155 = .ok (.ireturn, 1) := by decide +kernel
theorem dX12_compile_156 : decode cX12_compile 156 = .ok (.iconst 0, 1) := by decide +kernel
theorem dX12_compile_157 : decode cX12_compile 157 = .ok (.istore_n 2, 1) := by decide +kernel
theorem dX12_compile_158 : decode cX12_compile 158 = .ok (.iload_n 2, 1) := by decide +kernel
theorem dX12_compile_159 : decode cX12_compile 159 = .ok (.aload_n 0, 1) := by decide +kernel
theorem dX12_compile_160 : decode cX12_compile 160 = .ok (.getfield 606, 3) := by decide +kernel
theorem dX12_compile_163 : decode cX12_compile 163 = .ok (.if_icmp .ge 38, 3) := by decide +kernel
theorem dX12_compile_166 : decode cX12_compile 166 = .ok (.aload_n 0, 1) := by decide +kernel
theorem dX12_compile_167 : decode cX12_compile 167 = .ok (.getfield 89, 3) := by decide +kernel
theorem dX12_compile_170 : decode cX12_compile 170 = .ok (.iload_n 2, 1) := by decide +kernel
theorem dX12_compile_171 : decode cX12_compile 171 = .ok (.iaload, 1) := by decide +kernel
theorem dX12_compile_172 : decode cX12_compile 172 = .ok (.invokestatic 759, 3) := by decide +kernel
theorem dX12_compile_175 : decode cX12_compile 175 = .ok (.ifCond .eq 20, 3) := by decide +kernel
theorem dX12_compile_178 : decode cX12_compile 178 = .ok (.aload_n 0, 1) := by decide +kernel
theorem dX12_compile_179 : decode cX12_compile 179 = .ok (.getfield 92, 3) := by decide +kernel
theorem dX12_compile_182 : decode cX12_compile 182 = .ok (.iload_n 2, 1) := by decide +kernel
theorem dX12_compile_183 : decode cX12_compile 183 = .ok (.aload_n 0, 1) := by decide +kernel
theorem dX12_compile_184 : decode cX12_compile 184 = .ok (.getfield 104, 3) := by decide +kernel
theorem dX12_compile_187 : decode cX12_compile 187 = .ok (.aload_n 0, 1) := by decide +kernel
theorem dX12_compile_188 : decode cX12_compile 188 = .ok (.getfield 92, 3) := by decide +kernel
theorem dX12_compile_191 : decode cX12_compile 191 = .ok (.iload_n 2, 1) := by decide +kernel
theorem dX12_compile_192 : decode cX12_compile 192 = .ok (.iaload, 1) := by decide +kernel
theorem dX12_compile_193 : decode cX12_compile 193 = .ok (.iaload, 1) := by decide +kernel
theorem dX12_compile_194 : decode cX12_compile 194 = .ok (.iastore, 1) := by decide +kernel
theorem dX12_compile_195 : decode cX12_compile 195 = .ok (.iinc 2 1, 3) := by decide +kernel
theorem dX12_compile_198 : decode cX12_compile 198 = .ok (.goto (-40), 3) := by decide +kernel
theorem dX12_compile_201 : decode cX12_compile 201 = .ok (.aload_n 0, 1) := by decide +kernel
theorem dX12_compile_202 : decode cX12_compile 202 = .ok (.aload_n 0, 1) := by decide +kernel
theorem dX12_compile_203 : decode cX12_compile 203 = .ok (.getfield 296, 3) := by decide +kernel
theorem dX12_compile_206 : decode cX12_compile 206 = .ok (.putfield 762, 3) := by decide +kernel
theorem dX12_compile_209 : decode cX12_compile 209 = .ok (.aload_n 0, 1) := by decide +kernel
theorem dX12_compile_210 : decode cX12_compile 210 = .ok (.bipush 29, 2) := by decide +kernel
theorem dX12_compile_212 : decode cX12_compile 212 = .ok (.bipush 6, 2) := by decide +kernel
theorem dX12_compile_214 : decode cX12_compile 214 = .ok (.aload_n 0, 1) := by decide +kernel
theorem dX12_compile_215 : decode cX12_compile 215 = .ok (.getfield 527, 3) := by decide +kernel
theorem dX12_compile_218 : decode cX12_compile 218 = .ok (.iconst 1, 1) := by decide +kernel
theorem dX12_compile_219 : decode cX12_compile 219 = .ok (.isub, 1) := by decide +kernel
theorem dX12_compile_220 : decode cX12_compile 220 = .ok (.imul, 1) := by decide +kernel
theorem dX12_compile_221 : decode cX12_compile 221 = .ok (.iadd, 1) := by decide +kernel
theorem dX12_compile_222 : decode cX12_compile 222 = .ok (.iconst 2, 1) := by decide +kernel
theorem dX12_compile_223 : decode cX12_compile 223 = .ok (.aload_n 0, 1) := by decide +kernel
theorem dX12_compile_224 : decode cX12_compile 224 = .ok (.getfield 689, 3) := by decide +kernel
theorem dX12_compile_227 : decode cX12_compile 227 = .ok (.imul, 1) := by decide +kernel
theorem dX12_compile_228 : decode cX12_compile 228 = .ok (.iadd, 1) := by decide +kernel
theorem dX12_compile_229 : decode cX12_compile 229 = .ok (.putfield 765, 3) := by decide +kernel
theorem dX12_compile_232 : decode cX12_compile 232 = .ok (.aload_n 0, 1) := by decide +kernel
theorem dX12_compile_233 : decode cX12_compile 233 = .ok (.getfield 606, 3) := by decide +kernel
theorem dX12_compile_236 : decode cX12_compile 236 = .ok (.iconst 2, 1) := by decide +kernel
theorem dX12_compile_237 : decode cX12_compile 237 = .ok (.aload_n 0, 1) := by decide +kernel
theorem dX12_compile_238 : decode cX12_compile 238 = .ok (.getfield 527, 3) := by decide +kernel
theorem dX12_compile_241 : decode cX12_compile 241 = .ok (.imul, 1) := by decide +kernel
theorem dX12_compile_242 : decode cX12_compile 242 = .ok (.iadd, 1) := by decide +kernel
theorem dX12_compile_243 : decode cX12_compile 243 = .ok (.i2l, 1) := by decide +kernel
theorem dX12_compile_244 : decode cX12_compile 244 = .ok (.aload_n 0, 1) := by decide +kernel
theorem dX12_compile_245 : decode cX12_compile 245 = .ok (.getfield 765, 3) := by decide +kernel
theorem dX12_compile_248 : decode cX12_compile 248 = .ok (.i2l, 1) := by decide +kernel
theorem dX12_compile_249 : decode cX12_compile 249 = .ok (.lmul, 1) := by decide +kernel
theorem dX12_compile_250 : decode cX12_compile 250 = .ok (.aload_n 0, 1) := by decide +kernel
theorem dX12_compile_251 : decode cX12_compile 251 = .ok (.getfield 762, 3) := by decide +kernel
theorem dX12_compile_254 : decode cX12_compile 254 = .ok (.i2l, 1) := by decide +kernel
theorem dX12_compile_255 : decode cX12_compile 255 = .ok (.lmul, 1) := by decide +kernel
theorem dX12_compile_256 : decode cX12_compile 256 = .ok (.ldc2_w 768, 3) := by decide +kernel
theorem dX12_compile_259 : decode cX12_compile 259 = .ok (.lcmp, 1) := by decide +kernel
theorem dX12_compile_260 : decode cX12_compile 260 = .ok (.ifCond .gt 7, 3) := by decide +kernel
theorem dX12_compile_263 : decode cX12_compile 263 = .ok (.iconst 1, 1) := by decide +kernel
theorem dX12_compile_264 : decode cX12_compile 264 = .ok (.goto 4, 3) := by decide +kernel
theorem dX12_compile_267 : decode cX12_compile 267 = .ok (.iconst 0, 1) := by decide +kernel
theorem dX12_compile_268 : decode cX12_compile 268 = .ok (.ireturn, 1) := by decide +kernel
theorem dX12_read_0 : decode cX12_read 0 = .ok (.aload_n 0, 1) := by decide +kernel
theorem dX12_read_1 : decode cX12_read 1 = .ok (.iconst 0, 1) := by decide +kernel
theorem dX12_read_2 : decode cX12_read 2 = .ok (.putfield 289, 3) := by decide +kernel
theorem dX12_read_5 : decode cX12_read 5 = .ok (.aload_n 0, 1) := by decide +kernel
theorem dX12_read_6 : decode cX12_read 6 = .ok (.iconst 0, 1) := by decide +kernel
theorem dX12_read_7 : decode cX12_read 7 = .ok (.putfield 770, 3) := by decide +kernel
theorem dX12_read_10 : decode cX12_read 10 = .ok (.aload_n 0, 1) := by decide +kernel
theorem dX12_read_11 : decode cX12_read 11 = .ok (.aload_n 0, 1) := by decide +kernel
theorem dX12_read_12 : decode cX12_read 12 = .ok (.getfield 293, 3) := by decide +kernel
theorem dX12_read_15 : decode cX12_read 15 = .ok (.putfield 328, 3) := by decide +kernel
theorem dX12_read_18 : decode cX12_read 18 = .ok (.iconst 0, 1) := by decide +kernel
theorem dX12_read_19 : decode cX12_read 19 = .ok (.istore_n 1, 1) := by decide +kernel
theorem dX12_read_20 : decode cX12_read 20 = .ok (.iload_n 1, 1) := by decide +kernel
theorem dX12_read_21 : decode cX12_read 21 = .ok (.aload_n 0, 1) := by decide +kernel
theorem dX12_read_22 : decode cX12_read 22 = .ok (.getfield 328, 3) := by decide +kernel
theorem dX12_read_25 : decode cX12_read 25 = .ok (.if_icmp .ge 21, 3) := by decide +kernel
theorem dX12_read_28 : decode cX12_read 28 = .ok (.aload_n 0, 1) := by decide +kernel
theorem dX12_read_29 : decode cX12_read 29 = .ok (.getfield 13, 3) := by decide +kernel
theorem dX12_read_32 : decode cX12_read 32 = .ok (.iload_n 1, 1) := by decide +kernel
theorem dX12_read_33 : decode cX12_read 33 = .ok (.aload_n 0, 1) := by decide +kernel
theorem dX12_read_34 : decode cX12_read 34 = .ok (.getfield 7, 3) := by decide +kernel
theorem dX12_read_37 : decode cX12_read 37 = .ok (.iload_n 1, 1) := by decide +kernel
theorem dX12_read_38 : decode cX12_read 38 = .ok (.baload, 1) := by decide +kernel
theorem dX12_read_39 : decode cX12_read 39 = .ok (.bastore, 1) := by decide +kernel
theorem dX12_read_40 : decode cX12_read 40 = .ok (.iinc 1 1, 3) := by decide +kernel
theorem dX12_read_43 : decode cX12_read 43 = .ok (.goto (-23), 3) := by decide +kernel
theorem dX12_read_46 : decode cX12_read 46 = .ok (.aload_n 0, 1) := by decide +kernel
theorem dX12_read_47 : decode cX12_read 47 = .ok (.iconst 0, 1) := by decide +kernel
theorem dX12_read_48 : decode cX12_read 48 = .ok (.putfield 293, 3) := by decide +kernel
theorem dX12_read_51 : decode cX12_read 51 = .ok (.aload_n 0, 1) := by decide +kernel
theorem dX12_read_52 : decode cX12_read 52 = .ok (.iconst 0, 1) := by decide +kernel
theorem dX12_read_53 : decode cX12_read 53 = .ok (.putfield 773, 3) := by decide +kernel
theorem dX12_read_56 : decode cX12_read 56 = .ok (.aload_n 0, 1) := by decide +kernel
theorem dX12_read_57 : decode cX12_read 57 = .ok (.iconst 0, 1) := by decide +kernel
theorem dX12_read_58 : decode cX12_read 58 = .ok (.putfield 776, 3) := by decide +kernel
theorem dX12_read_61 : decode cX12_read 61 = .ok (.aload_n 0, 1) := by decide +kernel
theorem dX12_read_62 : decode cX12_read 62 = .ok (.invokevirtual 779, 3) := by decide +kernel
theorem dX12_read_65 : decode cX12_read 65 = .ok (.aload_n 0, 1) := by decide +kernel
theorem dX12_read_66 : decode cX12_read 66 = .ok (.invokevirtual 782, 3) := by decide +kernel
theorem dX12_read_69 : decode cX12_read 69 = .ok (.aload_n 0, 1) := by decide +kernel
theorem dX12_read_70 : decode cX12_read 70 = .ok (.iconst 0, 1) := by decide +kernel
theorem dX12_read_71 : decode cX12_read 71 = .ok (.putfield 392, 3) := by decide +kernel
theorem dX12_read_74 : decode cX12_read 74 = .ok (.aload_n 0, 1) := by decide +kernel
theorem dX12_read_75 : decode cX12_read 75 = .ok (.iconst 0, 1) := by decide +kernel
theorem dX12_read_76 : decode cX12_read 76 = .ok (.putfield 389, 3) := by decide +kernel
theorem dX12_read_79 : decode cX12_read 79 = .ok (.aload_n 0, 1) := by decide +kernel
theorem dX12_read_80 : decode cX12_read 80 = .ok (.iconst 0, 1) := by decide +kernel
theorem dX12_read_81 : decode cX12_read 81 = .ok (.putfield 407, 3) := by decide +kernel
theorem dX12_read_84 : decode cX12_read 84 = .ok (.aload_n 0, 1) := by decide +kernel
theorem dX12_read_85 : decode cX12_read 85 = .ok (.iconst 0, 1) := by decide +kernel
theorem dX12_read_86 : decode cX12_read 86 = .ok (.putfield 421, 3) := by decide +kernel
theorem dX12_read_89 : decode cX12_read 89 = .ok (.aload_n 0, 1) := by decide +kernel
theorem dX12_read_90 : decode cX12_read 90 = .ok (.iconst 0, 1) := by decide +kernel
theorem dX12_read_91 : decode cX12_read 91 = .ok (.putfield 424, 3) := by decide +kernel
theorem dX12_read_94 : decode cX12_read 94 = .ok (.aload_n 0, 1) := by decide +kernel
theorem dX12_read_95 : decode cX12_read 95 = .ok (.iconst 1, 1) := by decide +kernel
theorem dX12_read_96 : decode cX12_read 96 = .ok (.putfield 527, 3) := by decide +kernel
theorem dX12_read_99 : decode cX12_read 99 = .ok (.aload_n 0, 1) := by decide +kernel
theorem dX12_read_100 : decode cX12_read 100 = .ok (.iconst 0, 1) := by decide +kernel
theorem dX12_read_101 : decode cX12_read 101 = .ok (.putfield 427, 3) := by decide +kernel
theorem dX12_read_104 : decode cX12_read 104 = .ok (.aload_n 0, 1) := by decide +kernel
theorem dX12_read_105 : decode cX12_read 105 = .ok (.iconst 0, 1) := by decide +kernel
theorem dX12_read_106 : decode cX12_read 106 = .ok (.putfield 530, 3) := by decide +kernel
theorem dX12_read_109 : decode cX12_read 109 = .ok (.aload_n 0, 1) := by decide +kernel
theorem dX12_read_110 : decode cX12_read 110 = .ok (.iconst 0, 1) := by decide +kernel
theorem dX12_read_111 : decode cX12_read 111 = .ok (.putfield 533, 3) := by decide +kernel
theorem dX12_read_114 : decode cX12_read 114 = .ok (.aload_n 0, 1) := by decide +kernel
theorem dX12_read_115 : decode cX12_read 115 = .ok (.iconst 0, 1) := by decide +kernel
theorem dX12_read_116 : decode cX12_read 116 = .ok (.putfield 430, 3) := by decide +kernel
theorem dX12_read_119 : decode cX12_read 119 = .ok (.aload_n 0, 1) := by decide +kernel
theorem dX12_read_120 : decode cX12_read 120 = .ok (.getfield 83, 3) := by decide +kernel
theorem dX12_read_123 : decode cX12_read 123 = .ok (.iconst 0, 1) := by decide +kernel
theorem dX12_read_124 : decode cX12_read 124 = .ok (.iconst 0, 1) := by decide +kernel
theorem dX12_read_125 : decode cX12_read 125 = .ok (.iastore, 1) := by decide +kernel
theorem dX12_read_126 : decode cX12_read 126 = .ok (.aload_n 0, 1) := by decide +kernel
theorem dX12_read_127 : decode cX12_read 127 = .ok (.getfield 77, 3) := by decide +kernel
theorem dX12_read_130 : decode cX12_read 130 = .ok (.iconst 0, 1) := by decide +kernel
theorem dX12_read_131 : decode cX12_read 131 = .ok (.aload_n 0, 1) := by decide +kernel
theorem dX12_read_132 : decode cX12_read 132 = .ok (.iconst 0, 1) := by decide +kernel
theorem dX12_read_133 : decode cX12_read 133 = .ok (.invokevirtual 546, 3) := by decide +kernel
theorem dX12_read_136 : decode cX12_read 136 = .ok (.iastore, 1) := by decide +kernel
theorem dX12_read_137 : decode cX12_read 137 = .ok (.aload_n 0, 1) := by decide +kernel
theorem dX12_read_138 : decode cX12_read 138 = .ok (.getfield 389, 3) := by decide +kernel
theorem dX12_read_141 : decode cX12_read 141 = .ok (.ifCond .le 16, 3) := by decide +kernel
theorem dX12_read_144 : decode cX12_read 144 = .ok (.aload_n 0, 1) := by decide +kernel
theorem dX12_read_145 : decode cX12_read 145 = .ok (.getfield 389, 3) := by decide +kernel
theorem dX12_read_148 : decode cX12_read 148 = .ok (.bipush 8, 2) := by decide +kernel
theorem dX12_read_150 : decode cX12_read 150 = .ok (.aload_n 0, 1) := by decide +kernel
theorem dX12_read_151 : decode cX12_read 151 = .ok (.getfield 395, 3) := by decide +kernel
theorem dX12_read_154 : decode cX12_read 154 = .ok (.imul, 1) := by decide +kernel
theorem dX12_read_155 : decode cX12_read 155 = .ok (.iadd, 1) := by decide +kernel
theorem dX12_read_156 : decode cX12_read 156 = .ok (.ireturn, 1) := by decide +kernel
theorem dX12_read_157 : decode cX12_read 157 = .ok (.aload_n 0, 1) := by decide +kernel
theorem dX12_read_158 : decode cX12_read 158 = .ok (.invokevirtual 785, 3) := by decide +kernel
theorem dX12_read_161 : decode cX12_read 161 = .ok (.ifCond .ne 5, 3) := by decide +kernel
theorem dX12_read_164 : decode cX12_read 164 = .ok (.iconst 4, 1) := by decide +kernel
theorem dX12_read_165 : decode cX12_read 165 = .ok (.ireturn, 1) := by decide +kernel
theorem dX12_read_166 : decode cX12_read 166 = .ok (.aload_n 0, 1) := by decide +kernel
theorem dX12_read_167 : decode cX12_read 167 = .ok (.iconst 1, 1) := by decide +kernel
theorem dX12_read_168 : decode cX12_read 168 = .ok (.putfield 770, 3) := by decide +kernel
theorem dX12_read_171 : decode cX12_read 171 = .ok (.iconst 0, 1) := by decide +kernel
theorem dX12_read_172 : decode cX12_read 172 = .ok (.ireturn, 1) := by decide +kernel
