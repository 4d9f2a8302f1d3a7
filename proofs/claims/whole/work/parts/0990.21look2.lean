theorem dX12_count_0 : decode cX12_count 0 = .ok (.aload_n 0, 1) := by decide +kernel
theorem dX12_count_1 : decode cX12_count 1 = .ok (.iconst 0, 1) := by decide +kernel
theorem dX12_count_2 : decode cX12_count 2 = .ok (.putfield 289, 3) := by decide +kernel
theorem dX12_count_5 : decode cX12_count 5 = .ok (.aload_n 0, 1) := by decide +kernel
theorem dX12_count_6 : decode cX12_count 6 = .ok (.getfield 773, 3) := by decide +kernel
theorem dX12_count_9 : decode cX12_count 9 = .ok (.ifCond .le 7, 3) := by decide +kernel
theorem dX12_count_12 : decode cX12_count 12 = .ok (.iconst 1, 1) := by decide +kernel
theorem dX12_count_13 : decode cX12_count 13 = .ok (.goto 4, 3) := by decide +kernel
theorem dX12_count_16 : decode cX12_count 16 = .ok (.iconst 0, 1) := by decide +kernel
theorem dX12_count_17 : decode cX12_count 17 = .ok (.istore_n 2, 1) := by decide +kernel
theorem dX12_count_18 : decode cX12_count 18 = .ok (.iload_n 1, 1) := by decide +kernel
theorem dX12_count_19 : decode cX12_count 19 = .ok (.tableswitch 236 0 12 #[65, 81, 97, 113, 129, 145, 150, 155, 168, 181, 194, 207, 220], 65) := by decide +kernel
theorem dX12_count_84 : decode cX12_count 84 = .ok (.aload_n 0, 1) := by decide +kernel
theorem dX12_count_85 : decode cX12_count 85 = .ok (.getfield 770, 3) := by decide +kernel
theorem dX12_count_88 : decode cX12_count 88 = .ok (.ifCond .eq 10, 3) := by decide +kernel
theorem dX12_count_91 : decode cX12_count 91 = .ok (.aload_n 0, 1) := by decide +kernel
theorem dX12_count_92 : decode cX12_count 92 = .ok (.getfield 606, 3) := by decide +kernel
theorem dX12_count_95 : decode cX12_count 95 = .ok (.goto 4, 3) := by decide +kernel
theorem dX12_count_98 : decode cX12_count 98 = .ok (.iconst 0, 1) := by decide +kernel
theorem dX12_count_99 : decode cX12_count 99 = .ok (.ireturn, 1) := by decide +kernel
theorem dX12_count_100 : decode cX12_count 100 = .ok (.aload_n 0, 1) := by decide +kernel
theorem dX12_count_101 : decode cX12_count 101 = .ok (.getfield 770, 3) := by decide +kernel
theorem dX12_count_104 : decode cX12_count 104 = .ok (.ifCond .eq 10, 3) := by decide +kernel
theorem dX12_count_107 : decode cX12_count 107 = .ok (.aload_n 0, 1) := by decide +kernel
theorem dX12_count_108 : decode cX12_count 108 = .ok (.getfield 527, 3) := by decide +kernel
theorem dX12_count_111 : decode cX12_count 111 = .ok (.goto 4, 3) := by decide +kernel
theorem dX12_count_114 : decode cX12_count 114 = .ok (.iconst 0, 1) := by decide +kernel
theorem dX12_count_115 : decode cX12_count 115 = .ok (.ireturn, 1) := by decide +kernel
theorem dX12_count_116 : decode cX12_count 116 = .ok (.aload_n 0, 1) := by decide +kernel
theorem dX12_count_117 : decode cX12_count 117 = .ok (.getfield 770, 3) := by decide +kernel
theorem dX12_count_120 : decode cX12_count 120 = .ok (.ifCond .eq 10, 3) := by decide +kernel
theorem dX12_count_123 : decode cX12_count 123 = .ok (.aload_n 0, 1) := by decide +kernel
theorem dX12_count_124 : decode cX12_count 124 = .ok (.getfield 762, 3) := by decide +kernel
theorem dX12_count_127 : decode cX12_count 127 = .ok (.goto 4, 3) := by decide +kernel
theorem dX12_count_130 : decode cX12_count 130 = .ok (.iconst 0, 1) := by decide +kernel
theorem dX12_count_131 : decode cX12_count 131 = .ok (.ireturn, 1) := by decide +kernel
theorem dX12_count_132 : decode cX12_count 132 = .ok (.aload_n 0, 1) := by decide +kernel
theorem dX12_count_133 : decode cX12_count 133 = .ok (.getfield 770, 3) := by decide +kernel
theorem dX12_count_136 : decode cX12_count 136 = .ok (.ifCond .eq 10, 3) := by decide +kernel
theorem dX12_count_139 : decode cX12_count 139 = .ok (.aload_n 0, 1) := by decide +kernel
theorem dX12_count_140 : decode cX12_count 140 = .ok (.getfield 765, 3) := by decide +kernel
theorem dX12_count_143 : decode cX12_count 143 = .ok (.goto 4, 3) := by decide +kernel
theorem dX12_count_146 : decode cX12_count 146 = .ok (.iconst 0, 1) := by decide +kernel
theorem dX12_count_147 : decode cX12_count 147 = .ok (.ireturn, 1) := by decide +kernel
theorem dX12_count_148 : decode cX12_count 148 = .ok (.aload_n 0, 1) := by decide +kernel
theorem dX12_count_149 : decode cX12_count 149 = .ok (.getfield 770, 3) := by decide +kernel
theorem dX12_count_152 : decode cX12_count 152 = .ok (.ifCond .eq 10, 3) := by decide +kernel
theorem dX12_count_155 : decode cX12_count 155 = .ok (.aload_n 0, 1) := by decide +kernel
theorem dX12_count_156 : decode cX12_count 156 = .ok (.getfield 689, 3) := by decide +kernel
theorem dX12_count_159 : decode cX12_count 159 = .ok (.goto 4, 3) := by decide +kernel
theorem dX12_count_162 : decode cX12_count 162 = .ok (.iconst 0, 1) := by decide +kernel
theorem dX12_count_163 : decode cX12_count 163 = .ok (.ireturn, 1) := by decide +kernel
theorem dX12_count_164 : decode cX12_count 164 = .ok (.aload_n 0, 1) := by decide +kernel
theorem dX12_count_165 : decode cX12_count 165 = .ok (.getfield 293, 3) := by decide +kernel
theorem dX12_count_168 : decode cX12_count 168 = .ok (.ireturn, 1) := by decide +kernel
theorem dX12_count_169 : decode cX12_count 169 = .ok (.aload_n 0, 1) := by decide +kernel
theorem dX12_count_170 : decode cX12_count 170 = .ok (.getfield 773, 3) := by decide +kernel
theorem dX12_count_173 : decode cX12_count 173 = .ok (.ireturn, 1) := by decide +kernel
theorem dX12_count_174 : decode cX12_count 174 = .ok (.iload_n 2, 1) := by decide +kernel
theorem dX12_count_175 : decode cX12_count 175 = .ok (.ifCond .eq 10, 3) := by decide +kernel
theorem dX12_count_178 : decode cX12_count 178 = .ok (.aload_n 0, 1) := by decide +kernel
theorem dX12_count_179 : decode cX12_count 179 = .ok (.getfield 861, 3) := by decide +kernel
theorem dX12_count_182 : decode cX12_count 182 = .ok (.goto 4, 3) := by decide +kernel
theorem dX12_count_185 : decode cX12_count 185 = .ok (.iconst 0, 1) := by decide +kernel
theorem dX12_count_186 : decode cX12_count 186 = .ok (.ireturn, 1) := by decide +kernel
theorem dX12_count_187 : decode cX12_count 187 = .ok (.iload_n 2, 1) := by decide +kernel
theorem dX12_count_188 : decode cX12_count 188 = .ok (.ifCond .eq 10, 3) := by decide +kernel
theorem dX12_count_191 : decode cX12_count 191 = .ok (.aload_n 0, 1) := by decide +kernel
theorem dX12_count_192 : decode cX12_count 192 = .ok (.getfield 843, 3) := by decide +kernel
theorem dX12_count_195 : decode cX12_count 195 = .ok (.goto 4, 3) := by decide +kernel
theorem dX12_count_198 : decode cX12_count 198 = .ok (.iconst 0, 1) := by decide +kernel
theorem dX12_count_199 : decode cX12_count 199 = .ok (.ireturn, 1) := by decide +kernel
theorem dX12_count_200 : decode cX12_count 200 = .ok (.iload_n 2, 1) := by decide +kernel
theorem dX12_count_201 : decode cX12_count 201 = .ok (.ifCond .eq 10, 3) := by decide +kernel
theorem dX12_count_204 : decode cX12_count 204 = .ok (.aload_n 0, 1) := by decide +kernel
theorem dX12_count_205 : decode cX12_count 205 = .ok (.getfield 296, 3) := by decide +kernel
theorem dX12_count_208 : decode cX12_count 208 = .ok (.goto 4, 3) := by decide +kernel
theorem dX12_count_211 : decode cX12_count 211 = .ok (.iconst 0, 1) := by decide +kernel
theorem dX12_count_212 : decode cX12_count 212 = .ok (.ireturn, 1) := by decide +kernel
theorem dX12_count_213 : decode cX12_count 213 = .ok (.iload_n 2, 1) := by decide +kernel
theorem dX12_count_214 : decode cX12_count 214 = .ok (.ifCond .eq 10, 3) := by decide +kernel
theorem dX12_count_217 : decode cX12_count 217 = .ok (.aload_n 0, 1) := by decide +kernel
theorem dX12_count_218 : decode cX12_count 218 = .ok (.getfield 864, 3) := by decide +kernel
theorem dX12_count_221 : decode cX12_count 221 = .ok (.goto 4, 3) := by decide +kernel
theorem dX12_count_224 : decode cX12_count 224 = .ok (.iconst 0, 1) := by decide +kernel
theorem dX12_count_225 : decode cX12_count 225 = .ok (.ireturn, 1) := by decide +kernel
theorem dX12_count_226 : decode cX12_count 226 = .ok (.iload_n 2, 1) := by decide +kernel
theorem dX12_count_227 : decode cX12_count 227 = .ok (.ifCond .eq 10, 3) := by decide +kernel
theorem dX12_count_230 : decode cX12_count 230 = .ok (.aload_n 0, 1) := by decide +kernel
theorem dX12_count_231 : decode cX12_count 231 = .ok (.getfield 872, 3) := by decide +kernel
theorem dX12_count_234 : decode cX12_count 234 = .ok (.goto 4, 3) := by decide +kernel
theorem dX12_count_237 : decode cX12_count 237 = .ok (.iconst 0, 1) := by decide +kernel
theorem dX12_count_238 : decode cX12_count 238 = .ok (.ireturn, 1) := by decide +kernel
theorem dX12_count_239 : decode cX12_count 239 = .ok (.aload_n 0, 1) := by decide +kernel
theorem dX12_count_240 : decode cX12_count 240 = .ok (.getfield 776, 3) := by decide +kernel
theorem dX12_count_243 : decode cX12_count 243 = .ok (.ifCond .eq 10, 3) := by decide +kernel
theorem dX12_count_246 : decode cX12_count 246 = .ok (.aload_n 0, 1) := by decide +kernel
theorem dX12_count_247 : decode cX12_count 247 = .ok (.getfield 1034, 3) := by decide +kernel
theorem dX12_count_250 : decode cX12_count 250 = .ok (.goto 4, 3) := by decide +kernel
theorem dX12_count_253 : decode cX12_count 253 = .ok (.iconst (-1), 1) := by decide +kernel
theorem dX12_count_254 : decode cX12_count 254 = .ok (.ireturn, 1) := by decide +kernel
theorem dX12_count_255 : decode cX12_count 255 = .ok (.iconst (-1), 1) := by decide +kernel
theorem dX12_count_256 : decode cX12_count 256 = .ok (.ireturn, 1) := by decide +kernel
theorem dX12_letter_0 : decode cX12_letter 0 = .ok (.aload_n 0, 1) := by decide +kernel
theorem dX12_letter_1 : decode cX12_letter 1 = .ok (.iconst 0, 1) := by decide +kernel
theorem dX12_letter_2 : decode cX12_letter 2 = .ok (.putfield 289, 3) := by decide +kernel
theorem dX12_letter_5 : decode cX12_letter 5 = .ok (.aload_n 0, 1) := by decide +kernel
theorem dX12_letter_6 : decode cX12_letter 6 = .ok (.getfield 770, 3) := by decide +kernel
theorem dX12_letter_9 : decode cX12_letter 9 = .ok (.ifCond .eq 47, 3) := by decide +kernel
theorem dX12_letter_12 : decode cX12_letter 12 = .ok (.iload_n 1, 1) := by decide +kernel
theorem dX12_letter_13 : decode cX12_letter 13 = .ok (.iconst 0, 1) := by decide +kernel
theorem dX12_letter_14 : decode cX12_letter 14 = .ok (.aload_n 0, 1) := by decide +kernel
theorem dX12_letter_15 : decode cX12_letter 15 = .ok (.getfield 296, 3) := by decide +kernel
theorem dX12_letter_18 : decode cX12_letter 18 = .ok (.iconst 1, 1) := by decide +kernel
theorem dX12_letter_19 : decode cX12_letter 19 = .ok (.isub, 1) := by decide +kernel
theorem dX12_letter_20 : decode cX12_letter 20 = .ok (.invokestatic 899, 3) := by decide +kernel
theorem dX12_letter_23 : decode cX12_letter 23 = .ok (.ifCond .eq 33, 3) := by decide +kernel
theorem dX12_letter_26 : decode cX12_letter 26 = .ok (.iload_n 2, 1) := by decide +kernel
theorem dX12_letter_27 : decode cX12_letter 27 = .ok (.iconst 0, 1) := by decide +kernel
theorem dX12_letter_28 : decode cX12_letter 28 = .ok (.aload_n 0, 1) := by decide +kernel
theorem dX12_letter_29 : decode cX12_letter 29 = .ok (.getfield 20, 3) := by decide +kernel
theorem dX12_letter_32 : decode cX12_letter 32 = .ok (.iload_n 1, 1) := by decide +kernel
theorem dX12_letter_33 : decode cX12_letter 33 = .ok (.iaload, 1) := by decide +kernel
theorem dX12_letter_34 : decode cX12_letter 34 = .ok (.iconst 1, 1) := by decide +kernel
theorem dX12_letter_35 : decode cX12_letter 35 = .ok (.isub, 1) := by decide +kernel
theorem dX12_letter_36 : decode cX12_letter 36 = .ok (.invokestatic 899, 3) := by decide +kernel
theorem dX12_letter_39 : decode cX12_letter 39 = .ok (.ifCond .eq 17, 3) := by decide +kernel
theorem dX12_letter_42 : decode cX12_letter 42 = .ok (.aload_n 0, 1) := by decide +kernel
theorem dX12_letter_43 : decode cX12_letter 43 = .ok (.getfield 16, 3) := by decide +kernel
theorem dX12_letter_46 : decode cX12_letter 46 = .ok (.bipush 60, 2) := by decide +kernel
theorem dX12_letter_48 : decode cX12_letter 48 = .ok (.iload_n 1, 1) := by decide +kernel
theorem dX12_letter_49 : decode cX12_letter 49 = .ok (.imul, 1) := by decide +kernel
theorem dX12_letter_50 : decode cX12_letter 50 = .ok (.iload_n 2, 1) := by decide +kernel
theorem dX12_letter_51 : decode cX12_letter 51 = .ok (.iadd, 1) := by decide +kernel
theorem dX12_letter_52 : decode cX12_letter 52 = .ok (.caload, 1) := by decide +kernel
theorem dX12_letter_53 : decode cX12_letter 53 = .ok (.goto 4, 3) := by decide +kernel
theorem dX12_letter_56 : decode cX12_letter 56 = .ok (.iconst (-1), 1) := by decide +kernel
theorem dX12_letter_57 : decode cX12_letter 57 = .ok (.ireturn, 1) := by decide +kernel
theorem dX12_instruction_0 : decode cX12_instruction 0 = .ok (.aload_n 0, 1) := by decide +kernel
theorem dX12_instruction_1 : decode cX12_instruction 1 = .ok (.iconst 0, 1) := by decide +kernel
theorem dX12_instruction_2 : decode cX12_instruction 2 = .ok (.putfield 289, 3) := by decide +kernel
theorem dX12_instruction_5 : decode cX12_instruction 5 = .ok (.aload_n 0, 1) := by decide +kernel
theorem dX12_instruction_6 : decode cX12_instruction 6 = .ok (.getfield 770, 3) := by decide +kernel
theorem dX12_instruction_9 : decode cX12_instruction 9 = .ok (.ifCond .eq 26, 3) := by decide +kernel
theorem dX12_instruction_12 : decode cX12_instruction 12 = .ok (.iload_n 1, 1) := by decide +kernel
theorem dX12_instruction_13 : decode cX12_instruction 13 = .ok (.iconst 0, 1) := by decide +kernel
theorem dX12_instruction_14 : decode cX12_instruction 14 = .ok (.aload_n 0, 1) := by decide +kernel
theorem dX12_instruction_15 : decode cX12_instruction 15 = .ok (.getfield 606, 3) := by decide +kernel
theorem dX12_instruction_18 : decode cX12_instruction 18 = .ok (.iconst 1, 1) := by decide +kernel
theorem dX12_instruction_19 : decode cX12_instruction 19 = .ok (.isub, 1) := by decide +kernel
theorem dX12_instruction_20 : decode cX12_instruction 20 = .ok (.invokestatic 899, 3) := by decide +kernel
theorem dX12_instruction_23 : decode cX12_instruction 23 = .ok (.ifCond .eq 12, 3) := by decide +kernel
theorem dX12_instruction_26 : decode cX12_instruction 26 = .ok (.iload_n 2, 1) := by decide +kernel
theorem dX12_instruction_27 : decode cX12_instruction 27 = .ok (.iconst 0, 1) := by decide +kernel
theorem dX12_instruction_28 : decode cX12_instruction 28 = .ok (.iconst 3, 1) := by decide +kernel
theorem dX12_instruction_29 : decode cX12_instruction 29 = .ok (.invokestatic 899, 3) := by decide +kernel
theorem dX12_instruction_32 : decode cX12_instruction 32 = .ok (.ifCond .ne 5, 3) := by decide +kernel
theorem dX12_instruction_35 : decode cX12_instruction 35 = .ok (.iconst (-1), 1) := by decide +kernel
theorem dX12_instruction_36 : decode cX12_instruction 36 = .ok (.ireturn, 1) := by decide +kernel
theorem dX12_instruction_37 : decode cX12_instruction 37 = .ok (.iload_n 2, 1) := by decide +kernel
theorem dX12_instruction_38 : decode cX12_instruction 38 = .ok (.ifCond .ne 12, 3) := by decide +kernel
theorem dX12_instruction_41 : decode cX12_instruction 41 = .ok (.aload_n 0, 1) := by decide +kernel
theorem dX12_instruction_42 : decode cX12_instruction 42 = .ok (.getfield 89, 3) := by decide +kernel
theorem dX12_instruction_45 : decode cX12_instruction 45 = .ok (.iload_n 1, 1) := by decide +kernel
theorem dX12_instruction_46 : decode cX12_instruction 46 = .ok (.iaload, 1) := by decide +kernel
theorem dX12_instruction_47 : decode cX12_instruction 47 = .ok (.goto 37, 3) := by decide +kernel
theorem dX12_instruction_50 : decode cX12_instruction 50 = .ok (.iload_n 2, 1) := by decide +kernel
theorem dX12_instruction_51 : decode cX12_instruction 51 = .ok (.iconst 1, 1) := by decide +kernel
theorem dX12_instruction_52 : decode cX12_instruction 52 = .ok (.if_icmp .ne 12, 3) := by decide +kernel
theorem dX12_instruction_55 : decode cX12_instruction 55 = .ok (.aload_n 0, 1) := by decide +kernel
theorem dX12_instruction_56 : decode cX12_instruction 56 = .ok (.getfield 92, 3) := by decide +kernel
theorem dX12_instruction_59 : decode cX12_instruction 59 = .ok (.iload_n 1, 1) := by decide +kernel
theorem dX12_instruction_60 : decode cX12_instruction 60 = .ok (.iaload, 1) := by decide +kernel
theorem dX12_instruction_61 : decode cX12_instruction 61 = .ok (.goto 23, 3) := by decide +kernel
theorem dX12_instruction_64 : decode cX12_instruction 64 = .ok (.iload_n 2, 1) := by decide +kernel
theorem dX12_instruction_65 : decode cX12_instruction 65 = .ok (.iconst 2, 1) := by decide +kernel
theorem dX12_instruction_66 : decode cX12_instruction 66 = .ok (.if_icmp .ne 12, 3) := by decide +kernel
theorem dX12_instruction_69 : decode cX12_instruction 69 = .ok (.aload_n 0, 1) := by decide +kernel
theorem dX12_instruction_70 : decode cX12_instruction 70 = .ok (.getfield 95, 3) := by decide +kernel
theorem dX12_instruction_73 : decode cX12_instruction 73 = .ok (.iload_n 1, 1) := by decide +kernel
theorem dX12_instruction_74 : decode cX12_instruction 74 = .ok (.iaload, 1) := by decide +kernel
theorem dX12_instruction_75 : decode cX12_instruction 75 = .ok (.goto 9, 3) := by decide +kernel
theorem dX12_instruction_78 : decode cX12_instruction 78 = .ok (.aload_n 0, 1) := by decide +kernel
theorem dX12_instruction_79 : decode cX12_instruction 79 = .ok (.getfield 98, 3) := by decide +kernel
theorem dX12_instruction_82 : decode cX12_instruction 82 = .ok (.iload_n 1, 1) := by decide +kernel
theorem dX12_instruction_83 : decode cX12_instruction 83 = .ok (.iaload, 1) := by decide +kernel
theorem dX12_instruction_84 : decode cX12_instruction 84 = .ok (.ireturn, 1) := by decide +kernel
theorem dX12_frame_0 : decode cX12_frame 0 = .ok (.aload_n 0, 1) := by decide +kernel
theorem dX12_frame_1 : decode cX12_frame 1 = .ok (.iconst 0, 1) := by decide +kernel
theorem dX12_frame_2 : decode cX12_frame 2 = .ok (.putfield 289, 3) := by decide +kernel
theorem dX12_frame_5 : decode cX12_frame 5 = .ok (.aload_n 0, 1) := by decide +kernel
theorem dX12_frame_6 : decode cX12_frame 6 = .ok (.getfield 773, 3) := by decide +kernel
theorem dX12_frame_9 : decode cX12_frame 9 = .ok (.ifCond .eq 17, 3) := by decide +kernel
theorem dX12_frame_12 : decode cX12_frame 12 = .ok (.iload_n 1, 1) := by decide +kernel
theorem dX12_frame_13 : decode cX12_frame 13 = .ok (.iconst 0, 1) := by decide +kernel
theorem dX12_frame_14 : decode cX12_frame 14 = .ok (.aload_n 0, 1) := by decide +kernel
theorem dX12_frame_15 : decode cX12_frame 15 = .ok (.getfield 872, 3) := by decide +kernel
theorem dX12_frame_18 : decode cX12_frame 18 = .ok (.iconst 1, 1) := by decide +kernel
theorem dX12_frame_19 : decode cX12_frame 19 = .ok (.isub, 1) := by decide +kernel
theorem dX12_frame_20 : decode cX12_frame 20 = .ok (.invokestatic 899, 3) := by decide +kernel
theorem dX12_frame_23 : decode cX12_frame 23 = .ok (.ifCond .ne 5, 3) := by decide +kernel
theorem dX12_frame_26 : decode cX12_frame 26 = .ok (.iconst (-1), 1) := by decide +kernel
theorem dX12_frame_27 : decode cX12_frame 27 = .ok (.ireturn, 1) := by decide +kernel
theorem dX12_frame_28 : decode cX12_frame 28 = .ok (.aload_n 0, 1) := by decide +kernel
theorem dX12_frame_29 : decode cX12_frame 29 = .ok (.getfield 872, 3) := by decide +kernel
theorem dX12_frame_32 : decode cX12_frame 32 = .ok (.iconst 1, 1) := by decide +kernel
theorem dX12_frame_33 : decode cX12_frame 33 = .ok (.isub, 1) := by decide +kernel
theorem dX12_frame_34 : decode cX12_frame 34 = .ok (.iload_n 1, 1) := by decide +kernel
theorem dX12_frame_35 : decode cX12_frame 35 = .ok (.isub, 1) := by decide +kernel
theorem dX12_frame_36 : decode cX12_frame 36 = .ok (.istore_n 3, 1) := by decide +kernel
theorem dX12_frame_37 : decode cX12_frame 37 = .ok (.iload_n 2, 1) := by decide +kernel
theorem dX12_frame_38 : decode cX12_frame 38 = .ok (.tableswitch 69 0 4 #[34, 41, 48, 55, 62], 34) := by decide +kernel
theorem dX12_frame_72 : decode cX12_frame 72 = .ok (.aload_n 0, 1) := by decide +kernel
theorem dX12_frame_73 : decode cX12_frame 73 = .ok (.getfield 170, 3) := by decide +kernel
theorem dX12_frame_76 : decode cX12_frame 76 = .ok (.iload_n 3, 1) := by decide +kernel
theorem dX12_frame_77 : decode cX12_frame 77 = .ok (.iaload, 1) := by decide +kernel
theorem dX12_frame_78 : decode cX12_frame 78 = .ok (.ireturn, 1) := by decide +kernel
theorem dX12_frame_79 : decode cX12_frame 79 = .ok (.aload_n 0, 1) := by decide +kernel
theorem dX12_frame_80 : decode cX12_frame 80 = .ok (.getfield 182, 3) := by decide +kernel
theorem dX12_frame_83 : decode cX12_frame 83 = .ok (.iload_n 3, 1) := by decide +kernel
theorem dX12_frame_84 : decode cX12_frame 84 = .ok (.iaload, 1) := by decide +kernel
theorem dX12_frame_85 : decode cX12_frame 85 = .ok (.ireturn, 1) := by decide +kernel
theorem dX12_frame_86 : decode cX12_frame 86 = .ok (.aload_n 0, 1) := by decide +kernel
theorem dX12_frame_87 : decode cX12_frame 87 = .ok (.getfield 185, 3) := by decide +kernel
theorem dX12_frame_90 : decode cX12_frame 90 = .ok (.iload_n 3, 1) := by decide +kernel
theorem dX12_frame_91 : decode cX12_frame 91 = .ok (.iaload, 1) := by decide +kernel
theorem dX12_frame_92 : decode cX12_frame 92 = .ok (.ireturn, 1) := by decide +kernel
theorem dX12_frame_93 : decode cX12_frame 93 = .ok (.aload_n 0, 1) := by decide +kernel
theorem dX12_frame_94 : decode cX12_frame 94 = .ok (.getfield 173, 3) := by decide +kernel
theorem dX12_frame_97 : decode cX12_frame 97 = .ok (.iload_n 3, 1) := by decide +kernel
theorem dX12_frame_98 : decode cX12_frame 98 = .ok (.iaload, 1) := by decide +kernel
theorem dX12_frame_99 : decode cX12_frame 99 = .ok (.ireturn, 1) := by decide +kernel
theorem dX12_frame_100 : decode cX12_frame 100 = .ok (.aload_n 0, 1) := by decide +kernel
theorem dX12_frame_101 : decode cX12_frame 101 = .ok (.getfield 191, 3) := by decide +kernel
theorem dX12_frame_104 : decode cX12_frame 104 = .ok (.iload_n 3, 1) := by decide +kernel
theorem dX12_frame_105 : decode cX12_frame 105 = .ok (.iaload, 1) := by decide +kernel
theorem dX12_frame_106 : decode cX12_frame 106 = .ok (.ireturn, 1) := by decide +kernel
theorem dX12_frame_107 : decode cX12_frame 107 = .ok (.iconst (-1), 1) := by decide +kernel
theorem dX12_frame_108 : decode cX12_frame 108 = .ok (.ireturn, 1) := by decide +kernel
theorem dX12_printed_0 : decode cX12_printed 0 = .ok (.aload_n 0, 1) := by decide +kernel
theorem dX12_printed_1 : decode cX12_printed 1 = .ok (.iconst 0, 1) := by decide +kernel
theorem dX12_printed_2 : decode cX12_printed 2 = .ok (.putfield 289, 3) := by decide +kernel
theorem dX12_printed_5 : decode cX12_printed 5 = .ok (.aload_n 0, 1) := by decide +kernel
theorem dX12_printed_6 : decode cX12_printed 6 = .ok (.getfield 773, 3) := by decide +kernel
theorem dX12_printed_9 : decode cX12_printed 9 = .ok (.ifCond .eq 17, 3) := by decide +kernel
theorem dX12_printed_12 : decode cX12_printed 12 = .ok (.iload_n 1, 1) := by decide +kernel
theorem dX12_printed_13 : decode cX12_printed 13 = .ok (.iconst 0, 1) := by decide +kernel
theorem dX12_printed_14 : decode cX12_printed 14 = .ok (.aload_n 0, 1) := by decide +kernel
theorem dX12_printed_15 : decode cX12_printed 15 = .ok (.getfield 864, 3) := by decide +kernel
theorem dX12_printed_18 : decode cX12_printed 18 = .ok (.iconst 1, 1) := by decide +kernel
theorem dX12_printed_19 : decode cX12_printed 19 = .ok (.isub, 1) := by decide +kernel
theorem dX12_printed_20 : decode cX12_printed 20 = .ok (.invokestatic 899, 3) := by decide +kernel
theorem dX12_printed_23 : decode cX12_printed 23 = .ok (.ifCond .ne 5, 3) := by decide +kernel
theorem dX12_printed_26 : decode cX12_printed 26 = .ok (.iconst (-1), 1) := by decide +kernel
theorem dX12_printed_27 : decode cX12_printed 27 = .ok (.ireturn, 1) := by decide +kernel
theorem dX12_printed_28 : decode cX12_printed 28 = .ok (.aload_n 0, 1) := by decide +kernel
theorem dX12_printed_29 : decode cX12_printed 29 = .ok (.getfield 212, 3) := by decide +kernel
theorem dX12_printed_32 : decode cX12_printed 32 = .ok (.iload_n 1, 1) := by decide +kernel
theorem dX12_printed_33 : decode cX12_printed 33 = .ok (.iaload, 1) := by decide +kernel
theorem dX12_printed_34 : decode cX12_printed 34 = .ok (.istore_n 3, 1) := by decide +kernel
theorem dX12_printed_35 : decode cX12_printed 35 = .ok (.iload_n 2, 1) := by decide +kernel
theorem dX12_printed_36 : decode cX12_printed 36 = .ok (.iconst (-1), 1) := by decide +kernel
theorem dX12_printed_37 : decode cX12_printed 37 = .ok (.if_icmp .ne 5, 3) := by decide +kernel
theorem dX12_printed_40 : decode cX12_printed 40 = .ok (.iload_n 3, 1) := by decide +kernel
theorem dX12_printed_41 : decode cX12_printed 41 = .ok (.ireturn, 1) := by decide +kernel
theorem dX12_printed_42 : decode cX12_printed 42 = .ok (.iload_n 2, 1) := by decide +kernel
theorem dX12_printed_43 : decode cX12_printed 43 = .ok (.iconst 0, 1) := by decide +kernel
theorem dX12_printed_44 : decode cX12_printed 44 = .ok (.aload_n 0, 1) := by decide +kernel
theorem dX12_printed_45 : decode cX12_printed 45 = .ok (.getfield 20, 3) := by decide +kernel
theorem dX12_printed_48 : decode cX12_printed 48 = .ok (.iload_n 3, 1) := by decide +kernel
theorem dX12_printed_49 : decode cX12_printed 49 = .ok (.iaload, 1) := by decide +kernel
theorem dX12_printed_50 : decode cX12_printed 50 = .ok (.iconst 1, 1) := by decide +kernel
theorem dX12_printed_51 : decode cX12_printed 51 = .ok (.isub, 1) := by decide +kernel
theorem dX12_printed_52 : decode cX12_printed 52 = .ok (.invokestatic 899, 3) := by decide +kernel
theorem dX12_printed_55 : decode cX12_printed 55 = .ok (.ifCond .eq 17, 3) := by decide +kernel
theorem dX12_printed_58 : decode cX12_printed 58 = .ok (.aload_n 0, 1) := by decide +kernel
theorem dX12_printed_59 : decode cX12_printed 59 = .ok (.getfield 16, 3) := by decide +kernel
theorem dX12_printed_62 : decode cX12_printed 62 = .ok (.bipush 60, 2) := by decide +kernel
theorem dX12_printed_64 : decode cX12_printed 64 = .ok (.iload_n 3, 1) := by decide +kernel
theorem dX12_printed_65 : decode cX12_printed 65 = .ok (.imul, 1) := by decide +kernel
theorem dX12_printed_66 : decode cX12_printed 66 = .ok (.iload_n 2, 1) := by decide +kernel
theorem dX12_printed_67 : decode cX12_printed 67 = .ok (.iadd, 1) := by decide +kernel
theorem dX12_printed_68 : decode cX12_printed 68 = .ok (.caload, 1) := by decide +kernel
theorem dX12_printed_69 : decode cX12_printed 69 = .ok (.goto 4, 3) := by decide +kernel
theorem dX12_printed_72 : decode cX12_printed 72 = .ok (.iconst (-1), 1) := by decide +kernel
theorem dX12_printed_73 : decode cX12_printed 73 = .ok (.ireturn, 1) := by decide +kernel
theorem dX12_uncaught_0 : decode cX12_uncaught 0 = .ok (.aload_n 0, 1) := by decide +kernel
theorem dX12_uncaught_1 : decode cX12_uncaught 1 = .ok (.iconst 0, 1) := by decide +kernel
theorem dX12_uncaught_2 : decode cX12_uncaught 2 = .ok (.putfield 289, 3) := by decide +kernel
theorem dX12_uncaught_5 : decode cX12_uncaught 5 = .ok (.aload_n 0, 1) := by decide +kernel
theorem dX12_uncaught_6 : decode cX12_uncaught 6 = .ok (.getfield 773, 3) := by decide +kernel
theorem dX12_uncaught_9 : decode cX12_uncaught 9 = .ok (.iconst 3, 1) := by decide +kernel
theorem dX12_uncaught_10 : decode cX12_uncaught 10 = .ok (.if_icmp .ne 19, 3) := by decide +kernel
theorem dX12_uncaught_13 : decode cX12_uncaught 13 = .ok (.aload_n 0, 1) := by decide +kernel
theorem dX12_uncaught_14 : decode cX12_uncaught 14 = .ok (.aload_n 0, 1) := by decide +kernel
theorem dX12_uncaught_15 : decode cX12_uncaught 15 = .ok (.getfield 891, 3) := by decide +kernel
theorem dX12_uncaught_18 : decode cX12_uncaught 18 = .ok (.aload_n 0, 1) := by decide +kernel
theorem dX12_uncaught_19 : decode cX12_uncaught 19 = .ok (.getfield 894, 3) := by decide +kernel
theorem dX12_uncaught_22 : decode cX12_uncaught 22 = .ok (.iload_n 1, 1) := by decide +kernel
theorem dX12_uncaught_23 : decode cX12_uncaught 23 = .ok (.invokevirtual 1037, 3) := by decide +kernel
theorem dX12_uncaught_26 : decode cX12_uncaught 26 = .ok (.goto 4, 3) := by decide +kernel
theorem dX12_uncaught_29 : decode cX12_uncaught 29 = .ok (.iconst (-1), 1) := by decide +kernel
theorem dX12_uncaught_30 : decode cX12_uncaught 30 = .ok (.ireturn, 1) := by decide +kernel

def q_count (p1 : Int) (S : sv_S) : Option Value → sv_S → Prop := fun v S' => ∃ r : Int, v = some (sv_I r) ∧ sv_R r ∧ sm_ok S' ∧ sv_mod [1000] S S' ∧ (True)
theorem la_count_0 {x0 : Int} (h0 : 0 ≤ x0) (h1 : ¬ x0 = 0) : 0 < x0 := by omega
theorem la_count_1 : (0 : Int) ≤ 0 := by omega
theorem la_count_2 (h0 : (0 : Int) ≤ 0) (h1 : ¬ (0 : Int) = 0) : (0 : Int) < 0 := by omega
theorem la_count_3 : (0 : Int) ≤ 1 := by omega
theorem la_count_4 (h0 : (0 : Int) ≤ 1) (h1 : ¬ (1 : Int) = 0) : (0 : Int) < 1 := by omega
set_option maxHeartbeats 2000000 in
theorem f_count : ∀ (p1 : Int) (S : sv_S), sm_ok S → sv_R p1 → (sv_R (S 1073 0) → ((((S 1073 0) ≤ (0 : Int)) → (((p1 < (0 : Int) ∨ (12 : Int) < p1) → (True)) ∧ ((p1 = (0 : Int)) → ((0 ≤ (S 1072 0) ∧ (S 1072 0) ≤ 1) → ((((S 1072 0) = (0 : Int)) → (True)) ∧ ((¬ ((S 1072 0) = (0 : Int))) → (sv_R (S 1046 0) → (True)))))) ∧ ((p1 = (1 : Int)) → ((0 ≤ (S 1072 0) ∧ (S 1072 0) ≤ 1) → ((((S 1072 0) = (0 : Int)) → (True)) ∧ ((¬ ((S 1072 0) = (0 : Int))) → (sv_R (S 1032 0) → (True)))))) ∧ ((p1 = (2 : Int)) → ((0 ≤ (S 1072 0) ∧ (S 1072 0) ≤ 1) → ((((S 1072 0) = (0 : Int)) → (True)) ∧ ((¬ ((S 1072 0) = (0 : Int))) → (sv_R (S 1008 0) → (True)))))) ∧ ((p1 = (3 : Int)) → ((0 ≤ (S 1072 0) ∧ (S 1072 0) ≤ 1) → ((((S 1072 0) = (0 : Int)) → (True)) ∧ ((¬ ((S 1072 0) = (0 : Int))) → (sv_R (S 1071 0) → (True)))))) ∧ ((p1 = (4 : Int)) → ((0 ≤ (S 1072 0) ∧ (S 1072 0) ≤ 1) → ((((S 1072 0) = (0 : Int)) → (True)) ∧ ((¬ ((S 1072 0) = (0 : Int))) → (sv_R (S 1055 0) → (True)))))) ∧ ((p1 = (5 : Int)) → (sv_R (S 1002 0) → (True))) ∧ ((p1 = (6 : Int)) → (True)) ∧ ((p1 = (7 : Int)) → ((((0 : Int) = (0 : Int)) → (True)) ∧ ((¬ ((0 : Int) = (0 : Int))) → (sv_R (S 1074 0) → (True))))) ∧ ((p1 = (8 : Int)) → ((((0 : Int) = (0 : Int)) → (True)) ∧ ((¬ ((0 : Int) = (0 : Int))) → (sv_R (S 1076 0) → (True))))) ∧ ((p1 = (9 : Int)) → ((((0 : Int) = (0 : Int)) → (True)) ∧ ((¬ ((0 : Int) = (0 : Int))) → (sv_R (S 1007 0) → (True))))) ∧ ((p1 = (10 : Int)) → ((((0 : Int) = (0 : Int)) → (True)) ∧ ((¬ ((0 : Int) = (0 : Int))) → (sv_R (S 1107 0) → (True))))) ∧ ((p1 = (11 : Int)) → ((((0 : Int) = (0 : Int)) → (True)) ∧ ((¬ ((0 : Int) = (0 : Int))) → (sv_R (S 1092 0) → (True))))) ∧ ((p1 = (12 : Int)) → ((0 ≤ (S 1119 0) ∧ (S 1119 0) ≤ 1) → ((((S 1119 0) = (0 : Int)) → (True)) ∧ ((¬ ((S 1119 0) = (0 : Int))) → (sv_R (S 1120 0) → (True)))))))) ∧ ((¬ ((S 1073 0) ≤ (0 : Int))) → (((p1 < (0 : Int) ∨ (12 : Int) < p1) → (True)) ∧ ((p1 = (0 : Int)) → ((0 ≤ (S 1072 0) ∧ (S 1072 0) ≤ 1) → ((((S 1072 0) = (0 : Int)) → (True)) ∧ ((¬ ((S 1072 0) = (0 : Int))) → (sv_R (S 1046 0) → (True)))))) ∧ ((p1 = (1 : Int)) → ((0 ≤ (S 1072 0) ∧ (S 1072 0) ≤ 1) → ((((S 1072 0) = (0 : Int)) → (True)) ∧ ((¬ ((S 1072 0) = (0 : Int))) → (sv_R (S 1032 0) → (True)))))) ∧ ((p1 = (2 : Int)) → ((0 ≤ (S 1072 0) ∧ (S 1072 0) ≤ 1) → ((((S 1072 0) = (0 : Int)) → (True)) ∧ ((¬ ((S 1072 0) = (0 : Int))) → (sv_R (S 1008 0) → (True)))))) ∧ ((p1 = (3 : Int)) → ((0 ≤ (S 1072 0) ∧ (S 1072 0) ≤ 1) → ((((S 1072 0) = (0 : Int)) → (True)) ∧ ((¬ ((S 1072 0) = (0 : Int))) → (sv_R (S 1071 0) → (True)))))) ∧ ((p1 = (4 : Int)) → ((0 ≤ (S 1072 0) ∧ (S 1072 0) ≤ 1) → ((((S 1072 0) = (0 : Int)) → (True)) ∧ ((¬ ((S 1072 0) = (0 : Int))) → (sv_R (S 1055 0) → (True)))))) ∧ ((p1 = (5 : Int)) → (sv_R (S 1002 0) → (True))) ∧ ((p1 = (6 : Int)) → (True)) ∧ ((p1 = (7 : Int)) → ((((1 : Int) = (0 : Int)) → (True)) ∧ ((¬ ((1 : Int) = (0 : Int))) → (sv_R (S 1074 0) → (True))))) ∧ ((p1 = (8 : Int)) → ((((1 : Int) = (0 : Int)) → (True)) ∧ ((¬ ((1 : Int) = (0 : Int))) → (sv_R (S 1076 0) → (True))))) ∧ ((p1 = (9 : Int)) → ((((1 : Int) = (0 : Int)) → (True)) ∧ ((¬ ((1 : Int) = (0 : Int))) → (sv_R (S 1007 0) → (True))))) ∧ ((p1 = (10 : Int)) → ((((1 : Int) = (0 : Int)) → (True)) ∧ ((¬ ((1 : Int) = (0 : Int))) → (sv_R (S 1107 0) → (True))))) ∧ ((p1 = (11 : Int)) → ((((1 : Int) = (0 : Int)) → (True)) ∧ ((¬ ((1 : Int) = (0 : Int))) → (sv_R (S 1092 0) → (True))))) ∧ ((p1 = (12 : Int)) → ((0 ≤ (S 1119 0) ∧ (S 1119 0) ≤ 1) → ((((S 1119 0) = (0 : Int)) → (True)) ∧ ((¬ ((S 1119 0) = (0 : Int))) → (sv_R (S 1120 0) → (True)))))))))) := by
  intro p1
  intro S
  intro h1_
  intro h2_
  intro h3_
  refine ⟨?_, ?_⟩
  · skip
    intro h4_
    refine ⟨?_, ?_⟩
    · skip
      intro h5_
      exact trivial
    refine ⟨?_, ?_⟩
    · skip
      intro h6_
      rintro ⟨h7_, h8_⟩
      refine ⟨?_, ?_⟩
      · skip
        intro h9_
        exact trivial
      intro h10_
      intro h11_
      exact trivial
    refine ⟨?_, ?_⟩
    · skip
      intro h12_
      rintro ⟨h13_, h14_⟩
      refine ⟨?_, ?_⟩
      · skip
        intro h15_
        exact trivial
      intro h16_
      intro h17_
      exact trivial
    refine ⟨?_, ?_⟩
    · skip
      intro h18_
      rintro ⟨h19_, h20_⟩
      refine ⟨?_, ?_⟩
      · skip
        intro h21_
        exact trivial
      intro h22_
      intro h23_
      exact trivial
    refine ⟨?_, ?_⟩
    · skip
      intro h24_
      rintro ⟨h25_, h26_⟩
      refine ⟨?_, ?_⟩
      · skip
        intro h27_
        exact trivial
      intro h28_
      intro h29_
      exact trivial
    refine ⟨?_, ?_⟩
    · skip
      intro h30_
      rintro ⟨h31_, h32_⟩
      refine ⟨?_, ?_⟩
      · skip
        intro h33_
        exact trivial
      intro h34_
      intro h35_
      exact trivial
    refine ⟨?_, ?_⟩
    · skip
      intro h36_
      intro h37_
      exact trivial
    refine ⟨?_, ?_⟩
    · skip
      intro h38_
      exact trivial
    refine ⟨?_, ?_⟩
    · skip
      intro h39_
      refine ⟨?_, ?_⟩
      · skip
        intro h40_
        exact trivial
      intro h41_
      intro h42_
      exact trivial
    refine ⟨?_, ?_⟩
    · skip
      intro h43_
      refine ⟨?_, ?_⟩
      · skip
        intro h44_
        exact trivial
      intro h45_
      intro h46_
      exact trivial
    refine ⟨?_, ?_⟩
    · skip
      intro h47_
      refine ⟨?_, ?_⟩
      · skip
        intro h48_
        exact trivial
      intro h49_
      intro h50_
      exact trivial
    refine ⟨?_, ?_⟩
    · skip
      intro h51_
      refine ⟨?_, ?_⟩
      · skip
        intro h52_
        exact trivial
      intro h53_
      intro h54_
      exact trivial
    refine ⟨?_, ?_⟩
    · skip
      intro h55_
      refine ⟨?_, ?_⟩
      · skip
        intro h56_
        exact trivial
      intro h57_
      intro h58_
      exact trivial
    intro h59_
    rintro ⟨h60_, h61_⟩
    refine ⟨?_, ?_⟩
    · skip
      intro h62_
      exact trivial
    intro h63_
    intro h64_
    exact trivial
  intro h65_
  refine ⟨?_, ?_⟩
  · skip
    intro h66_
    exact trivial
  refine ⟨?_, ?_⟩
  · skip
    intro h67_
    rintro ⟨h68_, h69_⟩
    refine ⟨?_, ?_⟩
    · skip
      intro h70_
      exact trivial
    intro h71_
    intro h72_
    exact trivial
  refine ⟨?_, ?_⟩
  · skip
    intro h73_
    rintro ⟨h74_, h75_⟩
    refine ⟨?_, ?_⟩
    · skip
      intro h76_
      exact trivial
    intro h77_
    intro h78_
    exact trivial
  refine ⟨?_, ?_⟩
  · skip
    intro h79_
    rintro ⟨h80_, h81_⟩
    refine ⟨?_, ?_⟩
    · skip
      intro h82_
      exact trivial
    intro h83_
    intro h84_
    exact trivial
  refine ⟨?_, ?_⟩
  · skip
    intro h85_
    rintro ⟨h86_, h87_⟩
    refine ⟨?_, ?_⟩
    · skip
      intro h88_
      exact trivial
    intro h89_
    intro h90_
    exact trivial
  refine ⟨?_, ?_⟩
  · skip
    intro h91_
    rintro ⟨h92_, h93_⟩
    refine ⟨?_, ?_⟩
    · skip
      intro h94_
      exact trivial
    intro h95_
    intro h96_
    exact trivial
  refine ⟨?_, ?_⟩
  · skip
    intro h97_
    intro h98_
    exact trivial
  refine ⟨?_, ?_⟩
  · skip
    intro h99_
    exact trivial
  refine ⟨?_, ?_⟩
  · skip
    intro h100_
    refine ⟨?_, ?_⟩
    · skip
      intro h101_
      exact trivial
    intro h102_
    intro h103_
    exact trivial
  refine ⟨?_, ?_⟩
  · skip
    intro h104_
    refine ⟨?_, ?_⟩
    · skip
      intro h105_
      exact trivial
    intro h106_
    intro h107_
    exact trivial
  refine ⟨?_, ?_⟩
  · skip
    intro h108_
    refine ⟨?_, ?_⟩
    · skip
      intro h109_
      exact trivial
    intro h110_
    intro h111_
    exact trivial
  refine ⟨?_, ?_⟩
  · skip
    intro h112_
    refine ⟨?_, ?_⟩
    · skip
      intro h113_
      exact trivial
    intro h114_
    intro h115_
    exact trivial
  refine ⟨?_, ?_⟩
  · skip
    intro h116_
    refine ⟨?_, ?_⟩
    · skip
      intro h117_
      exact trivial
    intro h118_
    intro h119_
    exact trivial
  intro h120_
  rintro ⟨h121_, h122_⟩
  refine ⟨?_, ?_⟩
  · skip
    intro h123_
    exact trivial
  intro h124_
  intro h125_
  exact trivial
set_option maxRecDepth 8000 in
set_option maxHeartbeats 2000000 in
theorem t_count : ∀ (p1 : Int) (S : sv_S), sm_ok S → sv_R p1 → sv_T sm_XS sm_cs sm_L sm_sh 0 (q_count p1 S) 192 0 (lv_args 0 [.ref 0, sv_I p1]) [] S := by
  intro p1 S hok hp1
  have h := f_count p1 S hok hp1
  have hM := sm_h192
  show sv_T sm_XS sm_cs sm_L sm_sh 0 (q_count p1 S) 192 0 [(0, .ref 0), (1, sv_I p1)] [] S
  refine sv_aload_n hM dX12_count_0 rfl rfl ?_
  refine sv_iconst (d := (0 : Int)) hM dX12_count_1 rfl rfl ?_
  refine sv_putI sm_X hM dX12_count_2 sm_fp_289 (sm_a0 _) sm_q0 (Or.inl rfl) rfl rfl rfl rfl ?_
  have ok1 : sm_ok (sv_up S 1000 0 (0 : Int)) := sm_upI hok sm_r1000 (⟨by decide, by decide⟩ : sv_R (0 : Int))
  have md2 : sv_mod [1000] S (sv_up S 1000 0 (0 : Int)) := sv_mod.up sv_mod.rf (by decide)
  refine sv_aload_n hM dX12_count_5 rfl rfl ?_
  have k3 : sv_R (S 1073 0) := sm_okI ok1 sm_r1073 0
  have h := h k3
  refine sv_getI hM dX12_count_6 sm_fl_773 (sm_a0 _) sm_k73 rfl (x := (S 1073 0)) rfl ?_
  refine sv_cond_le hM dX12_count_9 k3 (t := 16) rfl rfl (fun hc => ?_) (fun hc => ?_)
  · have h := h.1 (hc)
    refine sv_iconst (d := (0 : Int)) hM dX12_count_16 rfl rfl ?_
    refine sv_istore_n hM dX12_count_17 (by decide) rfl ?_
    show sv_T sm_XS sm_cs sm_L sm_sh 0 (q_count p1 S) 192 18 [(0, .ref 0), (1, sv_I p1), (2, sv_I (0 : Int))] [] (sv_up S 1000 0 (0 : Int))
    refine sv_iload_n hM dX12_count_18 rfl rfl ?_
    have hS := h
    have J0 : (p1 < (0 : Int) ∨ (12 : Int) < p1) → sv_T sm_XS sm_cs sm_L sm_sh 0 (q_count p1 S) 192 255 [(0, .ref 0), (1, sv_I p1), (2, sv_I (0 : Int))] [] (sv_up S 1000 0 (0 : Int)) := by
      intro hc
      have h := hS.1 hc
      refine sv_iconst (d := (-1 : Int)) hM dX12_count_255 rfl rfl ?_
      exact sv_iret hM dX12_count_256 rfl rfl ⟨(-1 : Int), rfl, (⟨by decide, by decide⟩ : sv_R (-1 : Int)), ok1, md2, h⟩
    have J1 : (p1 = (0 : Int)) → sv_T sm_XS sm_cs sm_L sm_sh 0 (q_count p1 S) 192 84 [(0, .ref 0), (1, sv_I p1), (2, sv_I (0 : Int))] [] (sv_up S 1000 0 (0 : Int)) := by
      intro hc
      have h := hS.2.1 hc
      refine sv_aload_n hM dX12_count_84 rfl rfl ?_
      have k4 : (0 ≤ (S 1072 0) ∧ (S 1072 0) ≤ 1) := sm_okZ ok1 sm_r1072 0
      have h := h k4
      refine sv_getI hM dX12_count_85 sm_fl_770 (sm_a0 _) sm_k72 rfl (x := (S 1072 0)) rfl ?_
      refine sv_cond_eq hM dX12_count_88 (sv_R01 k4) (t := 98) rfl rfl (fun hc => ?_) (fun hc => ?_)
      · have h := h.1 (hc)
        refine sv_iconst (d := (0 : Int)) hM dX12_count_98 rfl rfl ?_
        exact sv_iret hM dX12_count_99 rfl rfl ⟨(0 : Int), rfl, (⟨by decide, by decide⟩ : sv_R (0 : Int)), ok1, md2, h⟩
      · have h := h.2 (hc)
        refine sv_aload_n hM dX12_count_91 rfl rfl ?_
        have k5 : sv_R (S 1046 0) := sm_okI ok1 sm_r1046 0
        have h := h k5
        refine sv_getI hM dX12_count_92 sm_fl_606 (sm_a0 _) sm_k46 rfl (x := (S 1046 0)) rfl ?_
        refine sv_goto hM dX12_count_95 (pc' := 99) rfl ?_
        exact sv_iret hM dX12_count_99 rfl rfl ⟨(S 1046 0), rfl, k5, ok1, md2, h⟩
    have J2 : (p1 = (1 : Int)) → sv_T sm_XS sm_cs sm_L sm_sh 0 (q_count p1 S) 192 100 [(0, .ref 0), (1, sv_I p1), (2, sv_I (0 : Int))] [] (sv_up S 1000 0 (0 : Int)) := by
      intro hc
      have h := hS.2.2.1 hc
      refine sv_aload_n hM dX12_count_100 rfl rfl ?_
      have k6 : (0 ≤ (S 1072 0) ∧ (S 1072 0) ≤ 1) := sm_okZ ok1 sm_r1072 0
      have h := h k6
      refine sv_getI hM dX12_count_101 sm_fl_770 (sm_a0 _) sm_k72 rfl (x := (S 1072 0)) rfl ?_
      refine sv_cond_eq hM dX12_count_104 (sv_R01 k6) (t := 114) rfl rfl (fun hc => ?_) (fun hc => ?_)
      · have h := h.1 (hc)
        refine sv_iconst (d := (0 : Int)) hM dX12_count_114 rfl rfl ?_
        exact sv_iret hM dX12_count_115 rfl rfl ⟨(0 : Int), rfl, (⟨by decide, by decide⟩ : sv_R (0 : Int)), ok1, md2, h⟩
      · have h := h.2 (hc)
        refine sv_aload_n hM dX12_count_107 rfl rfl ?_
        have k7 : sv_R (S 1032 0) := sm_okI ok1 sm_r1032 0
        have h := h k7
        refine sv_getI hM dX12_count_108 sm_fl_527 (sm_a0 _) sm_k32 rfl (x := (S 1032 0)) rfl ?_
        refine sv_goto hM dX12_count_111 (pc' := 115) rfl ?_
        exact sv_iret hM dX12_count_115 rfl rfl ⟨(S 1032 0), rfl, k7, ok1, md2, h⟩
    have J3 : (p1 = (2 : Int)) → sv_T sm_XS sm_cs sm_L sm_sh 0 (q_count p1 S) 192 116 [(0, .ref 0), (1, sv_I p1), (2, sv_I (0 : Int))] [] (sv_up S 1000 0 (0 : Int)) := by
      intro hc
      have h := hS.2.2.2.1 hc
      refine sv_aload_n hM dX12_count_116 rfl rfl ?_
      have k8 : (0 ≤ (S 1072 0) ∧ (S 1072 0) ≤ 1) := sm_okZ ok1 sm_r1072 0
      have h := h k8
      refine sv_getI hM dX12_count_117 sm_fl_770 (sm_a0 _) sm_k72 rfl (x := (S 1072 0)) rfl ?_
      refine sv_cond_eq hM dX12_count_120 (sv_R01 k8) (t := 130) rfl rfl (fun hc => ?_) (fun hc => ?_)
      · have h := h.1 (hc)
        refine sv_iconst (d := (0 : Int)) hM dX12_count_130 rfl rfl ?_
        exact sv_iret hM dX12_count_131 rfl rfl ⟨(0 : Int), rfl, (⟨by decide, by decide⟩ : sv_R (0 : Int)), ok1, md2, h⟩
      · have h := h.2 (hc)
        refine sv_aload_n hM dX12_count_123 rfl rfl ?_
        have k9 : sv_R (S 1008 0) := sm_okI ok1 sm_r1008 0
        have h := h k9
        refine sv_getI hM dX12_count_124 sm_fl_762 (sm_a0 _) sm_k8 rfl (x := (S 1008 0)) rfl ?_
        refine sv_goto hM dX12_count_127 (pc' := 131) rfl ?_
        exact sv_iret hM dX12_count_131 rfl rfl ⟨(S 1008 0), rfl, k9, ok1, md2, h⟩
    have J4 : (p1 = (3 : Int)) → sv_T sm_XS sm_cs sm_L sm_sh 0 (q_count p1 S) 192 132 [(0, .ref 0), (1, sv_I p1), (2, sv_I (0 : Int))] [] (sv_up S 1000 0 (0 : Int)) := by
      intro hc
      have h := hS.2.2.2.2.1 hc
      refine sv_aload_n hM dX12_count_132 rfl rfl ?_
      have k10 : (0 ≤ (S 1072 0) ∧ (S 1072 0) ≤ 1) := sm_okZ ok1 sm_r1072 0
      have h := h k10
      refine sv_getI hM dX12_count_133 sm_fl_770 (sm_a0 _) sm_k72 rfl (x := (S 1072 0)) rfl ?_
      refine sv_cond_eq hM dX12_count_136 (sv_R01 k10) (t := 146) rfl rfl (fun hc => ?_) (fun hc => ?_)
      · have h := h.1 (hc)
        refine sv_iconst (d := (0 : Int)) hM dX12_count_146 rfl rfl ?_
        exact sv_iret hM dX12_count_147 rfl rfl ⟨(0 : Int), rfl, (⟨by decide, by decide⟩ : sv_R (0 : Int)), ok1, md2, h⟩
      · have h := h.2 (hc)
        refine sv_aload_n hM dX12_count_139 rfl rfl ?_
        have k11 : sv_R (S 1071 0) := sm_okI ok1 sm_r1071 0
        have h := h k11
        refine sv_getI hM dX12_count_140 sm_fl_765 (sm_a0 _) sm_k71 rfl (x := (S 1071 0)) rfl ?_
        refine sv_goto hM dX12_count_143 (pc' := 147) rfl ?_
        exact sv_iret hM dX12_count_147 rfl rfl ⟨(S 1071 0), rfl, k11, ok1, md2, h⟩
    have J5 : (p1 = (4 : Int)) → sv_T sm_XS sm_cs sm_L sm_sh 0 (q_count p1 S) 192 148 [(0, .ref 0), (1, sv_I p1), (2, sv_I (0 : Int))] [] (sv_up S 1000 0 (0 : Int)) := by
      intro hc
      have h := hS.2.2.2.2.2.1 hc
      refine sv_aload_n hM dX12_count_148 rfl rfl ?_
      have k12 : (0 ≤ (S 1072 0) ∧ (S 1072 0) ≤ 1) := sm_okZ ok1 sm_r1072 0
      have h := h k12
      refine sv_getI hM dX12_count_149 sm_fl_770 (sm_a0 _) sm_k72 rfl (x := (S 1072 0)) rfl ?_
      refine sv_cond_eq hM dX12_count_152 (sv_R01 k12) (t := 162) rfl rfl (fun hc => ?_) (fun hc => ?_)
      · have h := h.1 (hc)
        refine sv_iconst (d := (0 : Int)) hM dX12_count_162 rfl rfl ?_
        exact sv_iret hM dX12_count_163 rfl rfl ⟨(0 : Int), rfl, (⟨by decide, by decide⟩ : sv_R (0 : Int)), ok1, md2, h⟩
      · have h := h.2 (hc)
        refine sv_aload_n hM dX12_count_155 rfl rfl ?_
        have k13 : sv_R (S 1055 0) := sm_okI ok1 sm_r1055 0
        have h := h k13
        refine sv_getI hM dX12_count_156 sm_fl_689 (sm_a0 _) sm_k55 rfl (x := (S 1055 0)) rfl ?_
        refine sv_goto hM dX12_count_159 (pc' := 163) rfl ?_
        exact sv_iret hM dX12_count_163 rfl rfl ⟨(S 1055 0), rfl, k13, ok1, md2, h⟩
    have J6 : (p1 = (5 : Int)) → sv_T sm_XS sm_cs sm_L sm_sh 0 (q_count p1 S) 192 164 [(0, .ref 0), (1, sv_I p1), (2, sv_I (0 : Int))] [] (sv_up S 1000 0 (0 : Int)) := by
      intro hc
      have h := hS.2.2.2.2.2.2.1 hc
      refine sv_aload_n hM dX12_count_164 rfl rfl ?_
      have k14 : sv_R (S 1002 0) := sm_okI ok1 sm_r1002 0
      have h := h k14
      refine sv_getI hM dX12_count_165 sm_fl_293 (sm_a0 _) sm_k2 rfl (x := (S 1002 0)) rfl ?_
      exact sv_iret hM dX12_count_168 rfl rfl ⟨(S 1002 0), rfl, k14, ok1, md2, h⟩
    have J7 : (p1 = (6 : Int)) → sv_T sm_XS sm_cs sm_L sm_sh 0 (q_count p1 S) 192 169 [(0, .ref 0), (1, sv_I p1), (2, sv_I (0 : Int))] [] (sv_up S 1000 0 (0 : Int)) := by
      intro hc
      have h := hS.2.2.2.2.2.2.2.1 hc
      refine sv_aload_n hM dX12_count_169 rfl rfl ?_
      refine sv_getI hM dX12_count_170 sm_fl_773 (sm_a0 _) sm_k73 rfl (x := (S 1073 0)) rfl ?_
      exact sv_iret hM dX12_count_173 rfl rfl ⟨(S 1073 0), rfl, k3, ok1, md2, h⟩
    have J8 : (p1 = (7 : Int)) → sv_T sm_XS sm_cs sm_L sm_sh 0 (q_count p1 S) 192 174 [(0, .ref 0), (1, sv_I p1), (2, sv_I (0 : Int))] [] (sv_up S 1000 0 (0 : Int)) := by
      intro hc
      have h := hS.2.2.2.2.2.2.2.2.1 hc
      refine sv_iload_n hM dX12_count_174 rfl rfl ?_
      refine sv_cond_eq hM dX12_count_175 (⟨by decide, by decide⟩ : sv_R (0 : Int)) (t := 185) rfl rfl (fun hc => ?_) (fun hc => ?_)
      · have h := h.1 (hc)
        refine sv_iconst (d := (0 : Int)) hM dX12_count_185 rfl rfl ?_
        exact sv_iret hM dX12_count_186 rfl rfl ⟨(0 : Int), rfl, (⟨by decide, by decide⟩ : sv_R (0 : Int)), ok1, md2, h⟩
      · have h := h.2 (hc)
        refine sv_aload_n hM dX12_count_178 rfl rfl ?_
        have k15 : sv_R (S 1074 0) := sm_okI ok1 sm_r1074 0
        have h := h k15
        refine sv_getI hM dX12_count_179 sm_fl_861 (sm_a0 _) sm_k74 rfl (x := (S 1074 0)) rfl ?_
        refine sv_goto hM dX12_count_182 (pc' := 186) rfl ?_
        exact sv_iret hM dX12_count_186 rfl rfl ⟨(S 1074 0), rfl, k15, ok1, md2, h⟩
    have J9 : (p1 = (8 : Int)) → sv_T sm_XS sm_cs sm_L sm_sh 0 (q_count p1 S) 192 187 [(0, .ref 0), (1, sv_I p1), (2, sv_I (0 : Int))] [] (sv_up S 1000 0 (0 : Int)) := by
      intro hc
      have h := hS.2.2.2.2.2.2.2.2.2.1 hc
      refine sv_iload_n hM dX12_count_187 rfl rfl ?_
      refine sv_cond_eq hM dX12_count_188 (⟨by decide, by decide⟩ : sv_R (0 : Int)) (t := 198) rfl rfl (fun hc => ?_) (fun hc => ?_)
      · have h := h.1 (hc)
        refine sv_iconst (d := (0 : Int)) hM dX12_count_198 rfl rfl ?_
        exact sv_iret hM dX12_count_199 rfl rfl ⟨(0 : Int), rfl, (⟨by decide, by decide⟩ : sv_R (0 : Int)), ok1, md2, h⟩
      · have h := h.2 (hc)
        refine sv_aload_n hM dX12_count_191 rfl rfl ?_
        have k16 : sv_R (S 1076 0) := sm_okI ok1 sm_r1076 0
        have h := h k16
        refine sv_getI hM dX12_count_192 sm_fl_843 (sm_a0 _) sm_k76 rfl (x := (S 1076 0)) rfl ?_
        refine sv_goto hM dX12_count_195 (pc' := 199) rfl ?_
        exact sv_iret hM dX12_count_199 rfl rfl ⟨(S 1076 0), rfl, k16, ok1, md2, h⟩
    have J10 : (p1 = (9 : Int)) → sv_T sm_XS sm_cs sm_L sm_sh 0 (q_count p1 S) 192 200 [(0, .ref 0), (1, sv_I p1), (2, sv_I (0 : Int))] [] (sv_up S 1000 0 (0 : Int)) := by
      intro hc
      have h := hS.2.2.2.2.2.2.2.2.2.2.1 hc
      refine sv_iload_n hM dX12_count_200 rfl rfl ?_
      refine sv_cond_eq hM dX12_count_201 (⟨by decide, by decide⟩ : sv_R (0 : Int)) (t := 211) rfl rfl (fun hc => ?_) (fun hc => ?_)
      · have h := h.1 (hc)
        refine sv_iconst (d := (0 : Int)) hM dX12_count_211 rfl rfl ?_
        exact sv_iret hM dX12_count_212 rfl rfl ⟨(0 : Int), rfl, (⟨by decide, by decide⟩ : sv_R (0 : Int)), ok1, md2, h⟩
      · have h := h.2 (hc)
        refine sv_aload_n hM dX12_count_204 rfl rfl ?_
        have k17 : sv_R (S 1007 0) := sm_okI ok1 sm_r1007 0
        have h := h k17
        refine sv_getI hM dX12_count_205 sm_fl_296 (sm_a0 _) sm_k7 rfl (x := (S 1007 0)) rfl ?_
        refine sv_goto hM dX12_count_208 (pc' := 212) rfl ?_
        exact sv_iret hM dX12_count_212 rfl rfl ⟨(S 1007 0), rfl, k17, ok1, md2, h⟩
    have J11 : (p1 = (10 : Int)) → sv_T sm_XS sm_cs sm_L sm_sh 0 (q_count p1 S) 192 213 [(0, .ref 0), (1, sv_I p1), (2, sv_I (0 : Int))] [] (sv_up S 1000 0 (0 : Int)) := by
      intro hc
      have h := hS.2.2.2.2.2.2.2.2.2.2.2.1 hc
      refine sv_iload_n hM dX12_count_213 rfl rfl ?_
      refine sv_cond_eq hM dX12_count_214 (⟨by decide, by decide⟩ : sv_R (0 : Int)) (t := 224) rfl rfl (fun hc => ?_) (fun hc => ?_)
      · have h := h.1 (hc)
        refine sv_iconst (d := (0 : Int)) hM dX12_count_224 rfl rfl ?_
        exact sv_iret hM dX12_count_225 rfl rfl ⟨(0 : Int), rfl, (⟨by decide, by decide⟩ : sv_R (0 : Int)), ok1, md2, h⟩
      · have h := h.2 (hc)
        refine sv_aload_n hM dX12_count_217 rfl rfl ?_
        have k18 : sv_R (S 1107 0) := sm_okI ok1 sm_r1107 0
        have h := h k18
        refine sv_getI hM dX12_count_218 sm_fl_864 (sm_a0 _) sm_k107 rfl (x := (S 1107 0)) rfl ?_
        refine sv_goto hM dX12_count_221 (pc' := 225) rfl ?_
        exact sv_iret hM dX12_count_225 rfl rfl ⟨(S 1107 0), rfl, k18, ok1, md2, h⟩
    have J12 : (p1 = (11 : Int)) → sv_T sm_XS sm_cs sm_L sm_sh 0 (q_count p1 S) 192 226 [(0, .ref 0), (1, sv_I p1), (2, sv_I (0 : Int))] [] (sv_up S 1000 0 (0 : Int)) := by
      intro hc
      have h := hS.2.2.2.2.2.2.2.2.2.2.2.2.1 hc
      refine sv_iload_n hM dX12_count_226 rfl rfl ?_
      refine sv_cond_eq hM dX12_count_227 (⟨by decide, by decide⟩ : sv_R (0 : Int)) (t := 237) rfl rfl (fun hc => ?_) (fun hc => ?_)
      · have h := h.1 (hc)
        refine sv_iconst (d := (0 : Int)) hM dX12_count_237 rfl rfl ?_
        exact sv_iret hM dX12_count_238 rfl rfl ⟨(0 : Int), rfl, (⟨by decide, by decide⟩ : sv_R (0 : Int)), ok1, md2, h⟩
      · have h := h.2 (hc)
        refine sv_aload_n hM dX12_count_230 rfl rfl ?_
        have k19 : sv_R (S 1092 0) := sm_okI ok1 sm_r1092 0
        have h := h k19
        refine sv_getI hM dX12_count_231 sm_fl_872 (sm_a0 _) sm_k92 rfl (x := (S 1092 0)) rfl ?_
        refine sv_goto hM dX12_count_234 (pc' := 238) rfl ?_
        exact sv_iret hM dX12_count_238 rfl rfl ⟨(S 1092 0), rfl, k19, ok1, md2, h⟩
    have J13 : (p1 = (12 : Int)) → sv_T sm_XS sm_cs sm_L sm_sh 0 (q_count p1 S) 192 239 [(0, .ref 0), (1, sv_I p1), (2, sv_I (0 : Int))] [] (sv_up S 1000 0 (0 : Int)) := by
      intro hc
      have h := hS.2.2.2.2.2.2.2.2.2.2.2.2.2 hc
      refine sv_aload_n hM dX12_count_239 rfl rfl ?_
      have k20 : (0 ≤ (S 1119 0) ∧ (S 1119 0) ≤ 1) := sm_okZ ok1 sm_r1119 0
      have h := h k20
      refine sv_getI hM dX12_count_240 sm_fl_776 (sm_a0 _) sm_k119 rfl (x := (S 1119 0)) rfl ?_
      refine sv_cond_eq hM dX12_count_243 (sv_R01 k20) (t := 253) rfl rfl (fun hc => ?_) (fun hc => ?_)
      · have h := h.1 (hc)
        refine sv_iconst (d := (-1 : Int)) hM dX12_count_253 rfl rfl ?_
        exact sv_iret hM dX12_count_254 rfl rfl ⟨(-1 : Int), rfl, (⟨by decide, by decide⟩ : sv_R (-1 : Int)), ok1, md2, h⟩
      · have h := h.2 (hc)
        refine sv_aload_n hM dX12_count_246 rfl rfl ?_
        have k21 : sv_R (S 1120 0) := sm_okI ok1 sm_r1120 0
        have h := h k21
        refine sv_getI hM dX12_count_247 sm_fl_1034 (sm_a0 _) sm_k120 rfl (x := (S 1120 0)) rfl ?_
        refine sv_goto hM dX12_count_250 (pc' := 254) rfl ?_
        exact sv_iret hM dX12_count_254 rfl rfl ⟨(S 1120 0), rfl, k21, ok1, md2, h⟩
    refine sv_tsw hM dX12_count_19 hp1 (t := 255) rfl (fun hc => J0 (by rcases hc with hc | hc; exact Or.inl hc; exact Or.inr hc)) (fun hc => ?_)
    have hv : p1 = (0 : Int) ∨ p1 = (1 : Int) ∨ p1 = (2 : Int) ∨ p1 = (3 : Int) ∨ p1 = (4 : Int) ∨ p1 = (5 : Int) ∨ p1 = (6 : Int) ∨ p1 = (7 : Int) ∨ p1 = (8 : Int) ∨ p1 = (9 : Int) ∨ p1 = (10 : Int) ∨ p1 = (11 : Int) ∨ p1 = (12 : Int) := by omega
    rcases hv with hv | hv | hv | hv | hv | hv | hv | hv | hv | hv | hv | hv | hv
    · exact ⟨65, 84, by rw [hv]; rfl, rfl, J1 (by omega)⟩
    · exact ⟨81, 100, by rw [hv]; rfl, rfl, J2 (by omega)⟩
    · exact ⟨97, 116, by rw [hv]; rfl, rfl, J3 (by omega)⟩
    · exact ⟨113, 132, by rw [hv]; rfl, rfl, J4 (by omega)⟩
    · exact ⟨129, 148, by rw [hv]; rfl, rfl, J5 (by omega)⟩
    · exact ⟨145, 164, by rw [hv]; rfl, rfl, J6 (by omega)⟩
    · exact ⟨150, 169, by rw [hv]; rfl, rfl, J7 (by omega)⟩
    · exact ⟨155, 174, by rw [hv]; rfl, rfl, J8 (by omega)⟩
    · exact ⟨168, 187, by rw [hv]; rfl, rfl, J9 (by omega)⟩
    · exact ⟨181, 200, by rw [hv]; rfl, rfl, J10 (by omega)⟩
    · exact ⟨194, 213, by rw [hv]; rfl, rfl, J11 (by omega)⟩
    · exact ⟨207, 226, by rw [hv]; rfl, rfl, J12 (by omega)⟩
    · exact ⟨220, 239, by rw [hv]; rfl, rfl, J13 (by omega)⟩
  · have h := h.2 (hc)
    refine sv_iconst (d := (1 : Int)) hM dX12_count_12 rfl rfl ?_
    refine sv_goto hM dX12_count_13 (pc' := 17) rfl ?_
    refine sv_istore_n hM dX12_count_17 (by decide) rfl ?_
    show sv_T sm_XS sm_cs sm_L sm_sh 0 (q_count p1 S) 192 18 [(0, .ref 0), (1, sv_I p1), (2, sv_I (1 : Int))] [] (sv_up S 1000 0 (0 : Int))
    refine sv_iload_n hM dX12_count_18 rfl rfl ?_
    have hS := h
    have J0 : (p1 < (0 : Int) ∨ (12 : Int) < p1) → sv_T sm_XS sm_cs sm_L sm_sh 0 (q_count p1 S) 192 255 [(0, .ref 0), (1, sv_I p1), (2, sv_I (1 : Int))] [] (sv_up S 1000 0 (0 : Int)) := by
      intro hc
      have h := hS.1 hc
      refine sv_iconst (d := (-1 : Int)) hM dX12_count_255 rfl rfl ?_
      exact sv_iret hM dX12_count_256 rfl rfl ⟨(-1 : Int), rfl, (⟨by decide, by decide⟩ : sv_R (-1 : Int)), ok1, md2, h⟩
    have J1 : (p1 = (0 : Int)) → sv_T sm_XS sm_cs sm_L sm_sh 0 (q_count p1 S) 192 84 [(0, .ref 0), (1, sv_I p1), (2, sv_I (1 : Int))] [] (sv_up S 1000 0 (0 : Int)) := by
      intro hc
      have h := hS.2.1 hc
      refine sv_aload_n hM dX12_count_84 rfl rfl ?_
      have k22 : (0 ≤ (S 1072 0) ∧ (S 1072 0) ≤ 1) := sm_okZ ok1 sm_r1072 0
      have h := h k22
      refine sv_getI hM dX12_count_85 sm_fl_770 (sm_a0 _) sm_k72 rfl (x := (S 1072 0)) rfl ?_
      refine sv_cond_eq hM dX12_count_88 (sv_R01 k22) (t := 98) rfl rfl (fun hc => ?_) (fun hc => ?_)
      · have h := h.1 (hc)
        refine sv_iconst (d := (0 : Int)) hM dX12_count_98 rfl rfl ?_
        exact sv_iret hM dX12_count_99 rfl rfl ⟨(0 : Int), rfl, (⟨by decide, by decide⟩ : sv_R (0 : Int)), ok1, md2, h⟩
      · have h := h.2 (hc)
        refine sv_aload_n hM dX12_count_91 rfl rfl ?_
        have k23 : sv_R (S 1046 0) := sm_okI ok1 sm_r1046 0
        have h := h k23
        refine sv_getI hM dX12_count_92 sm_fl_606 (sm_a0 _) sm_k46 rfl (x := (S 1046 0)) rfl ?_
        refine sv_goto hM dX12_count_95 (pc' := 99) rfl ?_
        exact sv_iret hM dX12_count_99 rfl rfl ⟨(S 1046 0), rfl, k23, ok1, md2, h⟩
    have J2 : (p1 = (1 : Int)) → sv_T sm_XS sm_cs sm_L sm_sh 0 (q_count p1 S) 192 100 [(0, .ref 0), (1, sv_I p1), (2, sv_I (1 : Int))] [] (sv_up S 1000 0 (0 : Int)) := by
      intro hc
      have h := hS.2.2.1 hc
      refine sv_aload_n hM dX12_count_100 rfl rfl ?_
      have k24 : (0 ≤ (S 1072 0) ∧ (S 1072 0) ≤ 1) := sm_okZ ok1 sm_r1072 0
      have h := h k24
      refine sv_getI hM dX12_count_101 sm_fl_770 (sm_a0 _) sm_k72 rfl (x := (S 1072 0)) rfl ?_
      refine sv_cond_eq hM dX12_count_104 (sv_R01 k24) (t := 114) rfl rfl (fun hc => ?_) (fun hc => ?_)
      · have h := h.1 (hc)
        refine sv_iconst (d := (0 : Int)) hM dX12_count_114 rfl rfl ?_
        exact sv_iret hM dX12_count_115 rfl rfl ⟨(0 : Int), rfl, (⟨by decide, by decide⟩ : sv_R (0 : Int)), ok1, md2, h⟩
      · have h := h.2 (hc)
        refine sv_aload_n hM dX12_count_107 rfl rfl ?_
        have k25 : sv_R (S 1032 0) := sm_okI ok1 sm_r1032 0
        have h := h k25
        refine sv_getI hM dX12_count_108 sm_fl_527 (sm_a0 _) sm_k32 rfl (x := (S 1032 0)) rfl ?_
        refine sv_goto hM dX12_count_111 (pc' := 115) rfl ?_
        exact sv_iret hM dX12_count_115 rfl rfl ⟨(S 1032 0), rfl, k25, ok1, md2, h⟩
    have J3 : (p1 = (2 : Int)) → sv_T sm_XS sm_cs sm_L sm_sh 0 (q_count p1 S) 192 116 [(0, .ref 0), (1, sv_I p1), (2, sv_I (1 : Int))] [] (sv_up S 1000 0 (0 : Int)) := by
      intro hc
      have h := hS.2.2.2.1 hc
      refine sv_aload_n hM dX12_count_116 rfl rfl ?_
      have k26 : (0 ≤ (S 1072 0) ∧ (S 1072 0) ≤ 1) := sm_okZ ok1 sm_r1072 0
      have h := h k26
      refine sv_getI hM dX12_count_117 sm_fl_770 (sm_a0 _) sm_k72 rfl (x := (S 1072 0)) rfl ?_
      refine sv_cond_eq hM dX12_count_120 (sv_R01 k26) (t := 130) rfl rfl (fun hc => ?_) (fun hc => ?_)
      · have h := h.1 (hc)
        refine sv_iconst (d := (0 : Int)) hM dX12_count_130 rfl rfl ?_
        exact sv_iret hM dX12_count_131 rfl rfl ⟨(0 : Int), rfl, (⟨by decide, by decide⟩ : sv_R (0 : Int)), ok1, md2, h⟩
      · have h := h.2 (hc)
        refine sv_aload_n hM dX12_count_123 rfl rfl ?_
        have k27 : sv_R (S 1008 0) := sm_okI ok1 sm_r1008 0
        have h := h k27
        refine sv_getI hM dX12_count_124 sm_fl_762 (sm_a0 _) sm_k8 rfl (x := (S 1008 0)) rfl ?_
        refine sv_goto hM dX12_count_127 (pc' := 131) rfl ?_
        exact sv_iret hM dX12_count_131 rfl rfl ⟨(S 1008 0), rfl, k27, ok1, md2, h⟩
    have J4 : (p1 = (3 : Int)) → sv_T sm_XS sm_cs sm_L sm_sh 0 (q_count p1 S) 192 132 [(0, .ref 0), (1, sv_I p1), (2, sv_I (1 : Int))] [] (sv_up S 1000 0 (0 : Int)) := by
      intro hc
      have h := hS.2.2.2.2.1 hc
      refine sv_aload_n hM dX12_count_132 rfl rfl ?_
      have k28 : (0 ≤ (S 1072 0) ∧ (S 1072 0) ≤ 1) := sm_okZ ok1 sm_r1072 0
      have h := h k28
      refine sv_getI hM dX12_count_133 sm_fl_770 (sm_a0 _) sm_k72 rfl (x := (S 1072 0)) rfl ?_
      refine sv_cond_eq hM dX12_count_136 (sv_R01 k28) (t := 146) rfl rfl (fun hc => ?_) (fun hc => ?_)
      · have h := h.1 (hc)
        refine sv_iconst (d := (0 : Int)) hM dX12_count_146 rfl rfl ?_
        exact sv_iret hM dX12_count_147 rfl rfl ⟨(0 : Int), rfl, (⟨by decide, by decide⟩ : sv_R (0 : Int)), ok1, md2, h⟩
      · have h := h.2 (hc)
        refine sv_aload_n hM dX12_count_139 rfl rfl ?_
        have k29 : sv_R (S 1071 0) := sm_okI ok1 sm_r1071 0
        have h := h k29
        refine sv_getI hM dX12_count_140 sm_fl_765 (sm_a0 _) sm_k71 rfl (x := (S 1071 0)) rfl ?_
        refine sv_goto hM dX12_count_143 (pc' := 147) rfl ?_
        exact sv_iret hM dX12_count_147 rfl rfl ⟨(S 1071 0), rfl, k29, ok1, md2, h⟩
    have J5 : (p1 = (4 : Int)) → sv_T sm_XS sm_cs sm_L sm_sh 0 (q_count p1 S) 192 148 [(0, .ref 0), (1, sv_I p1), (2, sv_I (1 : Int))] [] (sv_up S 1000 0 (0 : Int)) := by
      intro hc
      have h := hS.2.2.2.2.2.1 hc
      refine sv_aload_n hM dX12_count_148 rfl rfl ?_
      have k30 : (0 ≤ (S 1072 0) ∧ (S 1072 0) ≤ 1) := sm_okZ ok1 sm_r1072 0
      have h := h k30
      refine sv_getI hM dX12_count_149 sm_fl_770 (sm_a0 _) sm_k72 rfl (x := (S 1072 0)) rfl ?_
      refine sv_cond_eq hM dX12_count_152 (sv_R01 k30) (t := 162) rfl rfl (fun hc => ?_) (fun hc => ?_)
      · have h := h.1 (hc)
        refine sv_iconst (d := (0 : Int)) hM dX12_count_162 rfl rfl ?_
        exact sv_iret hM dX12_count_163 rfl rfl ⟨(0 : Int), rfl, (⟨by decide, by decide⟩ : sv_R (0 : Int)), ok1, md2, h⟩
      · have h := h.2 (hc)
        refine sv_aload_n hM dX12_count_155 rfl rfl ?_
        have k31 : sv_R (S 1055 0) := sm_okI ok1 sm_r1055 0
        have h := h k31
        refine sv_getI hM dX12_count_156 sm_fl_689 (sm_a0 _) sm_k55 rfl (x := (S 1055 0)) rfl ?_
        refine sv_goto hM dX12_count_159 (pc' := 163) rfl ?_
        exact sv_iret hM dX12_count_163 rfl rfl ⟨(S 1055 0), rfl, k31, ok1, md2, h⟩
    have J6 : (p1 = (5 : Int)) → sv_T sm_XS sm_cs sm_L sm_sh 0 (q_count p1 S) 192 164 [(0, .ref 0), (1, sv_I p1), (2, sv_I (1 : Int))] [] (sv_up S 1000 0 (0 : Int)) := by
      intro hc
      have h := hS.2.2.2.2.2.2.1 hc
      refine sv_aload_n hM dX12_count_164 rfl rfl ?_
      have k32 : sv_R (S 1002 0) := sm_okI ok1 sm_r1002 0
      have h := h k32
      refine sv_getI hM dX12_count_165 sm_fl_293 (sm_a0 _) sm_k2 rfl (x := (S 1002 0)) rfl ?_
      exact sv_iret hM dX12_count_168 rfl rfl ⟨(S 1002 0), rfl, k32, ok1, md2, h⟩
    have J7 : (p1 = (6 : Int)) → sv_T sm_XS sm_cs sm_L sm_sh 0 (q_count p1 S) 192 169 [(0, .ref 0), (1, sv_I p1), (2, sv_I (1 : Int))] [] (sv_up S 1000 0 (0 : Int)) := by
      intro hc
      have h := hS.2.2.2.2.2.2.2.1 hc
      refine sv_aload_n hM dX12_count_169 rfl rfl ?_
      refine sv_getI hM dX12_count_170 sm_fl_773 (sm_a0 _) sm_k73 rfl (x := (S 1073 0)) rfl ?_
      exact sv_iret hM dX12_count_173 rfl rfl ⟨(S 1073 0), rfl, k3, ok1, md2, h⟩
    have J8 : (p1 = (7 : Int)) → sv_T sm_XS sm_cs sm_L sm_sh 0 (q_count p1 S) 192 174 [(0, .ref 0), (1, sv_I p1), (2, sv_I (1 : Int))] [] (sv_up S 1000 0 (0 : Int)) := by
      intro hc
      have h := hS.2.2.2.2.2.2.2.2.1 hc
      refine sv_iload_n hM dX12_count_174 rfl rfl ?_
      refine sv_cond_eq hM dX12_count_175 (⟨by decide, by decide⟩ : sv_R (1 : Int)) (t := 185) rfl rfl (fun hc => ?_) (fun hc => ?_)
      · have h := h.1 (hc)
        refine sv_iconst (d := (0 : Int)) hM dX12_count_185 rfl rfl ?_
        exact sv_iret hM dX12_count_186 rfl rfl ⟨(0 : Int), rfl, (⟨by decide, by decide⟩ : sv_R (0 : Int)), ok1, md2, h⟩
      · have h := h.2 (hc)
        refine sv_aload_n hM dX12_count_178 rfl rfl ?_
        have k33 : sv_R (S 1074 0) := sm_okI ok1 sm_r1074 0
        have h := h k33
        refine sv_getI hM dX12_count_179 sm_fl_861 (sm_a0 _) sm_k74 rfl (x := (S 1074 0)) rfl ?_
        refine sv_goto hM dX12_count_182 (pc' := 186) rfl ?_
        exact sv_iret hM dX12_count_186 rfl rfl ⟨(S 1074 0), rfl, k33, ok1, md2, h⟩
    have J9 : (p1 = (8 : Int)) → sv_T sm_XS sm_cs sm_L sm_sh 0 (q_count p1 S) 192 187 [(0, .ref 0), (1, sv_I p1), (2, sv_I (1 : Int))] [] (sv_up S 1000 0 (0 : Int)) := by
      intro hc
      have h := hS.2.2.2.2.2.2.2.2.2.1 hc
      refine sv_iload_n hM dX12_count_187 rfl rfl ?_
      refine sv_cond_eq hM dX12_count_188 (⟨by decide, by decide⟩ : sv_R (1 : Int)) (t := 198) rfl rfl (fun hc => ?_) (fun hc => ?_)
      · have h := h.1 (hc)
        refine sv_iconst (d := (0 : Int)) hM dX12_count_198 rfl rfl ?_
        exact sv_iret hM dX12_count_199 rfl rfl ⟨(0 : Int), rfl, (⟨by decide, by decide⟩ : sv_R (0 : Int)), ok1, md2, h⟩
      · have h := h.2 (hc)
        refine sv_aload_n hM dX12_count_191 rfl rfl ?_
        have k34 : sv_R (S 1076 0) := sm_okI ok1 sm_r1076 0
        have h := h k34
        refine sv_getI hM dX12_count_192 sm_fl_843 (sm_a0 _) sm_k76 rfl (x := (S 1076 0)) rfl ?_
        refine sv_goto hM dX12_count_195 (pc' := 199) rfl ?_
        exact sv_iret hM dX12_count_199 rfl rfl ⟨(S 1076 0), rfl, k34, ok1, md2, h⟩
    have J10 : (p1 = (9 : Int)) → sv_T sm_XS sm_cs sm_L sm_sh 0 (q_count p1 S) 192 200 [(0, .ref 0), (1, sv_I p1), (2, sv_I (1 : Int))] [] (sv_up S 1000 0 (0 : Int)) := by
      intro hc
      have h := hS.2.2.2.2.2.2.2.2.2.2.1 hc
      refine sv_iload_n hM dX12_count_200 rfl rfl ?_
      refine sv_cond_eq hM dX12_count_201 (⟨by decide, by decide⟩ : sv_R (1 : Int)) (t := 211) rfl rfl (fun hc => ?_) (fun hc => ?_)
      · have h := h.1 (hc)
        refine sv_iconst (d := (0 : Int)) hM dX12_count_211 rfl rfl ?_
        exact sv_iret hM dX12_count_212 rfl rfl ⟨(0 : Int), rfl, (⟨by decide, by decide⟩ : sv_R (0 : Int)), ok1, md2, h⟩
      · have h := h.2 (hc)
        refine sv_aload_n hM dX12_count_204 rfl rfl ?_
        have k35 : sv_R (S 1007 0) := sm_okI ok1 sm_r1007 0
        have h := h k35
        refine sv_getI hM dX12_count_205 sm_fl_296 (sm_a0 _) sm_k7 rfl (x := (S 1007 0)) rfl ?_
        refine sv_goto hM dX12_count_208 (pc' := 212) rfl ?_
        exact sv_iret hM dX12_count_212 rfl rfl ⟨(S 1007 0), rfl, k35, ok1, md2, h⟩
    have J11 : (p1 = (10 : Int)) → sv_T sm_XS sm_cs sm_L sm_sh 0 (q_count p1 S) 192 213 [(0, .ref 0), (1, sv_I p1), (2, sv_I (1 : Int))] [] (sv_up S 1000 0 (0 : Int)) := by
      intro hc
      have h := hS.2.2.2.2.2.2.2.2.2.2.2.1 hc
      refine sv_iload_n hM dX12_count_213 rfl rfl ?_
      refine sv_cond_eq hM dX12_count_214 (⟨by decide, by decide⟩ : sv_R (1 : Int)) (t := 224) rfl rfl (fun hc => ?_) (fun hc => ?_)
      · have h := h.1 (hc)
        refine sv_iconst (d := (0 : Int)) hM dX12_count_224 rfl rfl ?_
        exact sv_iret hM dX12_count_225 rfl rfl ⟨(0 : Int), rfl, (⟨by decide, by decide⟩ : sv_R (0 : Int)), ok1, md2, h⟩
      · have h := h.2 (hc)
        refine sv_aload_n hM dX12_count_217 rfl rfl ?_
        have k36 : sv_R (S 1107 0) := sm_okI ok1 sm_r1107 0
        have h := h k36
        refine sv_getI hM dX12_count_218 sm_fl_864 (sm_a0 _) sm_k107 rfl (x := (S 1107 0)) rfl ?_
        refine sv_goto hM dX12_count_221 (pc' := 225) rfl ?_
        exact sv_iret hM dX12_count_225 rfl rfl ⟨(S 1107 0), rfl, k36, ok1, md2, h⟩
    have J12 : (p1 = (11 : Int)) → sv_T sm_XS sm_cs sm_L sm_sh 0 (q_count p1 S) 192 226 [(0, .ref 0), (1, sv_I p1), (2, sv_I (1 : Int))] [] (sv_up S 1000 0 (0 : Int)) := by
      intro hc
      have h := hS.2.2.2.2.2.2.2.2.2.2.2.2.1 hc
      refine sv_iload_n hM dX12_count_226 rfl rfl ?_
      refine sv_cond_eq hM dX12_count_227 (⟨by decide, by decide⟩ : sv_R (1 : Int)) (t := 237) rfl rfl (fun hc => ?_) (fun hc => ?_)
      · have h := h.1 (hc)
        refine sv_iconst (d := (0 : Int)) hM dX12_count_237 rfl rfl ?_
        exact sv_iret hM dX12_count_238 rfl rfl ⟨(0 : Int), rfl, (⟨by decide, by decide⟩ : sv_R (0 : Int)), ok1, md2, h⟩
      · have h := h.2 (hc)
        refine sv_aload_n hM dX12_count_230 rfl rfl ?_
        have k37 : sv_R (S 1092 0) := sm_okI ok1 sm_r1092 0
        have h := h k37
        refine sv_getI hM dX12_count_231 sm_fl_872 (sm_a0 _) sm_k92 rfl (x := (S 1092 0)) rfl ?_
        refine sv_goto hM dX12_count_234 (pc' := 238) rfl ?_
        exact sv_iret hM dX12_count_238 rfl rfl ⟨(S 1092 0), rfl, k37, ok1, md2, h⟩
    have J13 : (p1 = (12 : Int)) → sv_T sm_XS sm_cs sm_L sm_sh 0 (q_count p1 S) 192 239 [(0, .ref 0), (1, sv_I p1), (2, sv_I (1 : Int))] [] (sv_up S 1000 0 (0 : Int)) := by
      intro hc
      have h := hS.2.2.2.2.2.2.2.2.2.2.2.2.2 hc
      refine sv_aload_n hM dX12_count_239 rfl rfl ?_
      have k38 : (0 ≤ (S 1119 0) ∧ (S 1119 0) ≤ 1) := sm_okZ ok1 sm_r1119 0
      have h := h k38
      refine sv_getI hM dX12_count_240 sm_fl_776 (sm_a0 _) sm_k119 rfl (x := (S 1119 0)) rfl ?_
      refine sv_cond_eq hM dX12_count_243 (sv_R01 k38) (t := 253) rfl rfl (fun hc => ?_) (fun hc => ?_)
      · have h := h.1 (hc)
        refine sv_iconst (d := (-1 : Int)) hM dX12_count_253 rfl rfl ?_
        exact sv_iret hM dX12_count_254 rfl rfl ⟨(-1 : Int), rfl, (⟨by decide, by decide⟩ : sv_R (-1 : Int)), ok1, md2, h⟩
      · have h := h.2 (hc)
        refine sv_aload_n hM dX12_count_246 rfl rfl ?_
        have k39 : sv_R (S 1120 0) := sm_okI ok1 sm_r1120 0
        have h := h k39
        refine sv_getI hM dX12_count_247 sm_fl_1034 (sm_a0 _) sm_k120 rfl (x := (S 1120 0)) rfl ?_
        refine sv_goto hM dX12_count_250 (pc' := 254) rfl ?_
        exact sv_iret hM dX12_count_254 rfl rfl ⟨(S 1120 0), rfl, k39, ok1, md2, h⟩
    refine sv_tsw hM dX12_count_19 hp1 (t := 255) rfl (fun hc => J0 (by rcases hc with hc | hc; exact Or.inl hc; exact Or.inr hc)) (fun hc => ?_)
    have hv : p1 = (0 : Int) ∨ p1 = (1 : Int) ∨ p1 = (2 : Int) ∨ p1 = (3 : Int) ∨ p1 = (4 : Int) ∨ p1 = (5 : Int) ∨ p1 = (6 : Int) ∨ p1 = (7 : Int) ∨ p1 = (8 : Int) ∨ p1 = (9 : Int) ∨ p1 = (10 : Int) ∨ p1 = (11 : Int) ∨ p1 = (12 : Int) := by omega
    rcases hv with hv | hv | hv | hv | hv | hv | hv | hv | hv | hv | hv | hv | hv
    · exact ⟨65, 84, by rw [hv]; rfl, rfl, J1 (by omega)⟩
    · exact ⟨81, 100, by rw [hv]; rfl, rfl, J2 (by omega)⟩
    · exact ⟨97, 116, by rw [hv]; rfl, rfl, J3 (by omega)⟩
    · exact ⟨113, 132, by rw [hv]; rfl, rfl, J4 (by omega)⟩
    · exact ⟨129, 148, by rw [hv]; rfl, rfl, J5 (by omega)⟩
    · exact ⟨145, 164, by rw [hv]; rfl, rfl, J6 (by omega)⟩
    · exact ⟨150, 169, by rw [hv]; rfl, rfl, J7 (by omega)⟩
    · exact ⟨155, 174, by rw [hv]; rfl, rfl, J8 (by omega)⟩
    · exact ⟨168, 187, by rw [hv]; rfl, rfl, J9 (by omega)⟩
    · exact ⟨181, 200, by rw [hv]; rfl, rfl, J10 (by omega)⟩
    · exact ⟨194, 213, by rw [hv]; rfl, rfl, J11 (by omega)⟩
    · exact ⟨207, 226, by rw [hv]; rfl, rfl, J12 (by omega)⟩
    · exact ⟨220, 239, by rw [hv]; rfl, rfl, J13 (by omega)⟩
def q_letter (p1 : Int) (p2 : Int) (S : sv_S) : Option Value → sv_S → Prop := fun v S' => ∃ r : Int, v = some (sv_I r) ∧ sv_R r ∧ sm_ok S' ∧ sv_mod [1000] S S' ∧ (True)
theorem la_letter_0 {x0 : Int} (h0 : 0 ≤ x0) (h1 : ¬ x0 = 0) : 0 < x0 := by omega
theorem la_letter_1 {x0 : Int} (h0 : 0 ≤ x0) (h1 : x0 ≤ 400) : sv_R (x0 - 1) := by omega
theorem la_letter_2 {x0 x1 : Int} (h0 : x0 ≤ 400) (h1 : 0 ≤ x1) (h2 : x1 ≤ x0 - 1) : 0 ≤ x1 ∧ x1 < 400 := by omega
theorem la_letter_3 {x0 x1 : Int} (h0 : x0 ≤ 400) (h1 : x1 ≤ x0 - 1) : x1 < 400 := by omega
theorem la_letter_4 {x0 : Int} (h0 : 0 ≤ x0) (h1 : x0 ≤ 90) : sv_R (x0 - 1) := by omega
theorem la_letter_5 {x0 x1 : Int} (h0 : 0 ≤ x0) (h1 : 0 ≤ x1) : 0 ≤ 60 * x0 + x1 := by omega
theorem la_letter_6 {x0 x1 x2 : Int} (h0 : x0 ≤ x1 - 1) (h1 : 60 * x2 + x1 ≤ 24000) : 60 * x2 + x0 < 24000 := by omega
set_option maxHeartbeats 2000000 in
theorem f_letter : ∀ (p1 : Int) (p2 : Int) (S : sv_S), sm_ok S → sv_R p1 → sv_R p2 → (0 ≤ (S 1007 0) ∧ (S 1007 0) ≤ 400 ∧ sm_LN (S 4) 400 (S 1007 0)) → ((0 ≤ (S 1072 0) ∧ (S 1072 0) ≤ 1) → ((((S 1072 0) = (0 : Int)) → (True)) ∧ ((¬ ((S 1072 0) = (0 : Int))) → (sv_R (S 1007 0) → (sv_R ((S 1007 0) - (1 : Int))) ∧ (((¬ ((0 : Int) ≤ p1 ∧ p1 ≤ ((S 1007 0) - (1 : Int)))) → (True)) ∧ (((0 : Int) ≤ p1 ∧ p1 ≤ ((S 1007 0) - (1 : Int))) → (0 ≤ p1 ∧ p1 < 400) ∧ (sv_R (S 4 p1) → (sv_R ((S 4 p1) - (1 : Int))) ∧ (((¬ ((0 : Int) ≤ p2 ∧ p2 ≤ ((S 4 p1) - (1 : Int)))) → (True)) ∧ (((0 : Int) ≤ p2 ∧ p2 ≤ ((S 4 p1) - (1 : Int))) → (0 ≤ (((60 : Int) * p1) + p2) ∧ (((60 : Int) * p1) + p2) < 24000) ∧ ((0 ≤ (S 3 (((60 : Int) * p1) + p2)) ∧ (S 3 (((60 : Int) * p1) + p2)) ≤ 65535) → (True))))))))))) := by
  intro p1
  intro p2
  intro S
  intro h1_
  intro h2_
  intro h3_
  rintro ⟨h4_, ⟨h5_, h6_⟩⟩
  rintro ⟨h7_, h8_⟩
  refine ⟨?_, ?_⟩
  · skip
    intro h9_
    exact trivial
  intro h10_
  intro h11_
  refine ⟨(la_letter_1 h4_ h5_), ?_⟩
  refine ⟨?_, ?_⟩
  · skip
    intro h12_
    exact trivial
  rintro ⟨h13_, h14_⟩
  refine ⟨(la_letter_2 h5_ h13_ h14_), ?_⟩
  intro h15_
  refine ⟨?_, ?_⟩
  · skip
    exact (la_letter_4 (sm_LN_at h6_ p1 h13_ (la_letter_3 h5_ h14_)).1 (sm_LN_at h6_ p1 h13_ (la_letter_3 h5_ h14_)).2.1)
  refine ⟨?_, ?_⟩
  · skip
    intro h16_
    exact trivial
  rintro ⟨h17_, h18_⟩
  refine ⟨?_, ?_⟩
  · skip
    refine ⟨(la_letter_5 h13_ h17_), ?_⟩
    exact (la_letter_6 h18_ (sm_LN_at h6_ p1 h13_ (la_letter_3 h5_ h14_)).2.2)
  rintro ⟨h19_, h20_⟩
  exact trivial
set_option maxRecDepth 8000 in
set_option maxHeartbeats 2000000 in
theorem t_letter : ∀ (p1 : Int) (p2 : Int) (S : sv_S), sm_ok S → sv_R p1 → sv_R p2 → (0 ≤ (S 1007 0) ∧ (S 1007 0) ≤ 400 ∧ sm_LN (S 4) 400 (S 1007 0)) → sv_T sm_XS sm_cs sm_L sm_sh 1 (q_letter p1 p2 S) 193 0 (lv_args 0 [.ref 0, sv_I p1, sv_I p2]) [] S := by
  intro p1 p2 S hok hp1 hp2 hpre
  have h := f_letter p1 p2 S hok hp1 hp2 hpre
  have hM := sm_h193
  show sv_T sm_XS sm_cs sm_L sm_sh 1 (q_letter p1 p2 S) 193 0 [(0, .ref 0), (1, sv_I p1), (2, sv_I p2)] [] S
  refine sv_aload_n hM dX12_letter_0 rfl rfl ?_
  refine sv_iconst (d := (0 : Int)) hM dX12_letter_1 rfl rfl ?_
  refine sv_putI sm_X hM dX12_letter_2 sm_fp_289 (sm_a0 _) sm_q0 (Or.inl rfl) rfl rfl rfl rfl ?_
  have ok1 : sm_ok (sv_up S 1000 0 (0 : Int)) := sm_upI hok sm_r1000 (⟨by decide, by decide⟩ : sv_R (0 : Int))
  have md2 : sv_mod [1000] S (sv_up S 1000 0 (0 : Int)) := sv_mod.up sv_mod.rf (by decide)
  refine sv_aload_n hM dX12_letter_5 rfl rfl ?_
  have k3 : (0 ≤ (S 1072 0) ∧ (S 1072 0) ≤ 1) := sm_okZ ok1 sm_r1072 0
  have h := h k3
  refine sv_getI hM dX12_letter_6 sm_fl_770 (sm_a0 _) sm_k72 rfl (x := (S 1072 0)) rfl ?_
  refine sv_cond_eq hM dX12_letter_9 (sv_R01 k3) (t := 56) rfl rfl (fun hc => ?_) (fun hc => ?_)
  · have h := h.1 (hc)
    refine sv_iconst (d := (-1 : Int)) hM dX12_letter_56 rfl rfl ?_
    exact sv_iret hM dX12_letter_57 rfl rfl ⟨(-1 : Int), rfl, (⟨by decide, by decide⟩ : sv_R (-1 : Int)), ok1, md2, h⟩
  · have h := h.2 (hc)
    refine sv_iload_n hM dX12_letter_12 rfl rfl ?_
    refine sv_iconst (d := (0 : Int)) hM dX12_letter_13 rfl rfl ?_
    refine sv_aload_n hM dX12_letter_14 rfl rfl ?_
    have k4 : sv_R (S 1007 0) := sm_okI ok1 sm_r1007 0
    have h := h k4
    refine sv_getI hM dX12_letter_15 sm_fl_296 (sm_a0 _) sm_k7 rfl (x := (S 1007 0)) rfl ?_
    refine sv_iconst (d := (1 : Int)) hM dX12_letter_18 rfl rfl ?_
    refine sv_isub hM dX12_letter_19 rfl ?_
    obtain ⟨o5, h⟩ := h
    refine sv_callS hM dX12_letter_20 sm_iv_899 (Nat.le_of_ble_eq_true rfl) rfl rfl (Nat.le_of_ble_eq_true rfl) sm_h4 (Nat.le_of_ble_eq_true rfl) (Nat.le_of_ble_eq_true rfl) (F' := 0) (Nat.le_of_ble_eq_true rfl) rfl (t_in p1 (0 : Int) ((S 1007 0) - (1 : Int)) (sv_up S 1000 0 (0 : Int)) ok1 hp1 (⟨by decide, by decide⟩ : sv_R (0 : Int)) o5) (fun v S1 hq => ?_)
    obtain ⟨rfl, hS1⟩ := hq
    obtain rfl : (sv_up S 1000 0 (0 : Int)) = S1 := hS1.symm
    show sv_T sm_XS sm_cs sm_L sm_sh 1 (q_letter p1 p2 S) 193 23 [(0, .ref 0), (1, sv_I p1), (2, sv_I p2)] [sv_I (if (0 : Int) ≤ p1 ∧ p1 ≤ ((S 1007 0) - (1 : Int)) then 1 else 0)] (sv_up S 1000 0 (0 : Int))
    refine sv_cond_eq hM dX12_letter_23 (sv_Rite : sv_R (if (0 : Int) ≤ p1 ∧ p1 ≤ ((S 1007 0) - (1 : Int)) then 1 else 0)) (t := 56) rfl rfl (fun hc => ?_) (fun hc => ?_)
    · have h := h.1 (sv_iten hc)
      refine sv_iconst (d := (-1 : Int)) hM dX12_letter_56 rfl rfl ?_
      exact sv_iret hM dX12_letter_57 rfl rfl ⟨(-1 : Int), rfl, (⟨by decide, by decide⟩ : sv_R (-1 : Int)), ok1, md2, h⟩
    · have h := h.2 (sv_itep hc)
      refine sv_iload_n hM dX12_letter_26 rfl rfl ?_
      refine sv_iconst (d := (0 : Int)) hM dX12_letter_27 rfl rfl ?_
      refine sv_aload_n hM dX12_letter_28 rfl rfl ?_
      refine sv_getA hM dX12_letter_29 sm_fl_20 (sm_a0 _) sm_k6 rfl ?_
      refine sv_iload_n hM dX12_letter_32 rfl rfl ?_
      obtain ⟨o6, h⟩ := h
      have k7 : sv_R (S 4 p1) := sm_okI ok1 sm_r4 p1
      have h := h k7
      refine sv_iald hM dX12_letter_33 (sm_a4 _) (by decide) o6.1 o6.2 rfl (x := (S 4 p1)) rfl ?_
      refine sv_iconst (d := (1 : Int)) hM dX12_letter_34 rfl rfl ?_
      refine sv_isub hM dX12_letter_35 rfl ?_
      obtain ⟨o8, h⟩ := h
      refine sv_callS hM dX12_letter_36 sm_iv_899 (Nat.le_of_ble_eq_true rfl) rfl rfl (Nat.le_of_ble_eq_true rfl) sm_h4 (Nat.le_of_ble_eq_true rfl) (Nat.le_of_ble_eq_true rfl) (F' := 0) (Nat.le_of_ble_eq_true rfl) rfl (t_in p2 (0 : Int) ((S 4 p1) - (1 : Int)) (sv_up S 1000 0 (0 : Int)) ok1 hp2 (⟨by decide, by decide⟩ : sv_R (0 : Int)) o8) (fun v S1 hq => ?_)
      obtain ⟨rfl, hS1⟩ := hq
      obtain rfl : (sv_up S 1000 0 (0 : Int)) = S1 := hS1.symm
      show sv_T sm_XS sm_cs sm_L sm_sh 1 (q_letter p1 p2 S) 193 39 [(0, .ref 0), (1, sv_I p1), (2, sv_I p2)] [sv_I (if (0 : Int) ≤ p2 ∧ p2 ≤ ((S 4 p1) - (1 : Int)) then 1 else 0)] (sv_up S 1000 0 (0 : Int))
      refine sv_cond_eq hM dX12_letter_39 (sv_Rite : sv_R (if (0 : Int) ≤ p2 ∧ p2 ≤ ((S 4 p1) - (1 : Int)) then 1 else 0)) (t := 56) rfl rfl (fun hc => ?_) (fun hc => ?_)
      · have h := h.1 (sv_iten hc)
        refine sv_iconst (d := (-1 : Int)) hM dX12_letter_56 rfl rfl ?_
        exact sv_iret hM dX12_letter_57 rfl rfl ⟨(-1 : Int), rfl, (⟨by decide, by decide⟩ : sv_R (-1 : Int)), ok1, md2, h⟩
      · have h := h.2 (sv_itep hc)
        refine sv_aload_n hM dX12_letter_42 rfl rfl ?_
        refine sv_getA hM dX12_letter_43 sm_fl_16 (sm_a0 _) sm_k5 rfl ?_
        refine sv_bipush (d := (60 : Int)) hM dX12_letter_46 rfl rfl ?_
        refine sv_iload_n hM dX12_letter_48 rfl rfl ?_
        refine sv_imul hM dX12_letter_49 rfl ?_
        refine sv_iload_n hM dX12_letter_50 rfl rfl ?_
        refine sv_iadd hM dX12_letter_51 rfl ?_
        obtain ⟨o9, h⟩ := h
        have k10 : (0 ≤ (S 3 (((60 : Int) * p1) + p2)) ∧ (S 3 (((60 : Int) * p1) + p2)) ≤ 65535) := sm_okC ok1 sm_r3 (((60 : Int) * p1) + p2)
        have h := h k10
        refine sv_cald hM dX12_letter_52 (sm_a3 _) (by decide) o9.1 o9.2 rfl (x := (S 3 (((60 : Int) * p1) + p2))) rfl ?_
        refine sv_goto hM dX12_letter_53 (pc' := 57) rfl ?_
        exact sv_iret hM dX12_letter_57 rfl rfl ⟨(S 3 (((60 : Int) * p1) + p2)), rfl, (sv_RC k10), ok1, md2, h⟩
def q_instruction (p1 : Int) (p2 : Int) (S : sv_S) : Option Value → sv_S → Prop := fun v S' => ∃ r : Int, v = some (sv_I r) ∧ sv_R r ∧ sm_ok S' ∧ sv_mod [1000] S S' ∧ (True)
theorem la_instruction_0 {x0 : Int} (h0 : 0 ≤ x0) (h1 : ¬ x0 = 0) : 0 < x0 := by omega
theorem la_instruction_1 {x0 : Int} (h0 : 0 ≤ x0) (h1 : x0 ≤ 600) : sv_R (x0 - 1) := by omega
theorem la_instruction_2 {x0 : Int} (h0 : 0 < x0) : 1 ≤ x0 := by omega
theorem la_instruction_3 {x0 : Int} (h0 : 1 ≤ x0) (h1 : ¬ x0 = 1) : 1 < x0 := by omega
theorem la_instruction_4 {x0 : Int} (h0 : 1 < x0) : 2 ≤ x0 := by omega
theorem la_instruction_5 {x0 : Int} (h0 : 2 ≤ x0) (h1 : ¬ x0 = 2) : 2 < x0 := by omega
theorem la_instruction_6 {x0 x1 : Int} (h0 : x0 ≤ 600) (h1 : 0 ≤ x1) (h2 : x1 ≤ x0 - 1) : 0 ≤ x1 ∧ x1 < 600 := by omega
set_option maxHeartbeats 2000000 in
theorem f_instruction : ∀ (p1 : Int) (p2 : Int) (S : sv_S), sm_ok S → sv_R p1 → sv_R p2 → (0 ≤ (S 1046 0) ∧ (S 1046 0) ≤ 600) → ((0 ≤ (S 1072 0) ∧ (S 1072 0) ≤ 1) → ((((S 1072 0) = (0 : Int)) → (True)) ∧ ((¬ ((S 1072 0) = (0 : Int))) → (sv_R (S 1046 0) → (sv_R ((S 1046 0) - (1 : Int))) ∧ (((¬ ((0 : Int) ≤ p1 ∧ p1 ≤ ((S 1046 0) - (1 : Int)))) → (True)) ∧ (((0 : Int) ≤ p1 ∧ p1 ≤ ((S 1046 0) - (1 : Int))) → ((((0 : Int) ≤ p2 ∧ p2 ≤ (3 : Int)) → (((¬ p2 = (0 : Int)) → (((¬ p2 = (1 : Int)) → (((¬ p2 = (2 : Int)) → (0 ≤ p1 ∧ p1 < 600) ∧ (sv_R (S 29 p1) → (True))) ∧ ((¬ (¬ p2 = (2 : Int))) → (0 ≤ p1 ∧ p1 < 600) ∧ (sv_R (S 28 p1) → (True))))) ∧ ((¬ (¬ p2 = (1 : Int))) → (0 ≤ p1 ∧ p1 < 600) ∧ (sv_R (S 27 p1) → (True))))) ∧ ((¬ (¬ p2 = (0 : Int))) → (0 ≤ p1 ∧ p1 < 600) ∧ (sv_R (S 26 p1) → (True))))) ∧ ((¬ ((0 : Int) ≤ p2 ∧ p2 ≤ (3 : Int))) → (True))))))))) := by
  intro p1
  intro p2
  intro S
  intro h1_
  intro h2_
  intro h3_
  rintro ⟨h4_, h5_⟩
  rintro ⟨h6_, h7_⟩
  refine ⟨?_, ?_⟩
  · skip
    intro h8_
    exact trivial
  intro h9_
  intro h10_
  refine ⟨(la_instruction_1 h4_ h5_), ?_⟩
  refine ⟨?_, ?_⟩
  · skip
    intro h11_
    exact trivial
  rintro ⟨h12_, h13_⟩
  refine ⟨?_, ?_⟩
  · skip
    rintro ⟨h14_, h15_⟩
    refine ⟨?_, ?_⟩
    · skip
      intro h16_
      refine ⟨?_, ?_⟩
      · skip
        intro h17_
        refine ⟨?_, ?_⟩
        · skip
          intro h18_
          refine ⟨(la_instruction_6 h5_ h12_ h13_), ?_⟩
          intro h19_
          exact trivial
        intro h20_
        refine ⟨(la_instruction_6 h5_ h12_ h13_), ?_⟩
        intro h21_
        exact trivial
      intro h22_
      refine ⟨(la_instruction_6 h5_ h12_ h13_), ?_⟩
      intro h23_
      exact trivial
    intro h24_
    refine ⟨(la_instruction_6 h5_ h12_ h13_), ?_⟩
    intro h25_
    exact trivial
  intro h26_
  exact trivial
set_option maxRecDepth 8000 in
set_option maxHeartbeats 2000000 in
theorem t_instruction : ∀ (p1 : Int) (p2 : Int) (S : sv_S), sm_ok S → sv_R p1 → sv_R p2 → (0 ≤ (S 1046 0) ∧ (S 1046 0) ≤ 600) → sv_T sm_XS sm_cs sm_L sm_sh 1 (q_instruction p1 p2 S) 194 0 (lv_args 0 [.ref 0, sv_I p1, sv_I p2]) [] S := by
  intro p1 p2 S hok hp1 hp2 hpre
  have h := f_instruction p1 p2 S hok hp1 hp2 hpre
  have hM := sm_h194
  show sv_T sm_XS sm_cs sm_L sm_sh 1 (q_instruction p1 p2 S) 194 0 [(0, .ref 0), (1, sv_I p1), (2, sv_I p2)] [] S
  refine sv_aload_n hM dX12_instruction_0 rfl rfl ?_
  refine sv_iconst (d := (0 : Int)) hM dX12_instruction_1 rfl rfl ?_
  refine sv_putI sm_X hM dX12_instruction_2 sm_fp_289 (sm_a0 _) sm_q0 (Or.inl rfl) rfl rfl rfl rfl ?_
  have ok1 : sm_ok (sv_up S 1000 0 (0 : Int)) := sm_upI hok sm_r1000 (⟨by decide, by decide⟩ : sv_R (0 : Int))
  have md2 : sv_mod [1000] S (sv_up S 1000 0 (0 : Int)) := sv_mod.up sv_mod.rf (by decide)
  refine sv_aload_n hM dX12_instruction_5 rfl rfl ?_
  have k3 : (0 ≤ (S 1072 0) ∧ (S 1072 0) ≤ 1) := sm_okZ ok1 sm_r1072 0
  have h := h k3
  refine sv_getI hM dX12_instruction_6 sm_fl_770 (sm_a0 _) sm_k72 rfl (x := (S 1072 0)) rfl ?_
  refine sv_cond_eq hM dX12_instruction_9 (sv_R01 k3) (t := 35) rfl rfl (fun hc => ?_) (fun hc => ?_)
  · have h := h.1 (hc)
    refine sv_iconst (d := (-1 : Int)) hM dX12_instruction_35 rfl rfl ?_
    exact sv_iret hM dX12_instruction_36 rfl rfl ⟨(-1 : Int), rfl, (⟨by decide, by decide⟩ : sv_R (-1 : Int)), ok1, md2, h⟩
  · have h := h.2 (hc)
    refine sv_iload_n hM dX12_instruction_12 rfl rfl ?_
    refine sv_iconst (d := (0 : Int)) hM dX12_instruction_13 rfl rfl ?_
    refine sv_aload_n hM dX12_instruction_14 rfl rfl ?_
    have k4 : sv_R (S 1046 0) := sm_okI ok1 sm_r1046 0
    have h := h k4
    refine sv_getI hM dX12_instruction_15 sm_fl_606 (sm_a0 _) sm_k46 rfl (x := (S 1046 0)) rfl ?_
    refine sv_iconst (d := (1 : Int)) hM dX12_instruction_18 rfl rfl ?_
    refine sv_isub hM dX12_instruction_19 rfl ?_
    obtain ⟨o5, h⟩ := h
    refine sv_callS hM dX12_instruction_20 sm_iv_899 (Nat.le_of_ble_eq_true rfl) rfl rfl (Nat.le_of_ble_eq_true rfl) sm_h4 (Nat.le_of_ble_eq_true rfl) (Nat.le_of_ble_eq_true rfl) (F' := 0) (Nat.le_of_ble_eq_true rfl) rfl (t_in p1 (0 : Int) ((S 1046 0) - (1 : Int)) (sv_up S 1000 0 (0 : Int)) ok1 hp1 (⟨by decide, by decide⟩ : sv_R (0 : Int)) o5) (fun v S1 hq => ?_)
    obtain ⟨rfl, hS1⟩ := hq
    obtain rfl : (sv_up S 1000 0 (0 : Int)) = S1 := hS1.symm
    show sv_T sm_XS sm_cs sm_L sm_sh 1 (q_instruction p1 p2 S) 194 23 [(0, .ref 0), (1, sv_I p1), (2, sv_I p2)] [sv_I (if (0 : Int) ≤ p1 ∧ p1 ≤ ((S 1046 0) - (1 : Int)) then 1 else 0)] (sv_up S 1000 0 (0 : Int))
    refine sv_cond_eq hM dX12_instruction_23 (sv_Rite : sv_R (if (0 : Int) ≤ p1 ∧ p1 ≤ ((S 1046 0) - (1 : Int)) then 1 else 0)) (t := 35) rfl rfl (fun hc => ?_) (fun hc => ?_)
    · have h := h.1 (sv_iten hc)
      refine sv_iconst (d := (-1 : Int)) hM dX12_instruction_35 rfl rfl ?_
      exact sv_iret hM dX12_instruction_36 rfl rfl ⟨(-1 : Int), rfl, (⟨by decide, by decide⟩ : sv_R (-1 : Int)), ok1, md2, h⟩
    · have h := h.2 (sv_itep hc)
      refine sv_iload_n hM dX12_instruction_26 rfl rfl ?_
      refine sv_iconst (d := (0 : Int)) hM dX12_instruction_27 rfl rfl ?_
      refine sv_iconst (d := (3 : Int)) hM dX12_instruction_28 rfl rfl ?_
      refine sv_callS hM dX12_instruction_29 sm_iv_899 (Nat.le_of_ble_eq_true rfl) rfl rfl (Nat.le_of_ble_eq_true rfl) sm_h4 (Nat.le_of_ble_eq_true rfl) (Nat.le_of_ble_eq_true rfl) (F' := 0) (Nat.le_of_ble_eq_true rfl) rfl (t_in p2 (0 : Int) (3 : Int) (sv_up S 1000 0 (0 : Int)) ok1 hp2 (⟨by decide, by decide⟩ : sv_R (0 : Int)) (⟨by decide, by decide⟩ : sv_R (3 : Int))) (fun v S1 hq => ?_)
      obtain ⟨rfl, hS1⟩ := hq
      obtain rfl : (sv_up S 1000 0 (0 : Int)) = S1 := hS1.symm
      show sv_T sm_XS sm_cs sm_L sm_sh 1 (q_instruction p1 p2 S) 194 32 [(0, .ref 0), (1, sv_I p1), (2, sv_I p2)] [sv_I (if (0 : Int) ≤ p2 ∧ p2 ≤ (3 : Int) then 1 else 0)] (sv_up S 1000 0 (0 : Int))
      refine sv_cond_ne hM dX12_instruction_32 (sv_Rite : sv_R (if (0 : Int) ≤ p2 ∧ p2 ≤ (3 : Int) then 1 else 0)) (t := 37) rfl rfl (fun hc => ?_) (fun hc => ?_)
      · have h := h.1 (sv_itep hc)
        refine sv_iload_n hM dX12_instruction_37 rfl rfl ?_
        refine sv_cond_ne hM dX12_instruction_38 hp2 (t := 50) rfl rfl (fun hc => ?_) (fun hc => ?_)
        · have h := h.1 (hc)
          refine sv_iload_n hM dX12_instruction_50 rfl rfl ?_
          refine sv_iconst (d := (1 : Int)) hM dX12_instruction_51 rfl rfl ?_
          refine sv_icmp_ne hM dX12_instruction_52 hp2 (⟨by decide, by decide⟩ : sv_R (1 : Int)) (t := 64) rfl rfl (fun hc => ?_) (fun hc => ?_)
          · have h := h.1 (hc)
            refine sv_iload_n hM dX12_instruction_64 rfl rfl ?_
            refine sv_iconst (d := (2 : Int)) hM dX12_instruction_65 rfl rfl ?_
            refine sv_icmp_ne hM dX12_instruction_66 hp2 (⟨by decide, by decide⟩ : sv_R (2 : Int)) (t := 78) rfl rfl (fun hc => ?_) (fun hc => ?_)
            · have h := h.1 (hc)
              refine sv_aload_n hM dX12_instruction_78 rfl rfl ?_
              refine sv_getA hM dX12_instruction_79 sm_fl_98 (sm_a0 _) sm_k51 rfl ?_
              refine sv_iload_n hM dX12_instruction_82 rfl rfl ?_
              obtain ⟨o6, h⟩ := h
              have k7 : sv_R (S 29 p1) := sm_okI ok1 sm_r29 p1
              have h := h k7
              refine sv_iald hM dX12_instruction_83 (sm_a29 _) (by decide) o6.1 o6.2 rfl (x := (S 29 p1)) rfl ?_
              exact sv_iret hM dX12_instruction_84 rfl rfl ⟨(S 29 p1), rfl, k7, ok1, md2, h⟩
            · have h := h.2 (hc)
              refine sv_aload_n hM dX12_instruction_69 rfl rfl ?_
              refine sv_getA hM dX12_instruction_70 sm_fl_95 (sm_a0 _) sm_k50 rfl ?_
              refine sv_iload_n hM dX12_instruction_73 rfl rfl ?_
              obtain ⟨o8, h⟩ := h
              have k9 : sv_R (S 28 p1) := sm_okI ok1 sm_r28 p1
              have h := h k9
              refine sv_iald hM dX12_instruction_74 (sm_a28 _) (by decide) o8.1 o8.2 rfl (x := (S 28 p1)) rfl ?_
              refine sv_goto hM dX12_instruction_75 (pc' := 84) rfl ?_
              exact sv_iret hM dX12_instruction_84 rfl rfl ⟨(S 28 p1), rfl, k9, ok1, md2, h⟩
          · have h := h.2 (hc)
            refine sv_aload_n hM dX12_instruction_55 rfl rfl ?_
            refine sv_getA hM dX12_instruction_56 sm_fl_92 (sm_a0 _) sm_k49 rfl ?_
            refine sv_iload_n hM dX12_instruction_59 rfl rfl ?_
            obtain ⟨o10, h⟩ := h
            have k11 : sv_R (S 27 p1) := sm_okI ok1 sm_r27 p1
            have h := h k11
            refine sv_iald hM dX12_instruction_60 (sm_a27 _) (by decide) o10.1 o10.2 rfl (x := (S 27 p1)) rfl ?_
            refine sv_goto hM dX12_instruction_61 (pc' := 84) rfl ?_
            exact sv_iret hM dX12_instruction_84 rfl rfl ⟨(S 27 p1), rfl, k11, ok1, md2, h⟩
        · have h := h.2 (hc)
          refine sv_aload_n hM dX12_instruction_41 rfl rfl ?_
          refine sv_getA hM dX12_instruction_42 sm_fl_89 (sm_a0 _) sm_k48 rfl ?_
          refine sv_iload_n hM dX12_instruction_45 rfl rfl ?_
          obtain ⟨o12, h⟩ := h
          have k13 : sv_R (S 26 p1) := sm_okI ok1 sm_r26 p1
          have h := h k13
          refine sv_iald hM dX12_instruction_46 (sm_a26 _) (by decide) o12.1 o12.2 rfl (x := (S 26 p1)) rfl ?_
          refine sv_goto hM dX12_instruction_47 (pc' := 84) rfl ?_
          exact sv_iret hM dX12_instruction_84 rfl rfl ⟨(S 26 p1), rfl, k13, ok1, md2, h⟩
      · have h := h.2 (fun q => hc (by rw [if_pos q]; decide))
        refine sv_iconst (d := (-1 : Int)) hM dX12_instruction_35 rfl rfl ?_
        exact sv_iret hM dX12_instruction_36 rfl rfl ⟨(-1 : Int), rfl, (⟨by decide, by decide⟩ : sv_R (-1 : Int)), ok1, md2, h⟩
def q_frame (p1 : Int) (p2 : Int) (S : sv_S) : Option Value → sv_S → Prop := fun v S' => ∃ r : Int, v = some (sv_I r) ∧ sv_R r ∧ sm_ok S' ∧ sv_mod [1000] S S' ∧ (True)
theorem la_frame_0 {x0 : Int} (h0 : 0 ≤ x0) (h1 : x0 ≤ 24) : sv_R (x0 - 1) := by omega
theorem la_frame_1 {x0 x1 x2 : Int} (h0 : x0 ≤ 24) (h1 : 0 ≤ x1) (h2 : x1 ≤ x0 - 1) (h3 : x0 - 1 - x1 = x2) : 0 ≤ x2 ∧ x2 < 24 := by omega
set_option maxHeartbeats 2000000 in
theorem f_frame : ∀ (p1 : Int) (p2 : Int) (S : sv_S), sm_ok S → sv_R p1 → sv_R p2 → (0 ≤ (S 1092 0) ∧ (S 1092 0) ≤ 24) → (sv_R (S 1073 0) → ((((S 1073 0) = (0 : Int)) → (True)) ∧ ((¬ ((S 1073 0) = (0 : Int))) → (sv_R (S 1092 0) → (sv_R ((S 1092 0) - (1 : Int))) ∧ ((((0 : Int) ≤ p1 ∧ p1 ≤ ((S 1092 0) - (1 : Int))) → (∀ x6 : Int, (((S 1092 0) - (1 : Int)) - p1) = x6 → (((p2 < (0 : Int) ∨ (4 : Int) < p2) → (True)) ∧ ((p2 = (0 : Int)) → (0 ≤ x6 ∧ x6 < 24) ∧ (sv_R (S 53 x6) → (True))) ∧ ((p2 = (1 : Int)) → (0 ≤ x6 ∧ x6 < 24) ∧ (sv_R (S 57 x6) → (True))) ∧ ((p2 = (2 : Int)) → (0 ≤ x6 ∧ x6 < 24) ∧ (sv_R (S 58 x6) → (True))) ∧ ((p2 = (3 : Int)) → (0 ≤ x6 ∧ x6 < 24) ∧ (sv_R (S 54 x6) → (True))) ∧ ((p2 = (4 : Int)) → (0 ≤ x6 ∧ x6 < 24) ∧ (sv_R (S 60 x6) → (True)))))) ∧ ((¬ ((0 : Int) ≤ p1 ∧ p1 ≤ ((S 1092 0) - (1 : Int)))) → (True))))))) := by
  intro p1
  intro p2
  intro S
  intro h1_
  intro h2_
  intro h3_
  rintro ⟨h4_, h5_⟩
  intro h6_
  refine ⟨?_, ?_⟩
  · skip
    intro h7_
    exact trivial
  intro h8_
  intro h9_
  refine ⟨(la_frame_0 h4_ h5_), ?_⟩
  refine ⟨?_, ?_⟩
  · skip
    rintro ⟨h10_, h11_⟩
    intro x6
    intro h12_
    refine ⟨?_, ?_⟩
    · skip
      intro h13_
      exact trivial
    refine ⟨?_, ?_⟩
    · skip
      intro h14_
      refine ⟨(la_frame_1 h5_ h10_ h11_ h12_), ?_⟩
      intro h15_
      exact trivial
    refine ⟨?_, ?_⟩
    · skip
      intro h16_
      refine ⟨(la_frame_1 h5_ h10_ h11_ h12_), ?_⟩
      intro h17_
      exact trivial
    refine ⟨?_, ?_⟩
    · skip
      intro h18_
      refine ⟨(la_frame_1 h5_ h10_ h11_ h12_), ?_⟩
      intro h19_
      exact trivial
    refine ⟨?_, ?_⟩
    · skip
      intro h20_
      refine ⟨(la_frame_1 h5_ h10_ h11_ h12_), ?_⟩
      intro h21_
      exact trivial
    intro h22_
    refine ⟨(la_frame_1 h5_ h10_ h11_ h12_), ?_⟩
    intro h23_
    exact trivial
  intro h24_
  exact trivial
set_option maxRecDepth 8000 in
set_option maxHeartbeats 2000000 in
theorem t_frame : ∀ (p1 : Int) (p2 : Int) (S : sv_S), sm_ok S → sv_R p1 → sv_R p2 → (0 ≤ (S 1092 0) ∧ (S 1092 0) ≤ 24) → sv_T sm_XS sm_cs sm_L sm_sh 1 (q_frame p1 p2 S) 195 0 (lv_args 0 [.ref 0, sv_I p1, sv_I p2]) [] S := by
  intro p1 p2 S hok hp1 hp2 hpre
  have h := f_frame p1 p2 S hok hp1 hp2 hpre
  have hM := sm_h195
  show sv_T sm_XS sm_cs sm_L sm_sh 1 (q_frame p1 p2 S) 195 0 [(0, .ref 0), (1, sv_I p1), (2, sv_I p2)] [] S
  refine sv_aload_n hM dX12_frame_0 rfl rfl ?_
  refine sv_iconst (d := (0 : Int)) hM dX12_frame_1 rfl rfl ?_
  refine sv_putI sm_X hM dX12_frame_2 sm_fp_289 (sm_a0 _) sm_q0 (Or.inl rfl) rfl rfl rfl rfl ?_
  have ok1 : sm_ok (sv_up S 1000 0 (0 : Int)) := sm_upI hok sm_r1000 (⟨by decide, by decide⟩ : sv_R (0 : Int))
  have md2 : sv_mod [1000] S (sv_up S 1000 0 (0 : Int)) := sv_mod.up sv_mod.rf (by decide)
  refine sv_aload_n hM dX12_frame_5 rfl rfl ?_
  have k3 : sv_R (S 1073 0) := sm_okI ok1 sm_r1073 0
  have h := h k3
  refine sv_getI hM dX12_frame_6 sm_fl_773 (sm_a0 _) sm_k73 rfl (x := (S 1073 0)) rfl ?_
  refine sv_cond_eq hM dX12_frame_9 k3 (t := 26) rfl rfl (fun hc => ?_) (fun hc => ?_)
  · have h := h.1 (hc)
    refine sv_iconst (d := (-1 : Int)) hM dX12_frame_26 rfl rfl ?_
    exact sv_iret hM dX12_frame_27 rfl rfl ⟨(-1 : Int), rfl, (⟨by decide, by decide⟩ : sv_R (-1 : Int)), ok1, md2, h⟩
  · have h := h.2 (hc)
    refine sv_iload_n hM dX12_frame_12 rfl rfl ?_
    refine sv_iconst (d := (0 : Int)) hM dX12_frame_13 rfl rfl ?_
    refine sv_aload_n hM dX12_frame_14 rfl rfl ?_
    have k4 : sv_R (S 1092 0) := sm_okI ok1 sm_r1092 0
    have h := h k4
    refine sv_getI hM dX12_frame_15 sm_fl_872 (sm_a0 _) sm_k92 rfl (x := (S 1092 0)) rfl ?_
    refine sv_iconst (d := (1 : Int)) hM dX12_frame_18 rfl rfl ?_
    refine sv_isub hM dX12_frame_19 rfl ?_
    obtain ⟨o5, h⟩ := h
    refine sv_callS hM dX12_frame_20 sm_iv_899 (Nat.le_of_ble_eq_true rfl) rfl rfl (Nat.le_of_ble_eq_true rfl) sm_h4 (Nat.le_of_ble_eq_true rfl) (Nat.le_of_ble_eq_true rfl) (F' := 0) (Nat.le_of_ble_eq_true rfl) rfl (t_in p1 (0 : Int) ((S 1092 0) - (1 : Int)) (sv_up S 1000 0 (0 : Int)) ok1 hp1 (⟨by decide, by decide⟩ : sv_R (0 : Int)) o5) (fun v S1 hq => ?_)
    obtain ⟨rfl, hS1⟩ := hq
    obtain rfl : (sv_up S 1000 0 (0 : Int)) = S1 := hS1.symm
    show sv_T sm_XS sm_cs sm_L sm_sh 1 (q_frame p1 p2 S) 195 23 [(0, .ref 0), (1, sv_I p1), (2, sv_I p2)] [sv_I (if (0 : Int) ≤ p1 ∧ p1 ≤ ((S 1092 0) - (1 : Int)) then 1 else 0)] (sv_up S 1000 0 (0 : Int))
    refine sv_cond_ne hM dX12_frame_23 (sv_Rite : sv_R (if (0 : Int) ≤ p1 ∧ p1 ≤ ((S 1092 0) - (1 : Int)) then 1 else 0)) (t := 28) rfl rfl (fun hc => ?_) (fun hc => ?_)
    · have h := h.1 (sv_itep hc)
      refine sv_aload_n hM dX12_frame_28 rfl rfl ?_
      refine sv_getI hM dX12_frame_29 sm_fl_872 (sm_a0 _) sm_k92 rfl (x := (S 1092 0)) rfl ?_
      refine sv_iconst (d := (1 : Int)) hM dX12_frame_32 rfl rfl ?_
      refine sv_isub hM dX12_frame_33 rfl ?_
      refine sv_iload_n hM dX12_frame_34 rfl rfl ?_
      refine sv_isub hM dX12_frame_35 rfl ?_
      obtain ⟨x6, e7⟩ : ∃ x : Int, (((S 1092 0) - (1 : Int)) - p1) = x := ⟨_, rfl⟩
      have h := h x6 e7
      refine sv_nameI e7 ?_
      refine sv_istore_n hM dX12_frame_36 (by decide) rfl ?_
      show sv_T sm_XS sm_cs sm_L sm_sh 1 (q_frame p1 p2 S) 195 37 [(0, .ref 0), (1, sv_I p1), (2, sv_I p2), (3, sv_I x6)] [] (sv_up S 1000 0 (0 : Int))
      refine sv_iload_n hM dX12_frame_37 rfl rfl ?_
      have hS := h
      have J0 : (p2 < (0 : Int) ∨ (4 : Int) < p2) → sv_T sm_XS sm_cs sm_L sm_sh 1 (q_frame p1 p2 S) 195 107 [(0, .ref 0), (1, sv_I p1), (2, sv_I p2), (3, sv_I x6)] [] (sv_up S 1000 0 (0 : Int)) := by
        intro hc
        have h := hS.1 hc
        refine sv_iconst (d := (-1 : Int)) hM dX12_frame_107 rfl rfl ?_
        exact sv_iret hM dX12_frame_108 rfl rfl ⟨(-1 : Int), rfl, (⟨by decide, by decide⟩ : sv_R (-1 : Int)), ok1, md2, h⟩
      have J1 : (p2 = (0 : Int)) → sv_T sm_XS sm_cs sm_L sm_sh 1 (q_frame p1 p2 S) 195 72 [(0, .ref 0), (1, sv_I p1), (2, sv_I p2), (3, sv_I x6)] [] (sv_up S 1000 0 (0 : Int)) := by
        intro hc
        have h := hS.2.1 hc
        refine sv_aload_n hM dX12_frame_72 rfl rfl ?_
        refine sv_getA hM dX12_frame_73 sm_fl_170 (sm_a0 _) sm_k93 rfl ?_
        refine sv_iload_n hM dX12_frame_76 rfl rfl ?_
        obtain ⟨o8, h⟩ := h
        have k9 : sv_R (S 53 x6) := sm_okI ok1 sm_r53 x6
        have h := h k9
        refine sv_iald hM dX12_frame_77 (sm_a53 _) (by decide) o8.1 o8.2 rfl (x := (S 53 x6)) rfl ?_
        exact sv_iret hM dX12_frame_78 rfl rfl ⟨(S 53 x6), rfl, k9, ok1, md2, h⟩
      have J2 : (p2 = (1 : Int)) → sv_T sm_XS sm_cs sm_L sm_sh 1 (q_frame p1 p2 S) 195 79 [(0, .ref 0), (1, sv_I p1), (2, sv_I p2), (3, sv_I x6)] [] (sv_up S 1000 0 (0 : Int)) := by
        intro hc
        have h := hS.2.2.1 hc
        refine sv_aload_n hM dX12_frame_79 rfl rfl ?_
        refine sv_getA hM dX12_frame_80 sm_fl_182 (sm_a0 _) sm_k97 rfl ?_
        refine sv_iload_n hM dX12_frame_83 rfl rfl ?_
        obtain ⟨o10, h⟩ := h
        have k11 : sv_R (S 57 x6) := sm_okI ok1 sm_r57 x6
        have h := h k11
        refine sv_iald hM dX12_frame_84 (sm_a57 _) (by decide) o10.1 o10.2 rfl (x := (S 57 x6)) rfl ?_
        exact sv_iret hM dX12_frame_85 rfl rfl ⟨(S 57 x6), rfl, k11, ok1, md2, h⟩
      have J3 : (p2 = (2 : Int)) → sv_T sm_XS sm_cs sm_L sm_sh 1 (q_frame p1 p2 S) 195 86 [(0, .ref 0), (1, sv_I p1), (2, sv_I p2), (3, sv_I x6)] [] (sv_up S 1000 0 (0 : Int)) := by
        intro hc
        have h := hS.2.2.2.1 hc
        refine sv_aload_n hM dX12_frame_86 rfl rfl ?_
        refine sv_getA hM dX12_frame_87 sm_fl_185 (sm_a0 _) sm_k98 rfl ?_
        refine sv_iload_n hM dX12_frame_90 rfl rfl ?_
        obtain ⟨o12, h⟩ := h
        have k13 : sv_R (S 58 x6) := sm_okI ok1 sm_r58 x6
        have h := h k13
        refine sv_iald hM dX12_frame_91 (sm_a58 _) (by decide) o12.1 o12.2 rfl (x := (S 58 x6)) rfl ?_
        exact sv_iret hM dX12_frame_92 rfl rfl ⟨(S 58 x6), rfl, k13, ok1, md2, h⟩
      have J4 : (p2 = (3 : Int)) → sv_T sm_XS sm_cs sm_L sm_sh 1 (q_frame p1 p2 S) 195 93 [(0, .ref 0), (1, sv_I p1), (2, sv_I p2), (3, sv_I x6)] [] (sv_up S 1000 0 (0 : Int)) := by
        intro hc
        have h := hS.2.2.2.2.1 hc
        refine sv_aload_n hM dX12_frame_93 rfl rfl ?_
        refine sv_getA hM dX12_frame_94 sm_fl_173 (sm_a0 _) sm_k94 rfl ?_
        refine sv_iload_n hM dX12_frame_97 rfl rfl ?_
        obtain ⟨o14, h⟩ := h
        have k15 : sv_R (S 54 x6) := sm_okI ok1 sm_r54 x6
        have h := h k15
        refine sv_iald hM dX12_frame_98 (sm_a54 _) (by decide) o14.1 o14.2 rfl (x := (S 54 x6)) rfl ?_
        exact sv_iret hM dX12_frame_99 rfl rfl ⟨(S 54 x6), rfl, k15, ok1, md2, h⟩
      have J5 : (p2 = (4 : Int)) → sv_T sm_XS sm_cs sm_L sm_sh 1 (q_frame p1 p2 S) 195 100 [(0, .ref 0), (1, sv_I p1), (2, sv_I p2), (3, sv_I x6)] [] (sv_up S 1000 0 (0 : Int)) := by
        intro hc
        have h := hS.2.2.2.2.2 hc
        refine sv_aload_n hM dX12_frame_100 rfl rfl ?_
        refine sv_getA hM dX12_frame_101 sm_fl_191 (sm_a0 _) sm_k100 rfl ?_
        refine sv_iload_n hM dX12_frame_104 rfl rfl ?_
        obtain ⟨o16, h⟩ := h
        have k17 : sv_R (S 60 x6) := sm_okI ok1 sm_r60 x6
        have h := h k17
        refine sv_iald hM dX12_frame_105 (sm_a60 _) (by decide) o16.1 o16.2 rfl (x := (S 60 x6)) rfl ?_
        exact sv_iret hM dX12_frame_106 rfl rfl ⟨(S 60 x6), rfl, k17, ok1, md2, h⟩
      refine sv_tsw hM dX12_frame_38 hp2 (t := 107) rfl (fun hc => J0 (by rcases hc with hc | hc; exact Or.inl hc; exact Or.inr hc)) (fun hc => ?_)
      have hv : p2 = (0 : Int) ∨ p2 = (1 : Int) ∨ p2 = (2 : Int) ∨ p2 = (3 : Int) ∨ p2 = (4 : Int) := by omega
      rcases hv with hv | hv | hv | hv | hv
      · exact ⟨34, 72, by rw [hv]; rfl, rfl, J1 (by omega)⟩
      · exact ⟨41, 79, by rw [hv]; rfl, rfl, J2 (by omega)⟩
      · exact ⟨48, 86, by rw [hv]; rfl, rfl, J3 (by omega)⟩
      · exact ⟨55, 93, by rw [hv]; rfl, rfl, J4 (by omega)⟩
      · exact ⟨62, 100, by rw [hv]; rfl, rfl, J5 (by omega)⟩
    · have h := h.2 (fun q => hc (by rw [if_pos q]; decide))
      refine sv_iconst (d := (-1 : Int)) hM dX12_frame_26 rfl rfl ?_
      exact sv_iret hM dX12_frame_27 rfl rfl ⟨(-1 : Int), rfl, (⟨by decide, by decide⟩ : sv_R (-1 : Int)), ok1, md2, h⟩
def q_printed (p1 : Int) (p2 : Int) (S : sv_S) : Option Value → sv_S → Prop := fun v S' => ∃ r : Int, v = some (sv_I r) ∧ sv_R r ∧ sm_ok S' ∧ sv_mod [1000] S S' ∧ (True)
theorem la_printed_0 {x0 : Int} (h0 : 0 ≤ x0) (h1 : x0 ≤ 100) : sv_R (x0 - 1) := by omega
theorem la_printed_1 {x0 x1 : Int} (h0 : x0 ≤ 100) (h1 : 0 ≤ x1) (h2 : x1 ≤ x0 - 1) : 0 ≤ x1 ∧ x1 < 100 := by omega
theorem la_printed_2 {x0 x1 : Int} (h0 : x0 ≤ x1 - 1) : x0 < x1 := by omega
theorem la_printed_3 {x0 x1 : Int} (h0 : x0 ≤ 400) (h1 : x1 < x0) : x1 < 400 := by omega
theorem la_printed_4 {x0 : Int} (h0 : 0 ≤ x0) (h1 : x0 ≤ 90) : sv_R (x0 - 1) := by omega
theorem la_printed_5 {x0 : Int} (h0 : 0 ≤ x0) : (-1) ≤ x0 := by omega
theorem la_printed_6 {x0 : Int} (h0 : (-1) ≤ x0) (h1 : ¬ x0 = (-1)) : (-1) < x0 := by omega
theorem la_printed_7 {x0 x1 : Int} (h0 : 0 ≤ x0) (h1 : 0 ≤ x1) : 0 ≤ 60 * x1 + x0 := by omega
theorem la_printed_8 {x0 x1 x2 : Int} (h0 : x0 ≤ x1 - 1) (h1 : 60 * x2 + x1 ≤ 24000) : 60 * x2 + x0 < 24000 := by omega
set_option maxHeartbeats 2000000 in
theorem f_printed : ∀ (p1 : Int) (p2 : Int) (S : sv_S), sm_ok S → sv_R p1 → sv_R p2 → (0 ≤ (S 1007 0) ∧ (S 1007 0) ≤ 400 ∧ sm_LN (S 4) 400 (S 1007 0) ∧ 0 ≤ (S 1107 0) ∧ (S 1107 0) ≤ 100 ∧ (∀ i : Int, 0 ≤ i → i < (S 1107 0) → 0 ≤ (S 67 i) ∧ (S 67 i) < (S 1007 0))) → (sv_R (S 1073 0) → ((((S 1073 0) = (0 : Int)) → (True)) ∧ ((¬ ((S 1073 0) = (0 : Int))) → (sv_R (S 1107 0) → (sv_R ((S 1107 0) - (1 : Int))) ∧ ((((0 : Int) ≤ p1 ∧ p1 ≤ ((S 1107 0) - (1 : Int))) → (0 ≤ p1 ∧ p1 < 100) ∧ (sv_R (S 67 p1) → (((¬ p2 = (-1 : Int)) → (0 ≤ (S 67 p1) ∧ (S 67 p1) < 400) ∧ (sv_R (S 4 (S 67 p1)) → (sv_R ((S 4 (S 67 p1)) - (1 : Int))) ∧ (((¬ ((0 : Int) ≤ p2 ∧ p2 ≤ ((S 4 (S 67 p1)) - (1 : Int)))) → (True)) ∧ (((0 : Int) ≤ p2 ∧ p2 ≤ ((S 4 (S 67 p1)) - (1 : Int))) → (0 ≤ (((60 : Int) * (S 67 p1)) + p2) ∧ (((60 : Int) * (S 67 p1)) + p2) < 24000) ∧ ((0 ≤ (S 3 (((60 : Int) * (S 67 p1)) + p2)) ∧ (S 3 (((60 : Int) * (S 67 p1)) + p2)) ≤ 65535) → (True)))))) ∧ ((¬ (¬ p2 = (-1 : Int))) → (True))))) ∧ ((¬ ((0 : Int) ≤ p1 ∧ p1 ≤ ((S 1107 0) - (1 : Int)))) → (True))))))) := by
  intro p1
  intro p2
  intro S
  intro h1_
  intro h2_
  intro h3_
  rintro ⟨h4_, ⟨h5_, ⟨h6_, ⟨h7_, ⟨h8_, h9_⟩⟩⟩⟩⟩
  intro h10_
  refine ⟨?_, ?_⟩
  · skip
    intro h11_
    exact trivial
  intro h12_
  intro h13_
  refine ⟨(la_printed_0 h7_ h8_), ?_⟩
  refine ⟨?_, ?_⟩
  · skip
    rintro ⟨h14_, h15_⟩
    refine ⟨(la_printed_1 h8_ h14_ h15_), ?_⟩
    intro h16_
    refine ⟨?_, ?_⟩
    · skip
      intro h17_
      refine ⟨?_, ?_⟩
      · skip
        refine ⟨?_, ?_⟩
        · skip
          obtain ⟨h18_, h19_⟩ := (((h9_ p1) h14_) (la_printed_2 h15_))
          exact h18_
        obtain ⟨h20_, h21_⟩ := (((h9_ p1) h14_) (la_printed_2 h15_))
        exact (la_printed_3 h5_ h21_)
      intro h22_
      refine ⟨?_, ?_⟩
      · skip
        obtain ⟨h23_, h24_⟩ := (((h9_ p1) h14_) (la_printed_2 h15_))
        exact (la_printed_4 (sm_LN_at h6_ (S 67 p1) h23_ (la_printed_3 h5_ h24_)).1 (sm_LN_at h6_ (S 67 p1) h23_ (la_printed_3 h5_ h24_)).2.1)
      refine ⟨?_, ?_⟩
      · skip
        intro h25_
        exact trivial
      rintro ⟨h26_, h27_⟩
      refine ⟨?_, ?_⟩
      · skip
        refine ⟨?_, ?_⟩
        · skip
          obtain ⟨h28_, h29_⟩ := (((h9_ p1) h14_) (la_printed_2 h15_))
          exact (la_printed_7 h26_ h28_)
        obtain ⟨h30_, h31_⟩ := (((h9_ p1) h14_) (la_printed_2 h15_))
        exact (la_printed_8 h27_ (sm_LN_at h6_ (S 67 p1) h30_ (la_printed_3 h5_ h31_)).2.2)
      rintro ⟨h32_, h33_⟩
      exact trivial
    intro h34_
    exact trivial
  intro h35_
  exact trivial
set_option maxRecDepth 8000 in
set_option maxHeartbeats 2000000 in
theorem t_printed : ∀ (p1 : Int) (p2 : Int) (S : sv_S), sm_ok S → sv_R p1 → sv_R p2 → (0 ≤ (S 1007 0) ∧ (S 1007 0) ≤ 400 ∧ sm_LN (S 4) 400 (S 1007 0) ∧ 0 ≤ (S 1107 0) ∧ (S 1107 0) ≤ 100 ∧ (∀ i : Int, 0 ≤ i → i < (S 1107 0) → 0 ≤ (S 67 i) ∧ (S 67 i) < (S 1007 0))) → sv_T sm_XS sm_cs sm_L sm_sh 1 (q_printed p1 p2 S) 200 0 (lv_args 0 [.ref 0, sv_I p1, sv_I p2]) [] S := by
  intro p1 p2 S hok hp1 hp2 hpre
  have h := f_printed p1 p2 S hok hp1 hp2 hpre
  have hM := sm_h200
  show sv_T sm_XS sm_cs sm_L sm_sh 1 (q_printed p1 p2 S) 200 0 [(0, .ref 0), (1, sv_I p1), (2, sv_I p2)] [] S
  refine sv_aload_n hM dX12_printed_0 rfl rfl ?_
  refine sv_iconst (d := (0 : Int)) hM dX12_printed_1 rfl rfl ?_
  refine sv_putI sm_X hM dX12_printed_2 sm_fp_289 (sm_a0 _) sm_q0 (Or.inl rfl) rfl rfl rfl rfl ?_
  have ok1 : sm_ok (sv_up S 1000 0 (0 : Int)) := sm_upI hok sm_r1000 (⟨by decide, by decide⟩ : sv_R (0 : Int))
  have md2 : sv_mod [1000] S (sv_up S 1000 0 (0 : Int)) := sv_mod.up sv_mod.rf (by decide)
  refine sv_aload_n hM dX12_printed_5 rfl rfl ?_
  have k3 : sv_R (S 1073 0) := sm_okI ok1 sm_r1073 0
  have h := h k3
  refine sv_getI hM dX12_printed_6 sm_fl_773 (sm_a0 _) sm_k73 rfl (x := (S 1073 0)) rfl ?_
  refine sv_cond_eq hM dX12_printed_9 k3 (t := 26) rfl rfl (fun hc => ?_) (fun hc => ?_)
  · have h := h.1 (hc)
    refine sv_iconst (d := (-1 : Int)) hM dX12_printed_26 rfl rfl ?_
    exact sv_iret hM dX12_printed_27 rfl rfl ⟨(-1 : Int), rfl, (⟨by decide, by decide⟩ : sv_R (-1 : Int)), ok1, md2, h⟩
  · have h := h.2 (hc)
    refine sv_iload_n hM dX12_printed_12 rfl rfl ?_
    refine sv_iconst (d := (0 : Int)) hM dX12_printed_13 rfl rfl ?_
    refine sv_aload_n hM dX12_printed_14 rfl rfl ?_
    have k4 : sv_R (S 1107 0) := sm_okI ok1 sm_r1107 0
    have h := h k4
    refine sv_getI hM dX12_printed_15 sm_fl_864 (sm_a0 _) sm_k107 rfl (x := (S 1107 0)) rfl ?_
    refine sv_iconst (d := (1 : Int)) hM dX12_printed_18 rfl rfl ?_
    refine sv_isub hM dX12_printed_19 rfl ?_
    obtain ⟨o5, h⟩ := h
    refine sv_callS hM dX12_printed_20 sm_iv_899 (Nat.le_of_ble_eq_true rfl) rfl rfl (Nat.le_of_ble_eq_true rfl) sm_h4 (Nat.le_of_ble_eq_true rfl) (Nat.le_of_ble_eq_true rfl) (F' := 0) (Nat.le_of_ble_eq_true rfl) rfl (t_in p1 (0 : Int) ((S 1107 0) - (1 : Int)) (sv_up S 1000 0 (0 : Int)) ok1 hp1 (⟨by decide, by decide⟩ : sv_R (0 : Int)) o5) (fun v S1 hq => ?_)
    obtain ⟨rfl, hS1⟩ := hq
    obtain rfl : (sv_up S 1000 0 (0 : Int)) = S1 := hS1.symm
    show sv_T sm_XS sm_cs sm_L sm_sh 1 (q_printed p1 p2 S) 200 23 [(0, .ref 0), (1, sv_I p1), (2, sv_I p2)] [sv_I (if (0 : Int) ≤ p1 ∧ p1 ≤ ((S 1107 0) - (1 : Int)) then 1 else 0)] (sv_up S 1000 0 (0 : Int))
    refine sv_cond_ne hM dX12_printed_23 (sv_Rite : sv_R (if (0 : Int) ≤ p1 ∧ p1 ≤ ((S 1107 0) - (1 : Int)) then 1 else 0)) (t := 28) rfl rfl (fun hc => ?_) (fun hc => ?_)
    · have h := h.1 (sv_itep hc)
      refine sv_aload_n hM dX12_printed_28 rfl rfl ?_
      refine sv_getA hM dX12_printed_29 sm_fl_212 (sm_a0 _) sm_k108 rfl ?_
      refine sv_iload_n hM dX12_printed_32 rfl rfl ?_
      obtain ⟨o6, h⟩ := h
      have k7 : sv_R (S 67 p1) := sm_okI ok1 sm_r67 p1
      have h := h k7
      refine sv_iald hM dX12_printed_33 (sm_a67 _) (by decide) o6.1 o6.2 rfl (x := (S 67 p1)) rfl ?_
      refine sv_istore_n hM dX12_printed_34 (by decide) rfl ?_
      show sv_T sm_XS sm_cs sm_L sm_sh 1 (q_printed p1 p2 S) 200 35 [(0, .ref 0), (1, sv_I p1), (2, sv_I p2), (3, sv_I (S 67 p1))] [] (sv_up S 1000 0 (0 : Int))
      refine sv_iload_n hM dX12_printed_35 rfl rfl ?_
      refine sv_iconst (d := (-1 : Int)) hM dX12_printed_36 rfl rfl ?_
      refine sv_icmp_ne hM dX12_printed_37 hp2 (⟨by decide, by decide⟩ : sv_R (-1 : Int)) (t := 42) rfl rfl (fun hc => ?_) (fun hc => ?_)
      · have h := h.1 (hc)
        refine sv_iload_n hM dX12_printed_42 rfl rfl ?_
        refine sv_iconst (d := (0 : Int)) hM dX12_printed_43 rfl rfl ?_
        refine sv_aload_n hM dX12_printed_44 rfl rfl ?_
        refine sv_getA hM dX12_printed_45 sm_fl_20 (sm_a0 _) sm_k6 rfl ?_
        refine sv_iload_n hM dX12_printed_48 rfl rfl ?_
        obtain ⟨o8, h⟩ := h
        have k9 : sv_R (S 4 (S 67 p1)) := sm_okI ok1 sm_r4 (S 67 p1)
        have h := h k9
        refine sv_iald hM dX12_printed_49 (sm_a4 _) (by decide) o8.1 o8.2 rfl (x := (S 4 (S 67 p1))) rfl ?_
        refine sv_iconst (d := (1 : Int)) hM dX12_printed_50 rfl rfl ?_
        refine sv_isub hM dX12_printed_51 rfl ?_
        obtain ⟨o10, h⟩ := h
        refine sv_callS hM dX12_printed_52 sm_iv_899 (Nat.le_of_ble_eq_true rfl) rfl rfl (Nat.le_of_ble_eq_true rfl) sm_h4 (Nat.le_of_ble_eq_true rfl) (Nat.le_of_ble_eq_true rfl) (F' := 0) (Nat.le_of_ble_eq_true rfl) rfl (t_in p2 (0 : Int) ((S 4 (S 67 p1)) - (1 : Int)) (sv_up S 1000 0 (0 : Int)) ok1 hp2 (⟨by decide, by decide⟩ : sv_R (0 : Int)) o10) (fun v S1 hq => ?_)
        obtain ⟨rfl, hS1⟩ := hq
        obtain rfl : (sv_up S 1000 0 (0 : Int)) = S1 := hS1.symm
        show sv_T sm_XS sm_cs sm_L sm_sh 1 (q_printed p1 p2 S) 200 55 [(0, .ref 0), (1, sv_I p1), (2, sv_I p2), (3, sv_I (S 67 p1))] [sv_I (if (0 : Int) ≤ p2 ∧ p2 ≤ ((S 4 (S 67 p1)) - (1 : Int)) then 1 else 0)] (sv_up S 1000 0 (0 : Int))
        refine sv_cond_eq hM dX12_printed_55 (sv_Rite : sv_R (if (0 : Int) ≤ p2 ∧ p2 ≤ ((S 4 (S 67 p1)) - (1 : Int)) then 1 else 0)) (t := 72) rfl rfl (fun hc => ?_) (fun hc => ?_)
        · have h := h.1 (sv_iten hc)
          refine sv_iconst (d := (-1 : Int)) hM dX12_printed_72 rfl rfl ?_
          exact sv_iret hM dX12_printed_73 rfl rfl ⟨(-1 : Int), rfl, (⟨by decide, by decide⟩ : sv_R (-1 : Int)), ok1, md2, h⟩
        · have h := h.2 (sv_itep hc)
          refine sv_aload_n hM dX12_printed_58 rfl rfl ?_
          refine sv_getA hM dX12_printed_59 sm_fl_16 (sm_a0 _) sm_k5 rfl ?_
          refine sv_bipush (d := (60 : Int)) hM dX12_printed_62 rfl rfl ?_
          refine sv_iload_n hM dX12_printed_64 rfl rfl ?_
          refine sv_imul hM dX12_printed_65 rfl ?_
          refine sv_iload_n hM dX12_printed_66 rfl rfl ?_
          refine sv_iadd hM dX12_printed_67 rfl ?_
          obtain ⟨o11, h⟩ := h
          have k12 : (0 ≤ (S 3 (((60 : Int) * (S 67 p1)) + p2)) ∧ (S 3 (((60 : Int) * (S 67 p1)) + p2)) ≤ 65535) := sm_okC ok1 sm_r3 (((60 : Int) * (S 67 p1)) + p2)
          have h := h k12
          refine sv_cald hM dX12_printed_68 (sm_a3 _) (by decide) o11.1 o11.2 rfl (x := (S 3 (((60 : Int) * (S 67 p1)) + p2))) rfl ?_
          refine sv_goto hM dX12_printed_69 (pc' := 73) rfl ?_
          exact sv_iret hM dX12_printed_73 rfl rfl ⟨(S 3 (((60 : Int) * (S 67 p1)) + p2)), rfl, (sv_RC k12), ok1, md2, h⟩
      · have h := h.2 (hc)
        refine sv_iload_n hM dX12_printed_40 rfl rfl ?_
        exact sv_iret hM dX12_printed_41 rfl rfl ⟨(S 67 p1), rfl, k7, ok1, md2, h⟩
    · have h := h.2 (fun q => hc (by rw [if_pos q]; decide))
      refine sv_iconst (d := (-1 : Int)) hM dX12_printed_26 rfl rfl ?_
      exact sv_iret hM dX12_printed_27 rfl rfl ⟨(-1 : Int), rfl, (⟨by decide, by decide⟩ : sv_R (-1 : Int)), ok1, md2, h⟩
def q_uncaught (p1 : Int) (S : sv_S) : Option Value → sv_S → Prop := fun v S' => ∃ r : Int, v = some (sv_I r) ∧ sv_R r ∧ sm_ok S' ∧ sv_mod [1000] S S' ∧ (True)
set_option maxHeartbeats 2000000 in
theorem f_uncaught : ∀ (p1 : Int) (S : sv_S), sm_ok S → sv_R p1 → (sv_R (S 1073 0) → (((¬ (S 1073 0) = (3 : Int)) → (True)) ∧ ((¬ (¬ (S 1073 0) = (3 : Int))) → (sv_R (S 1109 0) → (sv_R (S 1110 0) → (∀ r10 : Int, sv_R r10 → (True) → (True))))))) := by
  intro p1
  intro S
  intro h1_
  intro h2_
  intro h3_
  refine ⟨?_, ?_⟩
  · skip
    intro h4_
    exact trivial
  intro h5_
  intro h6_
  intro h7_
  intro r10
  intro h8_
  intro _
  exact trivial
set_option maxRecDepth 8000 in
set_option maxHeartbeats 2000000 in
theorem t_uncaught : ∀ (p1 : Int) (S : sv_S), sm_ok S → sv_R p1 → sv_T sm_XS sm_cs sm_L sm_sh 1 (q_uncaught p1 S) 201 0 (lv_args 0 [.ref 0, sv_I p1]) [] S := by
  intro p1 S hok hp1
  have h := f_uncaught p1 S hok hp1
  have hM := sm_h201
  show sv_T sm_XS sm_cs sm_L sm_sh 1 (q_uncaught p1 S) 201 0 [(0, .ref 0), (1, sv_I p1)] [] S
  refine sv_aload_n hM dX12_uncaught_0 rfl rfl ?_
  refine sv_iconst (d := (0 : Int)) hM dX12_uncaught_1 rfl rfl ?_
  refine sv_putI sm_X hM dX12_uncaught_2 sm_fp_289 (sm_a0 _) sm_q0 (Or.inl rfl) rfl rfl rfl rfl ?_
  have ok1 : sm_ok (sv_up S 1000 0 (0 : Int)) := sm_upI hok sm_r1000 (⟨by decide, by decide⟩ : sv_R (0 : Int))
  have md2 : sv_mod [1000] S (sv_up S 1000 0 (0 : Int)) := sv_mod.up sv_mod.rf (by decide)
  refine sv_aload_n hM dX12_uncaught_5 rfl rfl ?_
  have k3 : sv_R (S 1073 0) := sm_okI ok1 sm_r1073 0
  have h := h k3
  refine sv_getI hM dX12_uncaught_6 sm_fl_773 (sm_a0 _) sm_k73 rfl (x := (S 1073 0)) rfl ?_
  refine sv_iconst (d := (3 : Int)) hM dX12_uncaught_9 rfl rfl ?_
  refine sv_icmp_ne hM dX12_uncaught_10 k3 (⟨by decide, by decide⟩ : sv_R (3 : Int)) (t := 29) rfl rfl (fun hc => ?_) (fun hc => ?_)
  · have h := h.1 (hc)
    refine sv_iconst (d := (-1 : Int)) hM dX12_uncaught_29 rfl rfl ?_
    exact sv_iret hM dX12_uncaught_30 rfl rfl ⟨(-1 : Int), rfl, (⟨by decide, by decide⟩ : sv_R (-1 : Int)), ok1, md2, h⟩
  · have h := h.2 (hc)
    refine sv_aload_n hM dX12_uncaught_13 rfl rfl ?_
    refine sv_aload_n hM dX12_uncaught_14 rfl rfl ?_
    have k4 : sv_R (S 1109 0) := sm_okI ok1 sm_r1109 0
    have h := h k4
    refine sv_getI hM dX12_uncaught_15 sm_fl_891 (sm_a0 _) sm_k109 rfl (x := (S 1109 0)) rfl ?_
    refine sv_aload_n hM dX12_uncaught_18 rfl rfl ?_
    have k5 : sv_R (S 1110 0) := sm_okI ok1 sm_r1110 0
    have h := h k5
    refine sv_getI hM dX12_uncaught_19 sm_fl_894 (sm_a0 _) sm_k110 rfl (x := (S 1110 0)) rfl ?_
    refine sv_iload_n hM dX12_uncaught_22 rfl rfl ?_
    refine sv_callV hM dX12_uncaught_23 sm_iv_1037 (by decide) (sm_a0 _) rfl rfl (Nat.le_of_ble_eq_true rfl) sm_h196 (Nat.le_of_ble_eq_true rfl) (Nat.le_of_ble_eq_true rfl) (F' := 0) (Nat.le_of_ble_eq_true rfl) rfl (t_told (S 1109 0) (S 1110 0) p1 (sv_up S 1000 0 (0 : Int)) ok1 k4 k5 hp1) (fun v S1 hq => ?_)
    obtain ⟨r10, rfl, hr10, ok7, md8, hpo9⟩ := hq
    obtain rfl : (sv_up S 1000 0 (0 : Int)) = S1 := (funext fun j => md8 j (by intro q; cases q)).symm
    show sv_T sm_XS sm_cs sm_L sm_sh 1 (q_uncaught p1 S) 201 26 [(0, .ref 0), (1, sv_I p1)] [sv_I r10] (sv_up S 1000 0 (0 : Int))
    have h := h r10 hr10 hpo9
    refine sv_goto hM dX12_uncaught_26 (pc' := 30) rfl ?_
    exact sv_iret hM dX12_uncaught_30 rfl rfl ⟨r10, rfl, hr10, ok7, md2, h⟩
