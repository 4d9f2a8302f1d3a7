theorem dX12_has_0 : decode cX12_has 0 = .ok (.aload_n 0, 1) := by decide +kernel
theorem dX12_has_1 : decode cX12_has 1 = .ok (.getfield 216, 3) := by decide +kernel
theorem dX12_has_4 : decode cX12_has 4 = .ok (.iload_n 1, 1) := by decide +kernel
theorem dX12_has_5 : decode cX12_has 5 = .ok (.laload, 1) := by decide +kernel
theorem dX12_has_6 : decode cX12_has 6 = .ok (.ldc2_w 1043, 3) := by decide +kernel
theorem dX12_has_9 : decode cX12_has 9 = .ok (.land, 1) := by decide +kernel
theorem dX12_has_10 : decode cX12_has 10 = .ok (.l2i, 1) := by decide +kernel
theorem dX12_has_11 : decode cX12_has 11 = .ok (.ireturn, 1) := by decide +kernel
theorem dX12_name_0 : decode cX12_name 0 = .ok (.aload_n 0, 1) := by decide +kernel
theorem dX12_name_1 : decode cX12_name 1 = .ok (.getfield 216, 3) := by decide +kernel
theorem dX12_name_4 : decode cX12_name 4 = .ok (.iload_n 1, 1) := by decide +kernel
theorem dX12_name_5 : decode cX12_name 5 = .ok (.laload, 1) := by decide +kernel
theorem dX12_name_6 : decode cX12_name 6 = .ok (.bipush 10, 2) := by decide +kernel
theorem dX12_name_8 : decode cX12_name 8 = .ok (.lshr, 1) := by decide +kernel
theorem dX12_name_9 : decode cX12_name 9 = .ok (.ldc2_w 1045, 3) := by decide +kernel
theorem dX12_name_12 : decode cX12_name 12 = .ok (.land, 1) := by decide +kernel
theorem dX12_name_13 : decode cX12_name 13 = .ok (.l2i, 1) := by decide +kernel
theorem dX12_name_14 : decode cX12_name 14 = .ok (.ireturn, 1) := by decide +kernel
theorem dX12_number_0 : decode cX12_number 0 = .ok (.aload_n 0, 1) := by decide +kernel
theorem dX12_number_1 : decode cX12_number 1 = .ok (.getfield 216, 3) := by decide +kernel
theorem dX12_number_4 : decode cX12_number 4 = .ok (.iload_n 1, 1) := by decide +kernel
theorem dX12_number_5 : decode cX12_number 5 = .ok (.laload, 1) := by decide +kernel
theorem dX12_number_6 : decode cX12_number 6 = .ok (.bipush 32, 2) := by decide +kernel
theorem dX12_number_8 : decode cX12_number 8 = .ok (.lshr, 1) := by decide +kernel
theorem dX12_number_9 : decode cX12_number 9 = .ok (.l2i, 1) := by decide +kernel
theorem dX12_number_10 : decode cX12_number 10 = .ok (.ireturn, 1) := by decide +kernel
theorem dX12_write_0 : decode cX12_write 0 = .ok (.aload_n 0, 1) := by decide +kernel
theorem dX12_write_1 : decode cX12_write 1 = .ok (.getfield 216, 3) := by decide +kernel
theorem dX12_write_4 : decode cX12_write 4 = .ok (.iload_n 1, 1) := by decide +kernel
theorem dX12_write_5 : decode cX12_write 5 = .ok (.iload 4, 2) := by decide +kernel
theorem dX12_write_7 : decode cX12_write 7 = .ok (.i2l, 1) := by decide +kernel
theorem dX12_write_8 : decode cX12_write 8 = .ok (.bipush 32, 2) := by decide +kernel
theorem dX12_write_10 : decode cX12_write 10 = .ok (.lshl, 1) := by decide +kernel
theorem dX12_write_11 : decode cX12_write 11 = .ok (.iload_n 3, 1) := by decide +kernel
theorem dX12_write_12 : decode cX12_write 12 = .ok (.i2l, 1) := by decide +kernel
theorem dX12_write_13 : decode cX12_write 13 = .ok (.bipush 10, 2) := by decide +kernel
theorem dX12_write_15 : decode cX12_write 15 = .ok (.lshl, 1) := by decide +kernel
theorem dX12_write_16 : decode cX12_write 16 = .ok (.lor, 1) := by decide +kernel
theorem dX12_write_17 : decode cX12_write 17 = .ok (.iload_n 2, 1) := by decide +kernel
theorem dX12_write_18 : decode cX12_write 18 = .ok (.i2l, 1) := by decide +kernel
theorem dX12_write_19 : decode cX12_write 19 = .ok (.lor, 1) := by decide +kernel
theorem dX12_write_20 : decode cX12_write 20 = .ok (.lastore, 1) := by decide +kernel
theorem dX12_write_21 : decode cX12_write 21 = .ok (.return_, 1) := by decide +kernel
theorem dX12_empty_0 : decode cX12_empty 0 = .ok (.aload_n 0, 1) := by decide +kernel
theorem dX12_empty_1 : decode cX12_empty 1 = .ok (.getfield 216, 3) := by decide +kernel
theorem dX12_empty_4 : decode cX12_empty 4 = .ok (.iload_n 1, 1) := by decide +kernel
theorem dX12_empty_5 : decode cX12_empty 5 = .ok (.lconst 0, 1) := by decide +kernel
theorem dX12_empty_6 : decode cX12_empty 6 = .ok (.lastore, 1) := by decide +kernel
theorem dX12_empty_7 : decode cX12_empty 7 = .ok (.aload_n 0, 1) := by decide +kernel
theorem dX12_empty_8 : decode cX12_empty 8 = .ok (.getfield 220, 3) := by decide +kernel
theorem dX12_empty_11 : decode cX12_empty 11 = .ok (.iload_n 1, 1) := by decide +kernel
theorem dX12_empty_12 : decode cX12_empty 12 = .ok (.lconst 0, 1) := by decide +kernel
theorem dX12_empty_13 : decode cX12_empty 13 = .ok (.lastore, 1) := by decide +kernel
theorem dX12_empty_14 : decode cX12_empty 14 = .ok (.aload_n 0, 1) := by decide +kernel
theorem dX12_empty_15 : decode cX12_empty 15 = .ok (.getfield 223, 3) := by decide +kernel
theorem dX12_empty_18 : decode cX12_empty 18 = .ok (.iload_n 1, 1) := by decide +kernel
theorem dX12_empty_19 : decode cX12_empty 19 = .ok (.lconst 0, 1) := by decide +kernel
theorem dX12_empty_20 : decode cX12_empty 20 = .ok (.lastore, 1) := by decide +kernel
theorem dX12_empty_21 : decode cX12_empty 21 = .ok (.return_, 1) := by decide +kernel
theorem dX12_copySet_0 : decode cX12_copySet 0 = .ok (.aload_n 0, 1) := by decide +kernel
theorem dX12_copySet_1 : decode cX12_copySet 1 = .ok (.getfield 216, 3) := by decide +kernel
theorem dX12_copySet_4 : decode cX12_copySet 4 = .ok (.iload_n 2, 1) := by decide +kernel
theorem dX12_copySet_5 : decode cX12_copySet 5 = .ok (.aload_n 0, 1) := by decide +kernel
theorem dX12_copySet_6 : decode cX12_copySet 6 = .ok (.getfield 216, 3) := by decide +kernel
theorem dX12_copySet_9 : decode cX12_copySet 9 = .ok (.iload_n 1, 1) := by decide +kernel
theorem dX12_copySet_10 : decode cX12_copySet 10 = .ok (.laload, 1) := by decide +kernel
theorem dX12_copySet_11 : decode cX12_copySet 11 = .ok (.lastore, 1) := by decide +kernel
theorem dX12_copySet_12 : decode cX12_copySet 12 = .ok (.aload_n 0, 1) := by decide +kernel
theorem dX12_copySet_13 : decode cX12_copySet 13 = .ok (.getfield 220, 3) := by decide +kernel
theorem dX12_copySet_16 : decode cX12_copySet 16 = .ok (.iload_n 2, 1) := by decide +kernel
theorem dX12_copySet_17 : decode cX12_copySet 17 = .ok (.aload_n 0, 1) := by decide +kernel
theorem dX12_copySet_18 : decode cX12_copySet 18 = .ok (.getfield 220, 3) := by decide +kernel
theorem dX12_copySet_21 : decode cX12_copySet 21 = .ok (.iload_n 1, 1) := by decide +kernel
theorem dX12_copySet_22 : decode cX12_copySet 22 = .ok (.laload, 1) := by decide +kernel
theorem dX12_copySet_23 : decode cX12_copySet 23 = .ok (.lastore, 1) := by decide +kernel
theorem dX12_copySet_24 : decode cX12_copySet 24 = .ok (.aload_n 0, 1) := by decide +kernel
theorem dX12_copySet_25 : decode cX12_copySet 25 = .ok (.getfield 223, 3) := by decide +kernel
theorem dX12_copySet_28 : decode cX12_copySet 28 = .ok (.iload_n 2, 1) := by decide +kernel
theorem dX12_copySet_29 : decode cX12_copySet 29 = .ok (.aload_n 0, 1) := by decide +kernel
theorem dX12_copySet_30 : decode cX12_copySet 30 = .ok (.getfield 223, 3) := by decide +kernel
theorem dX12_copySet_33 : decode cX12_copySet 33 = .ok (.iload_n 1, 1) := by decide +kernel
theorem dX12_copySet_34 : decode cX12_copySet 34 = .ok (.laload, 1) := by decide +kernel
theorem dX12_copySet_35 : decode cX12_copySet 35 = .ok (.lastore, 1) := by decide +kernel
theorem dX12_copySet_36 : decode cX12_copySet 36 = .ok (.return_, 1) := by decide +kernel
theorem dX12_join_0 : decode cX12_join 0 = .ok (.aload_n 0, 1) := by decide +kernel
theorem dX12_join_1 : decode cX12_join 1 = .ok (.iload_n 2, 1) := by decide +kernel
theorem dX12_join_2 : decode cX12_join 2 = .ok (.invokevirtual 1047, 3) := by decide +kernel
theorem dX12_join_5 : decode cX12_join 5 = .ok (.istore_n 3, 1) := by decide +kernel
theorem dX12_join_6 : decode cX12_join 6 = .ok (.aload_n 0, 1) := by decide +kernel
theorem dX12_join_7 : decode cX12_join 7 = .ok (.iload_n 1, 1) := by decide +kernel
theorem dX12_join_8 : decode cX12_join 8 = .ok (.invokevirtual 1047, 3) := by decide +kernel
theorem dX12_join_11 : decode cX12_join 11 = .ok (.istore 4, 2) := by decide +kernel
theorem dX12_join_13 : decode cX12_join 13 = .ok (.iload_n 3, 1) := by decide +kernel
theorem dX12_join_14 : decode cX12_join 14 = .ok (.iload 4, 2) := by decide +kernel
theorem dX12_join_16 : decode cX12_join 16 = .ok (.ior, 1) := by decide +kernel
theorem dX12_join_17 : decode cX12_join 17 = .ok (.istore 5, 2) := by decide +kernel
theorem dX12_join_19 : decode cX12_join 19 = .ok (.iload_n 3, 1) := by decide +kernel
theorem dX12_join_20 : decode cX12_join 20 = .ok (.iload 4, 2) := by decide +kernel
theorem dX12_join_22 : decode cX12_join 22 = .ok (.iand, 1) := by decide +kernel
theorem dX12_join_23 : decode cX12_join 23 = .ok (.bipush 32, 2) := by decide +kernel
theorem dX12_join_25 : decode cX12_join 25 = .ok (.iand, 1) := by decide +kernel
theorem dX12_join_26 : decode cX12_join 26 = .ok (.ifCond .eq 23, 3) := by decide +kernel
theorem dX12_join_29 : decode cX12_join 29 = .ok (.aload_n 0, 1) := by decide +kernel
theorem dX12_join_30 : decode cX12_join 30 = .ok (.iload_n 2, 1) := by decide +kernel
theorem dX12_join_31 : decode cX12_join 31 = .ok (.invokevirtual 1050, 3) := by decide +kernel
theorem dX12_join_34 : decode cX12_join 34 = .ok (.aload_n 0, 1) := by decide +kernel
theorem dX12_join_35 : decode cX12_join 35 = .ok (.iload_n 1, 1) := by decide +kernel
theorem dX12_join_36 : decode cX12_join 36 = .ok (.invokevirtual 1050, 3) := by decide +kernel
theorem dX12_join_39 : decode cX12_join 39 = .ok (.if_icmp .eq 10, 3) := by decide +kernel
theorem dX12_join_42 : decode cX12_join 42 = .ok (.iload 5, 2) := by decide +kernel
theorem dX12_join_44 : decode cX12_join 44 = .ok (.bipush 64, 2) := by decide +kernel
theorem dX12_join_46 : decode cX12_join 46 = .ok (.ior, 1) := by decide +kernel
theorem dX12_join_47 : decode cX12_join 47 = .ok (.istore 5, 2) := by decide +kernel
theorem dX12_join_49 : decode cX12_join 49 = .ok (.iload_n 3, 1) := by decide +kernel
theorem dX12_join_50 : decode cX12_join 50 = .ok (.iload 4, 2) := by decide +kernel
theorem dX12_join_52 : decode cX12_join 52 = .ok (.iand, 1) := by decide +kernel
theorem dX12_join_53 : decode cX12_join 53 = .ok (.sipush 128, 3) := by decide +kernel
theorem dX12_join_56 : decode cX12_join 56 = .ok (.iand, 1) := by decide +kernel
theorem dX12_join_57 : decode cX12_join 57 = .ok (.ifCond .eq 24, 3) := by decide +kernel
theorem dX12_join_60 : decode cX12_join 60 = .ok (.aload_n 0, 1) := by decide +kernel
theorem dX12_join_61 : decode cX12_join 61 = .ok (.iload_n 2, 1) := by decide +kernel
theorem dX12_join_62 : decode cX12_join 62 = .ok (.invokevirtual 1053, 3) := by decide +kernel
theorem dX12_join_65 : decode cX12_join 65 = .ok (.aload_n 0, 1) := by decide +kernel
theorem dX12_join_66 : decode cX12_join 66 = .ok (.iload_n 1, 1) := by decide +kernel
theorem dX12_join_67 : decode cX12_join 67 = .ok (.invokevirtual 1053, 3) := by decide +kernel
theorem dX12_join_70 : decode cX12_join 70 = .ok (.if_icmp .eq 11, 3) := by decide +kernel
theorem dX12_join_73 : decode cX12_join 73 = .ok (.iload 5, 2) := by decide +kernel
theorem dX12_join_75 : decode cX12_join 75 = .ok (.sipush 256, 3) := by decide +kernel
theorem dX12_join_78 : decode cX12_join 78 = .ok (.ior, 1) := by decide +kernel
theorem dX12_join_79 : decode cX12_join 79 = .ok (.istore 5, 2) := by decide +kernel
theorem dX12_join_81 : decode cX12_join 81 = .ok (.iload 5, 2) := by decide +kernel
theorem dX12_join_83 : decode cX12_join 83 = .ok (.bipush 64, 2) := by decide +kernel
theorem dX12_join_85 : decode cX12_join 85 = .ok (.iand, 1) := by decide +kernel
theorem dX12_join_86 : decode cX12_join 86 = .ok (.ifCond .eq 10, 3) := by decide +kernel
theorem dX12_join_89 : decode cX12_join 89 = .ok (.iload 5, 2) := by decide +kernel
theorem dX12_join_91 : decode cX12_join 91 = .ok (.bipush (-33), 2) := by decide +kernel
theorem dX12_join_93 : decode cX12_join 93 = .ok (.iand, 1) := by decide +kernel
theorem dX12_join_94 : decode cX12_join 94 = .ok (.istore 5, 2) := by decide +kernel
theorem dX12_join_96 : decode cX12_join 96 = .ok (.iload 5, 2) := by decide +kernel
theorem dX12_join_98 : decode cX12_join 98 = .ok (.sipush 256, 3) := by decide +kernel
theorem dX12_join_101 : decode cX12_join 101 = .ok (.iand, 1) := by decide +kernel
theorem dX12_join_102 : decode cX12_join 102 = .ok (.ifCond .eq 11, 3) := by decide +kernel
theorem dX12_join_105 : decode cX12_join 105 = .ok (.iload 5, 2) := by decide +kernel
theorem dX12_join_107 : decode cX12_join 107 = .ok (.sipush (-129), 3) := by decide +kernel
theorem dX12_join_110 : decode cX12_join 110 = .ok (.iand, 1) := by decide +kernel
theorem dX12_join_111 : decode cX12_join 111 = .ok (.istore 5, 2) := by decide +kernel
theorem dX12_join_113 : decode cX12_join 113 = .ok (.iload 5, 2) := by decide +kernel
theorem dX12_join_115 : decode cX12_join 115 = .ok (.bipush 32, 2) := by decide +kernel
theorem dX12_join_117 : decode cX12_join 117 = .ok (.iand, 1) := by decide +kernel
theorem dX12_join_118 : decode cX12_join 118 = .ok (.ifCond .ne 7, 3) := by decide +kernel
theorem dX12_join_121 : decode cX12_join 121 = .ok (.iconst 0, 1) := by decide +kernel
theorem dX12_join_122 : decode cX12_join 122 = .ok (.goto 23, 3) := by decide +kernel
theorem dX12_join_125 : decode cX12_join 125 = .ok (.iload_n 3, 1) := by decide +kernel
theorem dX12_join_126 : decode cX12_join 126 = .ok (.bipush 32, 2) := by decide +kernel
theorem dX12_join_128 : decode cX12_join 128 = .ok (.iand, 1) := by decide +kernel
theorem dX12_join_129 : decode cX12_join 129 = .ok (.ifCond .eq 11, 3) := by decide +kernel
theorem dX12_join_132 : decode cX12_join 132 = .ok (.aload_n 0, 1) := by decide +kernel
theorem dX12_join_133 : decode cX12_join 133 = .ok (.iload_n 2, 1) := by decide +kernel
theorem dX12_join_134 : decode cX12_join 134 = .ok (.invokevirtual 1050, 3) := by decide +kernel
theorem dX12_join_137 : decode cX12_join 137 = .ok (.goto 8, 3) := by decide +kernel
theorem dX12_join_140 : decode cX12_join 140 = .ok (.aload_n 0, 1) := by decide +kernel
theorem dX12_join_141 : decode cX12_join 141 = .ok (.iload_n 1, 1) := by decide +kernel
theorem dX12_join_142 : decode cX12_join 142 = .ok (.invokevirtual 1050, 3) := by decide +kernel
theorem dX12_join_145 : decode cX12_join 145 = .ok (.istore 6, 2) := by decide +kernel
theorem dX12_join_147 : decode cX12_join 147 = .ok (.iload 5, 2) := by decide +kernel
theorem dX12_join_149 : decode cX12_join 149 = .ok (.sipush 128, 3) := by decide +kernel
theorem dX12_join_152 : decode cX12_join 152 = .ok (.iand, 1) := by decide +kernel
theorem dX12_join_153 : decode cX12_join 153 = .ok (.ifCond .ne 7, 3) := by decide +kernel
theorem dX12_join_156 : decode cX12_join 156 = .ok (.iconst 0, 1) := by decide +kernel
theorem dX12_join_157 : decode cX12_join 157 = .ok (.goto 24, 3) := by decide +kernel
theorem dX12_join_160 : decode cX12_join 160 = .ok (.iload_n 3, 1) := by decide +kernel
theorem dX12_join_161 : decode cX12_join 161 = .ok (.sipush 128, 3) := by decide +kernel
theorem dX12_join_164 : decode cX12_join 164 = .ok (.iand, 1) := by decide +kernel
theorem dX12_join_165 : decode cX12_join 165 = .ok (.ifCond .eq 11, 3) := by decide +kernel
theorem dX12_join_168 : decode cX12_join 168 = .ok (.aload_n 0, 1) := by decide +kernel
theorem dX12_join_169 : decode cX12_join 169 = .ok (.iload_n 2, 1) := by decide +kernel
theorem dX12_join_170 : decode cX12_join 170 = .ok (.invokevirtual 1053, 3) := by decide +kernel
theorem dX12_join_173 : decode cX12_join 173 = .ok (.goto 8, 3) := by decide +kernel
theorem dX12_join_176 : decode cX12_join 176 = .ok (.aload_n 0, 1) := by decide +kernel
theorem dX12_join_177 : decode cX12_join 177 = .ok (.iload_n 1, 1) := by decide +kernel
theorem dX12_join_178 : decode cX12_join 178 = .ok (.invokevirtual 1053, 3) := by decide +kernel
theorem dX12_join_181 : decode cX12_join 181 = .ok (.istore 7, 2) := by decide +kernel
theorem dX12_join_183 : decode cX12_join 183 = .ok (.aload_n 0, 1) := by decide +kernel
theorem dX12_join_184 : decode cX12_join 184 = .ok (.getfield 220, 3) := by decide +kernel
theorem dX12_join_187 : decode cX12_join 187 = .ok (.iload_n 2, 1) := by decide +kernel
theorem dX12_join_188 : decode cX12_join 188 = .ok (.laload, 1) := by decide +kernel
theorem dX12_join_189 : decode cX12_join 189 = .ok (.aload_n 0, 1) := by decide +kernel
theorem dX12_join_190 : decode cX12_join 190 = .ok (.getfield 220, 3) := by decide +kernel
theorem dX12_join_193 : decode cX12_join 193 = .ok (.iload_n 1, 1) := by decide +kernel
theorem dX12_join_194 : decode cX12_join 194 = .ok (.laload, 1) := by decide +kernel
theorem dX12_join_195 : decode cX12_join 195 = .ok (.lor, 1) := by decide +kernel
theorem dX12_join_196 : decode cX12_join 196 = .ok (.lstore 8, 2) := by decide +kernel
theorem dX12_join_198 : decode cX12_join 198 = .ok (.aload_n 0, 1) := by decide +kernel
theorem dX12_join_199 : decode cX12_join 199 = .ok (.getfield 223, 3) := by decide +kernel
theorem dX12_join_202 : decode cX12_join 202 = .ok (.iload_n 2, 1) := by decide +kernel
theorem dX12_join_203 : decode cX12_join 203 = .ok (.laload, 1) := by decide +kernel
theorem dX12_join_204 : decode cX12_join 204 = .ok (.aload_n 0, 1) := by decide +kernel
theorem dX12_join_205 : decode cX12_join 205 = .ok (.getfield 223, 3) := by decide +kernel
theorem dX12_join_208 : decode cX12_join 208 = .ok (.iload_n 1, 1) := by decide +kernel
theorem dX12_join_209 : decode cX12_join 209 = .ok (.laload, 1) := by decide +kernel
theorem dX12_join_210 : decode cX12_join 210 = .ok (.lor, 1) := by decide +kernel
theorem dX12_join_211 : decode cX12_join 211 = .ok (.lstore 10, 2) := by decide +kernel
theorem dX12_join_213 : decode cX12_join 213 = .ok (.iload 5, 2) := by decide +kernel
theorem dX12_join_215 : decode cX12_join 215 = .ok (.iload_n 3, 1) := by decide +kernel
theorem dX12_join_216 : decode cX12_join 216 = .ok (.if_icmp .ne 27, 3) := by decide +kernel
theorem dX12_join_219 : decode cX12_join 219 = .ok (.lload 8, 2) := by decide +kernel
theorem dX12_join_221 : decode cX12_join 221 = .ok (.aload_n 0, 1) := by decide +kernel
theorem dX12_join_222 : decode cX12_join 222 = .ok (.getfield 220, 3) := by decide +kernel
theorem dX12_join_225 : decode cX12_join 225 = .ok (.iload_n 2, 1) := by decide +kernel
theorem dX12_join_226 : decode cX12_join 226 = .ok (.laload, 1) := by decide +kernel
theorem dX12_join_227 : decode cX12_join 227 = .ok (.lcmp, 1) := by decide +kernel
theorem dX12_join_228 : decode cX12_join 228 = .ok (.ifCond .ne 15, 3) := by decide +kernel
theorem dX12_join_231 : decode cX12_join 231 = .ok (.lload 10, 2) := by decide +kernel
theorem dX12_join_233 : decode cX12_join 233 = .ok (.aload_n 0, 1) := by decide +kernel
theorem dX12_join_234 : decode cX12_join 234 = .ok (.getfield 223, 3) := by decide +kernel
theorem dX12_join_237 : decode cX12_join 237 = .ok (.iload_n 2, 1) := by decide +kernel
theorem dX12_join_238 : decode cX12_join 238 = .ok (.laload, 1) := by decide +kernel
theorem dX12_join_239 : decode cX12_join 239 = .ok (.lcmp, 1) := by decide +kernel
theorem dX12_join_240 : decode cX12_join 240 = .ok (.ifCond .eq 7, 3) := by decide +kernel
theorem dX12_join_243 : decode cX12_join 243 = .ok (.iconst 1, 1) := by decide +kernel
theorem dX12_join_244 : decode cX12_join 244 = .ok (.goto 4, 3) := by decide +kernel
theorem dX12_join_247 : decode cX12_join 247 = .ok (.iconst 0, 1) := by decide +kernel
theorem dX12_join_248 : decode cX12_join 248 = .ok (.istore 12, 2) := by decide +kernel
theorem dX12_join_250 : decode cX12_join 250 = .ok (.aload_n 0, 1) := by decide +kernel
theorem dX12_join_251 : decode cX12_join 251 = .ok (.iload_n 2, 1) := by decide +kernel
theorem dX12_join_252 : decode cX12_join 252 = .ok (.iload 5, 2) := by decide +kernel
theorem dX12_join_254 : decode cX12_join 254 = .ok (.iload 7, 2) := by decide +kernel
theorem dX12_join_256 : decode cX12_join 256 = .ok (.iload 6, 2) := by decide +kernel
theorem dX12_join_258 : decode cX12_join 258 = .ok (.invokevirtual 1056, 3) := by decide +kernel
theorem dX12_join_261 : decode cX12_join 261 = .ok (.aload_n 0, 1) := by decide +kernel
theorem dX12_join_262 : decode cX12_join 262 = .ok (.getfield 220, 3) := by decide +kernel
theorem dX12_join_265 : decode cX12_join 265 = .ok (.iload_n 2, 1) := by decide +kernel
theorem dX12_join_266 : decode cX12_join 266 = .ok (.lload 8, 2) := by decide +kernel
theorem dX12_join_268 : decode cX12_join 268 = .ok (.lastore, 1) := by decide +kernel
theorem dX12_join_269 : decode cX12_join 269 = .ok (.aload_n 0, 1) := by decide +kernel
theorem dX12_join_270 : decode cX12_join 270 = .ok (.getfield 223, 3) := by decide +kernel
theorem dX12_join_273 : decode cX12_join 273 = .ok (.iload_n 2, 1) := by decide +kernel
theorem dX12_join_274 : decode cX12_join 274 = .ok (.lload 10, 2) := by decide +kernel
theorem dX12_join_276 : decode cX12_join 276 = .ok (.lastore, 1) := by decide +kernel
theorem dX12_join_277 : decode cX12_join 277 = .ok (.iload 12, 2) := by decide +kernel
theorem dX12_join_279 : decode cX12_join 279 = .ok (.ireturn, 1) := by decide +kernel
theorem dX12_hasLabels_0 : decode cX12_hasLabels 0 = .ok (.aload_n 0, 1) := by decide +kernel
theorem dX12_hasLabels_1 : decode cX12_hasLabels 1 = .ok (.getfield 220, 3) := by decide +kernel
theorem dX12_hasLabels_4 : decode cX12_hasLabels 4 = .ok (.iload_n 1, 1) := by decide +kernel
theorem dX12_hasLabels_5 : decode cX12_hasLabels 5 = .ok (.laload, 1) := by decide +kernel
theorem dX12_hasLabels_6 : decode cX12_hasLabels 6 = .ok (.aload_n 0, 1) := by decide +kernel
theorem dX12_hasLabels_7 : decode cX12_hasLabels 7 = .ok (.getfield 223, 3) := by decide +kernel
theorem dX12_hasLabels_10 : decode cX12_hasLabels 10 = .ok (.iload_n 1, 1) := by decide +kernel
theorem dX12_hasLabels_11 : decode cX12_hasLabels 11 = .ok (.laload, 1) := by decide +kernel
theorem dX12_hasLabels_12 : decode cX12_hasLabels 12 = .ok (.lor, 1) := by decide +kernel
theorem dX12_hasLabels_13 : decode cX12_hasLabels 13 = .ok (.lconst 0, 1) := by decide +kernel
theorem dX12_hasLabels_14 : decode cX12_hasLabels 14 = .ok (.lcmp, 1) := by decide +kernel
theorem dX12_hasLabels_15 : decode cX12_hasLabels 15 = .ok (.ifCond .eq 7, 3) := by decide +kernel
theorem dX12_hasLabels_18 : decode cX12_hasLabels 18 = .ok (.iconst 1, 1) := by decide +kernel
theorem dX12_hasLabels_19 : decode cX12_hasLabels 19 = .ok (.goto 4, 3) := by decide +kernel
theorem dX12_hasLabels_22 : decode cX12_hasLabels 22 = .ok (.iconst 0, 1) := by decide +kernel
theorem dX12_hasLabels_23 : decode cX12_hasLabels 23 = .ok (.ireturn, 1) := by decide +kernel
theorem dX12_plainly_0 : decode cX12_plainly 0 = .ok (.aload_n 0, 1) := by decide +kernel
theorem dX12_plainly_1 : decode cX12_plainly 1 = .ok (.iload_n 1, 1) := by decide +kernel
theorem dX12_plainly_2 : decode cX12_plainly 2 = .ok (.invokevirtual 1047, 3) := by decide +kernel
theorem dX12_plainly_5 : decode cX12_plainly 5 = .ok (.sipush (-513), 3) := by decide +kernel
theorem dX12_plainly_8 : decode cX12_plainly 8 = .ok (.iand, 1) := by decide +kernel
theorem dX12_plainly_9 : decode cX12_plainly 9 = .ok (.ireturn, 1) := by decide +kernel
theorem dX12_isEmpty_0 : decode cX12_isEmpty 0 = .ok (.aload_n 0, 1) := by decide +kernel
theorem dX12_isEmpty_1 : decode cX12_isEmpty 1 = .ok (.iload_n 1, 1) := by decide +kernel
theorem dX12_isEmpty_2 : decode cX12_isEmpty 2 = .ok (.invokevirtual 1059, 3) := by decide +kernel
theorem dX12_isEmpty_5 : decode cX12_isEmpty 5 = .ok (.ifCond .ne 15, 3) := by decide +kernel
theorem dX12_isEmpty_8 : decode cX12_isEmpty 8 = .ok (.aload_n 0, 1) := by decide +kernel
theorem dX12_isEmpty_9 : decode cX12_isEmpty 9 = .ok (.iload_n 1, 1) := by decide +kernel
theorem dX12_isEmpty_10 : decode cX12_isEmpty 10 = .ok (.invokevirtual 1062, 3) := by decide +kernel
theorem dX12_isEmpty_13 : decode cX12_isEmpty 13 = .ok (.ifCond .ne 7, 3) := by decide +kernel
theorem dX12_isEmpty_16 : decode cX12_isEmpty 16 = .ok (.iconst 1, 1) := by decide +kernel
theorem dX12_isEmpty_17 : decode cX12_isEmpty 17 = .ok (.goto 4, 3) := by decide +kernel
theorem dX12_isEmpty_20 : decode cX12_isEmpty 20 = .ok (.iconst 0, 1) := by decide +kernel
theorem dX12_isEmpty_21 : decode cX12_isEmpty 21 = .ok (.ireturn, 1) := by decide +kernel
theorem dX12_isAlone_0 : decode cX12_isAlone 0 = .ok (.aload_n 0, 1) := by decide +kernel
theorem dX12_isAlone_1 : decode cX12_isAlone 1 = .ok (.iload_n 1, 1) := by decide +kernel
theorem dX12_isAlone_2 : decode cX12_isAlone 2 = .ok (.invokevirtual 1059, 3) := by decide +kernel
theorem dX12_isAlone_5 : decode cX12_isAlone 5 = .ok (.istore_n 2, 1) := by decide +kernel
theorem dX12_isAlone_6 : decode cX12_isAlone 6 = .ok (.aload_n 0, 1) := by decide +kernel
theorem dX12_isAlone_7 : decode cX12_isAlone 7 = .ok (.iload_n 1, 1) := by decide +kernel
theorem dX12_isAlone_8 : decode cX12_isAlone 8 = .ok (.invokevirtual 1062, 3) := by decide +kernel
theorem dX12_isAlone_11 : decode cX12_isAlone 11 = .ok (.ifCond .ne 47, 3) := by decide +kernel
theorem dX12_isAlone_14 : decode cX12_isAlone 14 = .ok (.iload_n 2, 1) := by decide +kernel
theorem dX12_isAlone_15 : decode cX12_isAlone 15 = .ok (.iconst 1, 1) := by decide +kernel
theorem dX12_isAlone_16 : decode cX12_isAlone 16 = .ok (.if_icmp .eq 38, 3) := by decide +kernel
theorem dX12_isAlone_19 : decode cX12_isAlone 19 = .ok (.iload_n 2, 1) := by decide +kernel
theorem dX12_isAlone_20 : decode cX12_isAlone 20 = .ok (.iconst 2, 1) := by decide +kernel
theorem dX12_isAlone_21 : decode cX12_isAlone 21 = .ok (.if_icmp .eq 33, 3) := by decide +kernel
theorem dX12_isAlone_24 : decode cX12_isAlone 24 = .ok (.iload_n 2, 1) := by decide +kernel
theorem dX12_isAlone_25 : decode cX12_isAlone 25 = .ok (.iconst 4, 1) := by decide +kernel
theorem dX12_isAlone_26 : decode cX12_isAlone 26 = .ok (.if_icmp .eq 28, 3) := by decide +kernel
theorem dX12_isAlone_29 : decode cX12_isAlone 29 = .ok (.iload_n 2, 1) := by decide +kernel
theorem dX12_isAlone_30 : decode cX12_isAlone 30 = .ok (.bipush 8, 2) := by decide +kernel
theorem dX12_isAlone_32 : decode cX12_isAlone 32 = .ok (.if_icmp .eq 22, 3) := by decide +kernel
theorem dX12_isAlone_35 : decode cX12_isAlone 35 = .ok (.iload_n 2, 1) := by decide +kernel
theorem dX12_isAlone_36 : decode cX12_isAlone 36 = .ok (.bipush 16, 2) := by decide +kernel
theorem dX12_isAlone_38 : decode cX12_isAlone 38 = .ok (.if_icmp .eq 16, 3) := by decide +kernel
theorem dX12_isAlone_41 : decode cX12_isAlone 41 = .ok (.iload_n 2, 1) := by decide +kernel
theorem dX12_isAlone_42 : decode cX12_isAlone 42 = .ok (.bipush 32, 2) := by decide +kernel
theorem dX12_isAlone_44 : decode cX12_isAlone 44 = .ok (.if_icmp .eq 10, 3) := by decide +kernel
theorem dX12_isAlone_47 : decode cX12_isAlone 47 = .ok (.iload_n 2, 1) := by decide +kernel
theorem dX12_isAlone_48 : decode cX12_isAlone 48 = .ok (.sipush 128, 3) := by decide +kernel
theorem dX12_isAlone_51 : decode cX12_isAlone 51 = .ok (.if_icmp .ne 7, 3) := by decide +kernel
theorem dX12_isAlone_54 : decode cX12_isAlone 54 = .ok (.iconst 1, 1) := by decide +kernel
theorem dX12_isAlone_55 : decode cX12_isAlone 55 = .ok (.goto 4, 3) := by decide +kernel
theorem dX12_isAlone_58 : decode cX12_isAlone 58 = .ok (.iconst 0, 1) := by decide +kernel
theorem dX12_isAlone_59 : decode cX12_isAlone 59 = .ok (.ireturn, 1) := by decide +kernel
theorem dX12_addSort_0 : decode cX12_addSort 0 = .ok (.ldc_w 1065, 3) := by decide +kernel
theorem dX12_addSort_3 : decode cX12_addSort 3 = .ok (.istore_n 3, 1) := by decide +kernel
theorem dX12_addSort_4 : decode cX12_addSort 4 = .ok (.aload_n 0, 1) := by decide +kernel
theorem dX12_addSort_5 : decode cX12_addSort 5 = .ok (.iload_n 3, 1) := by decide +kernel
theorem dX12_addSort_6 : decode cX12_addSort 6 = .ok (.invokevirtual 1066, 3) := by decide +kernel
theorem dX12_addSort_9 : decode cX12_addSort 9 = .ok (.aload_n 0, 1) := by decide +kernel
theorem dX12_addSort_10 : decode cX12_addSort 10 = .ok (.iload_n 3, 1) := by decide +kernel
theorem dX12_addSort_11 : decode cX12_addSort 11 = .ok (.iload_n 2, 1) := by decide +kernel
theorem dX12_addSort_12 : decode cX12_addSort 12 = .ok (.iconst 0, 1) := by decide +kernel
theorem dX12_addSort_13 : decode cX12_addSort 13 = .ok (.iconst 0, 1) := by decide +kernel
theorem dX12_addSort_14 : decode cX12_addSort 14 = .ok (.invokevirtual 1056, 3) := by decide +kernel
theorem dX12_addSort_17 : decode cX12_addSort 17 = .ok (.aload_n 0, 1) := by decide +kernel
theorem dX12_addSort_18 : decode cX12_addSort 18 = .ok (.iload_n 3, 1) := by decide +kernel
theorem dX12_addSort_19 : decode cX12_addSort 19 = .ok (.iload_n 1, 1) := by decide +kernel
theorem dX12_addSort_20 : decode cX12_addSort 20 = .ok (.invokevirtual 1069, 3) := by decide +kernel
theorem dX12_addSort_23 : decode cX12_addSort 23 = .ok (.istore 4, 2) := by decide +kernel
theorem dX12_addSort_25 : decode cX12_addSort 25 = .ok (.return_, 1) := by decide +kernel
theorem dX12_addNumber_0 : decode cX12_addNumber 0 = .ok (.ldc_w 1065, 3) := by decide +kernel
theorem dX12_addNumber_3 : decode cX12_addNumber 3 = .ok (.istore_n 3, 1) := by decide +kernel
theorem dX12_addNumber_4 : decode cX12_addNumber 4 = .ok (.aload_n 0, 1) := by decide +kernel
theorem dX12_addNumber_5 : decode cX12_addNumber 5 = .ok (.iload_n 3, 1) := by decide +kernel
theorem dX12_addNumber_6 : decode cX12_addNumber 6 = .ok (.invokevirtual 1066, 3) := by decide +kernel
theorem dX12_addNumber_9 : decode cX12_addNumber 9 = .ok (.aload_n 0, 1) := by decide +kernel
theorem dX12_addNumber_10 : decode cX12_addNumber 10 = .ok (.iload_n 3, 1) := by decide +kernel
theorem dX12_addNumber_11 : decode cX12_addNumber 11 = .ok (.bipush 32, 2) := by decide +kernel
theorem dX12_addNumber_13 : decode cX12_addNumber 13 = .ok (.iconst 0, 1) := by decide +kernel
theorem dX12_addNumber_14 : decode cX12_addNumber 14 = .ok (.iload_n 2, 1) := by decide +kernel
theorem dX12_addNumber_15 : decode cX12_addNumber 15 = .ok (.invokevirtual 1056, 3) := by decide +kernel
theorem dX12_addNumber_18 : decode cX12_addNumber 18 = .ok (.aload_n 0, 1) := by decide +kernel
theorem dX12_addNumber_19 : decode cX12_addNumber 19 = .ok (.iload_n 3, 1) := by decide +kernel
theorem dX12_addNumber_20 : decode cX12_addNumber 20 = .ok (.iload_n 1, 1) := by decide +kernel
theorem dX12_addNumber_21 : decode cX12_addNumber 21 = .ok (.invokevirtual 1069, 3) := by decide +kernel
theorem dX12_addNumber_24 : decode cX12_addNumber 24 = .ok (.istore 4, 2) := by decide +kernel
theorem dX12_addNumber_26 : decode cX12_addNumber 26 = .ok (.return_, 1) := by decide +kernel
theorem dX12_addString_0 : decode cX12_addString 0 = .ok (.ldc_w 1065, 3) := by decide +kernel
theorem dX12_addString_3 : decode cX12_addString 3 = .ok (.istore_n 3, 1) := by decide +kernel
theorem dX12_addString_4 : decode cX12_addString 4 = .ok (.aload_n 0, 1) := by decide +kernel
theorem dX12_addString_5 : decode cX12_addString 5 = .ok (.iload_n 3, 1) := by decide +kernel
theorem dX12_addString_6 : decode cX12_addString 6 = .ok (.invokevirtual 1066, 3) := by decide +kernel
theorem dX12_addString_9 : decode cX12_addString 9 = .ok (.aload_n 0, 1) := by decide +kernel
theorem dX12_addString_10 : decode cX12_addString 10 = .ok (.iload_n 3, 1) := by decide +kernel
theorem dX12_addString_11 : decode cX12_addString 11 = .ok (.iload_n 2, 1) := by decide +kernel
theorem dX12_addString_12 : decode cX12_addString 12 = .ok (.iconst (-1), 1) := by decide +kernel
theorem dX12_addString_13 : decode cX12_addString 13 = .ok (.if_icmp .ne 9, 3) := by decide +kernel
theorem dX12_addString_16 : decode cX12_addString 16 = .ok (.sipush 256, 3) := by decide +kernel
theorem dX12_addString_19 : decode cX12_addString 19 = .ok (.goto 6, 3) := by decide +kernel
theorem dX12_addString_22 : decode cX12_addString 22 = .ok (.sipush 128, 3) := by decide +kernel
theorem dX12_addString_25 : decode cX12_addString 25 = .ok (.iload_n 2, 1) := by decide +kernel
theorem dX12_addString_26 : decode cX12_addString 26 = .ok (.iconst (-1), 1) := by decide +kernel
theorem dX12_addString_27 : decode cX12_addString 27 = .ok (.if_icmp .ne 7, 3) := by decide +kernel
theorem dX12_addString_30 : decode cX12_addString 30 = .ok (.iconst 0, 1) := by decide +kernel
theorem dX12_addString_31 : decode cX12_addString 31 = .ok (.goto 4, 3) := by decide +kernel
theorem dX12_addString_34 : decode cX12_addString 34 = .ok (.iload_n 2, 1) := by decide +kernel
theorem dX12_addString_35 : decode cX12_addString 35 = .ok (.iconst 0, 1) := by decide +kernel
theorem dX12_addString_36 : decode cX12_addString 36 = .ok (.invokevirtual 1056, 3) := by decide +kernel
theorem dX12_addString_39 : decode cX12_addString 39 = .ok (.aload_n 0, 1) := by decide +kernel
theorem dX12_addString_40 : decode cX12_addString 40 = .ok (.iload_n 3, 1) := by decide +kernel
theorem dX12_addString_41 : decode cX12_addString 41 = .ok (.iload_n 1, 1) := by decide +kernel
theorem dX12_addString_42 : decode cX12_addString 42 = .ok (.invokevirtual 1069, 3) := by decide +kernel
theorem dX12_addString_45 : decode cX12_addString 45 = .ok (.istore 4, 2) := by decide +kernel
theorem dX12_addString_47 : decode cX12_addString 47 = .ok (.return_, 1) := by decide +kernel
theorem dX12_addLabel_0 : decode cX12_addLabel 0 = .ok (.iload_n 2, 1) := by decide +kernel
theorem dX12_addLabel_1 : decode cX12_addLabel 1 = .ok (.bipush 64, 2) := by decide +kernel
theorem dX12_addLabel_3 : decode cX12_addLabel 3 = .ok (.if_icmp .ge 22, 3) := by decide +kernel
theorem dX12_addLabel_6 : decode cX12_addLabel 6 = .ok (.aload_n 0, 1) := by decide +kernel
theorem dX12_addLabel_7 : decode cX12_addLabel 7 = .ok (.getfield 220, 3) := by decide +kernel
theorem dX12_addLabel_10 : decode cX12_addLabel 10 = .ok (.iload_n 1, 1) := by decide +kernel
theorem dX12_addLabel_11 : decode cX12_addLabel 11 = .ok (.aload_n 0, 1) := by decide +kernel
theorem dX12_addLabel_12 : decode cX12_addLabel 12 = .ok (.getfield 220, 3) := by decide +kernel
theorem dX12_addLabel_15 : decode cX12_addLabel 15 = .ok (.iload_n 1, 1) := by decide +kernel
theorem dX12_addLabel_16 : decode cX12_addLabel 16 = .ok (.laload, 1) := by decide +kernel
theorem dX12_addLabel_17 : decode cX12_addLabel 17 = .ok (.lconst 1, 1) := by decide +kernel
theorem dX12_addLabel_18 : decode cX12_addLabel 18 = .ok (.iload_n 2, 1) := by decide +kernel
theorem dX12_addLabel_19 : decode cX12_addLabel 19 = .ok (.lshl, 1) := by decide +kernel
theorem dX12_addLabel_20 : decode cX12_addLabel 20 = .ok (.lor, 1) := by decide +kernel
theorem dX12_addLabel_21 : decode cX12_addLabel 21 = .ok (.lastore, 1) := by decide +kernel
theorem dX12_addLabel_22 : decode cX12_addLabel 22 = .ok (.goto 22, 3) := by decide +kernel
theorem dX12_addLabel_25 : decode cX12_addLabel 25 = .ok (.aload_n 0, 1) := by decide +kernel
theorem dX12_addLabel_26 : decode cX12_addLabel 26 = .ok (.getfield 223, 3) := by decide +kernel
theorem dX12_addLabel_29 : decode cX12_addLabel 29 = .ok (.iload_n 1, 1) := by decide +kernel
theorem dX12_addLabel_30 : decode cX12_addLabel 30 = .ok (.aload_n 0, 1) := by decide +kernel
theorem dX12_addLabel_31 : decode cX12_addLabel 31 = .ok (.getfield 223, 3) := by decide +kernel
theorem dX12_addLabel_34 : decode cX12_addLabel 34 = .ok (.iload_n 1, 1) := by decide +kernel
theorem dX12_addLabel_35 : decode cX12_addLabel 35 = .ok (.laload, 1) := by decide +kernel
theorem dX12_addLabel_36 : decode cX12_addLabel 36 = .ok (.lconst 1, 1) := by decide +kernel
theorem dX12_addLabel_37 : decode cX12_addLabel 37 = .ok (.iload_n 2, 1) := by decide +kernel
theorem dX12_addLabel_38 : decode cX12_addLabel 38 = .ok (.bipush 64, 2) := by decide +kernel
theorem dX12_addLabel_40 : decode cX12_addLabel 40 = .ok (.isub, 1) := by decide +kernel
theorem dX12_addLabel_41 : decode cX12_addLabel 41 = .ok (.lshl, 1) := by decide +kernel
theorem dX12_addLabel_42 : decode cX12_addLabel 42 = .ok (.lor, 1) := by decide +kernel
theorem dX12_addLabel_43 : decode cX12_addLabel 43 = .ok (.lastore, 1) := by decide +kernel
theorem dX12_addLabel_44 : decode cX12_addLabel 44 = .ok (.return_, 1) := by decide +kernel
theorem dX12_isIn_0 : decode cX12_isIn 0 = .ok (.iload 4, 2) := by decide +kernel
theorem dX12_isIn_2 : decode cX12_isIn 2 = .ok (.bipush 64, 2) := by decide +kernel
theorem dX12_isIn_4 : decode cX12_isIn 4 = .ok (.if_icmp .ge 10, 3) := by decide +kernel
theorem dX12_isIn_7 : decode cX12_isIn 7 = .ok (.lload_n 0, 1) := by decide +kernel
theorem dX12_isIn_8 : decode cX12_isIn 8 = .ok (.iload 4, 2) := by decide +kernel
theorem dX12_isIn_10 : decode cX12_isIn 10 = .ok (.lshr, 1) := by decide +kernel
theorem dX12_isIn_11 : decode cX12_isIn 11 = .ok (.goto 10, 3) := by decide +kernel
theorem dX12_isIn_14 : decode cX12_isIn 14 = .ok (.lload_n 2, 1) := by decide +kernel
theorem dX12_isIn_15 : decode cX12_isIn 15 = .ok (.iload 4, 2) := by decide +kernel
theorem dX12_isIn_17 : decode cX12_isIn 17 = .ok (.bipush 64, 2) := by decide +kernel
theorem dX12_isIn_19 : decode cX12_isIn 19 = .ok (.isub, 1) := by decide +kernel
theorem dX12_isIn_20 : decode cX12_isIn 20 = .ok (.lshr, 1) := by decide +kernel
theorem dX12_isIn_21 : decode cX12_isIn 21 = .ok (.lconst 1, 1) := by decide +kernel
theorem dX12_isIn_22 : decode cX12_isIn 22 = .ok (.land, 1) := by decide +kernel
theorem dX12_isIn_23 : decode cX12_isIn 23 = .ok (.lconst 1, 1) := by decide +kernel
theorem dX12_isIn_24 : decode cX12_isIn 24 = .ok (.lcmp, 1) := by decide +kernel
theorem dX12_isIn_25 : decode cX12_isIn 25 = .ok (.ifCond .ne 7, 3) := by decide +kernel
theorem dX12_isIn_28 : decode cX12_isIn 28 = .ok (.iconst 1, 1) := by decide +kernel
theorem dX12_isIn_29 : decode cX12_isIn 29 = .ok (.goto 4, 3) := by decide +kernel
theorem dX12_isIn_32 : decode cX12_isIn 32 = .ok (.iconst 0, 1) := by decide +kernel
theorem dX12_isIn_33 : decode cX12_isIn 33 = .ok (.ireturn, 1) := by decide +kernel
theorem dX12_addValue_0 : decode cX12_addValue 0 = .ok (.iload_n 2, 1) := by decide +kernel
theorem dX12_addValue_1 : decode cX12_addValue 1 = .ok (.iconst 5, 1) := by decide +kernel
theorem dX12_addValue_2 : decode cX12_addValue 2 = .ok (.if_icmp .ge 14, 3) := by decide +kernel
theorem dX12_addValue_5 : decode cX12_addValue 5 = .ok (.aload_n 0, 1) := by decide +kernel
theorem dX12_addValue_6 : decode cX12_addValue 6 = .ok (.iload_n 1, 1) := by decide +kernel
theorem dX12_addValue_7 : decode cX12_addValue 7 = .ok (.iconst 1, 1) := by decide +kernel
theorem dX12_addValue_8 : decode cX12_addValue 8 = .ok (.iload_n 2, 1) := by decide +kernel
theorem dX12_addValue_9 : decode cX12_addValue 9 = .ok (.ishl, 1) := by decide +kernel
theorem dX12_addValue_10 : decode cX12_addValue 10 = .ok (.invokevirtual 1072, 3) := by decide +kernel
theorem dX12_addValue_13 : decode cX12_addValue 13 = .ok (.goto 38, 3) := by decide +kernel
theorem dX12_addValue_16 : decode cX12_addValue 16 = .ok (.iload_n 2, 1) := by decide +kernel
theorem dX12_addValue_17 : decode cX12_addValue 17 = .ok (.iconst 5, 1) := by decide +kernel
theorem dX12_addValue_18 : decode cX12_addValue 18 = .ok (.if_icmp .ne 12, 3) := by decide +kernel
theorem dX12_addValue_21 : decode cX12_addValue 21 = .ok (.aload_n 0, 1) := by decide +kernel
theorem dX12_addValue_22 : decode cX12_addValue 22 = .ok (.iload_n 1, 1) := by decide +kernel
theorem dX12_addValue_23 : decode cX12_addValue 23 = .ok (.iload_n 3, 1) := by decide +kernel
theorem dX12_addValue_24 : decode cX12_addValue 24 = .ok (.invokevirtual 1075, 3) := by decide +kernel
theorem dX12_addValue_27 : decode cX12_addValue 27 = .ok (.goto 24, 3) := by decide +kernel
theorem dX12_addValue_30 : decode cX12_addValue 30 = .ok (.iload_n 2, 1) := by decide +kernel
theorem dX12_addValue_31 : decode cX12_addValue 31 = .ok (.bipush 6, 2) := by decide +kernel
theorem dX12_addValue_33 : decode cX12_addValue 33 = .ok (.if_icmp .ne 12, 3) := by decide +kernel
theorem dX12_addValue_36 : decode cX12_addValue 36 = .ok (.aload_n 0, 1) := by decide +kernel
theorem dX12_addValue_37 : decode cX12_addValue 37 = .ok (.iload_n 1, 1) := by decide +kernel
theorem dX12_addValue_38 : decode cX12_addValue 38 = .ok (.iload_n 3, 1) := by decide +kernel
theorem dX12_addValue_39 : decode cX12_addValue 39 = .ok (.invokevirtual 1078, 3) := by decide +kernel
theorem dX12_addValue_42 : decode cX12_addValue 42 = .ok (.goto 9, 3) := by decide +kernel
theorem dX12_addValue_45 : decode cX12_addValue 45 = .ok (.aload_n 0, 1) := by decide +kernel
theorem dX12_addValue_46 : decode cX12_addValue 46 = .ok (.iload_n 1, 1) := by decide +kernel
theorem dX12_addValue_47 : decode cX12_addValue 47 = .ok (.iload_n 3, 1) := by decide +kernel
theorem dX12_addValue_48 : decode cX12_addValue 48 = .ok (.invokevirtual 1081, 3) := by decide +kernel
theorem dX12_addValue_51 : decode cX12_addValue 51 = .ok (.return_, 1) := by decide +kernel
theorem dX12_sortOfAlone_0 : decode cX12_sortOfAlone 0 = .ok (.aload_n 0, 1) := by decide +kernel
theorem dX12_sortOfAlone_1 : decode cX12_sortOfAlone 1 = .ok (.iload_n 1, 1) := by decide +kernel
theorem dX12_sortOfAlone_2 : decode cX12_sortOfAlone 2 = .ok (.invokevirtual 1059, 3) := by decide +kernel
theorem dX12_sortOfAlone_5 : decode cX12_sortOfAlone 5 = .ok (.istore_n 2, 1) := by decide +kernel
theorem dX12_sortOfAlone_6 : decode cX12_sortOfAlone 6 = .ok (.iload_n 2, 1) := by decide +kernel
theorem dX12_sortOfAlone_7 : decode cX12_sortOfAlone 7 = .ok (.bipush 32, 2) := by decide +kernel
theorem dX12_sortOfAlone_9 : decode cX12_sortOfAlone 9 = .ok (.if_icmp .ne 7, 3) := by decide +kernel
theorem dX12_sortOfAlone_12 : decode cX12_sortOfAlone 12 = .ok (.iconst 5, 1) := by decide +kernel
theorem dX12_sortOfAlone_13 : decode cX12_sortOfAlone 13 = .ok (.goto 53, 3) := by decide +kernel
theorem dX12_sortOfAlone_16 : decode cX12_sortOfAlone 16 = .ok (.iload_n 2, 1) := by decide +kernel
theorem dX12_sortOfAlone_17 : decode cX12_sortOfAlone 17 = .ok (.sipush 128, 3) := by decide +kernel
theorem dX12_sortOfAlone_20 : decode cX12_sortOfAlone 20 = .ok (.if_icmp .ne 8, 3) := by decide +kernel
theorem dX12_sortOfAlone_23 : decode cX12_sortOfAlone 23 = .ok (.bipush 6, 2) := by decide +kernel
theorem dX12_sortOfAlone_25 : decode cX12_sortOfAlone 25 = .ok (.goto 41, 3) := by decide +kernel
theorem dX12_sortOfAlone_28 : decode cX12_sortOfAlone 28 = .ok (.iload_n 2, 1) := by decide +kernel
theorem dX12_sortOfAlone_29 : decode cX12_sortOfAlone 29 = .ok (.iconst 1, 1) := by decide +kernel
theorem dX12_sortOfAlone_30 : decode cX12_sortOfAlone 30 = .ok (.if_icmp .ne 7, 3) := by decide +kernel
theorem dX12_sortOfAlone_33 : decode cX12_sortOfAlone 33 = .ok (.iconst 0, 1) := by decide +kernel
theorem dX12_sortOfAlone_34 : decode cX12_sortOfAlone 34 = .ok (.goto 32, 3) := by decide +kernel
theorem dX12_sortOfAlone_37 : decode cX12_sortOfAlone 37 = .ok (.iload_n 2, 1) := by decide +kernel
theorem dX12_sortOfAlone_38 : decode cX12_sortOfAlone 38 = .ok (.iconst 2, 1) := by decide +kernel
theorem dX12_sortOfAlone_39 : decode cX12_sortOfAlone 39 = .ok (.if_icmp .ne 7, 3) := by decide +kernel
theorem dX12_sortOfAlone_42 : decode cX12_sortOfAlone 42 = .ok (.iconst 1, 1) := by decide +kernel
theorem dX12_sortOfAlone_43 : decode cX12_sortOfAlone 43 = .ok (.goto 23, 3) := by decide +kernel
theorem dX12_sortOfAlone_46 : decode cX12_sortOfAlone 46 = .ok (.iload_n 2, 1) := by decide +kernel
theorem dX12_sortOfAlone_47 : decode cX12_sortOfAlone 47 = .ok (.iconst 4, 1) := by decide +kernel
theorem dX12_sortOfAlone_48 : decode cX12_sortOfAlone 48 = .ok (.if_icmp .ne 7, 3) := by decide +kernel
theorem dX12_sortOfAlone_51 : decode cX12_sortOfAlone 51 = .ok (.iconst 2, 1) := by decide +kernel
theorem dX12_sortOfAlone_52 : decode cX12_sortOfAlone 52 = .ok (.goto 14, 3) := by decide +kernel
theorem dX12_sortOfAlone_55 : decode cX12_sortOfAlone 55 = .ok (.iload_n 2, 1) := by decide +kernel
theorem dX12_sortOfAlone_56 : decode cX12_sortOfAlone 56 = .ok (.bipush 8, 2) := by decide +kernel
theorem dX12_sortOfAlone_58 : decode cX12_sortOfAlone 58 = .ok (.if_icmp .ne 7, 3) := by decide +kernel
theorem dX12_sortOfAlone_61 : decode cX12_sortOfAlone 61 = .ok (.iconst 3, 1) := by decide +kernel
theorem dX12_sortOfAlone_62 : decode cX12_sortOfAlone 62 = .ok (.goto 4, 3) := by decide +kernel
theorem dX12_sortOfAlone_65 : decode cX12_sortOfAlone 65 = .ok (.iconst 4, 1) := by decide +kernel
theorem dX12_sortOfAlone_66 : decode cX12_sortOfAlone 66 = .ok (.ireturn, 1) := by decide +kernel
theorem dX12_valueOfAlone_0 : decode cX12_valueOfAlone 0 = .ok (.aload_n 0, 1) := by decide +kernel
theorem dX12_valueOfAlone_1 : decode cX12_valueOfAlone 1 = .ok (.iload_n 1, 1) := by decide +kernel
theorem dX12_valueOfAlone_2 : decode cX12_valueOfAlone 2 = .ok (.invokevirtual 1059, 3) := by decide +kernel
theorem dX12_valueOfAlone_5 : decode cX12_valueOfAlone 5 = .ok (.bipush 32, 2) := by decide +kernel
theorem dX12_valueOfAlone_7 : decode cX12_valueOfAlone 7 = .ok (.if_icmp .ne 11, 3) := by decide +kernel
theorem dX12_valueOfAlone_10 : decode cX12_valueOfAlone 10 = .ok (.aload_n 0, 1) := by decide +kernel
theorem dX12_valueOfAlone_11 : decode cX12_valueOfAlone 11 = .ok (.iload_n 1, 1) := by decide +kernel
theorem dX12_valueOfAlone_12 : decode cX12_valueOfAlone 12 = .ok (.invokevirtual 1050, 3) := by decide +kernel
theorem dX12_valueOfAlone_15 : decode cX12_valueOfAlone 15 = .ok (.goto 23, 3) := by decide +kernel
theorem dX12_valueOfAlone_18 : decode cX12_valueOfAlone 18 = .ok (.aload_n 0, 1) := by decide +kernel
theorem dX12_valueOfAlone_19 : decode cX12_valueOfAlone 19 = .ok (.iload_n 1, 1) := by decide +kernel
theorem dX12_valueOfAlone_20 : decode cX12_valueOfAlone 20 = .ok (.invokevirtual 1059, 3) := by decide +kernel
theorem dX12_valueOfAlone_23 : decode cX12_valueOfAlone 23 = .ok (.sipush 128, 3) := by decide +kernel
theorem dX12_valueOfAlone_26 : decode cX12_valueOfAlone 26 = .ok (.if_icmp .ne 11, 3) := by decide +kernel
theorem dX12_valueOfAlone_29 : decode cX12_valueOfAlone 29 = .ok (.aload_n 0, 1) := by decide +kernel
theorem dX12_valueOfAlone_30 : decode cX12_valueOfAlone 30 = .ok (.iload_n 1, 1) := by decide +kernel
theorem dX12_valueOfAlone_31 : decode cX12_valueOfAlone 31 = .ok (.invokevirtual 1053, 3) := by decide +kernel
theorem dX12_valueOfAlone_34 : decode cX12_valueOfAlone 34 = .ok (.goto 4, 3) := by decide +kernel
theorem dX12_valueOfAlone_37 : decode cX12_valueOfAlone 37 = .ok (.iconst 0, 1) := by decide +kernel
theorem dX12_valueOfAlone_38 : decode cX12_valueOfAlone 38 = .ok (.ireturn, 1) := by decide +kernel
theorem dX12_mayBeTrue_0 : decode cX12_mayBeTrue 0 = .ok (.aload_n 0, 1) := by decide +kernel
theorem dX12_mayBeTrue_1 : decode cX12_mayBeTrue 1 = .ok (.iload_n 1, 1) := by decide +kernel
theorem dX12_mayBeTrue_2 : decode cX12_mayBeTrue 2 = .ok (.invokevirtual 1047, 3) := by decide +kernel
theorem dX12_mayBeTrue_5 : decode cX12_mayBeTrue 5 = .ok (.istore_n 2, 1) := by decide +kernel
theorem dX12_mayBeTrue_6 : decode cX12_mayBeTrue 6 = .ok (.iload_n 2, 1) := by decide +kernel
theorem dX12_mayBeTrue_7 : decode cX12_mayBeTrue 7 = .ok (.sipush 324, 3) := by decide +kernel
theorem dX12_mayBeTrue_10 : decode cX12_mayBeTrue 10 = .ok (.iand, 1) := by decide +kernel
theorem dX12_mayBeTrue_11 : decode cX12_mayBeTrue 11 = .ok (.ifCond .ne 44, 3) := by decide +kernel
theorem dX12_mayBeTrue_14 : decode cX12_mayBeTrue 14 = .ok (.iload_n 2, 1) := by decide +kernel
theorem dX12_mayBeTrue_15 : decode cX12_mayBeTrue 15 = .ok (.bipush 32, 2) := by decide +kernel
theorem dX12_mayBeTrue_17 : decode cX12_mayBeTrue 17 = .ok (.iand, 1) := by decide +kernel
theorem dX12_mayBeTrue_18 : decode cX12_mayBeTrue 18 = .ok (.ifCond .eq 11, 3) := by decide +kernel
theorem dX12_mayBeTrue_21 : decode cX12_mayBeTrue 21 = .ok (.aload_n 0, 1) := by decide +kernel
theorem dX12_mayBeTrue_22 : decode cX12_mayBeTrue 22 = .ok (.iload_n 1, 1) := by decide +kernel
theorem dX12_mayBeTrue_23 : decode cX12_mayBeTrue 23 = .ok (.invokevirtual 1050, 3) := by decide +kernel
theorem dX12_mayBeTrue_26 : decode cX12_mayBeTrue 26 = .ok (.ifCond .ne 29, 3) := by decide +kernel
theorem dX12_mayBeTrue_29 : decode cX12_mayBeTrue 29 = .ok (.iload_n 2, 1) := by decide +kernel
theorem dX12_mayBeTrue_30 : decode cX12_mayBeTrue 30 = .ok (.sipush 128, 3) := by decide +kernel
theorem dX12_mayBeTrue_33 : decode cX12_mayBeTrue 33 = .ok (.iand, 1) := by decide +kernel
theorem dX12_mayBeTrue_34 : decode cX12_mayBeTrue 34 = .ok (.ifCond .eq 13, 3) := by decide +kernel
theorem dX12_mayBeTrue_37 : decode cX12_mayBeTrue 37 = .ok (.aload_n 0, 1) := by decide +kernel
theorem dX12_mayBeTrue_38 : decode cX12_mayBeTrue 38 = .ok (.iload_n 1, 1) := by decide +kernel
theorem dX12_mayBeTrue_39 : decode cX12_mayBeTrue 39 = .ok (.invokevirtual 1053, 3) := by decide +kernel
theorem dX12_mayBeTrue_42 : decode cX12_mayBeTrue 42 = .ok (.bipush 30, 2) := by decide +kernel
theorem dX12_mayBeTrue_44 : decode cX12_mayBeTrue 44 = .ok (.if_icmp .ne 11, 3) := by decide +kernel
theorem dX12_mayBeTrue_47 : decode cX12_mayBeTrue 47 = .ok (.aload_n 0, 1) := by decide +kernel
theorem dX12_mayBeTrue_48 : decode cX12_mayBeTrue 48 = .ok (.iload_n 1, 1) := by decide +kernel
theorem dX12_mayBeTrue_49 : decode cX12_mayBeTrue 49 = .ok (.invokevirtual 1062, 3) := by decide +kernel
theorem dX12_mayBeTrue_52 : decode cX12_mayBeTrue 52 = .ok (.ifCond .eq 7, 3) := by decide +kernel
theorem dX12_mayBeTrue_55 : decode cX12_mayBeTrue 55 = .ok (.iconst 1, 1) := by decide +kernel
theorem dX12_mayBeTrue_56 : decode cX12_mayBeTrue 56 = .ok (.goto 4, 3) := by decide +kernel
theorem dX12_mayBeTrue_59 : decode cX12_mayBeTrue 59 = .ok (.iconst 0, 1) := by decide +kernel
theorem dX12_mayBeTrue_60 : decode cX12_mayBeTrue 60 = .ok (.ireturn, 1) := by decide +kernel
theorem dX12_mayBeFalse_0 : decode cX12_mayBeFalse 0 = .ok (.aload_n 0, 1) := by decide +kernel
theorem dX12_mayBeFalse_1 : decode cX12_mayBeFalse 1 = .ok (.iload_n 1, 1) := by decide +kernel
theorem dX12_mayBeFalse_2 : decode cX12_mayBeFalse 2 = .ok (.invokevirtual 1047, 3) := by decide +kernel
theorem dX12_mayBeFalse_5 : decode cX12_mayBeFalse 5 = .ok (.istore_n 2, 1) := by decide +kernel
theorem dX12_mayBeFalse_6 : decode cX12_mayBeFalse 6 = .ok (.iload_n 2, 1) := by decide +kernel
theorem dX12_mayBeFalse_7 : decode cX12_mayBeFalse 7 = .ok (.sipush 347, 3) := by decide +kernel
theorem dX12_mayBeFalse_10 : decode cX12_mayBeFalse 10 = .ok (.iand, 1) := by decide +kernel
theorem dX12_mayBeFalse_11 : decode cX12_mayBeFalse 11 = .ok (.ifCond .ne 36, 3) := by decide +kernel
theorem dX12_mayBeFalse_14 : decode cX12_mayBeFalse 14 = .ok (.iload_n 2, 1) := by decide +kernel
theorem dX12_mayBeFalse_15 : decode cX12_mayBeFalse 15 = .ok (.bipush 32, 2) := by decide +kernel
theorem dX12_mayBeFalse_17 : decode cX12_mayBeFalse 17 = .ok (.iand, 1) := by decide +kernel
theorem dX12_mayBeFalse_18 : decode cX12_mayBeFalse 18 = .ok (.ifCond .eq 11, 3) := by decide +kernel
theorem dX12_mayBeFalse_21 : decode cX12_mayBeFalse 21 = .ok (.aload_n 0, 1) := by decide +kernel
theorem dX12_mayBeFalse_22 : decode cX12_mayBeFalse 22 = .ok (.iload_n 1, 1) := by decide +kernel
theorem dX12_mayBeFalse_23 : decode cX12_mayBeFalse 23 = .ok (.invokevirtual 1050, 3) := by decide +kernel
theorem dX12_mayBeFalse_26 : decode cX12_mayBeFalse 26 = .ok (.ifCond .eq 21, 3) := by decide +kernel
theorem dX12_mayBeFalse_29 : decode cX12_mayBeFalse 29 = .ok (.iload_n 2, 1) := by decide +kernel
theorem dX12_mayBeFalse_30 : decode cX12_mayBeFalse 30 = .ok (.sipush 128, 3) := by decide +kernel
theorem dX12_mayBeFalse_33 : decode cX12_mayBeFalse 33 = .ok (.iand, 1) := by decide +kernel
theorem dX12_mayBeFalse_34 : decode cX12_mayBeFalse 34 = .ok (.ifCond .eq 17, 3) := by decide +kernel
theorem dX12_mayBeFalse_37 : decode cX12_mayBeFalse 37 = .ok (.aload_n 0, 1) := by decide +kernel
theorem dX12_mayBeFalse_38 : decode cX12_mayBeFalse 38 = .ok (.iload_n 1, 1) := by decide +kernel
theorem dX12_mayBeFalse_39 : decode cX12_mayBeFalse 39 = .ok (.invokevirtual 1053, 3) := by decide +kernel
theorem dX12_mayBeFalse_42 : decode cX12_mayBeFalse 42 = .ok (.bipush 30, 2) := by decide +kernel
theorem dX12_mayBeFalse_44 : decode cX12_mayBeFalse 44 = .ok (.if_icmp .ne 7, 3) := by decide +kernel
theorem dX12_mayBeFalse_47 : decode cX12_mayBeFalse 47 = .ok (.iconst 1, 1) := by decide +kernel
theorem dX12_mayBeFalse_48 : decode cX12_mayBeFalse 48 = .ok (.goto 4, 3) := by decide +kernel
theorem dX12_mayBeFalse_51 : decode cX12_mayBeFalse 51 = .ok (.iconst 0, 1) := by decide +kernel
theorem dX12_mayBeFalse_52 : decode cX12_mayBeFalse 52 = .ok (.ireturn, 1) := by decide +kernel
/-! THE SOLVER: sums over rows; what sets and labels have; what is left to come -/
def sm_su (f : Int → Int) (n : Int) : Int := if h : n ≤ 0 then 0 else sm_su f (n - 1) + f (n - 1)
termination_by n.toNat
decreasing_by omega
theorem sm_su_0 {f : Int → Int} {n : Int} (h : n ≤ 0) : sm_su f n = 0 := (sm_su.eq_def f n).trans (dif_pos h)
theorem sm_su_s {f : Int → Int} {n : Int} (h : 0 < n) : sm_su f n = sm_su f (n - 1) + f (n - 1) := (sm_su.eq_def f n).trans (dif_neg (by omega))
theorem sm_su_eq {f g : Int → Int} : ∀ (k : Nat) (n : Int), n.toNat = k → (∀ x : Int, 0 ≤ x → x < n → f x = g x) → sm_su f n = sm_su g n := by
  intro k
  induction k with
  | zero => intro n hn h; rw [sm_su_0 (f := f) (n := n) (by omega), sm_su_0 (f := g) (n := n) (by omega)]
  | succ k ih =>
    intro n hn h
    rw [sm_su_s (f := f) (n := n) (by omega), sm_su_s (f := g) (n := n) (by omega), ih (n - 1) (by omega) (fun x h0 h1 => h x h0 (by omega)), h (n - 1) (by omega) (by omega)]
theorem sm_su_up {f g : Int → Int} {i : Int} (h0 : 0 ≤ i) (h : ∀ x : Int, ¬ x = i → g x = f x) : ∀ (k : Nat) (n : Int), n.toNat = k → i < n → sm_su g n = sm_su f n - f i + g i := by
  intro k
  induction k with
  | zero => intro n hn h1; omega
  | succ k ih =>
    intro n hn h1
    rw [sm_su_s (f := f) (n := n) (by omega), sm_su_s (f := g) (n := n) (by omega)]
    by_cases hi : n - 1 = i
    · rw [hi, sm_su_eq k i (by omega) (fun x _ h3 => h x (by omega))]; omega
    · rw [ih (n - 1) (by omega) (by omega), h (n - 1) hi]; omega
theorem sm_su_r {f : Int → Int} {M : Int} : ∀ (k : Nat) (n : Int), n.toNat = k → 0 ≤ n → (∀ x : Int, 0 ≤ x → x < n → 0 ≤ f x ∧ f x ≤ M) → 0 ≤ sm_su f n ∧ sm_su f n ≤ M * n := by
  intro k
  induction k with
  | zero =>
    intro n hn h0 h
    have : n = 0 := by omega
    subst this
    rw [sm_su_0 (f := f) (n := 0) (by omega)]
    omega
  | succ k ih =>
    intro n hn h0 h
    have a := ih (n - 1) (by omega) (by omega) (fun x h1 h2 => h x h1 (by omega))
    have b := h (n - 1) (by omega) (by omega)
    have c : M * n = M * (n - 1) + M := by rw [Int.mul_sub, Int.mul_one]; omega
    rw [sm_su_s (f := f) (n := n) (by omega)]
    omega
def sm_cb (p : Nat → Bool) : Nat → Int
  | 0 => 0
  | n + 1 => sm_cb p n + (if p n then 1 else 0)
theorem sm_cb_r (p : Nat → Bool) : ∀ n : Nat, 0 ≤ sm_cb p n ∧ sm_cb p n ≤ n := by
  intro n
  induction n with
  | zero => exact ⟨Int.le_refl _, Int.le_refl _⟩
  | succ n ih =>
    show 0 ≤ sm_cb p n + (if p n then 1 else 0) ∧ sm_cb p n + (if p n then 1 else 0) ≤ ((n + 1 : Nat) : Int)
    split <;> omega
theorem sm_cb_m {p q : Nat → Bool} : ∀ n : Nat, (∀ i : Nat, i < n → p i = true → q i = true) → sm_cb p n ≤ sm_cb q n ∧ (sm_cb p n = sm_cb q n → ∀ i : Nat, i < n → q i = true → p i = true) := by
  intro n
  induction n with
  | zero => intro h; exact ⟨Int.le_refl _, fun _ i hi => absurd hi (Nat.not_lt_zero i)⟩
  | succ n ih =>
    intro h
    obtain ⟨a, b⟩ := ih (fun i hi => h i (by omega))
    have hn := h n (by omega)
    show sm_cb p n + (if p n then 1 else 0) ≤ sm_cb q n + (if q n then 1 else 0) ∧ (sm_cb p n + (if p n then 1 else 0) = sm_cb q n + (if q n then 1 else 0) → ∀ i : Nat, i < n + 1 → q i = true → p i = true)
    cases hp : p n with
    | true =>
      have hq := hn hp
      rw [hq]
      refine ⟨by omega, fun e i hi hqi => ?_⟩
      by_cases hin : i = n
      · rw [hin]; exact hp
      · exact b (by omega) i (by omega) hqi
    | false =>
      cases hq : q n with
      | true =>
        refine ⟨?_, fun e => ?_⟩
        · show sm_cb p n + 0 ≤ sm_cb q n + 1
          omega
        · have e' : sm_cb p n + 0 = sm_cb q n + 1 := e
          omega
      | false =>
        refine ⟨?_, fun e i hi hqi => ?_⟩
        · show sm_cb p n + 0 ≤ sm_cb q n + 0
          omega
        · have e' : sm_cb p n + 0 = sm_cb q n + 0 := e
          by_cases hin : i = n
          · rw [hin, hq] at hqi; exact absurd hqi (by decide)
          · exact b (by omega) i (by omega) hqi
def sm_pc (x : Int) : Int := sm_cb (fun i => (Int64.ofInt x).toBitVec.getLsbD i) 64
theorem sm_pc_r (x : Int) : 0 ≤ sm_pc x ∧ sm_pc x ≤ 64 := sm_cb_r _ 64
def sm_lor (a b : Int) : Int := (Int64.ofInt a ||| Int64.ofInt b).toInt
def sm_land (a b : Int) : Int := (Int64.ofInt a &&& Int64.ofInt b).toInt
def sm_lxor (a b : Int) : Int := (Int64.ofInt a ^^^ Int64.ofInt b).toInt
def sm_ior (a b : Int) : Int := (Int32.ofInt a ||| Int32.ofInt b).toInt
def sm_iand (a b : Int) : Int := (Int32.ofInt a &&& Int32.ofInt b).toInt
theorem sm_LI {a : Int} (h : sv_RL a) : (Int64.ofInt a).toInt = a := Int64.toInt_ofInt_of_le h.1 (Int.lt_of_le_of_lt h.2 (by decide))
theorem sm_lor_bits (a b : Int) (i : Nat) : (Int64.ofInt (sm_lor a b)).toBitVec.getLsbD i = ((Int64.ofInt a).toBitVec.getLsbD i || (Int64.ofInt b).toBitVec.getLsbD i) := by
  unfold sm_lor
  rw [Int64.ofInt_toInt, Int64.toBitVec_or, BitVec.getLsbD_or]
theorem sm_lor_pc {a b : Int} (h : sv_RL a) : sm_pc a ≤ sm_pc (sm_lor a b) ∧ (sm_pc a = sm_pc (sm_lor a b) → sm_lor a b = a) := by
  obtain ⟨m1, m2⟩ := sm_cb_m (p := fun i => (Int64.ofInt a).toBitVec.getLsbD i) (q := fun i => (Int64.ofInt (sm_lor a b)).toBitVec.getLsbD i) 64 (fun i _ hi => by
    show (Int64.ofInt (sm_lor a b)).toBitVec.getLsbD i = true
    rw [sm_lor_bits]
    have : (Int64.ofInt a).toBitVec.getLsbD i = true := hi
    rw [this]
    rfl)
  refine ⟨m1, fun e => ?_⟩
  have q := m2 e
  have e1 : Int64.ofInt (sm_lor a b) = Int64.ofInt a := by
    apply Int64.toBitVec.inj
    apply BitVec.eq_of_getLsbD_eq
    intro i hi
    cases h1 : (Int64.ofInt (sm_lor a b)).toBitVec.getLsbD i with
    | true => exact (q i hi h1).symm
    | false =>
      rw [sm_lor_bits] at h1
      cases h2 : (Int64.ofInt a).toBitVec.getLsbD i with
      | true => rw [h2, Bool.true_or] at h1; exact absurd h1 (by decide)
      | false => rfl
  have e2 : (Int64.ofInt (sm_lor a b)).toInt = (Int64.ofInt a).toInt := by rw [e1]
  rw [sm_LI h] at e2
  have e3 : (Int64.ofInt (sm_lor a b)).toInt = sm_lor a b := by unfold sm_lor; rw [Int64.ofInt_toInt]
  rw [e3] at e2
  exact e2
theorem sm_lor_1 {a b r x : Int} (h : sv_RL a) (e : sm_lor a b = r) : sm_pc a ≤ sm_pc r ∧ (¬ r = a → sm_pc a + 1 ≤ sm_pc r) := by
  subst e
  obtain ⟨p, q⟩ := sm_lor_pc (b := b) h
  exact ⟨p, fun n => by
    have : ¬ sm_pc a = sm_pc (sm_lor a b) := fun z => n (q z)
    omega⟩
/-- what comes (a) has something that is not there (b) -/
theorem sm_lor_new {a b c d r : Int} (h : sv_RL b) (e1 : sm_lxor b (-1) = c) (e2 : sm_land a c = d) (hd : ¬ d = 0) (e3 : sm_lor b a = r) : sm_pc b + 1 ≤ sm_pc r := by
  refine (sm_lor_1 (x := 0) h e3).2 (fun q => hd ?_)
  subst e1 e2
  have e4 : Int64.ofInt (sm_lor b a) = Int64.ofInt b := by rw [e3, q]
  have e5 : Int64.ofInt a &&& Int64.ofInt (sm_lxor b (-1)) = 0 := by
    apply Int64.toBitVec.inj
    apply BitVec.eq_of_getLsbD_eq
    intro i hi
    have e6 := sm_lor_bits b a i
    rw [e4] at e6
    unfold sm_lxor
    rw [Int64.ofInt_toInt, Int64.toBitVec_and, Int64.toBitVec_xor, BitVec.getLsbD_and, BitVec.getLsbD_xor]
    have e7 : (Int64.ofInt (-1)).toBitVec.getLsbD i = true := by
      have : (Int64.ofInt (-1)).toBitVec = BitVec.allOnes 64 := by decide
      rw [this, BitVec.getLsbD_allOnes]
      exact decide_eq_true hi
    rw [e7]
    have e8 : (0 : Int64).toBitVec.getLsbD i = false := by
      have : (0 : Int64).toBitVec = 0#64 := by decide
      rw [this, BitVec.getLsbD_zero]
    rw [e8]
    cases hb : (Int64.ofInt b).toBitVec.getLsbD i with
    | true => cases (Int64.ofInt a).toBitVec.getLsbD i <;> rfl
    | false =>
      rw [hb] at e6
      cases ha : (Int64.ofInt a).toBitVec.getLsbD i with
      | true => rw [ha] at e6; exact absurd e6 (by decide)
      | false => rfl
  unfold sm_land
  rw [e5]
  rfl
/-! the ten flags of a set -/
def sm_z10 (r : Int) : Prop := ∀ i : Nat, i < 10 → (Int64.ofInt r).toBitVec.getLsbD i = false
theorem sv_idivP {X : Nat → Option (List Int32)} {cs : sv_S → Nat × Nat} {L : Nat → Option ev_M} {sh : sv_S → List sv_C} {F : Nat} {Q : Option Value → sv_S → Prop} {y pc pc' : Nat} {lv : List (Nat × Value)} {st : List Value} {S : sv_S} {M : ev_M} {x z : Int} (hM : L y = some M) (hd : decode M.1.2.1 pc = .ok (.idiv, 1)) (hx : sv_R x) (hz : 0 < z ∧ z ≤ 2147483647) (hp : pc + 1 = pc') (k : ∀ r : Int, sv_R r → (0 ≤ x → r = x / z) → sv_T X cs L sh F Q y pc' lv (sv_I r :: st) S) : sv_T X cs L sh F Q y pc lv (sv_I z :: sv_I x :: st) S := by
  by_cases h : 0 ≤ x
  · have h1 : 0 ≤ x / z := Int.ediv_nonneg h (by omega)
    have h2 : x / z ≤ x := Int.ediv_le_self z h
    have h3 := hx.2
    exact sv_idiv hM hd ⟨h, h3⟩ hz hp (k (x / z) ⟨by omega, by omega⟩ (fun _ => rfl))
  · exact sv_idivA hM hd ⟨by omega, by omega⟩ (by omega) hp (fun r hr => k r hr (fun q => absurd q h))
theorem sm_lor_z {a b r : Int} (e : (Int64.ofInt a ||| Int64.ofInt b).toInt = r) (ha : sm_z10 a) (hb : sm_z10 b) : sm_z10 r := fun i hi => by
  have q := sm_lor_bits a b i
  rw [show sm_lor a b = r from e, ha i hi, hb i hi] at q
  exact q
def sm_tb (x : Int) (i : Nat) : Bool := x.toNat.testBit i
def sm_b1 (x : Int) (i : Nat) : Int := if sm_tb x i then 1 else 0
def sm_pr (a b : Bool) : Int := if b then (if a then 2 else 3) else if a then 1 else 0
def sm_hr (h : Int) : Int := sm_b1 h 0 + sm_b1 h 1 + sm_b1 h 2 + sm_b1 h 3 + sm_b1 h 4 + sm_b1 h 9 + sm_pr (sm_tb h 5) (sm_tb h 6) + sm_pr (sm_tb h 7) (sm_tb h 8)
theorem sm_b1_r (x : Int) (i : Nat) : 0 ≤ sm_b1 x i ∧ sm_b1 x i ≤ 1 := by unfold sm_b1; split <;> omega
theorem sm_pr_r (a b : Bool) : 0 ≤ sm_pr a b ∧ sm_pr a b ≤ 3 := by cases a <;> cases b <;> decide
theorem sm_hr_r (h : Int) : 0 ≤ sm_hr h ∧ sm_hr h ≤ 12 := by
  unfold sm_hr
  have a0 := sm_b1_r h 0
  have a1 := sm_b1_r h 1
  have a2 := sm_b1_r h 2
  have a3 := sm_b1_r h 3
  have a4 := sm_b1_r h 4
  have a9 := sm_b1_r h 9
  have b0 := sm_pr_r (sm_tb h 5) (sm_tb h 6)
  have b1 := sm_pr_r (sm_tb h 7) (sm_tb h 8)
  omega
def sm_J0 (x h : Int) : Prop := (0 ≤ x ∧ x < 1024) ∧ (0 ≤ h ∧ h < 1024) ∧ ∀ i : Nat, sm_tb x i = true → sm_tb h i = true
def sm_J1 (x h : Int) : Prop := (0 ≤ x ∧ x < 1024) ∧ (0 ≤ h ∧ h < 1024) ∧ (∀ i : Nat, ¬ i = 5 → sm_tb x i = true → sm_tb h i = true) ∧ (sm_tb x 5 = true → sm_tb h 5 = true ∨ sm_tb h 6 = true) ∧ ¬ (sm_tb h 5 = true ∧ sm_tb h 6 = true)
def sm_J2 (x h : Int) : Prop := (0 ≤ x ∧ x < 1024) ∧ (0 ≤ h ∧ h < 1024) ∧ (∀ i : Nat, ¬ i = 5 → ¬ i = 7 → sm_tb x i = true → sm_tb h i = true) ∧ (sm_tb x 5 = true → sm_tb h 5 = true ∨ sm_tb h 6 = true) ∧ ¬ (sm_tb h 5 = true ∧ sm_tb h 6 = true) ∧ (sm_tb x 7 = true → sm_tb h 7 = true ∨ sm_tb h 8 = true) ∧ ¬ (sm_tb h 7 = true ∧ sm_tb h 8 = true)
theorem sm_I32n {x : Int} (h0 : 0 ≤ x) (h1 : x < 1024) : (Int32.ofInt x).toBitVec.toNat = x.toNat := by
  rw [Int32.toBitVec_ofInt, BitVec.toNat_ofInt, Int.emod_eq_of_lt h0 (by omega)]
theorem sm_I32t {r : Int32} {n : Nat} (h : r.toBitVec.toNat = n) (hn : n < 1024) : r.toInt = (n : Int) := by
  show r.toBitVec.toInt = _
  rw [BitVec.toInt_eq_toNat_of_lt (by omega), h]
theorem sm_ior_n {x y : Int} (h0 : 0 ≤ x) (h1 : x < 1024) (h2 : 0 ≤ y) (h3 : y < 1024) : sm_ior x y = ((x.toNat ||| y.toNat : Nat) : Int) := by
  unfold sm_ior
  refine sm_I32t ?_ (Nat.or_lt_two_pow (n := 10) (by omega) (by omega))
  rw [Int32.toBitVec_or, BitVec.toNat_or, sm_I32n h0 h1, sm_I32n h2 h3]
theorem sm_J0_or {x y h : Int} (h0 : 0 ≤ x) (h1 : x < 1024) (h2 : 0 ≤ y) (h3 : y < 1024) (e : sm_ior x y = h) : sm_J0 x h := by
  subst e
  rw [sm_ior_n h0 h1 h2 h3]
  have hb : x.toNat ||| y.toNat < 1024 := Nat.or_lt_two_pow (n := 10) (by omega) (by omega)
  refine ⟨⟨h0, h1⟩, ⟨by omega, by omega⟩, fun i hi => ?_⟩
  unfold sm_tb at *
  rw [Int.toNat_natCast, Nat.testBit_or, hi]
  rfl
theorem sm_J0_up {x h y r : Int} (j : sm_J0 x h) (h2 : 0 ≤ y) (h3 : y < 1024) (e : sm_ior h y = r) : sm_J0 x r := by
  obtain ⟨a, b, c⟩ := sm_J0_or j.2.1.1 j.2.1.2 h2 h3 e
  exact ⟨j.1, b, fun i hi => c i (j.2.2 i hi)⟩
theorem sm_iand_n {x y : Int} (h0 : 0 ≤ x) (h1 : x < 1024) : sm_iand x y = ((x.toNat &&& (Int32.ofInt y).toBitVec.toNat : Nat) : Int) := by
  unfold sm_iand
  refine sm_I32t ?_ (Nat.lt_of_le_of_lt Nat.and_le_left (by omega))
  rw [Int32.toBitVec_and, BitVec.toNat_and, sm_I32n h0 h1]
theorem sm_iand_b {x y : Int} (h0 : 0 ≤ x) (h1 : x < 1024) (i : Nat) : sm_tb (sm_iand x y) i = (sm_tb x i && (Int32.ofInt y).toBitVec.toNat.testBit i) := by
  unfold sm_tb
  rw [sm_iand_n h0 h1, Int.toNat_natCast, Nat.testBit_and]
theorem sm_iand_r {x y : Int} (h0 : 0 ≤ x) (h1 : x < 1024) : 0 ≤ sm_iand x y ∧ sm_iand x y < 1024 := by
  rw [sm_iand_n h0 h1]
  have : x.toNat &&& (Int32.ofInt y).toBitVec.toNat ≤ x.toNat := Nat.and_le_left
  omega
theorem sm_tb0 {i : Nat} : sm_tb 0 i = false := by unfold sm_tb; exact Nat.zero_testBit i
theorem sm_iand_p {x y z : Int} {k : Nat} (h0 : 0 ≤ x) (h1 : x < 1024) (hy : (Int32.ofInt y).toBitVec.toNat = 2 ^ k) (e : sm_iand x y = z) : (z = 0 → sm_tb x k = false) ∧ (¬ z = 0 → sm_tb x k = true) := by
  subst e
  have hb := sm_iand_b (y := y) h0 h1
  rw [hy] at hb
  refine ⟨fun q => ?_, fun q => ?_⟩
  · have := hb k
    rw [q, sm_tb0, Nat.testBit_two_pow_self, Bool.and_true] at this
    exact this.symm
  · cases hk : sm_tb x k with
    | true => rfl
    | false =>
      refine absurd ?_ q
      have hz : ∀ i : Nat, (sm_iand x y).toNat.testBit i = false := fun i => by
        have := hb i
        unfold sm_tb at this
        rw [this, Nat.testBit_two_pow]
        by_cases hi : k = i
        · subst hi
          have h2 : x.toNat.testBit k = false := hk
          rw [h2]; rfl
        · rw [decide_eq_false hi, Bool.and_false]
      have h3 : (sm_iand x y).toNat = 0 := Nat.eq_of_testBit_eq (fun i => by rw [hz i, Nat.zero_testBit])
      have := (sm_iand_r (y := y) h0 h1).1
      omega
theorem sm_mask5 (i : Nat) (hi : i < 32) : (Int32.ofInt (-33)).toBitVec.toNat.testBit i = !decide (i = 5) := by
  have h : ∀ i : Fin 32, (Int32.ofInt (-33)).toBitVec.toNat.testBit i.val = !decide (i.val = 5) := by decide
  exact h ⟨i, hi⟩
theorem sm_mask7 (i : Nat) (hi : i < 32) : (Int32.ofInt (-129)).toBitVec.toNat.testBit i = !decide (i = 7) := by
  have h : ∀ i : Fin 32, (Int32.ofInt (-129)).toBitVec.toNat.testBit i.val = !decide (i.val = 7) := by decide
  exact h ⟨i, hi⟩
theorem sm_tbhi {x : Int} (h0 : 0 ≤ x) (h1 : x < 1024) {i : Nat} (hi : 10 ≤ i) : sm_tb x i = false := by
  unfold sm_tb
  exact Nat.testBit_lt_two_pow (Nat.lt_of_lt_of_le (by omega : x.toNat < 2 ^ 10) (Nat.pow_le_pow_right (by decide) hi))
theorem sm_J1_no {x h z : Int} (e : sm_iand h 64 = z) (hz : z = 0) (j : sm_J0 x h) : sm_J1 x h := by
  have q := (sm_iand_p (k := 6) j.2.1.1 j.2.1.2 (by decide) e).1 hz
  exact ⟨j.1, j.2.1, fun i _ hi => j.2.2 i hi, fun hi => Or.inl (j.2.2 5 hi), fun w => by rw [q] at w; exact absurd w.2 (by decide)⟩
theorem sm_J1_yes {x h z r : Int} (e : sm_iand h 64 = z) (hz : ¬ z = 0) (j : sm_J0 x h) (er : sm_iand h (-33) = r) : sm_J1 x r := by
  subst er
  have q := (sm_iand_p (k := 6) j.2.1.1 j.2.1.2 (by decide) e).2 hz
  have hb := sm_iand_b (y := -33) j.2.1.1 j.2.1.2
  have h6 : sm_tb (sm_iand h (-33)) 6 = true := by rw [hb 6, q]; decide
  have h5 : sm_tb (sm_iand h (-33)) 5 = false := by rw [hb 5, sm_mask5 5 (by decide)]; exact Bool.and_false _
  refine ⟨j.1, sm_iand_r j.2.1.1 j.2.1.2, fun i hi hx => ?_, fun _ => Or.inr h6, fun w => by rw [h5] at w; exact absurd w.1 (by decide)⟩
  by_cases h10 : 10 ≤ i
  · rw [sm_tbhi j.1.1 j.1.2 h10] at hx; exact absurd hx (by decide)
  · rw [hb i, j.2.2 i hx, sm_mask5 i (by omega), decide_eq_false hi]; rfl
theorem sm_J2_no {x h z : Int} (e : sm_iand h 256 = z) (hz : z = 0) (j : sm_J1 x h) : sm_J2 x h := by
  obtain ⟨a, b, c, d, f⟩ := j
  have q := (sm_iand_p (k := 8) b.1 b.2 (by decide) e).1 hz
  exact ⟨a, b, fun i h5 _ hi => c i h5 hi, d, f, fun hi => Or.inl (c 7 (by decide) hi), fun w => by rw [q] at w; exact absurd w.2 (by decide)⟩
theorem sm_J2_yes {x h z r : Int} (e : sm_iand h 256 = z) (hz : ¬ z = 0) (j : sm_J1 x h) (er : sm_iand h (-129) = r) : sm_J2 x r := by
  subst er
  obtain ⟨a, b, c, d, f⟩ := j
  have q := (sm_iand_p (k := 8) b.1 b.2 (by decide) e).2 hz
  have hb := sm_iand_b (y := -129) b.1 b.2
  have h8 : sm_tb (sm_iand h (-129)) 8 = true := by rw [hb 8, q]; decide
  have h7 : sm_tb (sm_iand h (-129)) 7 = false := by rw [hb 7, sm_mask7 7 (by decide)]; exact Bool.and_false _
  have hk : ∀ i : Nat, i < 10 → ¬ i = 7 → sm_tb (sm_iand h (-129)) i = sm_tb h i := fun i h1 h2 => by
    rw [hb i, sm_mask7 i (by omega), decide_eq_false h2]; exact Bool.and_true _
  refine ⟨a, sm_iand_r b.1 b.2, fun i h5 hi7 hx => ?_, fun hx => ?_, ?_, fun _ => Or.inr h8, fun w => by rw [h7] at w; exact absurd w.1 (by decide)⟩
  · by_cases h10 : 10 ≤ i
    · rw [sm_tbhi a.1 a.2 h10] at hx; exact absurd hx (by decide)
    · rw [hk i (by omega) hi7]; exact c i h5 hx
  · rw [hk 5 (by decide) (by decide), hk 6 (by decide) (by decide)]; exact d hx
  · rw [hk 5 (by decide) (by decide), hk 6 (by decide) (by decide)]; exact f
theorem sm_b1_m {x h : Int} {i : Nat} (hi : sm_tb x i = true → sm_tb h i = true) : sm_b1 x i ≤ sm_b1 h i ∧ (sm_b1 x i = sm_b1 h i → sm_tb x i = sm_tb h i) := by
  unfold sm_b1
  cases hx : sm_tb x i with
  | true => rw [hi hx]; exact ⟨Int.le_refl _, fun _ => rfl⟩
  | false => cases sm_tb h i <;> decide
theorem sm_pr_m {a b c d : Bool} (h1 : b = true → d = true) (h2 : a = true → c = true ∨ d = true) (h3 : ¬ (c = true ∧ d = true)) : sm_pr a b ≤ sm_pr c d ∧ (sm_pr a b = sm_pr c d → a = c ∧ b = d) := by
  cases a <;> cases b <;> cases c <;> cases d <;> simp_all [sm_pr]
theorem sm_J2_hr {x h : Int} (j : sm_J2 x h) : sm_hr x ≤ sm_hr h ∧ (¬ h = x → sm_hr x + 1 ≤ sm_hr h) := by
  obtain ⟨a, b, c, d, f, g, k⟩ := j
  have a0 := sm_b1_m (c 0 (by decide) (by decide))
  have a1 := sm_b1_m (c 1 (by decide) (by decide))
  have a2 := sm_b1_m (c 2 (by decide) (by decide))
  have a3 := sm_b1_m (c 3 (by decide) (by decide))
  have a4 := sm_b1_m (c 4 (by decide) (by decide))
  have a9 := sm_b1_m (c 9 (by decide) (by decide))
  have p5 := sm_pr_m (c 6 (by decide) (by decide)) d f
  have p7 := sm_pr_m (c 8 (by decide) (by decide)) g k
  refine ⟨by unfold sm_hr; omega, fun n => ?_⟩
  by_cases q : sm_hr x = sm_hr h
  · refine absurd ?_ n
    unfold sm_hr at q
    have e0 := a0.2 (by omega)
    have e1 := a1.2 (by omega)
    have e2 := a2.2 (by omega)
    have e3 := a3.2 (by omega)
    have e4 := a4.2 (by omega)
    have e9 := a9.2 (by omega)
    have e5 := p5.2 (by omega)
    have e7 := p7.2 (by omega)
    have hn : h.toNat = x.toNat := Nat.eq_of_testBit_eq (fun i => by
      by_cases h10 : 10 ≤ i
      · have w1 := sm_tbhi a.1 a.2 h10
        have w2 := sm_tbhi b.1 b.2 h10
        unfold sm_tb at w1 w2
        rw [w1, w2]
      · have : i = 0 ∨ i = 1 ∨ i = 2 ∨ i = 3 ∨ i = 4 ∨ i = 5 ∨ i = 6 ∨ i = 7 ∨ i = 8 ∨ i = 9 := by omega
        rcases this with r | r | r | r | r | r | r | r | r | r <;> subst r
        · exact e0.symm
        · exact e1.symm
        · exact e2.symm
        · exact e3.symm
        · exact e4.symm
        · exact e5.1.symm
        · exact e5.2.symm
        · exact e7.1.symm
        · exact e7.2.symm
        · exact e9.symm)
    omega
  · have : sm_hr x ≤ sm_hr h := by unfold sm_hr; omega
    omega
def sm_rs (b l h : Int) : Int := sm_hr (b % 1024) + sm_pc l + sm_pc h
theorem sm_rs_r (b l h : Int) : 0 ≤ sm_rs b l h ∧ sm_rs b l h ≤ 140 := by
  unfold sm_rs
  have a := sm_hr_r (b % 1024)
  have c := sm_pc_r l
  have d := sm_pc_r h
  omega
theorem sm_rs_join {b b' l l' h h' lf hf x y r : Int} (j : sm_J2 x y) (e1 : b % 1024 = x) (e2 : b' % 1024 = y) (hl : sv_RL l) (hh : sv_RL h) (e3 : sm_lor l lf = l') (e4 : sm_lor h hf = h') (hr : r = 0 ∨ r = 1) (hq : r = 1 → ¬ y = x ∨ ¬ l' = l ∨ ¬ h' = h) : sm_rs b l h + r ≤ sm_rs b' l' h' := by
  have p := sm_J2_hr j
  have q1 := sm_lor_1 (x := 0) hl e3
  have q2 := sm_lor_1 (x := 0) hh e4
  unfold sm_rs
  rw [e1, e2]
  rcases hr with hr | hr
  · omega
  · rcases hq hr with w | w | w
    · have := p.2 w; omega
    · have := q1.2 w; omega
    · have := q2.2 w; omega
def sm_pt (B L H : Int → Int) : Int := sm_su (fun x => 140 - sm_rs (B x) (L x) (H x)) 635639
theorem sm_pt_r (B L H : Int → Int) : 0 ≤ sm_pt B L H ∧ sm_pt B L H ≤ 88989600 := by
  have := sm_su_r (f := fun x => 140 - sm_rs (B x) (L x) (H x)) (M := 140) _ 635639 rfl (by decide) (fun x _ _ => by
    have := sm_rs_r (B x) (L x) (H x)
    (try dsimp only)
    omega)
  unfold sm_pt
  (try dsimp only)
  omega
section PT
variable {B L H : Int → Int} {i x : Int}
theorem sm_pt_B (h : 635639 ≤ i) : sm_pt (fun i' : Int => if i' = i then x else B i') L H = sm_pt B L H := sm_su_eq _ _ rfl (fun y h0 h1 => by (try dsimp only); rw [if_neg (by omega)])
theorem sm_pt_L (h : 635639 ≤ i) : sm_pt B (fun i' : Int => if i' = i then x else L i') H = sm_pt B L H := sm_su_eq _ _ rfl (fun y h0 h1 => by (try dsimp only); rw [if_neg (by omega)])
theorem sm_pt_H (h : 635639 ≤ i) : sm_pt B L (fun i' : Int => if i' = i then x else H i') = sm_pt B L H := sm_su_eq _ _ rfl (fun y h0 h1 => by (try dsimp only); rw [if_neg (by omega)])
theorem sm_pt_b (h0 : 0 ≤ i) (h1 : i < 635639) : sm_pt (fun i' : Int => if i' = i then x else B i') L H = sm_pt B L H + sm_rs (B i) (L i) (H i) - sm_rs x (L i) (H i) := by
  have := sm_su_up (f := fun y => 140 - sm_rs (B y) (L y) (H y)) (g := fun y => 140 - sm_rs (if y = i then x else B y) (L y) (H y)) h0 (fun y hy => by (try dsimp only); rw [if_neg hy]) _ 635639 rfl h1
  (try dsimp only at this)
  rw [if_pos rfl] at this
  unfold sm_pt
  (try dsimp only)
  omega
theorem sm_pt_l (h0 : 0 ≤ i) (h1 : i < 635639) : sm_pt B (fun i' : Int => if i' = i then x else L i') H = sm_pt B L H + sm_rs (B i) (L i) (H i) - sm_rs (B i) x (H i) := by
  have := sm_su_up (f := fun y => 140 - sm_rs (B y) (L y) (H y)) (g := fun y => 140 - sm_rs (B y) (if y = i then x else L y) (H y)) h0 (fun y hy => by (try dsimp only); rw [if_neg hy]) _ 635639 rfl h1
  (try dsimp only at this)
  rw [if_pos rfl] at this
  unfold sm_pt
  (try dsimp only)
  omega
theorem sm_pt_h (h0 : 0 ≤ i) (h1 : i < 635639) : sm_pt B L (fun i' : Int => if i' = i then x else H i') = sm_pt B L H + sm_rs (B i) (L i) (H i) - sm_rs (B i) (L i) x := by
  have := sm_su_up (f := fun y => 140 - sm_rs (B y) (L y) (H y)) (g := fun y => 140 - sm_rs (B y) (L y) (if y = i then x else H y)) h0 (fun y hy => by (try dsimp only); rw [if_neg hy]) _ 635639 rfl h1
  (try dsimp only at this)
  rw [if_pos rfl] at this
  unfold sm_pt
  (try dsimp only)
  omega
end PT
/-! a set's row as it is written -/
theorem sm_sh10 {a r : Int} {z : Int64} (hz : z = 10 ∨ z = 32) (e : (Int64.ofInt a <<< z).toInt = r) : sm_z10 r := fun i hi => by
  subst e
  rw [Int64.ofInt_toInt]
  have e1 : (Int64.ofInt a <<< z).toBitVec = (Int64.ofInt a).toBitVec <<< (z.toBitVec.smod 64) := rfl
  rw [e1]
  have e2 : z.toBitVec.smod 64 = 10#64 ∨ z.toBitVec.smod 64 = 32#64 := by
    rcases hz with hz | hz <;> subst hz
    · exact Or.inl (by decide)
    · exact Or.inr (by decide)
  rcases e2 with e2 | e2 <;> rw [e2]
  · show ((Int64.ofInt a).toBitVec <<< (10#64).toNat).getLsbD i = false
    rw [BitVec.getLsbD_shiftLeft]
    have : decide (i < (10#64).toNat) = true := decide_eq_true (by show i < 10; exact hi)
    rw [this]; simp
  · show ((Int64.ofInt a).toBitVec <<< (32#64).toNat).getLsbD i = false
    rw [BitVec.getLsbD_shiftLeft]
    have : decide (i < (32#64).toNat) = true := decide_eq_true (by show i < 32; omega)
    rw [this]; simp
theorem sm_m1024 (r : Int) (h : sv_RL r) : r % 1024 = (((Int64.ofInt r).toBitVec.toNat % 1024 : Nat) : Int) := by
  rw [Int64.toBitVec_ofInt, BitVec.toNat_ofInt]
  have hd : (1024 : Int) ∣ ((2 ^ 64 : Nat) : Int) := by decide
  have h0 : (0 : Int) ≤ r % ((2 ^ 64 : Nat) : Int) := Int.emod_nonneg _ (by decide)
  rw [Int.natCast_emod, Int.toNat_of_nonneg h0]
  exact (Int.emod_emod_of_dvd r hd).symm
theorem sm_wr {c h r : Int} (hc : sm_z10 c) (e2 : sm_lor c h = r) (hr : sv_RL r) (h0 : 0 ≤ h) (h1 : h < 1024) : r % 1024 = h := by
  rw [sm_m1024 r hr]
  have hh : (Int64.ofInt h).toBitVec.toNat = h.toNat := by
    rw [Int64.toBitVec_ofInt, BitVec.toNat_ofInt, Int.emod_eq_of_lt h0 (by omega)]
  have : (Int64.ofInt r).toBitVec.toNat % 1024 = h.toNat := by
    apply Nat.eq_of_testBit_eq
    intro i
    rw [show (1024 : Nat) = 2 ^ 10 from rfl, Nat.testBit_mod_two_pow]
    by_cases hi : i < 10
    · rw [decide_eq_true hi, Bool.true_and]
      have q := sm_lor_bits c h i
      rw [e2] at q
      rw [hc i hi] at q
      have q3 : (Int64.ofInt h).toBitVec.getLsbD i = h.toNat.testBit i := by
        show (Int64.ofInt h).toBitVec.toNat.testBit i = _
        rw [hh]
      rw [q3] at q
      exact q
    · rw [decide_eq_false hi, Bool.false_and]
      exact (Nat.testBit_lt_two_pow (Nat.lt_of_lt_of_le (by omega : h.toNat < 2 ^ 10) (Nat.pow_le_pow_right (by decide) (by omega)))).symm
  rw [this]
  omega
theorem sm_land1023 {x r : Int} (e : (Int64.ofInt x &&& Int64.ofInt 1023).toInt = r) : x % 1024 = r := by
  subst e
  have h1 : (Int64.ofInt x &&& Int64.ofInt 1023).toBitVec.toNat = (x % ((2 ^ 64 : Nat) : Int)).toNat % 1024 := by
    rw [Int64.toBitVec_and, BitVec.toNat_and, Int64.toBitVec_ofInt, BitVec.toNat_ofInt]
    have : (Int64.ofInt 1023).toBitVec.toNat = 2 ^ 10 - 1 := by decide
    rw [this, Nat.and_two_pow_sub_one_eq_mod]
  have h2 : (Int64.ofInt x &&& Int64.ofInt 1023).toInt = (((x % ((2 ^ 64 : Nat) : Int)).toNat % 1024 : Nat) : Int) := by
    show (Int64.ofInt x &&& Int64.ofInt 1023).toBitVec.toInt = _
    rw [BitVec.toInt_eq_toNat_of_lt (by omega), h1]
  rw [h2]
  have hd : (1024 : Int) ∣ ((2 ^ 64 : Nat) : Int) := by decide
  have h0 : (0 : Int) ≤ x % ((2 ^ 64 : Nat) : Int) := Int.emod_nonneg _ (by decide)
  rw [Int.natCast_emod, Int.toNat_of_nonneg h0]
  exact (Int.emod_emod_of_dvd x hd).symm
theorem sm_lor_h {a b r : Int} (e : (Int64.ofInt a ||| Int64.ofInt b).toInt = r) (hr : sv_RL r) (ha : sm_z10 a) (h0 : 0 ≤ b) (h1 : b < 1024) : r % 1024 = b := sm_wr ha (show sm_lor a b = r from e) hr h0 h1
/-! labels, scopes, what is reached -/
def sm_rl (t n a b c d : Int) : Int := t + n + sm_pc a + sm_pc b + sm_pc c + sm_pc d
def sm_pl (T N A B C D : Int → Int) : Int := sm_su (fun x => 258 - sm_rl (T x) (N x) (A x) (B x) (C x) (D x)) 15000
def sm_ps (A B : Int → Int) : Int := sm_su (fun x => 128 - sm_pc (A x) - sm_pc (B x)) 639
def sm_cn (R : Int → Int) : Int := sm_su (fun x => 1 - R x) 640
def sm_du (D : Int → Int) : Int := sm_su D 640
def sm_hs (R H : Int → Int) : Int := sm_su (fun x => if R x = 0 then H x else 0) 640
section PL
variable {i x : Int}
theorem sm_pl_T {T N A B C D : Int → Int} (h : 15000 ≤ i) : sm_pl (fun i' : Int => if i' = i then x else T i') N A B C D = sm_pl T N A B C D := sm_su_eq _ _ rfl (fun y h0 h1 => by (try dsimp only); rw [if_neg (by omega)])
theorem sm_pl_T' {T N A B C D : Int → Int} (h0 : 0 ≤ i) (h1 : i < 15000) : sm_pl (fun i' : Int => if i' = i then x else T i') N A B C D = sm_pl T N A B C D + sm_rl (T i) (N i) (A i) (B i) (C i) (D i) - sm_rl x (N i) (A i) (B i) (C i) (D i) := by
  have := sm_su_up (f := fun y => 258 - sm_rl (T y) (N y) (A y) (B y) (C y) (D y)) (g := fun y => 258 - sm_rl (if y = i then x else T y) (N y) (A y) (B y) (C y) (D y)) h0 (fun y hy => by (try dsimp only); rw [if_neg hy]) _ 15000 rfl h1
  (try dsimp only at this)
  rw [if_pos rfl] at this
  unfold sm_pl
  (try dsimp only)
  omega
theorem sm_pl_N {T N A B C D : Int → Int} (h : 15000 ≤ i) : sm_pl T (fun i' : Int => if i' = i then x else N i') A B C D = sm_pl T N A B C D := sm_su_eq _ _ rfl (fun y h0 h1 => by (try dsimp only); rw [if_neg (by omega)])
theorem sm_pl_N' {T N A B C D : Int → Int} (h0 : 0 ≤ i) (h1 : i < 15000) : sm_pl T (fun i' : Int => if i' = i then x else N i') A B C D = sm_pl T N A B C D + sm_rl (T i) (N i) (A i) (B i) (C i) (D i) - sm_rl (T i) x (A i) (B i) (C i) (D i) := by
  have := sm_su_up (f := fun y => 258 - sm_rl (T y) (N y) (A y) (B y) (C y) (D y)) (g := fun y => 258 - sm_rl (T y) (if y = i then x else N y) (A y) (B y) (C y) (D y)) h0 (fun y hy => by (try dsimp only); rw [if_neg hy]) _ 15000 rfl h1
  (try dsimp only at this)
  rw [if_pos rfl] at this
  unfold sm_pl
  (try dsimp only)
  omega
theorem sm_pl_A {T N A B C D : Int → Int} (h : 15000 ≤ i) : sm_pl T N (fun i' : Int => if i' = i then x else A i') B C D = sm_pl T N A B C D := sm_su_eq _ _ rfl (fun y h0 h1 => by (try dsimp only); rw [if_neg (by omega)])
theorem sm_pl_A' {T N A B C D : Int → Int} (h0 : 0 ≤ i) (h1 : i < 15000) : sm_pl T N (fun i' : Int => if i' = i then x else A i') B C D = sm_pl T N A B C D + sm_rl (T i) (N i) (A i) (B i) (C i) (D i) - sm_rl (T i) (N i) x (B i) (C i) (D i) := by
  have := sm_su_up (f := fun y => 258 - sm_rl (T y) (N y) (A y) (B y) (C y) (D y)) (g := fun y => 258 - sm_rl (T y) (N y) (if y = i then x else A y) (B y) (C y) (D y)) h0 (fun y hy => by (try dsimp only); rw [if_neg hy]) _ 15000 rfl h1
  (try dsimp only at this)
  rw [if_pos rfl] at this
  unfold sm_pl
  (try dsimp only)
  omega
theorem sm_pl_B {T N A B C D : Int → Int} (h : 15000 ≤ i) : sm_pl T N A (fun i' : Int => if i' = i then x else B i') C D = sm_pl T N A B C D := sm_su_eq _ _ rfl (fun y h0 h1 => by (try dsimp only); rw [if_neg (by omega)])
theorem sm_pl_B' {T N A B C D : Int → Int} (h0 : 0 ≤ i) (h1 : i < 15000) : sm_pl T N A (fun i' : Int => if i' = i then x else B i') C D = sm_pl T N A B C D + sm_rl (T i) (N i) (A i) (B i) (C i) (D i) - sm_rl (T i) (N i) (A i) x (C i) (D i) := by
  have := sm_su_up (f := fun y => 258 - sm_rl (T y) (N y) (A y) (B y) (C y) (D y)) (g := fun y => 258 - sm_rl (T y) (N y) (A y) (if y = i then x else B y) (C y) (D y)) h0 (fun y hy => by (try dsimp only); rw [if_neg hy]) _ 15000 rfl h1
  (try dsimp only at this)
  rw [if_pos rfl] at this
  unfold sm_pl
  (try dsimp only)
  omega
theorem sm_pl_C {T N A B C D : Int → Int} (h : 15000 ≤ i) : sm_pl T N A B (fun i' : Int => if i' = i then x else C i') D = sm_pl T N A B C D := sm_su_eq _ _ rfl (fun y h0 h1 => by (try dsimp only); rw [if_neg (by omega)])
theorem sm_pl_C' {T N A B C D : Int → Int} (h0 : 0 ≤ i) (h1 : i < 15000) : sm_pl T N A B (fun i' : Int => if i' = i then x else C i') D = sm_pl T N A B C D + sm_rl (T i) (N i) (A i) (B i) (C i) (D i) - sm_rl (T i) (N i) (A i) (B i) x (D i) := by
  have := sm_su_up (f := fun y => 258 - sm_rl (T y) (N y) (A y) (B y) (C y) (D y)) (g := fun y => 258 - sm_rl (T y) (N y) (A y) (B y) (if y = i then x else C y) (D y)) h0 (fun y hy => by (try dsimp only); rw [if_neg hy]) _ 15000 rfl h1
  (try dsimp only at this)
  rw [if_pos rfl] at this
  unfold sm_pl
  (try dsimp only)
  omega
theorem sm_pl_D {T N A B C D : Int → Int} (h : 15000 ≤ i) : sm_pl T N A B C (fun i' : Int => if i' = i then x else D i') = sm_pl T N A B C D := sm_su_eq _ _ rfl (fun y h0 h1 => by (try dsimp only); rw [if_neg (by omega)])
theorem sm_pl_D' {T N A B C D : Int → Int} (h0 : 0 ≤ i) (h1 : i < 15000) : sm_pl T N A B C (fun i' : Int => if i' = i then x else D i') = sm_pl T N A B C D + sm_rl (T i) (N i) (A i) (B i) (C i) (D i) - sm_rl (T i) (N i) (A i) (B i) (C i) x := by
  have := sm_su_up (f := fun y => 258 - sm_rl (T y) (N y) (A y) (B y) (C y) (D y)) (g := fun y => 258 - sm_rl (T y) (N y) (A y) (B y) (C y) (if y = i then x else D y)) h0 (fun y hy => by (try dsimp only); rw [if_neg hy]) _ 15000 rfl h1
  (try dsimp only at this)
  rw [if_pos rfl] at this
  unfold sm_pl
  (try dsimp only)
  omega
end PL
theorem sm_rl_r {t n : Int} (a b c d : Int) (h1 : 0 ≤ t ∧ t ≤ 1) (h2 : 0 ≤ n ∧ n ≤ 1) : 0 ≤ sm_rl t n a b c d ∧ sm_rl t n a b c d ≤ 258 := by
  unfold sm_rl
  have := sm_pc_r a
  have := sm_pc_r b
  have := sm_pc_r c
  have := sm_pc_r d
  omega
theorem sm_pl_r {T N : Int → Int} (A B C D : Int → Int) (h1 : ∀ x, 0 ≤ T x ∧ T x ≤ 1) (h2 : ∀ x, 0 ≤ N x ∧ N x ≤ 1) : 0 ≤ sm_pl T N A B C D ∧ sm_pl T N A B C D ≤ 3870000 := by
  have := sm_su_r (f := fun x => 258 - sm_rl (T x) (N x) (A x) (B x) (C x) (D x)) (M := 258) _ 15000 rfl (by decide) (fun x _ _ => by
    have := sm_rl_r (A x) (B x) (C x) (D x) (h1 x) (h2 x)
    (try dsimp only)
    omega)
  unfold sm_pl
  (try dsimp only)
  omega
theorem sm_ps_r (A B : Int → Int) : 0 ≤ sm_ps A B ∧ sm_ps A B ≤ 81792 := by
  have := sm_su_r (f := fun x => 128 - sm_pc (A x) - sm_pc (B x)) (M := 128) _ 639 rfl (by decide) (fun x _ _ => by
    have := sm_pc_r (A x)
    have := sm_pc_r (B x)
    (try dsimp only)
    omega)
  unfold sm_ps
  (try dsimp only)
  omega
theorem sm_cn_rg {R : Int → Int} (h : ∀ x, 0 ≤ R x ∧ R x ≤ 1) : 0 ≤ sm_cn R ∧ sm_cn R ≤ 640 := by
  have := sm_su_r (f := fun x => 1 - R x) (M := 1) _ 640 rfl (by decide) (fun x _ _ => by have := h x; (try dsimp only); omega)
  unfold sm_cn
  (try dsimp only)
  omega
theorem sm_du_rg {D : Int → Int} (h : ∀ x, 0 ≤ D x ∧ D x ≤ 1) : 0 ≤ sm_du D ∧ sm_du D ≤ 640 := by
  have := sm_su_r (f := D) (M := 1) _ 640 rfl (by decide) (fun x _ _ => h x)
  unfold sm_du
  omega
theorem sm_rl_join {t n a b c d t0 n0 a0 b0 c0 d0 fa fb fc fd na nb nc nd ea eb ec ed r : Int} (h1 : t0 ≤ t) (h2 : n0 ≤ n) (ra : sv_RL a0) (rb : sv_RL b0) (rc : sv_RL c0) (rd : sv_RL d0) (qa : sm_lor a0 fa = a) (qb : sm_lor b0 fb = b) (qc : sm_lor c0 fc = c) (qd : sm_lor d0 fd = d)
    (hr : r = 0 ∨ r = 1) (hq : r = 1 → t0 < t ∨ n0 < n ∨ ¬ a = a0 ∨ ¬ b = b0 ∨ ¬ c = c0 ∨ ¬ d = d0) : sm_rl t0 n0 a0 b0 c0 d0 + r ≤ sm_rl t n a b c d := by
  have pa := sm_lor_1 (x := 0) ra qa
  have pb := sm_lor_1 (x := 0) rb qb
  have pc := sm_lor_1 (x := 0) rc qc
  have pd := sm_lor_1 (x := 0) rd qd
  unfold sm_rl
  rcases hr with hr | hr
  · omega
  · rcases hq hr with w | w | w | w | w | w
    · omega
    · omega
    · have := pa.2 w; omega
    · have := pb.2 w; omega
    · have := pc.2 w; omega
    · have := pd.2 w; omega
theorem sm_lor_ne {a b c d r : Int} (h : sv_RL b) (e1 : sm_lxor b (-1) = c) (e2 : sm_land a c = d) (hd : ¬ d = 0) (e3 : sm_lor b a = r) : ¬ r = b := fun q => by
  have := sm_lor_new h e1 e2 hd e3
  rw [q] at this
  omega
/-! places of fields and labels -/
def sm_PD (i f l n : Int) : Prop := (i + 2 * f) * (l * n) ≤ 450000
theorem sm_PD_le {i f l n : Int} (h : sm_PD i f l n) (hp : 0 ≤ i + 2 * f) (hl : 29 ≤ l) (hn : 31 ≤ n) : i + 2 * f ≤ 500 := by
  have h1 : 29 * 31 ≤ l * n := Int.mul_le_mul hl hn (by decide) (by omega)
  have h2 : (i + 2 * f) * (29 * 31) ≤ (i + 2 * f) * (l * n) := Int.mul_le_mul_of_nonneg_left h1 hp
  unfold sm_PD at h
  omega
theorem sm_PD_at {i f l n s : Int} (h : sm_PD i f l n) (hl : 29 ≤ l) (hn : 31 ≤ n) (h0 : 0 ≤ s) (h1 : s < i + 2 * f) : (0 ≤ s * l * (n + 1) ∧ s * l * (n + 1) + l * (n + 1) ≤ 464520) ∧ (0 ≤ s * l ∧ s * l + l ≤ 14520) := by
  unfold sm_PD at h
  have hs : (s + 1) * (l * n) ≤ (i + 2 * f) * (l * n) := Int.mul_le_mul_of_nonneg_right (by omega) (Int.mul_nonneg (by omega) (by omega))
  have e1 : (s + 1) * (l * n) = ((s + 1) * l) * n := (Int.mul_assoc _ _ _).symm
  have hA : 0 ≤ (s + 1) * l := Int.mul_nonneg (by omega) (by omega)
  have hB : ((s + 1) * l) * 31 ≤ ((s + 1) * l) * n := Int.mul_le_mul_of_nonneg_left hn hA
  have e2 : (s + 1) * l = s * l + l := by rw [Int.add_mul, Int.one_mul]
  have e3 : s * l * (n + 1) + l * (n + 1) = ((s + 1) * l) * n + (s + 1) * l := by
    rw [← Int.add_mul, ← e2, Int.mul_add, Int.mul_one]
  have hC : 0 ≤ s * l := Int.mul_nonneg h0 (by omega)
  have hD : 0 ≤ s * l * (n + 1) := Int.mul_nonneg hC (by omega)
  refine ⟨⟨hD, ?_⟩, hC, ?_⟩
  · rw [e3]; omega
  · rw [← e2]; omega
theorem sm_PD_fl {l n a b : Int} (h0 : 0 ≤ a) (h1 : a < l) (h2 : 0 ≤ b) (h3 : b ≤ n) : 0 ≤ a * (n + 1) ∧ a * (n + 1) + b < l * (n + 1) := by
  have hA : 0 ≤ a * (n + 1) := Int.mul_nonneg h0 (by omega)
  have hB : (a + 1) * (n + 1) ≤ l * (n + 1) := Int.mul_le_mul_of_nonneg_right (by omega) (by omega)
  have e : (a + 1) * (n + 1) = a * (n + 1) + (n + 1) := by rw [Int.add_mul, Int.one_mul]
  exact ⟨hA, by omega⟩
theorem sm_PD_w {l n : Int} (h0 : 0 ≤ l) (h1 : l ≤ 127) (h2 : 0 ≤ n) (h3 : n ≤ 90) : 0 ≤ l * (n + 1) ∧ l * (n + 1) ≤ 11557 := by
  have hA : 0 ≤ l * (n + 1) := Int.mul_nonneg h0 (by omega)
  have hB : l * (n + 1) ≤ 127 * 91 := Int.mul_le_mul h1 (by omega) (by omega) (by decide)
  exact ⟨hA, by omega⟩
/-! one label of a set -/
def sm_sk (z : Int) : Int64 := (Int32.ofInt z).toInt64 &&& 63
def sm_shr (x z : Int) : Int := (Int64.ofInt x >>> sm_sk z).toInt
def sm_shl (x z : Int) : Int := (Int64.ofInt x <<< sm_sk z).toInt
theorem sm_sk_n (z : Int) (h0 : 0 ≤ z) (h1 : z < 64) : ((sm_sk z).toBitVec.smod 64).toNat = z.toNat := by
  have h : ∀ k : Fin 64, ((sm_sk ((k.val : Nat) : Int)).toBitVec.smod 64).toNat = k.val := by decide +kernel
  have := h ⟨z.toNat, by omega⟩
  simp only at this
  rw [Int.toNat_of_nonneg h0] at this
  exact this
def sm_bt (x : Int) (i : Int) : Bool := (Int64.ofInt x).toBitVec.getLsbD i.toNat
def sm_in (a b l : Int) : Int := if l < 64 then (if sm_bt a l then 1 else 0) else (if sm_bt b (l - 64) then 1 else 0)
theorem sm_in_r {a b l : Int} : 0 ≤ sm_in a b l ∧ sm_in a b l ≤ 1 := by unfold sm_in; split <;> split <;> omega
theorem sm_shr_1 {x z r : Int} (h0 : 0 ≤ z) (h1 : z < 64) (e : sm_shr x z = r) : sm_land r 1 = if sm_bt x z then 1 else 0 := by
  subst e
  unfold sm_land sm_shr
  rw [Int64.ofInt_toInt]
  have hb : (Int64.ofInt x >>> sm_sk z &&& Int64.ofInt 1) = if sm_bt x z then 1 else 0 := by
    apply Int64.toBitVec.inj
    apply BitVec.eq_of_getLsbD_eq
    intro i hi
    rw [Int64.toBitVec_and, BitVec.getLsbD_and]
    have e1 : (Int64.ofInt x >>> sm_sk z).toBitVec = (Int64.ofInt x).toBitVec.sshiftRight ((sm_sk z).toBitVec.smod 64).toNat := rfl
    rw [e1, sm_sk_n z h0 h1]
    have e2 : ∀ j : Fin 64, (Int64.ofInt 1).toBitVec.getLsbD j.val = decide (j.val = 0) := by decide
    have e3 := e2 ⟨i, hi⟩
    simp only at e3
    rw [e3]
    by_cases hq : i = 0
    · subst hq
      rw [BitVec.getLsbD_sshiftRight, decide_eq_true rfl, Bool.and_true]
      have e4 : decide (64 ≤ 0) = false := by decide
      rw [e4, if_pos (by omega)]
      show (!false && (Int64.ofInt x).toBitVec.getLsbD (z.toNat + 0)) = _
      unfold sm_bt
      cases hc : (Int64.ofInt x).toBitVec.getLsbD z.toNat with
      | true => decide
      | false => decide
    · rw [decide_eq_false hq, Bool.and_false]
      split
      · have e5 : ∀ j : Fin 64, (1 : Int64).toBitVec.getLsbD j.val = decide (j.val = 0) := by decide
        have e6 := e5 ⟨i, hi⟩
        simp only at e6
        rw [e6, decide_eq_false hq]
      · have e5 : ∀ j : Fin 64, (0 : Int64).toBitVec.getLsbD j.val = false := by decide
        exact (e5 ⟨i, hi⟩).symm
  rw [hb]
  split <;> rfl
theorem sm_isIn1 {a b l s : Int} (h : l < 64) (h0 : 0 ≤ l) (e : sm_shr a l = s) : sm_land s 1 = sm_in a b l := by
  rw [sm_shr_1 h0 h e]
  unfold sm_in
  rw [if_pos h]
theorem sm_isIn2 {a b l s : Int} (h : ¬ l < 64) (h0 : l < 128) (e : sm_shr b (l - 64) = s) : sm_land s 1 = sm_in a b l := by
  rw [sm_shr_1 (by omega) (by omega) e]
  unfold sm_in
  rw [if_neg h]
theorem sm_bt_ex {a : Int} (hr : sv_RL a) (h : ¬ a = 0) : ∃ y : Int, 0 ≤ y ∧ y < 64 ∧ sm_bt a y = true := by
  by_cases q : ∃ y : Int, 0 ≤ y ∧ y < 64 ∧ sm_bt a y = true
  · exact q
  · refine absurd ?_ h
    have e : Int64.ofInt a = 0 := by
      apply Int64.toBitVec.inj
      apply BitVec.eq_of_getLsbD_eq
      intro i hi
      have e5 : ∀ j : Fin 64, (0 : Int64).toBitVec.getLsbD j.val = false := by decide
      have e6 := e5 ⟨i, hi⟩
      simp only at e6
      rw [e6]
      cases hc : (Int64.ofInt a).toBitVec.getLsbD i with
      | false => rfl
      | true => exact absurd ⟨(i : Int), by omega, by omega, by unfold sm_bt; rw [Int.toNat_natCast]; exact hc⟩ q
    have := sm_LI hr
    rw [e] at this
    exact this.symm
theorem sm_in_ex {a b : Int} (ha : sv_RL a) (hb : sv_RL b) (h : ¬ a = 0 ∨ ¬ b = 0) : ∃ n : Nat, n < 128 ∧ sm_in a b n = 1 := by
  rcases h with h | h
  · obtain ⟨y, y0, y1, y2⟩ := sm_bt_ex ha h
    refine ⟨y.toNat, by omega, ?_⟩
    rw [Int.toNat_of_nonneg y0]
    unfold sm_in
    rw [if_pos y1, y2]
    rfl
  · obtain ⟨y, y0, y1, y2⟩ := sm_bt_ex hb h
    refine ⟨y.toNat + 64, by omega, ?_⟩
    have e : (((y.toNat + 64 : Nat) : Int)) = y + 64 := by omega
    rw [e]
    unfold sm_in
    rw [if_neg (by omega), show y + 64 - 64 = y by omega, y2]
    rfl
def sm_fi (a b : Int) : Nat → Nat → Nat
  | 0, k => k
  | n + 1, k => if sm_in a b k = 1 then k else sm_fi a b n (k + 1)
theorem sm_fi_p (a b : Int) : ∀ n k : Nat, (∃ j : Nat, k ≤ j ∧ j < k + n ∧ sm_in a b j = 1) → k ≤ sm_fi a b n k ∧ sm_fi a b n k < k + n ∧ sm_in a b (sm_fi a b n k) = 1 := by
  intro n
  induction n with
  | zero => intro k h; obtain ⟨j, h1, h2, _⟩ := h; omega
  | succ n ih =>
    intro k h
    show k ≤ (if sm_in a b k = 1 then k else sm_fi a b n (k + 1)) ∧ (if sm_in a b k = 1 then k else sm_fi a b n (k + 1)) < k + (n + 1) ∧ sm_in a b ((if sm_in a b k = 1 then k else sm_fi a b n (k + 1) : Nat) : Int) = 1
    by_cases hk : sm_in a b k = 1
    · rw [if_pos hk]; exact ⟨Nat.le_refl _, by omega, hk⟩
    · rw [if_neg hk]
      obtain ⟨j, h1, h2, h3⟩ := h
      have hj : ¬ j = k := fun q => hk (by rw [← q]; exact h3)
      obtain ⟨a1, a2, a3⟩ := ih (k + 1) ⟨j, by omega, by omega, h3⟩
      exact ⟨by omega, by omega, a3⟩
def sm_fst (a b : Int) : Int := sm_fi a b 128 0
theorem sm_fst_p {a b : Int} (ha : sv_RL a) (hb : sv_RL b) (h : ¬ a = 0 ∨ ¬ b = 0) : 0 ≤ sm_fst a b ∧ sm_fst a b < 128 ∧ sm_in a b (sm_fst a b) = 1 := by
  obtain ⟨n, h1, h2⟩ := sm_in_ex ha hb h
  obtain ⟨a1, a2, a3⟩ := sm_fi_p a b 128 0 ⟨n, by omega, by omega, h2⟩
  exact ⟨by unfold sm_fst; omega, by unfold sm_fst; omega, a3⟩
theorem sm_in_ne {a b x y : Int} (h1 : sm_in a b y = 1) (h2 : sm_in a b x = 0) : ¬ x = y := fun q => by rw [q, h1] at h2; exact absurd h2 (by decide)
theorem sm_shl_b {z : Int} (h0 : 0 ≤ z) (h1 : z < 64) : (Int64.ofInt (sm_shl 1 z)).toBitVec.getLsbD z.toNat = true := by
  unfold sm_shl
  rw [Int64.ofInt_toInt]
  have e1 : (Int64.ofInt 1 <<< sm_sk z).toBitVec = (Int64.ofInt 1).toBitVec <<< ((sm_sk z).toBitVec.smod 64).toNat := rfl
  rw [e1, sm_sk_n z h0 h1, BitVec.getLsbD_shiftLeft]
  have e2 : decide (z.toNat < z.toNat) = false := decide_eq_false (Nat.lt_irrefl _)
  have e3 : decide (z.toNat < 64) = true := decide_eq_true (by omega)
  rw [e2, e3, Nat.sub_self]
  decide
/-- what is in a & ~d at z is not in d: one more -/
theorem sm_done {a d c e z q r : Int} (hd : sv_RL d) (e1 : sm_lxor d (-1) = c) (e2 : sm_land a c = e) (hb : sm_bt e z = true) (h0 : 0 ≤ z) (h1 : z < 64) (e3 : sm_shl 1 z = q) (e4 : sm_lor d q = r) : sm_pc d + 1 ≤ sm_pc r := by
  subst e1 e2 e3
  refine (sm_lor_1 (x := 0) hd e4).2 (fun w => ?_)
  have b1 := sm_lor_bits d (sm_shl 1 z) z.toNat
  rw [e4, w, sm_shl_b h0 h1, Bool.or_true] at b1
  unfold sm_bt sm_land at hb
  rw [Int64.ofInt_toInt, Int64.toBitVec_and, BitVec.getLsbD_and] at hb
  unfold sm_lxor at hb
  rw [Int64.ofInt_toInt, Int64.toBitVec_xor, BitVec.getLsbD_xor, b1] at hb
  have e7 : (Int64.ofInt (-1)).toBitVec.getLsbD z.toNat = true := by
    have : (Int64.ofInt (-1)).toBitVec = BitVec.allOnes 64 := by decide
    rw [this, BitVec.getLsbD_allOnes]
    exact decide_eq_true (by omega)
  rw [e7] at hb
  have e8 : (true ^^ true) = false := rfl
  rw [e8, Bool.and_false] at hb
  exact absurd hb (by decide)
theorem sm_in_lo {a b l : Int} (h : sm_in a b l = 1) (hl : l < 64) : sm_bt a l = true := by
  unfold sm_in at h
  rw [if_pos hl] at h
  cases q : sm_bt a l with
  | true => rfl
  | false => rw [q] at h; exact absurd h (by decide)
theorem sm_in_hi {a b l : Int} (h : sm_in a b l = 1) (hl : ¬ l < 64) : sm_bt b (l - 64) = true := by
  unfold sm_in at h
  rw [if_neg hl] at h
  cases q : sm_bt b (l - 64) with
  | true => rfl
  | false => rw [q] at h; exact absurd h (by decide)
theorem sm_done1 {a b d c e x q r : Int} (hx : sm_in e b x = 1) (hl : x < 64) (h0 : 0 ≤ x) (hd : sv_RL d) (e1 : sm_lxor d (-1) = c) (e2 : sm_land a c = e) (e3 : sm_shl 1 x = q) (e4 : sm_lor d q = r) : sm_pc d + 1 ≤ sm_pc r := sm_done hd e1 e2 (sm_in_lo hx hl) h0 hl e3 e4
theorem sm_done2 {a b d c e x q r : Int} (hx : sm_in b e x = 1) (hl : ¬ x < 64) (h0 : x < 128) (hd : sv_RL d) (e1 : sm_lxor d (-1) = c) (e2 : sm_land a c = e) (e3 : sm_shl 1 (x - 64) = q) (e4 : sm_lor d q = r) : sm_pc d + 1 ≤ sm_pc r := sm_done hd e1 e2 (sm_in_hi hx hl) (by omega) (by omega) e3 e4
theorem sm_PD_f2 {n a b : Int} (h0 : 0 ≤ a) (h1 : a < 128) (h2 : 0 ≤ b) (h3 : b ≤ n) (h4 : n ≤ 90) : 0 ≤ a * (n + 1) ∧ a * (n + 1) + b < 11700 := by
  have hA : 0 ≤ a * (n + 1) := Int.mul_nonneg h0 (by omega)
  have hB : a * (n + 1) ≤ 127 * 91 := Int.mul_le_mul (by omega) (by omega) (by omega) (by decide)
  exact ⟨hA, by omega⟩
theorem sm_land_R (a b : Int) : sv_RL (sm_land a b) := ⟨Int64.le_toInt _, Int64.toInt_le _⟩
theorem sm_fst_q {a b c d : Int} (h : ¬ sm_land a b = 0 ∨ ¬ sm_land c d = 0) : 0 ≤ sm_fst (sm_land a b) (sm_land c d) ∧ sm_fst (sm_land a b) (sm_land c d) < 128 ∧ sm_in (sm_land a b) (sm_land c d) (sm_fst (sm_land a b) (sm_land c d)) = 1 := sm_fst_p (sm_land_R _ _) (sm_land_R _ _) h
theorem sm_dones {l h d k x : Int} (hx : sm_in (sm_land l (sm_lxor d (-1))) (sm_land h (sm_lxor k (-1))) x = 1) (h0 : 0 ≤ x) (h1 : x < 128) (hd : sv_RL d) (hk : sv_RL k) : (x < 64 → sm_pc d + 1 ≤ sm_pc (sm_lor d (sm_shl 1 x))) ∧ (¬ x < 64 → sm_pc k + 1 ≤ sm_pc (sm_lor k (sm_shl 1 (x - 64)))) :=
  ⟨fun q => sm_done1 hx q h0 hd rfl rfl rfl rfl, fun q => sm_done2 hx q h1 hk rfl rfl rfl rfl⟩

def q_has (p1 : Int) (S : sv_S) : Option Value → sv_S → Prop := fun v S' => ∃ r : Int, v = some (sv_I r) ∧ sv_R r ∧ sm_ok S' ∧ sv_mod [] S S' ∧ (r = (S' 68 p1) % 1024 ∧ 0 ≤ r ∧ r ≤ 1023)
theorem la_has_0 {x0 : Int} (h0 : 0 ≤ x0) (h1 : x0 < 647800) : 0 ≤ x0 ∧ x0 < 647800 := by omega
theorem la_has_1 {x0 x1 : Int} (h0 : x0 % 1024 = x1) : sv_R x1 := by omega
theorem la_has_2 {x0 x1 x2 : Int} (h0 : x0 % 1024 = x1) (h1 : x2 = x1) : x2 = x0 % 1024 := by omega
theorem la_has_3 {x0 x1 x2 : Int} (h0 : x0 % 1024 = x1) (h1 : x2 = x1) : 0 ≤ x2 := by omega
theorem la_has_4 {x0 x1 x2 : Int} (h0 : x0 % 1024 = x1) (h1 : x2 = x1) : x2 ≤ 1023 := by omega
set_option maxHeartbeats 2000000 in
theorem f_has : ∀ (p1 : Int) (S : sv_S), sm_ok S → sv_R p1 → (0 ≤ p1 ∧ p1 < 647800) → (0 ≤ p1 ∧ p1 < 647800) ∧ (sv_RL (S 68 p1) → (∀ r3 : Int, sv_RL r3 → (S 68 p1) % 1024 = r3 → (∀ r4 : Int, sv_R r4 → (sv_R r3 → r4 = r3) → (r4 = (S 68 p1) % 1024 ∧ 0 ≤ r4 ∧ r4 ≤ 1023)))) := by
  intro p1
  intro S
  intro h1_
  intro h2_
  rintro ⟨h3_, h4_⟩
  refine ⟨(la_has_0 h3_ h4_), ?_⟩
  intro h5_
  intro r3
  intro h6_
  intro h7_
  intro r4
  intro h8_
  intro h9_
  have h10_ := (h9_ (la_has_1 h7_))
  refine ⟨(la_has_2 h7_ h10_), ?_⟩
  refine ⟨(la_has_3 h7_ h10_), ?_⟩
  exact (la_has_4 h7_ h10_)
set_option maxRecDepth 8000 in
set_option maxHeartbeats 2000000 in
theorem t_has : ∀ (p1 : Int) (S : sv_S), sm_ok S → sv_R p1 → (0 ≤ p1 ∧ p1 < 647800) → sv_T sm_XS sm_cs sm_L sm_sh 0 (q_has p1 S) 202 0 (lv_args 0 [.ref 0, sv_I p1]) [] S := by
  intro p1 S hok hp1 hpre
  have h := f_has p1 S hok hp1 hpre
  have hM := sm_h202
  show sv_T sm_XS sm_cs sm_L sm_sh 0 (q_has p1 S) 202 0 [(0, .ref 0), (1, sv_I p1)] [] S
  refine sv_aload_n hM dX12_has_0 rfl rfl ?_
  refine sv_getA hM dX12_has_1 sm_fl_216 (sm_a0 _) sm_k116 rfl ?_
  refine sv_iload_n hM dX12_has_4 rfl rfl ?_
  obtain ⟨o1, h⟩ := h
  have k2 : sv_RL (S 68 p1) := sm_okJ hok sm_r68 p1
  have h := h k2
  refine sv_lald hM dX12_has_5 (sm_a68 _) (by decide) o1.1 o1.2 rfl (x := (S 68 p1)) rfl ?_
  refine sv_ldc2_w (d := (1023 : Int)) hM dX12_has_6 sm_ck_1043 rfl rfl ?_
  refine sv_anyL hM dX12_has_9 rfl rfl (fun r3 hr3 er3 => ?_)
  have h := h r3 hr3 (sm_land1023 er3)
  refine sv_l2iR hM dX12_has_10 rfl (fun r4 hr4 er4 => ?_)
  have h := h r4 hr4 er4
  exact sv_iret hM dX12_has_11 rfl rfl ⟨r4, rfl, hr4, hok, sv_mod.rf, h⟩
def q_name (p1 : Int) (S : sv_S) : Option Value → sv_S → Prop := fun v S' => ∃ r : Int, v = some (sv_I r) ∧ sv_R r ∧ sm_ok S' ∧ sv_mod [] S S' ∧ (0 ≤ r ∧ r ≤ 127)
theorem la_name_0 {x0 : Int} (h0 : 0 ≤ x0) (h1 : x0 < 647800) : 0 ≤ x0 ∧ x0 < 647800 := by omega
theorem la_name_1 {x0 : Int} (h0 : 0 ≤ x0) (h1 : x0 ≤ 127) : sv_R x0 := by omega
theorem la_name_2 {x0 x1 : Int} (h0 : 0 ≤ x0) (h1 : x1 = x0) : 0 ≤ x1 := by omega
theorem la_name_3 {x0 x1 : Int} (h0 : x0 ≤ 127) (h1 : x1 = x0) : x1 ≤ 127 := by omega
set_option maxHeartbeats 2000000 in
theorem f_name : ∀ (p1 : Int) (S : sv_S), sm_ok S → sv_R p1 → (0 ≤ p1 ∧ p1 < 647800) → (0 ≤ p1 ∧ p1 < 647800) ∧ (sv_RL (S 68 p1) → (∀ r3 : Int, sv_RL r3 → (∀ r4 : Int, (0 ≤ r4 ∧ r4 ≤ (127 : Int)) → (∀ r5 : Int, sv_R r5 → (sv_R r4 → r5 = r4) → (0 ≤ r5 ∧ r5 ≤ 127))))) := by
  intro p1
  intro S
  intro h1_
  intro h2_
  rintro ⟨h3_, h4_⟩
  refine ⟨(la_name_0 h3_ h4_), ?_⟩
  intro h5_
  intro r3
  intro h6_
  intro r4
  rintro ⟨h7_, h8_⟩
  intro r5
  intro h9_
  intro h10_
  have h11_ := (h10_ (la_name_1 h7_ h8_))
  refine ⟨(la_name_2 h7_ h11_), ?_⟩
  exact (la_name_3 h8_ h11_)
set_option maxRecDepth 8000 in
set_option maxHeartbeats 2000000 in
theorem t_name : ∀ (p1 : Int) (S : sv_S), sm_ok S → sv_R p1 → (0 ≤ p1 ∧ p1 < 647800) → sv_T sm_XS sm_cs sm_L sm_sh 0 (q_name p1 S) 203 0 (lv_args 0 [.ref 0, sv_I p1]) [] S := by
  intro p1 S hok hp1 hpre
  have h := f_name p1 S hok hp1 hpre
  have hM := sm_h203
  show sv_T sm_XS sm_cs sm_L sm_sh 0 (q_name p1 S) 203 0 [(0, .ref 0), (1, sv_I p1)] [] S
  refine sv_aload_n hM dX12_name_0 rfl rfl ?_
  refine sv_getA hM dX12_name_1 sm_fl_216 (sm_a0 _) sm_k116 rfl ?_
  refine sv_iload_n hM dX12_name_4 rfl rfl ?_
  obtain ⟨o1, h⟩ := h
  have k2 : sv_RL (S 68 p1) := sm_okJ hok sm_r68 p1
  have h := h k2
  refine sv_lald hM dX12_name_5 (sm_a68 _) (by decide) o1.1 o1.2 rfl (x := (S 68 p1)) rfl ?_
  refine sv_bipush (d := (10 : Int)) hM dX12_name_6 rfl rfl ?_
  refine sv_anyL hM dX12_name_8 rfl rfl (fun r3 hr3 _ => ?_)
  have h := h r3 hr3
  refine sv_ldc2_w (d := (127 : Int)) hM dX12_name_9 sm_ck_1045 rfl rfl ?_
  refine sv_land hM dX12_name_12 ⟨by decide, by decide⟩ rfl (fun r4 hr4 => ?_)
  have h := h r4 hr4
  refine sv_l2iR hM dX12_name_13 rfl (fun r5 hr5 er5 => ?_)
  have h := h r5 hr5 er5
  exact sv_iret hM dX12_name_14 rfl rfl ⟨r5, rfl, hr5, hok, sv_mod.rf, h⟩
def q_number (p1 : Int) (S : sv_S) : Option Value → sv_S → Prop := fun v S' => ∃ r : Int, v = some (sv_I r) ∧ sv_R r ∧ sm_ok S' ∧ sv_mod [] S S' ∧ (True)
theorem la_number_0 {x0 : Int} (h0 : 0 ≤ x0) (h1 : x0 < 647800) : 0 ≤ x0 ∧ x0 < 647800 := by omega
set_option maxHeartbeats 2000000 in
theorem f_number : ∀ (p1 : Int) (S : sv_S), sm_ok S → sv_R p1 → (0 ≤ p1 ∧ p1 < 647800) → (0 ≤ p1 ∧ p1 < 647800) ∧ (sv_RL (S 68 p1) → (∀ r3 : Int, sv_RL r3 → (∀ r4 : Int, sv_R r4 → (sv_R r3 → r4 = r3) → (True)))) := by
  intro p1
  intro S
  intro h1_
  intro h2_
  rintro ⟨h3_, h4_⟩
  refine ⟨(la_number_0 h3_ h4_), ?_⟩
  intro h5_
  intro r3
  intro h6_
  intro r4
  intro h7_
  intro h8_
  exact trivial
set_option maxRecDepth 8000 in
set_option maxHeartbeats 2000000 in
theorem t_number : ∀ (p1 : Int) (S : sv_S), sm_ok S → sv_R p1 → (0 ≤ p1 ∧ p1 < 647800) → sv_T sm_XS sm_cs sm_L sm_sh 0 (q_number p1 S) 204 0 (lv_args 0 [.ref 0, sv_I p1]) [] S := by
  intro p1 S hok hp1 hpre
  have h := f_number p1 S hok hp1 hpre
  have hM := sm_h204
  show sv_T sm_XS sm_cs sm_L sm_sh 0 (q_number p1 S) 204 0 [(0, .ref 0), (1, sv_I p1)] [] S
  refine sv_aload_n hM dX12_number_0 rfl rfl ?_
  refine sv_getA hM dX12_number_1 sm_fl_216 (sm_a0 _) sm_k116 rfl ?_
  refine sv_iload_n hM dX12_number_4 rfl rfl ?_
  obtain ⟨o1, h⟩ := h
  have k2 : sv_RL (S 68 p1) := sm_okJ hok sm_r68 p1
  have h := h k2
  refine sv_lald hM dX12_number_5 (sm_a68 _) (by decide) o1.1 o1.2 rfl (x := (S 68 p1)) rfl ?_
  refine sv_bipush (d := (32 : Int)) hM dX12_number_6 rfl rfl ?_
  refine sv_anyL hM dX12_number_8 rfl rfl (fun r3 hr3 _ => ?_)
  have h := h r3 hr3
  refine sv_l2iR hM dX12_number_9 rfl (fun r4 hr4 er4 => ?_)
  have h := h r4 hr4 er4
  exact sv_iret hM dX12_number_10 rfl rfl ⟨r4, rfl, hr4, hok, sv_mod.rf, h⟩
def q_write (p1 : Int) (p2 : Int) (p3 : Int) (p4 : Int) (S : sv_S) : Option Value → sv_S → Prop := fun v S' => v = none ∧ sm_ok S' ∧ sv_mod [68] S S' ∧ ((0 ≤ p2 → p2 < 1024 → (S' 68 p1) % 1024 = p2) ∧ (635639 ≤ p1 → sm_pt (S' 68) (S' 69) (S' 70) = sm_pt (S 68) (S 69) (S 70)) ∧ (p1 < 635639 → sm_pt (S' 68) (S' 69) (S' 70) = sm_pt (S 68) (S 69) (S 70) + sm_rs (S 68 p1) (S' 69 p1) (S' 70 p1) - sm_rs (S' 68 p1) (S' 69 p1) (S' 70 p1)))
theorem la_write_0 {x0 : Int} (h0 : 0 ≤ x0) (h1 : x0 < 647800) : 0 ≤ x0 ∧ x0 < 647800 := by omega
theorem la_write_1 {x0 : Int} : x0 = x0 := by omega
theorem la_write_2 {x0 x1 x2 : Int} (h0 : x0 % 1024 = x1) (h1 : x2 % 1024 = x0 % 1024) : x2 % 1024 = x1 := by omega
theorem la_write_3 {x0 x1 x2 x3 x4 : Int} (h0 : x0 = x1) (h1 : x2 = x3 + x4 - x1) : x2 = x3 + x4 - x0 := by omega
set_option maxHeartbeats 2000000 in
theorem f_write : ∀ (p1 : Int) (p2 : Int) (p3 : Int) (p4 : Int) (S : sv_S), sm_ok S → sv_R p1 → sv_R p2 → sv_R p3 → sv_R p4 → (0 ≤ p1 ∧ p1 < 647800) → (∀ r1 : Int, sv_RL r1 → sm_z10 r1 → (∀ r2 : Int, sv_RL r2 → sm_z10 r2 → (∀ r3 : Int, sv_RL r3 → (sm_lor r1 r2 = r3 ∧ (sm_z10 r1 → sm_z10 r2 → sm_z10 r3) ∧ (sm_z10 r1 → 0 ≤ r2 → r2 < 1024 → r3 % 1024 = r2)) → (∀ r4 : Int, sv_RL r4 → (sm_lor r3 p2 = r4 ∧ (sm_z10 r3 → sm_z10 p2 → sm_z10 r4) ∧ (sm_z10 r3 → 0 ≤ p2 → p2 < 1024 → r4 % 1024 = p2)) → (0 ≤ p1 ∧ p1 < 647800) ∧ ((0 ≤ p2 → p2 < 1024 → (if p1 = p1 then r4 else (S 68 p1)) % 1024 = p2) ∧ (635639 ≤ p1 → sm_pt (fun i' : Int => if i' = p1 then r4 else (S 68) i') (S 69) (S 70) = sm_pt (S 68) (S 69) (S 70)) ∧ (p1 < 635639 → sm_pt (fun i' : Int => if i' = p1 then r4 else (S 68) i') (S 69) (S 70) = sm_pt (S 68) (S 69) (S 70) + sm_rs (S 68 p1) (S 69 p1) (S 70 p1) - sm_rs (if p1 = p1 then r4 else (S 68 p1)) (S 69 p1) (S 70 p1))))))) := by
  intro p1
  intro p2
  intro p3
  intro p4
  intro S
  intro h1_
  intro h2_
  intro h3_
  intro h4_
  intro h5_
  rintro ⟨h6_, h7_⟩
  intro r1
  intro h8_
  intro h9_
  intro r2
  intro h10_
  intro h11_
  intro r3
  intro h12_
  rintro ⟨h13_, ⟨h14_, h15_⟩⟩
  have h16_ := (h14_ h9_)
  have h17_ := (h15_ h9_)
  have h18_ := (h16_ h11_)
  intro r4
  intro h19_
  rintro ⟨h20_, ⟨h21_, h22_⟩⟩
  have h23_ := (h21_ h18_)
  have h24_ := (h22_ h18_)
  refine ⟨(la_write_0 h6_ h7_), ?_⟩
  refine ⟨?_, ?_⟩
  · skip
    intro h25_
    have h26_ := (h24_ h25_)
    intro h27_
    have h28_ := (h26_ h27_)
    have e29_ : (if p1 = p1 then r4 else S 68 p1) % 1024 = r4 % 1024 := congrArg (fun z_ : Int => z_ % 1024) (if_pos la_write_1)
    have e30_ : (if p1 = p1 then r4 else S 68 p1 : Int) = r4 := if_pos la_write_1
    exact (la_write_2 h28_ e29_)
  refine ⟨?_, ?_⟩
  · skip
    intro h31_
    have e32_ : sm_pt (fun i' : Int => (if i' = p1 then r4 else (S 68) i')) (S 69) (S 70) = sm_pt (S 68) (S 69) (S 70) := sm_pt_B h31_
    exact e32_
  intro h33_
  have e34_ : sm_rs (if p1 = p1 then r4 else S 68 p1) (S 69 p1) (S 70 p1) = sm_rs r4 (S 69 p1) (S 70 p1) := congrArg (fun z_ : Int => sm_rs z_ (S 69 p1) (S 70 p1)) (if_pos la_write_1)
  have e35_ : sm_pt (fun i' : Int => (if i' = p1 then r4 else (S 68) i')) (S 69) (S 70) = sm_pt (S 68) (S 69) (S 70) + sm_rs (S 68 p1) (S 69 p1) (S 70 p1) - sm_rs r4 (S 69 p1) (S 70 p1) := sm_pt_b h6_ h33_
  have e36_ : (if p1 = p1 then r4 else S 68 p1 : Int) = r4 := if_pos la_write_1
  exact (la_write_3 e34_ e35_)
set_option maxRecDepth 8000 in
set_option maxHeartbeats 2000000 in
theorem t_write : ∀ (p1 : Int) (p2 : Int) (p3 : Int) (p4 : Int) (S : sv_S), sm_ok S → sv_R p1 → sv_R p2 → sv_R p3 → sv_R p4 → (0 ≤ p1 ∧ p1 < 647800) → sv_T sm_XS sm_cs sm_L sm_sh 0 (q_write p1 p2 p3 p4 S) 205 0 (lv_args 0 [.ref 0, sv_I p1, sv_I p2, sv_I p3, sv_I p4]) [] S := by
  intro p1 p2 p3 p4 S hok hp1 hp2 hp3 hp4 hpre
  have h := f_write p1 p2 p3 p4 S hok hp1 hp2 hp3 hp4 hpre
  have hM := sm_h205
  show sv_T sm_XS sm_cs sm_L sm_sh 0 (q_write p1 p2 p3 p4 S) 205 0 [(0, .ref 0), (1, sv_I p1), (2, sv_I p2), (3, sv_I p3), (4, sv_I p4)] [] S
  refine sv_aload_n hM dX12_write_0 rfl rfl ?_
  refine sv_getA hM dX12_write_1 sm_fl_216 (sm_a0 _) sm_k116 rfl ?_
  refine sv_iload_n hM dX12_write_4 rfl rfl ?_
  refine sv_iload hM dX12_write_5 rfl rfl ?_
  refine sv_i2l hM dX12_write_7 hp4 rfl ?_
  refine sv_bipush (d := (32 : Int)) hM dX12_write_8 rfl rfl ?_
  refine sv_anyL hM dX12_write_10 rfl rfl (fun r1 hr1 er1 => ?_)
  have h := h r1 hr1 (sm_sh10 (Or.inr (by decide)) er1)
  refine sv_iload_n hM dX12_write_11 rfl rfl ?_
  refine sv_i2l hM dX12_write_12 hp3 rfl ?_
  refine sv_bipush (d := (10 : Int)) hM dX12_write_13 rfl rfl ?_
  refine sv_anyL hM dX12_write_15 rfl rfl (fun r2 hr2 er2 => ?_)
  have h := h r2 hr2 (sm_sh10 (Or.inl (by decide)) er2)
  refine sv_anyL hM dX12_write_16 rfl rfl (fun r3 hr3 er3 => ?_)
  have h := h r3 hr3 ⟨er3, sm_lor_z er3, sm_lor_h er3 hr3⟩
  refine sv_iload_n hM dX12_write_17 rfl rfl ?_
  refine sv_i2l hM dX12_write_18 hp2 rfl ?_
  refine sv_anyL hM dX12_write_19 rfl rfl (fun r4 hr4 er4 => ?_)
  have h := h r4 hr4 ⟨er4, sm_lor_z er4, sm_lor_h er4 hr4⟩
  obtain ⟨o5, h⟩ := h
  refine sv_last sm_X hM dX12_write_20 (sm_a68 _) (by decide) o5.1 o5.2 rfl ?_
  have ok6 : sm_ok (sv_up S 68 p1 r4) := sm_upJ hok sm_r68 hr4
  have md7 : sv_mod [68] S (sv_up S 68 p1 r4) := sv_mod.up sv_mod.rf (by decide)
  exact sv_vret hM dX12_write_21 rfl ⟨rfl, ok6, md7, h⟩
def q_empty (p1 : Int) (S : sv_S) : Option Value → sv_S → Prop := fun v S' => v = none ∧ sm_ok S' ∧ sv_mod [68, 69, 70] S S' ∧ (635639 ≤ p1 → sm_pt (S' 68) (S' 69) (S' 70) = sm_pt (S 68) (S 69) (S 70))
theorem la_empty_0 {x0 : Int} (h0 : 0 ≤ x0) (h1 : x0 < 647800) : 0 ≤ x0 ∧ x0 < 647800 := by omega
theorem la_empty_1 {x0 x1 x2 x3 : Int} (h0 : x0 = x1) (h1 : x1 = x2) (h2 : x2 = x3) : x0 = x3 := by omega
set_option maxHeartbeats 2000000 in
theorem f_empty : ∀ (p1 : Int) (S : sv_S), sm_ok S → sv_R p1 → (0 ≤ p1 ∧ p1 < 647800) → (0 ≤ p1 ∧ p1 < 647800) ∧ (635639 ≤ p1 → sm_pt (fun i' : Int => if i' = p1 then (0 : Int) else (S 68) i') (fun i' : Int => if i' = p1 then (0 : Int) else (S 69) i') (fun i' : Int => if i' = p1 then (0 : Int) else (S 70) i') = sm_pt (S 68) (S 69) (S 70)) := by
  intro p1
  intro S
  intro h1_
  intro h2_
  rintro ⟨h3_, h4_⟩
  refine ⟨(la_empty_0 h3_ h4_), ?_⟩
  intro h5_
  have e6_ : sm_pt (fun i' : Int => (if i' = p1 then 0 else (S 68) i')) (fun i' : Int => (if i' = p1 then 0 else (S 69) i')) (fun i' : Int => (if i' = p1 then 0 else (S 70) i')) = sm_pt (fun i' : Int => (if i' = p1 then 0 else (S 68) i')) (fun i' : Int => (if i' = p1 then 0 else (S 69) i')) (S 70) := sm_pt_H h5_
  have e7_ : sm_pt (fun i' : Int => (if i' = p1 then 0 else (S 68) i')) (fun i' : Int => (if i' = p1 then 0 else (S 69) i')) (S 70) = sm_pt (fun i' : Int => (if i' = p1 then 0 else (S 68) i')) (S 69) (S 70) := sm_pt_L h5_
  have e8_ : sm_pt (fun i' : Int => (if i' = p1 then 0 else (S 68) i')) (S 69) (S 70) = sm_pt (S 68) (S 69) (S 70) := sm_pt_B h5_
  exact (la_empty_1 e6_ e7_ e8_)
set_option maxRecDepth 8000 in
set_option maxHeartbeats 2000000 in
theorem t_empty : ∀ (p1 : Int) (S : sv_S), sm_ok S → sv_R p1 → (0 ≤ p1 ∧ p1 < 647800) → sv_T sm_XS sm_cs sm_L sm_sh 0 (q_empty p1 S) 206 0 (lv_args 0 [.ref 0, sv_I p1]) [] S := by
  intro p1 S hok hp1 hpre
  have h := f_empty p1 S hok hp1 hpre
  have hM := sm_h206
  show sv_T sm_XS sm_cs sm_L sm_sh 0 (q_empty p1 S) 206 0 [(0, .ref 0), (1, sv_I p1)] [] S
  refine sv_aload_n hM dX12_empty_0 rfl rfl ?_
  refine sv_getA hM dX12_empty_1 sm_fl_216 (sm_a0 _) sm_k116 rfl ?_
  refine sv_iload_n hM dX12_empty_4 rfl rfl ?_
  refine sv_lconst (d := (0 : Int)) hM dX12_empty_5 rfl rfl ?_
  obtain ⟨o1, h⟩ := h
  refine sv_last sm_X hM dX12_empty_6 (sm_a68 _) (by decide) o1.1 o1.2 rfl ?_
  have ok2 : sm_ok (sv_up S 68 p1 (0 : Int)) := sm_upJ hok sm_r68 (⟨by decide, by decide⟩ : sv_RL (0 : Int))
  have md3 : sv_mod [68, 69, 70] S (sv_up S 68 p1 (0 : Int)) := sv_mod.up sv_mod.rf (by decide)
  refine sv_aload_n hM dX12_empty_7 rfl rfl ?_
  refine sv_getA hM dX12_empty_8 sm_fl_220 (sm_a0 _) sm_k117 rfl ?_
  refine sv_iload_n hM dX12_empty_11 rfl rfl ?_
  refine sv_lconst (d := (0 : Int)) hM dX12_empty_12 rfl rfl ?_
  refine sv_last sm_X hM dX12_empty_13 (sm_a69 _) (by decide) o1.1 o1.2 rfl ?_
  have ok4 : sm_ok (sv_up (sv_up S 68 p1 (0 : Int)) 69 p1 (0 : Int)) := sm_upJ ok2 sm_r69 (⟨by decide, by decide⟩ : sv_RL (0 : Int))
  have md5 : sv_mod [68, 69, 70] S (sv_up (sv_up S 68 p1 (0 : Int)) 69 p1 (0 : Int)) := sv_mod.up md3 (by decide)
  refine sv_aload_n hM dX12_empty_14 rfl rfl ?_
  refine sv_getA hM dX12_empty_15 sm_fl_223 (sm_a0 _) sm_k118 rfl ?_
  refine sv_iload_n hM dX12_empty_18 rfl rfl ?_
  refine sv_lconst (d := (0 : Int)) hM dX12_empty_19 rfl rfl ?_
  refine sv_last sm_X hM dX12_empty_20 (sm_a70 _) (by decide) o1.1 o1.2 rfl ?_
  have ok6 : sm_ok (sv_up (sv_up (sv_up S 68 p1 (0 : Int)) 69 p1 (0 : Int)) 70 p1 (0 : Int)) := sm_upJ ok4 sm_r70 (⟨by decide, by decide⟩ : sv_RL (0 : Int))
  have md7 : sv_mod [68, 69, 70] S (sv_up (sv_up (sv_up S 68 p1 (0 : Int)) 69 p1 (0 : Int)) 70 p1 (0 : Int)) := sv_mod.up md5 (by decide)
  exact sv_vret hM dX12_empty_21 rfl ⟨rfl, ok6, md7, h⟩
def q_copySet (p1 : Int) (p2 : Int) (S : sv_S) : Option Value → sv_S → Prop := fun v S' => v = none ∧ sm_ok S' ∧ sv_mod [68, 69, 70] S S' ∧ (sm_pt (S' 68) (S' 69) (S' 70) = sm_pt (S 68) (S 69) (S 70))
theorem la_copySet_0 {x0 : Int} (h0 : 0 ≤ x0) (h1 : x0 < 647800) : 0 ≤ x0 ∧ x0 < 647800 := by omega
theorem la_copySet_1 {x0 : Int} (h0 : 635639 ≤ x0) (h1 : x0 < 647800) : 0 ≤ x0 ∧ x0 < 647800 := by omega
theorem la_copySet_2 {x0 x1 x2 x3 : Int} (h0 : x0 = x1) (h1 : x1 = x2) (h2 : x2 = x3) : x0 = x3 := by omega
set_option maxHeartbeats 2000000 in
theorem f_copySet : ∀ (p1 : Int) (p2 : Int) (S : sv_S), sm_ok S → sv_R p1 → sv_R p2 → (0 ≤ p1 ∧ p1 < 647800 ∧ 635639 ≤ p2 ∧ p2 < 647800) → (0 ≤ p1 ∧ p1 < 647800) ∧ (sv_RL (S 68 p1) → (0 ≤ p2 ∧ p2 < 647800) ∧ (sv_RL (S 69 p1) → (sv_RL (S 70 p1) → (sm_pt (fun i' : Int => if i' = p2 then (S 68 p1) else (S 68) i') (fun i' : Int => if i' = p2 then (S 69 p1) else (S 69) i') (fun i' : Int => if i' = p2 then (S 70 p1) else (S 70) i') = sm_pt (S 68) (S 69) (S 70))))) := by
  intro p1
  intro p2
  intro S
  intro h1_
  intro h2_
  intro h3_
  rintro ⟨h4_, ⟨h5_, ⟨h6_, h7_⟩⟩⟩
  refine ⟨(la_copySet_0 h4_ h5_), ?_⟩
  intro h8_
  refine ⟨(la_copySet_1 h6_ h7_), ?_⟩
  intro h9_
  intro h10_
  have e11_ : sm_pt (fun i' : Int => (if i' = p2 then S 68 p1 else (S 68) i')) (fun i' : Int => (if i' = p2 then S 69 p1 else (S 69) i')) (fun i' : Int => (if i' = p2 then S 70 p1 else (S 70) i')) = sm_pt (fun i' : Int => (if i' = p2 then S 68 p1 else (S 68) i')) (fun i' : Int => (if i' = p2 then S 69 p1 else (S 69) i')) (S 70) := sm_pt_H h6_
  have e12_ : sm_pt (fun i' : Int => (if i' = p2 then S 68 p1 else (S 68) i')) (fun i' : Int => (if i' = p2 then S 69 p1 else (S 69) i')) (S 70) = sm_pt (fun i' : Int => (if i' = p2 then S 68 p1 else (S 68) i')) (S 69) (S 70) := sm_pt_L h6_
  have e13_ : sm_pt (fun i' : Int => (if i' = p2 then S 68 p1 else (S 68) i')) (S 69) (S 70) = sm_pt (S 68) (S 69) (S 70) := sm_pt_B h6_
  exact (la_copySet_2 e11_ e12_ e13_)
set_option maxRecDepth 8000 in
set_option maxHeartbeats 2000000 in
theorem t_copySet : ∀ (p1 : Int) (p2 : Int) (S : sv_S), sm_ok S → sv_R p1 → sv_R p2 → (0 ≤ p1 ∧ p1 < 647800 ∧ 635639 ≤ p2 ∧ p2 < 647800) → sv_T sm_XS sm_cs sm_L sm_sh 0 (q_copySet p1 p2 S) 207 0 (lv_args 0 [.ref 0, sv_I p1, sv_I p2]) [] S := by
  intro p1 p2 S hok hp1 hp2 hpre
  have h := f_copySet p1 p2 S hok hp1 hp2 hpre
  have hM := sm_h207
  show sv_T sm_XS sm_cs sm_L sm_sh 0 (q_copySet p1 p2 S) 207 0 [(0, .ref 0), (1, sv_I p1), (2, sv_I p2)] [] S
  refine sv_aload_n hM dX12_copySet_0 rfl rfl ?_
  refine sv_getA hM dX12_copySet_1 sm_fl_216 (sm_a0 _) sm_k116 rfl ?_
  refine sv_iload_n hM dX12_copySet_4 rfl rfl ?_
  refine sv_aload_n hM dX12_copySet_5 rfl rfl ?_
  refine sv_getA hM dX12_copySet_6 sm_fl_216 (sm_a0 _) sm_k116 rfl ?_
  refine sv_iload_n hM dX12_copySet_9 rfl rfl ?_
  obtain ⟨o1, h⟩ := h
  have k2 : sv_RL (S 68 p1) := sm_okJ hok sm_r68 p1
  have h := h k2
  refine sv_lald hM dX12_copySet_10 (sm_a68 _) (by decide) o1.1 o1.2 rfl (x := (S 68 p1)) rfl ?_
  obtain ⟨o3, h⟩ := h
  refine sv_last sm_X hM dX12_copySet_11 (sm_a68 _) (by decide) o3.1 o3.2 rfl ?_
  have ok4 : sm_ok (sv_up S 68 p2 (S 68 p1)) := sm_upJ hok sm_r68 k2
  have md5 : sv_mod [68, 69, 70] S (sv_up S 68 p2 (S 68 p1)) := sv_mod.up sv_mod.rf (by decide)
  refine sv_aload_n hM dX12_copySet_12 rfl rfl ?_
  refine sv_getA hM dX12_copySet_13 sm_fl_220 (sm_a0 _) sm_k117 rfl ?_
  refine sv_iload_n hM dX12_copySet_16 rfl rfl ?_
  refine sv_aload_n hM dX12_copySet_17 rfl rfl ?_
  refine sv_getA hM dX12_copySet_18 sm_fl_220 (sm_a0 _) sm_k117 rfl ?_
  refine sv_iload_n hM dX12_copySet_21 rfl rfl ?_
  have k6 : sv_RL (S 69 p1) := sm_okJ ok4 sm_r69 p1
  have h := h k6
  refine sv_lald hM dX12_copySet_22 (sm_a69 _) (by decide) o1.1 o1.2 rfl (x := (S 69 p1)) rfl ?_
  refine sv_last sm_X hM dX12_copySet_23 (sm_a69 _) (by decide) o3.1 o3.2 rfl ?_
  have ok7 : sm_ok (sv_up (sv_up S 68 p2 (S 68 p1)) 69 p2 (S 69 p1)) := sm_upJ ok4 sm_r69 k6
  have md8 : sv_mod [68, 69, 70] S (sv_up (sv_up S 68 p2 (S 68 p1)) 69 p2 (S 69 p1)) := sv_mod.up md5 (by decide)
  refine sv_aload_n hM dX12_copySet_24 rfl rfl ?_
  refine sv_getA hM dX12_copySet_25 sm_fl_223 (sm_a0 _) sm_k118 rfl ?_
  refine sv_iload_n hM dX12_copySet_28 rfl rfl ?_
  refine sv_aload_n hM dX12_copySet_29 rfl rfl ?_
  refine sv_getA hM dX12_copySet_30 sm_fl_223 (sm_a0 _) sm_k118 rfl ?_
  refine sv_iload_n hM dX12_copySet_33 rfl rfl ?_
  have k9 : sv_RL (S 70 p1) := sm_okJ ok7 sm_r70 p1
  have h := h k9
  refine sv_lald hM dX12_copySet_34 (sm_a70 _) (by decide) o1.1 o1.2 rfl (x := (S 70 p1)) rfl ?_
  refine sv_last sm_X hM dX12_copySet_35 (sm_a70 _) (by decide) o3.1 o3.2 rfl ?_
  have ok10 : sm_ok (sv_up (sv_up (sv_up S 68 p2 (S 68 p1)) 69 p2 (S 69 p1)) 70 p2 (S 70 p1)) := sm_upJ ok7 sm_r70 k9
  have md11 : sv_mod [68, 69, 70] S (sv_up (sv_up (sv_up S 68 p2 (S 68 p1)) 69 p2 (S 69 p1)) 70 p2 (S 70 p1)) := sv_mod.up md8 (by decide)
  exact sv_vret hM dX12_copySet_36 rfl ⟨rfl, ok10, md11, h⟩
def q_join (p1 : Int) (p2 : Int) (S : sv_S) : Option Value → sv_S → Prop := fun v S' => ∃ r : Int, v = some (sv_I r) ∧ sv_R r ∧ sm_ok S' ∧ sv_mod [68, 69, 70] S S' ∧ ((635639 ≤ p2 → sm_pt (S' 68) (S' 69) (S' 70) = sm_pt (S 68) (S 69) (S 70)) ∧ (r = 0 ∨ r = 1) ∧ (p2 < 635639 → sm_pt (S' 68) (S' 69) (S' 70) + r ≤ sm_pt (S 68) (S 69) (S 70)))
theorem la_join_0 {x0 : Int} (h0 : 0 ≤ x0) (h1 : x0 < 647800) : 0 ≤ x0 ∧ x0 < 647800 := by omega
theorem la_join_1 {x0 : Int} (h0 : x0 ≤ 1023) : x0 < 1024 := by omega
theorem la_join_2 {x0 x1 : Int} (h0 : x0 = x1 % 1024) : x1 % 1024 = x0 := by omega
theorem la_join_3 {x0 : Int} (h0 : x0 = 0 ∨ x0 = 1) : 0 ≤ x0 := by omega
theorem la_join_4 {x0 : Int} (h0 : x0 = 0 ∨ x0 = 1) : x0 ≤ 1 := by omega
theorem la_join_5 {x0 : Int} (h0 : 635639 ≤ x0) : ¬ x0 < 635639 := by omega
theorem la_join_6 {x0 x1 x2 x3 : Int} (h0 : x0 = x1) (h1 : x2 = x3) (h2 : x3 = x0) : x2 = x1 := by omega
theorem la_join_7 {x0 : Int} (h0 : x0 < 635639) : ¬ 635639 ≤ x0 := by omega
theorem la_join_8 {x0 : Int} : x0 = x0 := by omega
theorem la_join_9 {x0 x1 x2 x3 x4 x5 x6 x7 x8 x9 x10 : Int} (h0 : x0 + x1 ≤ x2) (h1 : x3 = x4 + x0 - x5) (h2 : x6 = x7 + x8 - x9) (h3 : x7 = x3 + x5 - x10) (h4 : x9 = x2) (h5 : x8 = x10) : x6 + x1 ≤ x4 := by omega
theorem la_join_10 {x0 x1 x2 x3 x4 x5 : Int} : ¬ x0 = x1 → ((1 : Int) = 0 ∨ (1 : Int) = 1) ∧ ((1 : Int) = 1 → ¬ x0 = x1 ∨ ¬ x2 = x3 ∨ ¬ x4 = x5) := by omega
theorem la_join_11 {x0 x1 x2 x3 x4 x5 : Int} : ¬ x0 = x1 → ((1 : Int) = 0 ∨ (1 : Int) = 1) ∧ ((1 : Int) = 1 → ¬ x2 = x3 ∨ ¬ x0 = x1 ∨ ¬ x4 = x5) := by omega
theorem la_join_12 {x0 x1 x2 x3 x4 x5 : Int} : x0 = x1 → ((0 : Int) = 0 ∨ (0 : Int) = 1) ∧ ((0 : Int) = 1 → ¬ x2 = x3 ∨ ¬ x4 = x5 ∨ ¬ x0 = x1) := by omega
theorem la_join_13 : (1 : Int) = 0 ∨ (1 : Int) = 1 := by omega
theorem la_join_14 {x0 x1 x2 x3 x4 x5 : Int} (h0 : ¬ x0 = x1) : ¬ x2 = x3 ∨ ¬ x4 = x5 ∨ ¬ x0 = x1 := by omega
theorem la_join_15 {x0 : Int} (h0 : 0 ≤ x0) (h1 : ¬ x0 = 0) : 0 < x0 := by omega
theorem la_join_16 {x0 x1 : Int} (h0 : x0 = x1) (h1 : ¬ x1 = 0) : ¬ x0 = 0 := by omega
set_option maxHeartbeats 2000000 in
theorem f_join : ∀ (p1 : Int) (p2 : Int) (S : sv_S), sm_ok S → sv_R p1 → sv_R p2 → (0 ≤ p1 ∧ p1 < 647800 ∧ 0 ≤ p2 ∧ p2 < 647800) → (0 ≤ p2 ∧ p2 < 647800) ∧ (∀ r6 : Int, sv_R r6 → (r6 = (S 68 p2) % 1024 ∧ 0 ≤ r6 ∧ r6 ≤ 1023) → (0 ≤ p1 ∧ p1 < 647800) ∧ (∀ r12 : Int, sv_R r12 → (r12 = (S 68 p1) % 1024 ∧ 0 ≤ r12 ∧ r12 ≤ 1023) → (∀ r13 : Int, sv_R r13 → sm_ior r6 r12 = r13 → ((0 ≤ r6 → r6 < 1024 → 0 ≤ r12 → r12 < 1024 → sm_ior r6 r12 = r13 → sm_J0 r6 r13) → ((∀ l5_15 : Int, sv_R l5_15 → (sm_J0 r6 l5_15) → ((∀ l5_17 : Int, sv_R l5_17 → (sm_J0 r6 l5_17) → ((∀ l5_19 : Int, sv_R l5_19 → (sm_J1 r6 l5_19) → ((∀ l5_21 : Int, sv_R l5_21 → (sm_J2 r6 l5_21) → ((∀ s23 : Int, sv_R s23 → (True) → ((∀ s25 : Int, sv_R s25 → (True) → (sv_RL (S 69 p2) → (sv_RL (S 69 p1) → (∀ r29 : Int, sv_RL r29 → sm_lor (S 69 p2) (S 69 p1) = r29 → (sv_RL (S 70 p2) → (sv_RL (S 70 p1) → (∀ r32 : Int, sv_RL r32 → sm_lor (S 70 p2) (S 70 p1) = r32 → ((∀ s33 : Int, sv_R s33 → ((s33 = 0 ∨ s33 = 1) ∧ (s33 = 1 → ¬ l5_21 = r6 ∨ ¬ r29 = (S 69 p2) ∨ ¬ r32 = (S 70 p2))) → ((sm_J2 r6 l5_21 → 0 ≤ l5_21 ∧ l5_21 < 1024) → (∀ g36 : sv_S, ((0 ≤ l5_21 → l5_21 < 1024 → (g36 68 p2) % 1024 = l5_21) ∧ (635639 ≤ p2 → sm_pt (g36 68) (S 69) (S 70) = sm_pt (S 68) (S 69) (S 70)) ∧ (p2 < 635639 → sm_pt (g36 68) (S 69) (S 70) = sm_pt (S 68) (S 69) (S 70) + sm_rs (S 68 p2) (S 69 p2) (S 70 p2) - sm_rs (g36 68 p2) (S 69 p2) (S 70 p2))) → ((sm_J2 r6 l5_21 → (S 68 p2) % 1024 = r6 → (g36 68 p2) % 1024 = l5_21 → sv_RL (S 69 p2) → sv_RL (S 70 p2) → sm_lor (S 69 p2) (S 69 p1) = r29 → sm_lor (S 70 p2) (S 70 p1) = r32 → (s33 = 0 ∨ s33 = 1) → (s33 = 1 → ¬ l5_21 = r6 ∨ ¬ r29 = (S 69 p2) ∨ ¬ r32 = (S 70 p2)) → sm_rs (S 68 p2) (S 69 p2) (S 70 p2) + s33 ≤ sm_rs (g36 68 p2) r29 r32) → (0 ≤ s33 ∧ s33 ≤ 1) ∧ ((635639 ≤ p2 → sm_pt (g36 68) (fun i' : Int => if i' = p2 then r29 else (S 69) i') (fun i' : Int => if i' = p2 then r32 else (S 70) i') = sm_pt (S 68) (S 69) (S 70)) ∧ (s33 = 0 ∨ s33 = 1) ∧ (p2 < 635639 → sm_pt (g36 68) (fun i' : Int => if i' = p2 then r29 else (S 69) i') (fun i' : Int => if i' = p2 then r32 else (S 70) i') + s33 ≤ sm_pt (S 68) (S 69) (S 70))))))) ∧ (((¬ l5_21 = r6) → (((1 : Int) = 0 ∨ (1 : Int) = 1) ∧ ((1 : Int) = 1 → ¬ l5_21 = r6 ∨ ¬ r29 = (S 69 p2) ∨ ¬ r32 = (S 70 p2)))) ∧ ((¬ (¬ l5_21 = r6)) → (((¬ r29 = (S 69 p2)) → (((1 : Int) = 0 ∨ (1 : Int) = 1) ∧ ((1 : Int) = 1 → ¬ l5_21 = r6 ∨ ¬ r29 = (S 69 p2) ∨ ¬ r32 = (S 70 p2)))) ∧ ((¬ (¬ r29 = (S 69 p2))) → (((r32 = (S 70 p2)) → (((0 : Int) = 0 ∨ (0 : Int) = 1) ∧ ((0 : Int) = 1 → ¬ l5_21 = r6 ∨ ¬ r29 = (S 69 p2) ∨ ¬ r32 = (S 70 p2)))) ∧ ((¬ (r32 = (S 70 p2))) → (((1 : Int) = 0 ∨ (1 : Int) = 1) ∧ ((1 : Int) = 1 → ¬ l5_21 = r6 ∨ ¬ r29 = (S 69 p2) ∨ ¬ r32 = (S 70 p2))))))))))))))))) ∧ (∀ r49 : Int, (0 ≤ r49 ∧ r49 ≤ (128 : Int)) → (((¬ r49 = (0 : Int)) → (∀ r50 : Int, (0 ≤ r50 ∧ r50 ≤ (128 : Int)) → (((r50 = (0 : Int)) → (∀ r55 : Int, sv_R r55 → (0 ≤ r55 ∧ r55 ≤ 127) → (True))) ∧ ((¬ (r50 = (0 : Int))) → (∀ r60 : Int, sv_R r60 → (0 ≤ r60 ∧ r60 ≤ 127) → (True)))))) ∧ ((¬ (¬ r49 = (0 : Int))) → (True)))))) ∧ (∀ r62 : Int, (0 ≤ r62 ∧ r62 ≤ (32 : Int)) → (((¬ r62 = (0 : Int)) → (∀ r63 : Int, (0 ≤ r63 ∧ r63 ≤ (32 : Int)) → (((r63 = (0 : Int)) → (∀ r68 : Int, sv_R r68 → (True) → (True))) ∧ ((¬ (r63 = (0 : Int))) → (∀ r73 : Int, sv_R r73 → (True) → (True)))))) ∧ ((¬ (¬ r62 = (0 : Int))) → (True)))))) ∧ (∀ r75 : Int, sv_R r75 → sm_iand l5_19 (256 : Int) = r75 → ((sm_iand l5_19 256 = r75 → r75 = 0 → sm_J1 r6 l5_19 → sm_J2 r6 l5_19) → (((r75 = (0 : Int)) → (sm_J2 r6 l5_19)) ∧ ((¬ (r75 = (0 : Int))) → (∀ r77 : Int, sv_R r77 → sm_iand l5_19 (-129 : Int) = r77 → ((¬ sm_iand l5_19 256 = 0 → sm_J1 r6 l5_19 → sm_iand l5_19 (-129) = r77 → sm_J2 r6 r77) → (sm_J2 r6 r77))))))))) ∧ (∀ r80 : Int, sv_R r80 → sm_iand l5_17 (64 : Int) = r80 → ((sm_iand l5_17 64 = r80 → r80 = 0 → sm_J0 r6 l5_17 → sm_J1 r6 l5_17) → (((r80 = (0 : Int)) → (sm_J1 r6 l5_17)) ∧ ((¬ (r80 = (0 : Int))) → (∀ r82 : Int, sv_R r82 → sm_iand l5_17 (-33 : Int) = r82 → ((¬ sm_iand l5_17 64 = 0 → sm_J0 r6 l5_17 → sm_iand l5_17 (-33) = r82 → sm_J1 r6 r82) → (sm_J1 r6 r82))))))))) ∧ (∀ r85 : Int, sv_R r85 → (∀ r86 : Int, (0 ≤ r86 ∧ r86 ≤ (128 : Int)) → (((r86 = (0 : Int)) → (sm_J0 r6 l5_15)) ∧ ((¬ (r86 = (0 : Int))) → (∀ r91 : Int, sv_R r91 → (0 ≤ r91 ∧ r91 ≤ 127) → (∀ r96 : Int, sv_R r96 → (0 ≤ r96 ∧ r96 ≤ 127) → (((r91 = r96) → (sm_J0 r6 l5_15)) ∧ ((¬ (r91 = r96)) → (∀ r97 : Int, sv_R r97 → sm_ior l5_15 (256 : Int) = r97 → ((sm_J0 r6 l5_15 → sm_ior l5_15 256 = r97 → sm_J0 r6 r97) → (sm_J0 r6 r97))))))))))))) ∧ ((0 ≤ r6 → r6 < 1024 → 0 ≤ r12 → r12 < 1024 → sm_ior r6 r12 = r13 → sm_J0 r6 r13) → (∀ r101 : Int, sv_R r101 → (∀ r102 : Int, (0 ≤ r102 ∧ r102 ≤ (32 : Int)) → (((r102 = (0 : Int)) → (sm_J0 r6 r13)) ∧ ((¬ (r102 = (0 : Int))) → (∀ r107 : Int, sv_R r107 → (True) → (∀ r112 : Int, sv_R r112 → (True) → (((r107 = r112) → (sm_J0 r6 r13)) ∧ ((¬ (r107 = r112)) → (∀ r113 : Int, sv_R r113 → sm_ior r13 (64 : Int) = r113 → ((sm_J0 r6 r13 → sm_ior r13 64 = r113 → sm_J0 r6 r113) → (sm_J0 r6 r113))))))))))))))))) := by
  intro p1
  intro p2
  intro S
  intro h1_
  intro h2_
  intro h3_
  rintro ⟨h4_, ⟨h5_, ⟨h6_, h7_⟩⟩⟩
  refine ⟨(la_join_0 h6_ h7_), ?_⟩
  intro r6
  intro h8_
  rintro ⟨h9_, ⟨h10_, h11_⟩⟩
  refine ⟨(la_join_0 h4_ h5_), ?_⟩
  intro r12
  intro h12_
  rintro ⟨h13_, ⟨h14_, h15_⟩⟩
  intro r13
  intro h16_
  intro h17_
  intro h18_
  have h19_ := (h18_ h10_)
  have h20_ := (h19_ (la_join_1 h11_))
  have h21_ := (h20_ h14_)
  have h22_ := (h21_ (la_join_1 h15_))
  have h23_ := (h22_ h17_)
  refine ⟨?_, ?_⟩
  · skip
    intro l5_15
    intro h24_
    intro h25_
    refine ⟨?_, ?_⟩
    · skip
      intro l5_17
      intro h26_
      intro h27_
      refine ⟨?_, ?_⟩
      · skip
        intro l5_19
        intro h28_
        intro h29_
        refine ⟨?_, ?_⟩
        · skip
          intro l5_21
          intro h30_
          intro h31_
          refine ⟨?_, ?_⟩
          · skip
            intro s23
            intro h32_
            intro _
            refine ⟨?_, ?_⟩
            · skip
              intro s25
              intro h33_
              intro _
              intro h34_
              intro h35_
              intro r29
              intro h36_
              intro h37_
              intro h38_
              intro h39_
              intro r32
              intro h40_
              intro h41_
              refine ⟨?_, ?_⟩
              · skip
                intro s33
                intro h42_
                rintro ⟨h43_, h44_⟩
                intro h45_
                obtain ⟨h46_, h47_⟩ := (h45_ h31_)
                intro g36
                rintro ⟨h48_, ⟨h49_, h50_⟩⟩
                have h51_ := (h48_ h46_)
                have h52_ := (h51_ h47_)
                intro h53_
                have h54_ := (h53_ h31_)
                have h55_ := (h54_ (la_join_2 h9_))
                have h56_ := (h55_ h52_)
                have h57_ := (h56_ h34_)
                have h58_ := (h57_ h38_)
                have h59_ := (h58_ h37_)
                have h60_ := (h59_ h41_)
                have h61_ := (h60_ h43_)
                have h62_ := (h61_ h44_)
                refine ⟨?_, ?_⟩
                · skip
                  refine ⟨?_, ?_⟩
                  · skip
                    exact (la_join_3 h43_)
                  exact (la_join_4 h43_)
                refine ⟨?_, ?_⟩
                · skip
                  intro h63_
                  have h64_ := (h49_ h63_)
                  have e65_ : sm_pt (g36 68) (fun i' : Int => (if i' = p2 then r29 else (S 69) i')) (fun i' : Int => (if i' = p2 then r32 else (S 70) i')) = sm_pt (g36 68) (fun i' : Int => (if i' = p2 then r29 else (S 69) i')) (S 70) := sm_pt_H h63_
                  have e66_ : sm_pt (g36 68) (fun i' : Int => (if i' = p2 then r29 else (S 69) i')) (S 70) = sm_pt (g36 68) (S 69) (S 70) := sm_pt_L h63_
                  exact (la_join_6 h64_ e65_ e66_)
                refine ⟨h43_, ?_⟩
                intro h67_
                have h68_ := (h50_ h67_)
                have e69_ : sm_pt (g36 68) (fun i' : Int => (if i' = p2 then r29 else (S 69) i')) (fun i' : Int => (if i' = p2 then r32 else (S 70) i')) = sm_pt (g36 68) (fun i' : Int => (if i' = p2 then r29 else (S 69) i')) (S 70) + sm_rs (g36 68 p2) (if p2 = p2 then r29 else S 69 p2) (S 70 p2) - sm_rs (g36 68 p2) (if p2 = p2 then r29 else S 69 p2) r32 := sm_pt_h h6_ h67_
                have e70_ : sm_pt (g36 68) (fun i' : Int => (if i' = p2 then r29 else (S 69) i')) (S 70) = sm_pt (g36 68) (S 69) (S 70) + sm_rs (g36 68 p2) (S 69 p2) (S 70 p2) - sm_rs (g36 68 p2) r29 (S 70 p2) := sm_pt_l h6_ h67_
                have e71_ : sm_rs (g36 68 p2) (if p2 = p2 then r29 else S 69 p2) r32 = sm_rs (g36 68 p2) r29 r32 := congrArg (fun z_ : Int => sm_rs (g36 68 p2) z_ r32) (if_pos la_join_8)
                have e72_ : sm_rs (g36 68 p2) (if p2 = p2 then r29 else S 69 p2) (S 70 p2) = sm_rs (g36 68 p2) r29 (S 70 p2) := congrArg (fun z_ : Int => sm_rs (g36 68 p2) z_ (S 70 p2)) (if_pos la_join_8)
                have e73_ : (if p2 = p2 then r29 else S 69 p2 : Int) = r29 := if_pos la_join_8
                exact (la_join_9 h62_ h68_ e69_ e70_ e71_ e72_)
              refine ⟨la_join_10, ?_⟩
              intro h74_
              refine ⟨la_join_11, ?_⟩
              intro h75_
              refine ⟨la_join_12, ?_⟩
              intro h76_
              refine ⟨la_join_13, ?_⟩
              intro h77_
              exact (la_join_14 h76_)
            intro r49
            rintro ⟨h78_, h79_⟩
            refine ⟨?_, ?_⟩
            · skip
              intro h80_
              intro r50
              rintro ⟨h81_, h82_⟩
              refine ⟨?_, ?_⟩
              · skip
                intro h83_
                intro r55
                intro h84_
                rintro ⟨h85_, h86_⟩
                exact trivial
              intro h87_
              intro r60
              intro h88_
              rintro ⟨h89_, h90_⟩
              exact trivial
            intro h91_
            exact trivial
          intro r62
          rintro ⟨h92_, h93_⟩
          refine ⟨?_, ?_⟩
          · skip
            intro h94_
            intro r63
            rintro ⟨h95_, h96_⟩
            refine ⟨?_, ?_⟩
            · skip
              intro h97_
              intro r68
              intro h98_
              intro _
              exact trivial
            intro h99_
            intro r73
            intro h100_
            intro _
            exact trivial
          intro h101_
          exact trivial
        intro r75
        intro h102_
        intro h103_
        intro h104_
        have h105_ := (h104_ h103_)
        refine ⟨?_, ?_⟩
        · skip
          intro h106_
          have h107_ := (h105_ h106_)
          have h108_ := (h107_ h29_)
          exact h108_
        intro h109_
        intro r77
        intro h110_
        intro h111_
        intro h112_
        have h113_ : ¬ sm_iand l5_19 256 = 0 := by
          exact (la_join_16 h103_ h109_)
        have h114_ := (h112_ h113_ h29_ h111_)
        exact h114_
      intro r80
      intro h115_
      intro h116_
      intro h117_
      have h118_ := (h117_ h116_)
      refine ⟨?_, ?_⟩
      · skip
        intro h119_
        have h120_ := (h118_ h119_)
        have h121_ := (h120_ h27_)
        exact h121_
      intro h122_
      intro r82
      intro h123_
      intro h124_
      intro h125_
      have h126_ : ¬ sm_iand l5_17 64 = 0 := by
        exact (la_join_16 h116_ h122_)
      have h127_ := (h125_ h126_ h27_ h124_)
      exact h127_
    intro r85
    intro h128_
    intro r86
    rintro ⟨h129_, h130_⟩
    refine ⟨?_, ?_⟩
    · skip
      intro h131_
      exact h25_
    intro h132_
    intro r91
    intro h133_
    rintro ⟨h134_, h135_⟩
    intro r96
    intro h136_
    rintro ⟨h137_, h138_⟩
    refine ⟨?_, ?_⟩
    · skip
      intro h139_
      exact h25_
    intro h140_
    intro r97
    intro h141_
    intro h142_
    intro h143_
    have h144_ := (h143_ h25_)
    have h145_ := (h144_ h142_)
    exact h145_
  intro h146_
  intro r101
  intro h147_
  intro r102
  rintro ⟨h148_, h149_⟩
  refine ⟨?_, ?_⟩
  · skip
    intro h150_
    exact h23_
  intro h151_
  intro r107
  intro h152_
  intro _
  intro r112
  intro h153_
  intro _
  refine ⟨?_, ?_⟩
  · skip
    intro h154_
    exact h23_
  intro h155_
  intro r113
  intro h156_
  intro h157_
  intro h158_
  have h159_ := (h158_ h23_)
  have h160_ := (h159_ h157_)
  exact h160_
set_option maxRecDepth 8000 in
set_option maxHeartbeats 2000000 in
theorem t_join : ∀ (p1 : Int) (p2 : Int) (S : sv_S), sm_ok S → sv_R p1 → sv_R p2 → (0 ≤ p1 ∧ p1 < 647800 ∧ 0 ≤ p2 ∧ p2 < 647800) → sv_T sm_XS sm_cs sm_L sm_sh 1 (q_join p1 p2 S) 208 0 (lv_args 0 [.ref 0, sv_I p1, sv_I p2]) [] S := by
  intro p1 p2 S hok hp1 hp2 hpre
  have h := f_join p1 p2 S hok hp1 hp2 hpre
  have hM := sm_h208
  show sv_T sm_XS sm_cs sm_L sm_sh 1 (q_join p1 p2 S) 208 0 [(0, .ref 0), (1, sv_I p1), (2, sv_I p2)] [] S
  refine sv_aload_n hM dX12_join_0 rfl rfl ?_
  refine sv_iload_n hM dX12_join_1 rfl rfl ?_
  obtain ⟨o1, h⟩ := h
  refine sv_callV hM dX12_join_2 sm_iv_1047 (by decide) (sm_a0 _) rfl rfl (Nat.le_of_ble_eq_true rfl) sm_h202 (Nat.le_of_ble_eq_true rfl) (Nat.le_of_ble_eq_true rfl) (F' := 0) (Nat.le_of_ble_eq_true rfl) rfl (t_has p2 S hok hp2 o1) (fun v S1 hq => ?_)
  obtain ⟨r6, rfl, hr6, ok3, md4, hpo5⟩ := hq
  obtain rfl : S = S1 := (funext fun j => md4 j (by intro q; cases q)).symm
  show sv_T sm_XS sm_cs sm_L sm_sh 1 (q_join p1 p2 S) 208 5 [(0, .ref 0), (1, sv_I p1), (2, sv_I p2)] [sv_I r6] S
  have h := h r6 hr6 hpo5
  refine sv_istore_n hM dX12_join_5 (by decide) rfl ?_
  show sv_T sm_XS sm_cs sm_L sm_sh 1 (q_join p1 p2 S) 208 6 [(0, .ref 0), (1, sv_I p1), (2, sv_I p2), (3, sv_I r6)] [] S
  refine sv_aload_n hM dX12_join_6 rfl rfl ?_
  refine sv_iload_n hM dX12_join_7 rfl rfl ?_
  obtain ⟨o7, h⟩ := h
  refine sv_callV hM dX12_join_8 sm_iv_1047 (by decide) (sm_a0 _) rfl rfl (Nat.le_of_ble_eq_true rfl) sm_h202 (Nat.le_of_ble_eq_true rfl) (Nat.le_of_ble_eq_true rfl) (F' := 0) (Nat.le_of_ble_eq_true rfl) rfl (t_has p1 S ok3 hp1 o7) (fun v S1 hq => ?_)
  obtain ⟨r12, rfl, hr12, ok9, md10, hpo11⟩ := hq
  obtain rfl : S = S1 := (funext fun j => md10 j (by intro q; cases q)).symm
  show sv_T sm_XS sm_cs sm_L sm_sh 1 (q_join p1 p2 S) 208 11 [(0, .ref 0), (1, sv_I p1), (2, sv_I p2), (3, sv_I r6)] [sv_I r12] S
  have h := h r12 hr12 hpo11
  refine sv_istore hM dX12_join_11 (by decide) rfl ?_
  show sv_T sm_XS sm_cs sm_L sm_sh 1 (q_join p1 p2 S) 208 13 [(0, .ref 0), (1, sv_I p1), (2, sv_I p2), (3, sv_I r6), (4, sv_I r12)] [] S
  refine sv_iload_n hM dX12_join_13 rfl rfl ?_
  refine sv_iload hM dX12_join_14 rfl rfl ?_
  refine sv_anyI hM dX12_join_16 rfl rfl (fun r13 hr13 er13 => ?_)
  have h := h r13 hr13 er13
  refine sv_istore hM dX12_join_17 (by decide) rfl ?_
  show sv_T sm_XS sm_cs sm_L sm_sh 1 (q_join p1 p2 S) 208 19 [(0, .ref 0), (1, sv_I p1), (2, sv_I p2), (3, sv_I r6), (4, sv_I r12), (5, sv_I r13)] [] S
  have k14 : (0 ≤ r6 → r6 < 1024 → 0 ≤ r12 → r12 < 1024 → sm_ior r6 r12 = r13 → sm_J0 r6 r13) := sm_J0_or
  have h := h k14
  have J99 : ∀ l5_15 : Int, sv_R l5_15 → (sm_J0 r6 l5_15) → sv_T sm_XS sm_cs sm_L sm_sh 1 (q_join p1 p2 S) 208 49 [(0, .ref 0), (1, sv_I p1), (2, sv_I p2), (3, sv_I r6), (4, sv_I r12), (5, sv_I l5_15)] [] S := by
    intro l5_15 hl5_15 hin16
    have h := h.1 l5_15 hl5_15 hin16
    have J84 : ∀ l5_17 : Int, sv_R l5_17 → (sm_J0 r6 l5_17) → sv_T sm_XS sm_cs sm_L sm_sh 1 (q_join p1 p2 S) 208 81 [(0, .ref 0), (1, sv_I p1), (2, sv_I p2), (3, sv_I r6), (4, sv_I r12), (5, sv_I l5_17)] [] S := by
      intro l5_17 hl5_17 hin18
      have h := h.1 l5_17 hl5_17 hin18
      have J79 : ∀ l5_19 : Int, sv_R l5_19 → (sm_J1 r6 l5_19) → sv_T sm_XS sm_cs sm_L sm_sh 1 (q_join p1 p2 S) 208 96 [(0, .ref 0), (1, sv_I p1), (2, sv_I p2), (3, sv_I r6), (4, sv_I r12), (5, sv_I l5_19)] [] S := by
        intro l5_19 hl5_19 hin20
        have h := h.1 l5_19 hl5_19 hin20
        have J74 : ∀ l5_21 : Int, sv_R l5_21 → (sm_J2 r6 l5_21) → sv_T sm_XS sm_cs sm_L sm_sh 1 (q_join p1 p2 S) 208 113 [(0, .ref 0), (1, sv_I p1), (2, sv_I p2), (3, sv_I r6), (4, sv_I r12), (5, sv_I l5_21)] [] S := by
          intro l5_21 hl5_21 hin22
          have h := h.1 l5_21 hl5_21 hin22
          have J61 : ∀ s23 : Int, sv_R s23 → (True) → sv_T sm_XS sm_cs sm_L sm_sh 1 (q_join p1 p2 S) 208 145 [(0, .ref 0), (1, sv_I p1), (2, sv_I p2), (3, sv_I r6), (4, sv_I r12), (5, sv_I l5_21)] [sv_I s23] S := by
            intro s23 hs23 hin24
            have h := h.1 s23 hs23 hin24
            refine sv_istore hM dX12_join_145 (by decide) rfl ?_
            show sv_T sm_XS sm_cs sm_L sm_sh 1 (q_join p1 p2 S) 208 147 [(0, .ref 0), (1, sv_I p1), (2, sv_I p2), (3, sv_I r6), (4, sv_I r12), (5, sv_I l5_21), (6, sv_I s23)] [] S
            have J48 : ∀ s25 : Int, sv_R s25 → (True) → sv_T sm_XS sm_cs sm_L sm_sh 1 (q_join p1 p2 S) 208 181 [(0, .ref 0), (1, sv_I p1), (2, sv_I p2), (3, sv_I r6), (4, sv_I r12), (5, sv_I l5_21), (6, sv_I s23)] [sv_I s25] S := by
              intro s25 hs25 hin26
              have h := h.1 s25 hs25 hin26
              refine sv_istore hM dX12_join_181 (by decide) rfl ?_
              show sv_T sm_XS sm_cs sm_L sm_sh 1 (q_join p1 p2 S) 208 183 [(0, .ref 0), (1, sv_I p1), (2, sv_I p2), (3, sv_I r6), (4, sv_I r12), (5, sv_I l5_21), (6, sv_I s23), (7, sv_I s25)] [] S
              refine sv_aload_n hM dX12_join_183 rfl rfl ?_
              refine sv_getA hM dX12_join_184 sm_fl_220 (sm_a0 _) sm_k117 rfl ?_
              refine sv_iload_n hM dX12_join_187 rfl rfl ?_
              have k27 : sv_RL (S 69 p2) := sm_okJ ok9 sm_r69 p2
              have h := h k27
              refine sv_lald hM dX12_join_188 (sm_a69 _) (by decide) o1.1 o1.2 rfl (x := (S 69 p2)) rfl ?_
              refine sv_aload_n hM dX12_join_189 rfl rfl ?_
              refine sv_getA hM dX12_join_190 sm_fl_220 (sm_a0 _) sm_k117 rfl ?_
              refine sv_iload_n hM dX12_join_193 rfl rfl ?_
              have k28 : sv_RL (S 69 p1) := sm_okJ ok9 sm_r69 p1
              have h := h k28
              refine sv_lald hM dX12_join_194 (sm_a69 _) (by decide) o7.1 o7.2 rfl (x := (S 69 p1)) rfl ?_
              refine sv_anyL hM dX12_join_195 rfl rfl (fun r29 hr29 er29 => ?_)
              have h := h r29 hr29 er29
              refine sv_lstore hM dX12_join_196 (by decide) rfl ?_
              show sv_T sm_XS sm_cs sm_L sm_sh 1 (q_join p1 p2 S) 208 198 [(0, .ref 0), (1, sv_I p1), (2, sv_I p2), (3, sv_I r6), (4, sv_I r12), (5, sv_I l5_21), (6, sv_I s23), (7, sv_I s25), (8, sv_L r29)] [] S
              refine sv_aload_n hM dX12_join_198 rfl rfl ?_
              refine sv_getA hM dX12_join_199 sm_fl_223 (sm_a0 _) sm_k118 rfl ?_
              refine sv_iload_n hM dX12_join_202 rfl rfl ?_
              have k30 : sv_RL (S 70 p2) := sm_okJ ok9 sm_r70 p2
              have h := h k30
              refine sv_lald hM dX12_join_203 (sm_a70 _) (by decide) o1.1 o1.2 rfl (x := (S 70 p2)) rfl ?_
              refine sv_aload_n hM dX12_join_204 rfl rfl ?_
              refine sv_getA hM dX12_join_205 sm_fl_223 (sm_a0 _) sm_k118 rfl ?_
              refine sv_iload_n hM dX12_join_208 rfl rfl ?_
              have k31 : sv_RL (S 70 p1) := sm_okJ ok9 sm_r70 p1
              have h := h k31
              refine sv_lald hM dX12_join_209 (sm_a70 _) (by decide) o7.1 o7.2 rfl (x := (S 70 p1)) rfl ?_
              refine sv_anyL hM dX12_join_210 rfl rfl (fun r32 hr32 er32 => ?_)
              have h := h r32 hr32 er32
              refine sv_lstore hM dX12_join_211 (by decide) rfl ?_
              show sv_T sm_XS sm_cs sm_L sm_sh 1 (q_join p1 p2 S) 208 213 [(0, .ref 0), (1, sv_I p1), (2, sv_I p2), (3, sv_I r6), (4, sv_I r12), (5, sv_I l5_21), (6, sv_I s23), (7, sv_I s25), (8, sv_L r29), (10, sv_L r32)] [] S
              have J47 : ∀ s33 : Int, sv_R s33 → ((s33 = 0 ∨ s33 = 1) ∧ (s33 = 1 → ¬ l5_21 = r6 ∨ ¬ r29 = (S 69 p2) ∨ ¬ r32 = (S 70 p2))) → sv_T sm_XS sm_cs sm_L sm_sh 1 (q_join p1 p2 S) 208 248 [(0, .ref 0), (1, sv_I p1), (2, sv_I p2), (3, sv_I r6), (4, sv_I r12), (5, sv_I l5_21), (6, sv_I s23), (7, sv_I s25), (8, sv_L r29), (10, sv_L r32)] [sv_I s33] S := by
                intro s33 hs33 hin34
                have h := h.1 s33 hs33 hin34
                refine sv_istore hM dX12_join_248 (by decide) rfl ?_
                show sv_T sm_XS sm_cs sm_L sm_sh 1 (q_join p1 p2 S) 208 250 [(0, .ref 0), (1, sv_I p1), (2, sv_I p2), (3, sv_I r6), (4, sv_I r12), (5, sv_I l5_21), (6, sv_I s23), (7, sv_I s25), (8, sv_L r29), (10, sv_L r32), (12, sv_I s33)] [] S
                have k35 : (sm_J2 r6 l5_21 → 0 ≤ l5_21 ∧ l5_21 < 1024) := fun j => j.2.1
                have h := h k35
                refine sv_aload_n hM dX12_join_250 rfl rfl ?_
                refine sv_iload_n hM dX12_join_251 rfl rfl ?_
                refine sv_iload hM dX12_join_252 rfl rfl ?_
                refine sv_iload hM dX12_join_254 rfl rfl ?_
                refine sv_iload hM dX12_join_256 rfl rfl ?_
                refine sv_callV hM dX12_join_258 sm_iv_1056 (by decide) (sm_a0 _) rfl rfl (Nat.le_of_ble_eq_true rfl) sm_h205 (Nat.le_of_ble_eq_true rfl) (Nat.le_of_ble_eq_true rfl) (F' := 0) (Nat.le_of_ble_eq_true rfl) rfl (t_write p2 l5_21 s25 s23 S ok9 hp2 hl5_21 hs25 hs23 o1) (fun v S1 hq => ?_)
                obtain ⟨rfl, ok37, md38, hpo39⟩ := hq
                obtain ⟨g36, rfl⟩ : ∃ g, S1 = sv_sts S [68] g := ⟨_, md38.eq⟩
                show sv_T sm_XS sm_cs sm_L sm_sh 1 (q_join p1 p2 S) 208 261 [(0, .ref 0), (1, sv_I p1), (2, sv_I p2), (3, sv_I r6), (4, sv_I r12), (5, sv_I l5_21), (6, sv_I s23), (7, sv_I s25), (8, sv_L r29), (10, sv_L r32), (12, sv_I s33)] [] (sv_sts S [68] g36)
                have md40 : sv_mod [68, 69, 70] S (sv_sts S [68] g36) := sv_mod.sts sv_mod.rf (by decide)
                have h := h g36 hpo39
                have k41 : (sm_J2 r6 l5_21 → (S 68 p2) % 1024 = r6 → (g36 68 p2) % 1024 = l5_21 → sv_RL (S 69 p2) → sv_RL (S 70 p2) → sm_lor (S 69 p2) (S 69 p1) = r29 → sm_lor (S 70 p2) (S 70 p1) = r32 → (s33 = 0 ∨ s33 = 1) → (s33 = 1 → ¬ l5_21 = r6 ∨ ¬ r29 = (S 69 p2) ∨ ¬ r32 = (S 70 p2)) → sm_rs (S 68 p2) (S 69 p2) (S 70 p2) + s33 ≤ sm_rs (g36 68 p2) r29 r32) := sm_rs_join
                have h := h k41
                refine sv_aload_n hM dX12_join_261 rfl rfl ?_
                refine sv_getA hM dX12_join_262 sm_fl_220 (sm_a0 _) sm_k117 rfl ?_
                refine sv_iload_n hM dX12_join_265 rfl rfl ?_
                refine sv_lload hM dX12_join_266 rfl rfl ?_
                refine sv_last sm_X hM dX12_join_268 (sm_a69 _) (by decide) o1.1 o1.2 rfl ?_
                have ok42 : sm_ok (sv_up (sv_sts S [68] g36) 69 p2 r29) := sm_upJ ok37 sm_r69 hr29
                have md43 : sv_mod [68, 69, 70] S (sv_up (sv_sts S [68] g36) 69 p2 r29) := sv_mod.up md40 (by decide)
                refine sv_aload_n hM dX12_join_269 rfl rfl ?_
                refine sv_getA hM dX12_join_270 sm_fl_223 (sm_a0 _) sm_k118 rfl ?_
                refine sv_iload_n hM dX12_join_273 rfl rfl ?_
                refine sv_lload hM dX12_join_274 rfl rfl ?_
                refine sv_last sm_X hM dX12_join_276 (sm_a70 _) (by decide) o1.1 o1.2 rfl ?_
                have ok44 : sm_ok (sv_up (sv_up (sv_sts S [68] g36) 69 p2 r29) 70 p2 r32) := sm_upJ ok42 sm_r70 hr32
                have md45 : sv_mod [68, 69, 70] S (sv_up (sv_up (sv_sts S [68] g36) 69 p2 r29) 70 p2 r32) := sv_mod.up md43 (by decide)
                refine sv_iload hM dX12_join_277 rfl rfl ?_
                obtain ⟨o46, h⟩ := h
                exact sv_iret hM dX12_join_279 rfl (sv_nz o46) ⟨s33, rfl, sv_R01 o46, ok44, md45, h⟩
              have h := h.2
              refine sv_iload hM dX12_join_213 rfl rfl ?_
              refine sv_iload_n hM dX12_join_215 rfl rfl ?_
              refine sv_icmp_ne hM dX12_join_216 hl5_21 hr6 (t := 243) rfl rfl (fun hc => ?_) (fun hc => ?_)
              · have h := h.1 (hc)
                refine sv_iconst (d := (1 : Int)) hM dX12_join_243 rfl rfl ?_
                refine sv_goto hM dX12_join_244 (pc' := 248) rfl ?_
                have hb := J47 (1 : Int) (⟨by decide, by decide⟩ : sv_R (1 : Int)) h
                exact sv_less (lv := [(0, .ref 0), (1, sv_I p1), (2, sv_I p2), (3, sv_I r6), (4, sv_I r12), (5, sv_I l5_21), (6, sv_I s23), (7, sv_I s25), (8, sv_L r29), (10, sv_L r32)]) (sv_Sub_cons rfl (sv_Sub_cons rfl (sv_Sub_cons rfl (sv_Sub_cons rfl (sv_Sub_cons rfl (sv_Sub_cons rfl (sv_Sub_cons rfl (sv_Sub_cons rfl (sv_Sub_cons rfl (sv_Sub_cons rfl sv_Sub_nil)))))))))) hb
              · have h := h.2 (hc)
                refine sv_lload hM dX12_join_219 rfl rfl ?_
                refine sv_aload_n hM dX12_join_221 rfl rfl ?_
                refine sv_getA hM dX12_join_222 sm_fl_220 (sm_a0 _) sm_k117 rfl ?_
                refine sv_iload_n hM dX12_join_225 rfl rfl ?_
                refine sv_lald hM dX12_join_226 (sm_a69 _) (by decide) o1.1 o1.2 rfl (x := (S 69 p2)) rfl ?_
                refine sv_lcmp hM dX12_join_227 hr29 k27 rfl ?_
                refine sv_cond_ne hM dX12_join_228 sv_Rcmp (t := 243) rfl rfl (fun hc => ?_) (fun hc => ?_)
                · have h := h.1 ((sv_cmp_ne).mp hc)
                  refine sv_iconst (d := (1 : Int)) hM dX12_join_243 rfl rfl ?_
                  refine sv_goto hM dX12_join_244 (pc' := 248) rfl ?_
                  have hb := J47 (1 : Int) (⟨by decide, by decide⟩ : sv_R (1 : Int)) h
                  exact sv_less (lv := [(0, .ref 0), (1, sv_I p1), (2, sv_I p2), (3, sv_I r6), (4, sv_I r12), (5, sv_I l5_21), (6, sv_I s23), (7, sv_I s25), (8, sv_L r29), (10, sv_L r32)]) (sv_Sub_cons rfl (sv_Sub_cons rfl (sv_Sub_cons rfl (sv_Sub_cons rfl (sv_Sub_cons rfl (sv_Sub_cons rfl (sv_Sub_cons rfl (sv_Sub_cons rfl (sv_Sub_cons rfl (sv_Sub_cons rfl sv_Sub_nil)))))))))) hb
                · have h := h.2 (fun q => hc ((sv_cmp_ne).mpr q))
                  refine sv_lload hM dX12_join_231 rfl rfl ?_
                  refine sv_aload_n hM dX12_join_233 rfl rfl ?_
                  refine sv_getA hM dX12_join_234 sm_fl_223 (sm_a0 _) sm_k118 rfl ?_
                  refine sv_iload_n hM dX12_join_237 rfl rfl ?_
                  refine sv_lald hM dX12_join_238 (sm_a70 _) (by decide) o1.1 o1.2 rfl (x := (S 70 p2)) rfl ?_
                  refine sv_lcmp hM dX12_join_239 hr32 k30 rfl ?_
                  refine sv_cond_eq hM dX12_join_240 sv_Rcmp (t := 247) rfl rfl (fun hc => ?_) (fun hc => ?_)
                  · have h := h.1 ((sv_cmp_eq).mp hc)
                    refine sv_iconst (d := (0 : Int)) hM dX12_join_247 rfl rfl ?_
                    have hb := J47 (0 : Int) (⟨by decide, by decide⟩ : sv_R (0 : Int)) h
                    exact sv_less (lv := [(0, .ref 0), (1, sv_I p1), (2, sv_I p2), (3, sv_I r6), (4, sv_I r12), (5, sv_I l5_21), (6, sv_I s23), (7, sv_I s25), (8, sv_L r29), (10, sv_L r32)]) (sv_Sub_cons rfl (sv_Sub_cons rfl (sv_Sub_cons rfl (sv_Sub_cons rfl (sv_Sub_cons rfl (sv_Sub_cons rfl (sv_Sub_cons rfl (sv_Sub_cons rfl (sv_Sub_cons rfl (sv_Sub_cons rfl sv_Sub_nil)))))))))) hb
                  · have h := h.2 (fun q => hc ((sv_cmp_eq).mpr q))
                    refine sv_iconst (d := (1 : Int)) hM dX12_join_243 rfl rfl ?_
                    refine sv_goto hM dX12_join_244 (pc' := 248) rfl ?_
                    have hb := J47 (1 : Int) (⟨by decide, by decide⟩ : sv_R (1 : Int)) h
                    exact sv_less (lv := [(0, .ref 0), (1, sv_I p1), (2, sv_I p2), (3, sv_I r6), (4, sv_I r12), (5, sv_I l5_21), (6, sv_I s23), (7, sv_I s25), (8, sv_L r29), (10, sv_L r32)]) (sv_Sub_cons rfl (sv_Sub_cons rfl (sv_Sub_cons rfl (sv_Sub_cons rfl (sv_Sub_cons rfl (sv_Sub_cons rfl (sv_Sub_cons rfl (sv_Sub_cons rfl (sv_Sub_cons rfl (sv_Sub_cons rfl sv_Sub_nil)))))))))) hb
            have h := h.2
            refine sv_iload hM dX12_join_147 rfl rfl ?_
            refine sv_sipush (d := (128 : Int)) hM dX12_join_149 rfl rfl ?_
            refine sv_iand hM dX12_join_152 ⟨by decide, by decide⟩ rfl (fun r49 hr49 => ?_)
            have h := h r49 hr49
            refine sv_cond_ne hM dX12_join_153 (⟨by omega, by omega⟩ : sv_R r49) (t := 160) rfl rfl (fun hc => ?_) (fun hc => ?_)
            · have h := h.1 (hc)
              refine sv_iload_n hM dX12_join_160 rfl rfl ?_
              refine sv_sipush (d := (128 : Int)) hM dX12_join_161 rfl rfl ?_
              refine sv_iand hM dX12_join_164 ⟨by decide, by decide⟩ rfl (fun r50 hr50 => ?_)
              have h := h r50 hr50
              refine sv_cond_eq hM dX12_join_165 (⟨by omega, by omega⟩ : sv_R r50) (t := 176) rfl rfl (fun hc => ?_) (fun hc => ?_)
              · have h := h.1 (hc)
                refine sv_aload_n hM dX12_join_176 rfl rfl ?_
                refine sv_iload_n hM dX12_join_177 rfl rfl ?_
                refine sv_callV hM dX12_join_178 sm_iv_1053 (by decide) (sm_a0 _) rfl rfl (Nat.le_of_ble_eq_true rfl) sm_h203 (Nat.le_of_ble_eq_true rfl) (Nat.le_of_ble_eq_true rfl) (F' := 0) (Nat.le_of_ble_eq_true rfl) rfl (t_name p1 S ok9 hp1 o7) (fun v S1 hq => ?_)
                obtain ⟨r55, rfl, hr55, ok52, md53, hpo54⟩ := hq
                obtain rfl : S = S1 := (funext fun j => md53 j (by intro q; cases q)).symm
                show sv_T sm_XS sm_cs sm_L sm_sh 1 (q_join p1 p2 S) 208 181 [(0, .ref 0), (1, sv_I p1), (2, sv_I p2), (3, sv_I r6), (4, sv_I r12), (5, sv_I l5_21), (6, sv_I s23)] [sv_I r55] S
                have h := h r55 hr55 hpo54
                have hb := J48 r55 hr55 h
                exact sv_less (lv := [(0, .ref 0), (1, sv_I p1), (2, sv_I p2), (3, sv_I r6), (4, sv_I r12), (5, sv_I l5_21), (6, sv_I s23)]) (sv_Sub_cons rfl (sv_Sub_cons rfl (sv_Sub_cons rfl (sv_Sub_cons rfl (sv_Sub_cons rfl (sv_Sub_cons rfl (sv_Sub_cons rfl sv_Sub_nil))))))) hb
              · have h := h.2 (hc)
                refine sv_aload_n hM dX12_join_168 rfl rfl ?_
                refine sv_iload_n hM dX12_join_169 rfl rfl ?_
                refine sv_callV hM dX12_join_170 sm_iv_1053 (by decide) (sm_a0 _) rfl rfl (Nat.le_of_ble_eq_true rfl) sm_h203 (Nat.le_of_ble_eq_true rfl) (Nat.le_of_ble_eq_true rfl) (F' := 0) (Nat.le_of_ble_eq_true rfl) rfl (t_name p2 S ok9 hp2 o1) (fun v S1 hq => ?_)
                obtain ⟨r60, rfl, hr60, ok57, md58, hpo59⟩ := hq
                obtain rfl : S = S1 := (funext fun j => md58 j (by intro q; cases q)).symm
                show sv_T sm_XS sm_cs sm_L sm_sh 1 (q_join p1 p2 S) 208 173 [(0, .ref 0), (1, sv_I p1), (2, sv_I p2), (3, sv_I r6), (4, sv_I r12), (5, sv_I l5_21), (6, sv_I s23)] [sv_I r60] S
                have h := h r60 hr60 hpo59
                refine sv_goto hM dX12_join_173 (pc' := 181) rfl ?_
                have hb := J48 r60 hr60 h
                exact sv_less (lv := [(0, .ref 0), (1, sv_I p1), (2, sv_I p2), (3, sv_I r6), (4, sv_I r12), (5, sv_I l5_21), (6, sv_I s23)]) (sv_Sub_cons rfl (sv_Sub_cons rfl (sv_Sub_cons rfl (sv_Sub_cons rfl (sv_Sub_cons rfl (sv_Sub_cons rfl (sv_Sub_cons rfl sv_Sub_nil))))))) hb
            · have h := h.2 (hc)
              refine sv_iconst (d := (0 : Int)) hM dX12_join_156 rfl rfl ?_
              refine sv_goto hM dX12_join_157 (pc' := 181) rfl ?_
              have hb := J48 (0 : Int) (⟨by decide, by decide⟩ : sv_R (0 : Int)) h
              exact sv_less (lv := [(0, .ref 0), (1, sv_I p1), (2, sv_I p2), (3, sv_I r6), (4, sv_I r12), (5, sv_I l5_21), (6, sv_I s23)]) (sv_Sub_cons rfl (sv_Sub_cons rfl (sv_Sub_cons rfl (sv_Sub_cons rfl (sv_Sub_cons rfl (sv_Sub_cons rfl (sv_Sub_cons rfl sv_Sub_nil))))))) hb
          have h := h.2
          refine sv_iload hM dX12_join_113 rfl rfl ?_
          refine sv_bipush (d := (32 : Int)) hM dX12_join_115 rfl rfl ?_
          refine sv_iand hM dX12_join_117 ⟨by decide, by decide⟩ rfl (fun r62 hr62 => ?_)
          have h := h r62 hr62
          refine sv_cond_ne hM dX12_join_118 (⟨by omega, by omega⟩ : sv_R r62) (t := 125) rfl rfl (fun hc => ?_) (fun hc => ?_)
          · have h := h.1 (hc)
            refine sv_iload_n hM dX12_join_125 rfl rfl ?_
            refine sv_bipush (d := (32 : Int)) hM dX12_join_126 rfl rfl ?_
            refine sv_iand hM dX12_join_128 ⟨by decide, by decide⟩ rfl (fun r63 hr63 => ?_)
            have h := h r63 hr63
            refine sv_cond_eq hM dX12_join_129 (⟨by omega, by omega⟩ : sv_R r63) (t := 140) rfl rfl (fun hc => ?_) (fun hc => ?_)
            · have h := h.1 (hc)
              refine sv_aload_n hM dX12_join_140 rfl rfl ?_
              refine sv_iload_n hM dX12_join_141 rfl rfl ?_
              refine sv_callV hM dX12_join_142 sm_iv_1050 (by decide) (sm_a0 _) rfl rfl (Nat.le_of_ble_eq_true rfl) sm_h204 (Nat.le_of_ble_eq_true rfl) (Nat.le_of_ble_eq_true rfl) (F' := 0) (Nat.le_of_ble_eq_true rfl) rfl (t_number p1 S ok9 hp1 o7) (fun v S1 hq => ?_)
              obtain ⟨r68, rfl, hr68, ok65, md66, hpo67⟩ := hq
              obtain rfl : S = S1 := (funext fun j => md66 j (by intro q; cases q)).symm
              show sv_T sm_XS sm_cs sm_L sm_sh 1 (q_join p1 p2 S) 208 145 [(0, .ref 0), (1, sv_I p1), (2, sv_I p2), (3, sv_I r6), (4, sv_I r12), (5, sv_I l5_21)] [sv_I r68] S
              have h := h r68 hr68 hpo67
              have hb := J61 r68 hr68 h
              exact sv_less (lv := [(0, .ref 0), (1, sv_I p1), (2, sv_I p2), (3, sv_I r6), (4, sv_I r12), (5, sv_I l5_21)]) (sv_Sub_cons rfl (sv_Sub_cons rfl (sv_Sub_cons rfl (sv_Sub_cons rfl (sv_Sub_cons rfl (sv_Sub_cons rfl sv_Sub_nil)))))) hb
            · have h := h.2 (hc)
              refine sv_aload_n hM dX12_join_132 rfl rfl ?_
              refine sv_iload_n hM dX12_join_133 rfl rfl ?_
              refine sv_callV hM dX12_join_134 sm_iv_1050 (by decide) (sm_a0 _) rfl rfl (Nat.le_of_ble_eq_true rfl) sm_h204 (Nat.le_of_ble_eq_true rfl) (Nat.le_of_ble_eq_true rfl) (F' := 0) (Nat.le_of_ble_eq_true rfl) rfl (t_number p2 S ok9 hp2 o1) (fun v S1 hq => ?_)
              obtain ⟨r73, rfl, hr73, ok70, md71, hpo72⟩ := hq
              obtain rfl : S = S1 := (funext fun j => md71 j (by intro q; cases q)).symm
              show sv_T sm_XS sm_cs sm_L sm_sh 1 (q_join p1 p2 S) 208 137 [(0, .ref 0), (1, sv_I p1), (2, sv_I p2), (3, sv_I r6), (4, sv_I r12), (5, sv_I l5_21)] [sv_I r73] S
              have h := h r73 hr73 hpo72
              refine sv_goto hM dX12_join_137 (pc' := 145) rfl ?_
              have hb := J61 r73 hr73 h
              exact sv_less (lv := [(0, .ref 0), (1, sv_I p1), (2, sv_I p2), (3, sv_I r6), (4, sv_I r12), (5, sv_I l5_21)]) (sv_Sub_cons rfl (sv_Sub_cons rfl (sv_Sub_cons rfl (sv_Sub_cons rfl (sv_Sub_cons rfl (sv_Sub_cons rfl sv_Sub_nil)))))) hb
          · have h := h.2 (hc)
            refine sv_iconst (d := (0 : Int)) hM dX12_join_121 rfl rfl ?_
            refine sv_goto hM dX12_join_122 (pc' := 145) rfl ?_
            have hb := J61 (0 : Int) (⟨by decide, by decide⟩ : sv_R (0 : Int)) h
            exact sv_less (lv := [(0, .ref 0), (1, sv_I p1), (2, sv_I p2), (3, sv_I r6), (4, sv_I r12), (5, sv_I l5_21)]) (sv_Sub_cons rfl (sv_Sub_cons rfl (sv_Sub_cons rfl (sv_Sub_cons rfl (sv_Sub_cons rfl (sv_Sub_cons rfl sv_Sub_nil)))))) hb
        have h := h.2
        refine sv_iload hM dX12_join_96 rfl rfl ?_
        refine sv_sipush (d := (256 : Int)) hM dX12_join_98 rfl rfl ?_
        refine sv_anyI hM dX12_join_101 rfl rfl (fun r75 hr75 er75 => ?_)
        have h := h r75 hr75 er75
        have k76 : (sm_iand l5_19 256 = r75 → r75 = 0 → sm_J1 r6 l5_19 → sm_J2 r6 l5_19) := sm_J2_no
        have h := h k76
        refine sv_cond_eq hM dX12_join_102 hr75 (t := 113) rfl rfl (fun hc => ?_) (fun hc => ?_)
        · have h := h.1 (hc)
          have hb := J74 l5_19 hl5_19 h
          exact sv_less (lv := [(0, .ref 0), (1, sv_I p1), (2, sv_I p2), (3, sv_I r6), (4, sv_I r12), (5, sv_I l5_19)]) (sv_Sub_cons rfl (sv_Sub_cons rfl (sv_Sub_cons rfl (sv_Sub_cons rfl (sv_Sub_cons rfl (sv_Sub_cons rfl sv_Sub_nil)))))) hb
        · have h := h.2 (hc)
          refine sv_iload hM dX12_join_105 rfl rfl ?_
          refine sv_sipush (d := (-129 : Int)) hM dX12_join_107 rfl rfl ?_
          refine sv_anyI hM dX12_join_110 rfl rfl (fun r77 hr77 er77 => ?_)
          have h := h r77 hr77 er77
          have k78 : (¬ sm_iand l5_19 256 = 0 → sm_J1 r6 l5_19 → sm_iand l5_19 (-129) = r77 → sm_J2 r6 r77) := fun a b c => sm_J2_yes rfl a b c
          have h := h k78
          refine sv_istore hM dX12_join_111 (by decide) rfl ?_
          show sv_T sm_XS sm_cs sm_L sm_sh 1 (q_join p1 p2 S) 208 113 [(0, .ref 0), (1, sv_I p1), (2, sv_I p2), (3, sv_I r6), (4, sv_I r12), (5, sv_I r77)] [] S
          have hb := J74 r77 hr77 h
          exact sv_less (lv := [(0, .ref 0), (1, sv_I p1), (2, sv_I p2), (3, sv_I r6), (4, sv_I r12), (5, sv_I r77)]) (sv_Sub_cons rfl (sv_Sub_cons rfl (sv_Sub_cons rfl (sv_Sub_cons rfl (sv_Sub_cons rfl (sv_Sub_cons rfl sv_Sub_nil)))))) hb
      have h := h.2
      refine sv_iload hM dX12_join_81 rfl rfl ?_
      refine sv_bipush (d := (64 : Int)) hM dX12_join_83 rfl rfl ?_
      refine sv_anyI hM dX12_join_85 rfl rfl (fun r80 hr80 er80 => ?_)
      have h := h r80 hr80 er80
      have k81 : (sm_iand l5_17 64 = r80 → r80 = 0 → sm_J0 r6 l5_17 → sm_J1 r6 l5_17) := sm_J1_no
      have h := h k81
      refine sv_cond_eq hM dX12_join_86 hr80 (t := 96) rfl rfl (fun hc => ?_) (fun hc => ?_)
      · have h := h.1 (hc)
        have hb := J79 l5_17 hl5_17 h
        exact sv_less (lv := [(0, .ref 0), (1, sv_I p1), (2, sv_I p2), (3, sv_I r6), (4, sv_I r12), (5, sv_I l5_17)]) (sv_Sub_cons rfl (sv_Sub_cons rfl (sv_Sub_cons rfl (sv_Sub_cons rfl (sv_Sub_cons rfl (sv_Sub_cons rfl sv_Sub_nil)))))) hb
      · have h := h.2 (hc)
        refine sv_iload hM dX12_join_89 rfl rfl ?_
        refine sv_bipush (d := (-33 : Int)) hM dX12_join_91 rfl rfl ?_
        refine sv_anyI hM dX12_join_93 rfl rfl (fun r82 hr82 er82 => ?_)
        have h := h r82 hr82 er82
        have k83 : (¬ sm_iand l5_17 64 = 0 → sm_J0 r6 l5_17 → sm_iand l5_17 (-33) = r82 → sm_J1 r6 r82) := fun a b c => sm_J1_yes rfl a b c
        have h := h k83
        refine sv_istore hM dX12_join_94 (by decide) rfl ?_
        show sv_T sm_XS sm_cs sm_L sm_sh 1 (q_join p1 p2 S) 208 96 [(0, .ref 0), (1, sv_I p1), (2, sv_I p2), (3, sv_I r6), (4, sv_I r12), (5, sv_I r82)] [] S
        have hb := J79 r82 hr82 h
        exact sv_less (lv := [(0, .ref 0), (1, sv_I p1), (2, sv_I p2), (3, sv_I r6), (4, sv_I r12), (5, sv_I r82)]) (sv_Sub_cons rfl (sv_Sub_cons rfl (sv_Sub_cons rfl (sv_Sub_cons rfl (sv_Sub_cons rfl (sv_Sub_cons rfl sv_Sub_nil)))))) hb
    have h := h.2
    refine sv_iload_n hM dX12_join_49 rfl rfl ?_
    refine sv_iload hM dX12_join_50 rfl rfl ?_
    refine sv_anyI hM dX12_join_52 rfl rfl (fun r85 hr85 _ => ?_)
    have h := h r85 hr85
    refine sv_sipush (d := (128 : Int)) hM dX12_join_53 rfl rfl ?_
    refine sv_iand hM dX12_join_56 ⟨by decide, by decide⟩ rfl (fun r86 hr86 => ?_)
    have h := h r86 hr86
    refine sv_cond_eq hM dX12_join_57 (⟨by omega, by omega⟩ : sv_R r86) (t := 81) rfl rfl (fun hc => ?_) (fun hc => ?_)
    · have h := h.1 (hc)
      have hb := J84 l5_15 hl5_15 h
      exact sv_less (lv := [(0, .ref 0), (1, sv_I p1), (2, sv_I p2), (3, sv_I r6), (4, sv_I r12), (5, sv_I l5_15)]) (sv_Sub_cons rfl (sv_Sub_cons rfl (sv_Sub_cons rfl (sv_Sub_cons rfl (sv_Sub_cons rfl (sv_Sub_cons rfl sv_Sub_nil)))))) hb
    · have h := h.2 (hc)
      refine sv_aload_n hM dX12_join_60 rfl rfl ?_
      refine sv_iload_n hM dX12_join_61 rfl rfl ?_
      refine sv_callV hM dX12_join_62 sm_iv_1053 (by decide) (sm_a0 _) rfl rfl (Nat.le_of_ble_eq_true rfl) sm_h203 (Nat.le_of_ble_eq_true rfl) (Nat.le_of_ble_eq_true rfl) (F' := 0) (Nat.le_of_ble_eq_true rfl) rfl (t_name p2 S ok9 hp2 o1) (fun v S1 hq => ?_)
      obtain ⟨r91, rfl, hr91, ok88, md89, hpo90⟩ := hq
      obtain rfl : S = S1 := (funext fun j => md89 j (by intro q; cases q)).symm
      show sv_T sm_XS sm_cs sm_L sm_sh 1 (q_join p1 p2 S) 208 65 [(0, .ref 0), (1, sv_I p1), (2, sv_I p2), (3, sv_I r6), (4, sv_I r12), (5, sv_I l5_15)] [sv_I r91] S
      have h := h r91 hr91 hpo90
      refine sv_aload_n hM dX12_join_65 rfl rfl ?_
      refine sv_iload_n hM dX12_join_66 rfl rfl ?_
      refine sv_callV hM dX12_join_67 sm_iv_1053 (by decide) (sm_a0 _) rfl rfl (Nat.le_of_ble_eq_true rfl) sm_h203 (Nat.le_of_ble_eq_true rfl) (Nat.le_of_ble_eq_true rfl) (F' := 0) (Nat.le_of_ble_eq_true rfl) rfl (t_name p1 S ok88 hp1 o7) (fun v S1 hq => ?_)
      obtain ⟨r96, rfl, hr96, ok93, md94, hpo95⟩ := hq
      obtain rfl : S = S1 := (funext fun j => md94 j (by intro q; cases q)).symm
      show sv_T sm_XS sm_cs sm_L sm_sh 1 (q_join p1 p2 S) 208 70 [(0, .ref 0), (1, sv_I p1), (2, sv_I p2), (3, sv_I r6), (4, sv_I r12), (5, sv_I l5_15)] [sv_I r96, sv_I r91] S
      have h := h r96 hr96 hpo95
      refine sv_icmp_eq hM dX12_join_70 hr91 hr96 (t := 81) rfl rfl (fun hc => ?_) (fun hc => ?_)
      · have h := h.1 (hc)
        have hb := J84 l5_15 hl5_15 h
        exact sv_less (lv := [(0, .ref 0), (1, sv_I p1), (2, sv_I p2), (3, sv_I r6), (4, sv_I r12), (5, sv_I l5_15)]) (sv_Sub_cons rfl (sv_Sub_cons rfl (sv_Sub_cons rfl (sv_Sub_cons rfl (sv_Sub_cons rfl (sv_Sub_cons rfl sv_Sub_nil)))))) hb
      · have h := h.2 (hc)
        refine sv_iload hM dX12_join_73 rfl rfl ?_
        refine sv_sipush (d := (256 : Int)) hM dX12_join_75 rfl rfl ?_
        refine sv_anyI hM dX12_join_78 rfl rfl (fun r97 hr97 er97 => ?_)
        have h := h r97 hr97 er97
        have k98 : (sm_J0 r6 l5_15 → sm_ior l5_15 256 = r97 → sm_J0 r6 r97) := fun a b => sm_J0_up a (by decide) (by decide) b
        have h := h k98
        refine sv_istore hM dX12_join_79 (by decide) rfl ?_
        show sv_T sm_XS sm_cs sm_L sm_sh 1 (q_join p1 p2 S) 208 81 [(0, .ref 0), (1, sv_I p1), (2, sv_I p2), (3, sv_I r6), (4, sv_I r12), (5, sv_I r97)] [] S
        have hb := J84 r97 hr97 h
        exact sv_less (lv := [(0, .ref 0), (1, sv_I p1), (2, sv_I p2), (3, sv_I r6), (4, sv_I r12), (5, sv_I r97)]) (sv_Sub_cons rfl (sv_Sub_cons rfl (sv_Sub_cons rfl (sv_Sub_cons rfl (sv_Sub_cons rfl (sv_Sub_cons rfl sv_Sub_nil)))))) hb
  have h := h.2
  have k100 : (0 ≤ r6 → r6 < 1024 → 0 ≤ r12 → r12 < 1024 → sm_ior r6 r12 = r13 → sm_J0 r6 r13) := sm_J0_or
  have h := h k100
  refine sv_iload_n hM dX12_join_19 rfl rfl ?_
  refine sv_iload hM dX12_join_20 rfl rfl ?_
  refine sv_anyI hM dX12_join_22 rfl rfl (fun r101 hr101 _ => ?_)
  have h := h r101 hr101
  refine sv_bipush (d := (32 : Int)) hM dX12_join_23 rfl rfl ?_
  refine sv_iand hM dX12_join_25 ⟨by decide, by decide⟩ rfl (fun r102 hr102 => ?_)
  have h := h r102 hr102
  refine sv_cond_eq hM dX12_join_26 (⟨by omega, by omega⟩ : sv_R r102) (t := 49) rfl rfl (fun hc => ?_) (fun hc => ?_)
  · have h := h.1 (hc)
    have hb := J99 r13 hr13 h
    exact sv_less (lv := [(0, .ref 0), (1, sv_I p1), (2, sv_I p2), (3, sv_I r6), (4, sv_I r12), (5, sv_I r13)]) (sv_Sub_cons rfl (sv_Sub_cons rfl (sv_Sub_cons rfl (sv_Sub_cons rfl (sv_Sub_cons rfl (sv_Sub_cons rfl sv_Sub_nil)))))) hb
  · have h := h.2 (hc)
    refine sv_aload_n hM dX12_join_29 rfl rfl ?_
    refine sv_iload_n hM dX12_join_30 rfl rfl ?_
    refine sv_callV hM dX12_join_31 sm_iv_1050 (by decide) (sm_a0 _) rfl rfl (Nat.le_of_ble_eq_true rfl) sm_h204 (Nat.le_of_ble_eq_true rfl) (Nat.le_of_ble_eq_true rfl) (F' := 0) (Nat.le_of_ble_eq_true rfl) rfl (t_number p2 S ok9 hp2 o1) (fun v S1 hq => ?_)
    obtain ⟨r107, rfl, hr107, ok104, md105, hpo106⟩ := hq
    obtain rfl : S = S1 := (funext fun j => md105 j (by intro q; cases q)).symm
    show sv_T sm_XS sm_cs sm_L sm_sh 1 (q_join p1 p2 S) 208 34 [(0, .ref 0), (1, sv_I p1), (2, sv_I p2), (3, sv_I r6), (4, sv_I r12), (5, sv_I r13)] [sv_I r107] S
    have h := h r107 hr107 hpo106
    refine sv_aload_n hM dX12_join_34 rfl rfl ?_
    refine sv_iload_n hM dX12_join_35 rfl rfl ?_
    refine sv_callV hM dX12_join_36 sm_iv_1050 (by decide) (sm_a0 _) rfl rfl (Nat.le_of_ble_eq_true rfl) sm_h204 (Nat.le_of_ble_eq_true rfl) (Nat.le_of_ble_eq_true rfl) (F' := 0) (Nat.le_of_ble_eq_true rfl) rfl (t_number p1 S ok104 hp1 o7) (fun v S1 hq => ?_)
    obtain ⟨r112, rfl, hr112, ok109, md110, hpo111⟩ := hq
    obtain rfl : S = S1 := (funext fun j => md110 j (by intro q; cases q)).symm
    show sv_T sm_XS sm_cs sm_L sm_sh 1 (q_join p1 p2 S) 208 39 [(0, .ref 0), (1, sv_I p1), (2, sv_I p2), (3, sv_I r6), (4, sv_I r12), (5, sv_I r13)] [sv_I r112, sv_I r107] S
    have h := h r112 hr112 hpo111
    refine sv_icmp_eq hM dX12_join_39 hr107 hr112 (t := 49) rfl rfl (fun hc => ?_) (fun hc => ?_)
    · have h := h.1 (hc)
      have hb := J99 r13 hr13 h
      exact sv_less (lv := [(0, .ref 0), (1, sv_I p1), (2, sv_I p2), (3, sv_I r6), (4, sv_I r12), (5, sv_I r13)]) (sv_Sub_cons rfl (sv_Sub_cons rfl (sv_Sub_cons rfl (sv_Sub_cons rfl (sv_Sub_cons rfl (sv_Sub_cons rfl sv_Sub_nil)))))) hb
    · have h := h.2 (hc)
      refine sv_iload hM dX12_join_42 rfl rfl ?_
      refine sv_bipush (d := (64 : Int)) hM dX12_join_44 rfl rfl ?_
      refine sv_anyI hM dX12_join_46 rfl rfl (fun r113 hr113 er113 => ?_)
      have h := h r113 hr113 er113
      have k114 : (sm_J0 r6 r13 → sm_ior r13 64 = r113 → sm_J0 r6 r113) := fun a b => sm_J0_up a (by decide) (by decide) b
      have h := h k114
      refine sv_istore hM dX12_join_47 (by decide) rfl ?_
      show sv_T sm_XS sm_cs sm_L sm_sh 1 (q_join p1 p2 S) 208 49 [(0, .ref 0), (1, sv_I p1), (2, sv_I p2), (3, sv_I r6), (4, sv_I r12), (5, sv_I r113)] [] S
      have hb := J99 r113 hr113 h
      exact sv_less (lv := [(0, .ref 0), (1, sv_I p1), (2, sv_I p2), (3, sv_I r6), (4, sv_I r12), (5, sv_I r113)]) (sv_Sub_cons rfl (sv_Sub_cons rfl (sv_Sub_cons rfl (sv_Sub_cons rfl (sv_Sub_cons rfl (sv_Sub_cons rfl sv_Sub_nil)))))) hb
def q_hasLabels (p1 : Int) (S : sv_S) : Option Value → sv_S → Prop := fun v S' => ∃ r : Int, v = some (sv_I r) ∧ sv_R r ∧ sm_ok S' ∧ sv_mod [] S S' ∧ (r = 0 ∨ r = 1)
theorem la_hasLabels_0 {x0 : Int} (h0 : 0 ≤ x0) (h1 : x0 < 647800) : 0 ≤ x0 ∧ x0 < 647800 := by omega
theorem la_hasLabels_1 {x0 : Int} : x0 = 0 → (0 : Int) = 0 ∨ (0 : Int) = 1 := by omega
theorem la_hasLabels_2 : (1 : Int) = 0 ∨ (1 : Int) = 1 := by omega
set_option maxHeartbeats 2000000 in
theorem f_hasLabels : ∀ (p1 : Int) (S : sv_S), sm_ok S → sv_R p1 → (0 ≤ p1 ∧ p1 < 647800) → (0 ≤ p1 ∧ p1 < 647800) ∧ (sv_RL (S 69 p1) → (sv_RL (S 70 p1) → (∀ r4 : Int, sv_RL r4 → (((r4 = (0 : Int)) → ((0 : Int) = 0 ∨ (0 : Int) = 1)) ∧ ((¬ (r4 = (0 : Int))) → ((1 : Int) = 0 ∨ (1 : Int) = 1)))))) := by
  intro p1
  intro S
  intro h1_
  intro h2_
  rintro ⟨h3_, h4_⟩
  refine ⟨(la_hasLabels_0 h3_ h4_), ?_⟩
  intro h5_
  intro h6_
  intro r4
  intro h7_
  refine ⟨la_hasLabels_1, ?_⟩
  intro h8_
  exact la_hasLabels_2
set_option maxRecDepth 8000 in
set_option maxHeartbeats 2000000 in
theorem t_hasLabels : ∀ (p1 : Int) (S : sv_S), sm_ok S → sv_R p1 → (0 ≤ p1 ∧ p1 < 647800) → sv_T sm_XS sm_cs sm_L sm_sh 0 (q_hasLabels p1 S) 209 0 (lv_args 0 [.ref 0, sv_I p1]) [] S := by
  intro p1 S hok hp1 hpre
  have h := f_hasLabels p1 S hok hp1 hpre
  have hM := sm_h209
  show sv_T sm_XS sm_cs sm_L sm_sh 0 (q_hasLabels p1 S) 209 0 [(0, .ref 0), (1, sv_I p1)] [] S
  refine sv_aload_n hM dX12_hasLabels_0 rfl rfl ?_
  refine sv_getA hM dX12_hasLabels_1 sm_fl_220 (sm_a0 _) sm_k117 rfl ?_
  refine sv_iload_n hM dX12_hasLabels_4 rfl rfl ?_
  obtain ⟨o1, h⟩ := h
  have k2 : sv_RL (S 69 p1) := sm_okJ hok sm_r69 p1
  have h := h k2
  refine sv_lald hM dX12_hasLabels_5 (sm_a69 _) (by decide) o1.1 o1.2 rfl (x := (S 69 p1)) rfl ?_
  refine sv_aload_n hM dX12_hasLabels_6 rfl rfl ?_
  refine sv_getA hM dX12_hasLabels_7 sm_fl_223 (sm_a0 _) sm_k118 rfl ?_
  refine sv_iload_n hM dX12_hasLabels_10 rfl rfl ?_
  have k3 : sv_RL (S 70 p1) := sm_okJ hok sm_r70 p1
  have h := h k3
  refine sv_lald hM dX12_hasLabels_11 (sm_a70 _) (by decide) o1.1 o1.2 rfl (x := (S 70 p1)) rfl ?_
  refine sv_anyL hM dX12_hasLabels_12 rfl rfl (fun r4 hr4 _ => ?_)
  have h := h r4 hr4
  refine sv_lconst (d := (0 : Int)) hM dX12_hasLabels_13 rfl rfl ?_
  refine sv_lcmp hM dX12_hasLabels_14 hr4 (⟨by decide, by decide⟩ : sv_RL (0 : Int)) rfl ?_
  refine sv_cond_eq hM dX12_hasLabels_15 sv_Rcmp (t := 22) rfl rfl (fun hc => ?_) (fun hc => ?_)
  · have h := h.1 ((sv_cmp_eq).mp hc)
    refine sv_iconst (d := (0 : Int)) hM dX12_hasLabels_22 rfl rfl ?_
    exact sv_iret hM dX12_hasLabels_23 rfl (sv_nz (⟨by decide, by decide⟩ : 0 ≤ (0 : Int) ∧ (0 : Int) ≤ 1)) ⟨(0 : Int), rfl, sv_R01 (⟨by decide, by decide⟩ : 0 ≤ (0 : Int) ∧ (0 : Int) ≤ 1), hok, sv_mod.rf, h⟩
  · have h := h.2 (fun q => hc ((sv_cmp_eq).mpr q))
    refine sv_iconst (d := (1 : Int)) hM dX12_hasLabels_18 rfl rfl ?_
    refine sv_goto hM dX12_hasLabels_19 (pc' := 23) rfl ?_
    exact sv_iret hM dX12_hasLabels_23 rfl (sv_nz (⟨by decide, by decide⟩ : 0 ≤ (1 : Int) ∧ (1 : Int) ≤ 1)) ⟨(1 : Int), rfl, sv_R01 (⟨by decide, by decide⟩ : 0 ≤ (1 : Int) ∧ (1 : Int) ≤ 1), hok, sv_mod.rf, h⟩
def q_plainly (p1 : Int) (S : sv_S) : Option Value → sv_S → Prop := fun v S' => ∃ r : Int, v = some (sv_I r) ∧ sv_R r ∧ sm_ok S' ∧ sv_mod [] S S' ∧ (sm_iand ((S' 68 p1) % 1024) (-513) = r)
theorem la_plainly_0 {x0 : Int} (h0 : 0 ≤ x0) (h1 : x0 < 647800) : 0 ≤ x0 ∧ x0 < 647800 := by omega
theorem la_plainly_1 {x0 x1 x2 : Int} (h0 : x0 = x1) (h1 : x0 = x2) : x1 = x2 := by omega
set_option maxHeartbeats 2000000 in
theorem f_plainly : ∀ (p1 : Int) (S : sv_S), sm_ok S → sv_R p1 → (0 ≤ p1 ∧ p1 < 647800) → (0 ≤ p1 ∧ p1 < 647800) ∧ (∀ r6 : Int, sv_R r6 → (r6 = (S 68 p1) % 1024 ∧ 0 ≤ r6 ∧ r6 ≤ 1023) → ((r6 = (S 68 p1) % 1024 → sm_iand r6 (-513) = sm_iand ((S 68 p1) % 1024) (-513)) → (∀ r8 : Int, sv_R r8 → sm_iand r6 (-513 : Int) = r8 → (sm_iand ((S 68 p1) % 1024) (-513) = r8)))) := by
  intro p1
  intro S
  intro h1_
  intro h2_
  rintro ⟨h3_, h4_⟩
  refine ⟨(la_plainly_0 h3_ h4_), ?_⟩
  intro r6
  intro h5_
  rintro ⟨h6_, ⟨h7_, h8_⟩⟩
  intro h9_
  have h10_ := (h9_ h6_)
  intro r8
  intro h11_
  intro h12_
  exact (la_plainly_1 h10_ h12_)
set_option maxRecDepth 8000 in
set_option maxHeartbeats 2000000 in
theorem t_plainly : ∀ (p1 : Int) (S : sv_S), sm_ok S → sv_R p1 → (0 ≤ p1 ∧ p1 < 647800) → sv_T sm_XS sm_cs sm_L sm_sh 1 (q_plainly p1 S) 210 0 (lv_args 0 [.ref 0, sv_I p1]) [] S := by
  intro p1 S hok hp1 hpre
  have h := f_plainly p1 S hok hp1 hpre
  have hM := sm_h210
  show sv_T sm_XS sm_cs sm_L sm_sh 1 (q_plainly p1 S) 210 0 [(0, .ref 0), (1, sv_I p1)] [] S
  refine sv_aload_n hM dX12_plainly_0 rfl rfl ?_
  refine sv_iload_n hM dX12_plainly_1 rfl rfl ?_
  obtain ⟨o1, h⟩ := h
  refine sv_callV hM dX12_plainly_2 sm_iv_1047 (by decide) (sm_a0 _) rfl rfl (Nat.le_of_ble_eq_true rfl) sm_h202 (Nat.le_of_ble_eq_true rfl) (Nat.le_of_ble_eq_true rfl) (F' := 0) (Nat.le_of_ble_eq_true rfl) rfl (t_has p1 S hok hp1 o1) (fun v S1 hq => ?_)
  obtain ⟨r6, rfl, hr6, ok3, md4, hpo5⟩ := hq
  obtain rfl : S = S1 := (funext fun j => md4 j (by intro q; cases q)).symm
  show sv_T sm_XS sm_cs sm_L sm_sh 1 (q_plainly p1 S) 210 5 [(0, .ref 0), (1, sv_I p1)] [sv_I r6] S
  have h := h r6 hr6 hpo5
  have k7 : (r6 = (S 68 p1) % 1024 → sm_iand r6 (-513) = sm_iand ((S 68 p1) % 1024) (-513)) := fun h => congrArg (fun z : Int => sm_iand z (-513)) h
  have h := h k7
  refine sv_sipush (d := (-513 : Int)) hM dX12_plainly_5 rfl rfl ?_
  refine sv_anyI hM dX12_plainly_8 rfl rfl (fun r8 hr8 er8 => ?_)
  have h := h r8 hr8 er8
  exact sv_iret hM dX12_plainly_9 rfl rfl ⟨r8, rfl, hr8, ok3, sv_mod.rf, h⟩
def q_isEmpty (p1 : Int) (S : sv_S) : Option Value → sv_S → Prop := fun v S' => ∃ r : Int, v = some (sv_I r) ∧ sv_R r ∧ sm_ok S' ∧ sv_mod [] S S' ∧ (r = 0 ∨ r = 1)
theorem la_isEmpty_0 {x0 : Int} (h0 : 0 ≤ x0) (h1 : x0 < 647800) : 0 ≤ x0 ∧ x0 < 647800 := by omega
theorem la_isEmpty_1 {x0 : Int} : ¬ x0 = 0 → (0 : Int) = 0 ∨ (0 : Int) = 1 := by omega
theorem la_isEmpty_2 {x0 : Int} (h0 : ¬ ¬ x0 = 0) : ¬ x0 = 1 := by omega
theorem la_isEmpty_3 : (1 : Int) = 0 ∨ (1 : Int) = 1 := by omega
set_option maxHeartbeats 2000000 in
theorem f_isEmpty : ∀ (p1 : Int) (S : sv_S), sm_ok S → sv_R p1 → (0 ≤ p1 ∧ p1 < 647800) → (0 ≤ p1 ∧ p1 < 647800) ∧ (∀ r6 : Int, sv_R r6 → (sm_iand ((S 68 p1) % 1024) (-513) = r6) → (((¬ r6 = (0 : Int)) → ((0 : Int) = 0 ∨ (0 : Int) = 1)) ∧ ((¬ (¬ r6 = (0 : Int))) → (∀ r11 : Int, sv_R r11 → (r11 = 0 ∨ r11 = 1) → (((¬ r11 = (0 : Int)) → ((0 : Int) = 0 ∨ (0 : Int) = 1)) ∧ ((¬ (¬ r11 = (0 : Int))) → ((1 : Int) = 0 ∨ (1 : Int) = 1))))))) := by
  intro p1
  intro S
  intro h1_
  intro h2_
  rintro ⟨h3_, h4_⟩
  refine ⟨(la_isEmpty_0 h3_ h4_), ?_⟩
  intro r6
  intro h5_
  intro h6_
  refine ⟨la_isEmpty_1, ?_⟩
  intro h7_
  intro r11
  intro h8_
  intro h9_
  refine ⟨la_isEmpty_1, ?_⟩
  intro h10_
  have h11_ := (h9_.resolve_right (la_isEmpty_2 h10_))
  exact la_isEmpty_3
set_option maxRecDepth 8000 in
set_option maxHeartbeats 2000000 in
theorem t_isEmpty : ∀ (p1 : Int) (S : sv_S), sm_ok S → sv_R p1 → (0 ≤ p1 ∧ p1 < 647800) → sv_T sm_XS sm_cs sm_L sm_sh 2 (q_isEmpty p1 S) 211 0 (lv_args 0 [.ref 0, sv_I p1]) [] S := by
  intro p1 S hok hp1 hpre
  have h := f_isEmpty p1 S hok hp1 hpre
  have hM := sm_h211
  show sv_T sm_XS sm_cs sm_L sm_sh 2 (q_isEmpty p1 S) 211 0 [(0, .ref 0), (1, sv_I p1)] [] S
  refine sv_aload_n hM dX12_isEmpty_0 rfl rfl ?_
  refine sv_iload_n hM dX12_isEmpty_1 rfl rfl ?_
  obtain ⟨o1, h⟩ := h
  refine sv_callV hM dX12_isEmpty_2 sm_iv_1059 (by decide) (sm_a0 _) rfl rfl (Nat.le_of_ble_eq_true rfl) sm_h210 (Nat.le_of_ble_eq_true rfl) (Nat.le_of_ble_eq_true rfl) (F' := 1) (Nat.le_of_ble_eq_true rfl) rfl (t_plainly p1 S hok hp1 o1) (fun v S1 hq => ?_)
  obtain ⟨r6, rfl, hr6, ok3, md4, hpo5⟩ := hq
  obtain rfl : S = S1 := (funext fun j => md4 j (by intro q; cases q)).symm
  show sv_T sm_XS sm_cs sm_L sm_sh 2 (q_isEmpty p1 S) 211 5 [(0, .ref 0), (1, sv_I p1)] [sv_I r6] S
  have h := h r6 hr6 hpo5
  refine sv_cond_ne hM dX12_isEmpty_5 hr6 (t := 20) rfl rfl (fun hc => ?_) (fun hc => ?_)
  · have h := h.1 (hc)
    refine sv_iconst (d := (0 : Int)) hM dX12_isEmpty_20 rfl rfl ?_
    exact sv_iret hM dX12_isEmpty_21 rfl (sv_nz (⟨by decide, by decide⟩ : 0 ≤ (0 : Int) ∧ (0 : Int) ≤ 1)) ⟨(0 : Int), rfl, sv_R01 (⟨by decide, by decide⟩ : 0 ≤ (0 : Int) ∧ (0 : Int) ≤ 1), ok3, sv_mod.rf, h⟩
  · have h := h.2 (hc)
    refine sv_aload_n hM dX12_isEmpty_8 rfl rfl ?_
    refine sv_iload_n hM dX12_isEmpty_9 rfl rfl ?_
    refine sv_callV hM dX12_isEmpty_10 sm_iv_1062 (by decide) (sm_a0 _) rfl rfl (Nat.le_of_ble_eq_true rfl) sm_h209 (Nat.le_of_ble_eq_true rfl) (Nat.le_of_ble_eq_true rfl) (F' := 0) (Nat.le_of_ble_eq_true rfl) rfl (t_hasLabels p1 S ok3 hp1 o1) (fun v S1 hq => ?_)
    obtain ⟨r11, rfl, hr11, ok8, md9, hpo10⟩ := hq
    obtain rfl : S = S1 := (funext fun j => md9 j (by intro q; cases q)).symm
    show sv_T sm_XS sm_cs sm_L sm_sh 2 (q_isEmpty p1 S) 211 13 [(0, .ref 0), (1, sv_I p1)] [sv_I r11] S
    have h := h r11 hr11 hpo10
    refine sv_cond_ne hM dX12_isEmpty_13 hr11 (t := 20) rfl rfl (fun hc => ?_) (fun hc => ?_)
    · have h := h.1 (hc)
      refine sv_iconst (d := (0 : Int)) hM dX12_isEmpty_20 rfl rfl ?_
      exact sv_iret hM dX12_isEmpty_21 rfl (sv_nz (⟨by decide, by decide⟩ : 0 ≤ (0 : Int) ∧ (0 : Int) ≤ 1)) ⟨(0 : Int), rfl, sv_R01 (⟨by decide, by decide⟩ : 0 ≤ (0 : Int) ∧ (0 : Int) ≤ 1), ok8, sv_mod.rf, h⟩
    · have h := h.2 (hc)
      refine sv_iconst (d := (1 : Int)) hM dX12_isEmpty_16 rfl rfl ?_
      refine sv_goto hM dX12_isEmpty_17 (pc' := 21) rfl ?_
      exact sv_iret hM dX12_isEmpty_21 rfl (sv_nz (⟨by decide, by decide⟩ : 0 ≤ (1 : Int) ∧ (1 : Int) ≤ 1)) ⟨(1 : Int), rfl, sv_R01 (⟨by decide, by decide⟩ : 0 ≤ (1 : Int) ∧ (1 : Int) ≤ 1), ok8, sv_mod.rf, h⟩
def q_isAlone (p1 : Int) (S : sv_S) : Option Value → sv_S → Prop := fun v S' => ∃ r : Int, v = some (sv_I r) ∧ sv_R r ∧ sm_ok S' ∧ sv_mod [] S S' ∧ (r = 0 ∨ r = 1)
theorem la_isAlone_0 {x0 : Int} (h0 : 0 ≤ x0) (h1 : x0 < 647800) : 0 ≤ x0 ∧ x0 < 647800 := by omega
theorem la_isAlone_1 {x0 : Int} : ¬ x0 = 0 → (0 : Int) = 0 ∨ (0 : Int) = 1 := by omega
theorem la_isAlone_2 {x0 : Int} (h0 : ¬ ¬ x0 = 0) : ¬ x0 = 1 := by omega
theorem la_isAlone_3 {x0 : Int} : x0 = 1 → (1 : Int) = 0 ∨ (1 : Int) = 1 := by omega
theorem la_isAlone_4 {x0 : Int} : x0 = 2 → (1 : Int) = 0 ∨ (1 : Int) = 1 := by omega
theorem la_isAlone_5 {x0 : Int} : x0 = 4 → (1 : Int) = 0 ∨ (1 : Int) = 1 := by omega
theorem la_isAlone_6 {x0 : Int} : x0 = 8 → (1 : Int) = 0 ∨ (1 : Int) = 1 := by omega
theorem la_isAlone_7 {x0 : Int} : x0 = 16 → (1 : Int) = 0 ∨ (1 : Int) = 1 := by omega
theorem la_isAlone_8 {x0 : Int} : x0 = 32 → (1 : Int) = 0 ∨ (1 : Int) = 1 := by omega
theorem la_isAlone_9 {x0 : Int} : ¬ x0 = 128 → (0 : Int) = 0 ∨ (0 : Int) = 1 := by omega
theorem la_isAlone_10 {x0 : Int} (h0 : ¬ ¬ x0 = 128) : 1 ≤ x0 := by omega
theorem la_isAlone_11 {x0 : Int} (h0 : 1 ≤ x0) (h1 : ¬ x0 = 1) : 1 < x0 := by omega
theorem la_isAlone_12 {x0 : Int} (h0 : ¬ ¬ x0 = 128) : 2 ≤ x0 := by omega
theorem la_isAlone_13 {x0 : Int} (h0 : 2 ≤ x0) (h1 : ¬ x0 = 2) : 2 < x0 := by omega
theorem la_isAlone_14 {x0 : Int} (h0 : ¬ ¬ x0 = 128) : 4 ≤ x0 := by omega
theorem la_isAlone_15 {x0 : Int} (h0 : 4 ≤ x0) (h1 : ¬ x0 = 4) : 4 < x0 := by omega
theorem la_isAlone_16 {x0 : Int} (h0 : ¬ ¬ x0 = 128) : 8 ≤ x0 := by omega
theorem la_isAlone_17 {x0 : Int} (h0 : 8 ≤ x0) (h1 : ¬ x0 = 8) : 8 < x0 := by omega
theorem la_isAlone_18 {x0 : Int} (h0 : ¬ ¬ x0 = 128) : 16 ≤ x0 := by omega
theorem la_isAlone_19 {x0 : Int} (h0 : 16 ≤ x0) (h1 : ¬ x0 = 16) : 16 < x0 := by omega
theorem la_isAlone_20 {x0 : Int} (h0 : ¬ ¬ x0 = 128) : 32 ≤ x0 := by omega
theorem la_isAlone_21 {x0 : Int} (h0 : 32 ≤ x0) (h1 : ¬ x0 = 32) : 32 < x0 := by omega
theorem la_isAlone_22 : (1 : Int) = 0 ∨ (1 : Int) = 1 := by omega
set_option maxHeartbeats 2000000 in
theorem f_isAlone : ∀ (p1 : Int) (S : sv_S), sm_ok S → sv_R p1 → (0 ≤ p1 ∧ p1 < 647800) → (0 ≤ p1 ∧ p1 < 647800) ∧ (∀ r6 : Int, sv_R r6 → (sm_iand ((S 68 p1) % 1024) (-513) = r6) → (∀ r11 : Int, sv_R r11 → (r11 = 0 ∨ r11 = 1) → (((¬ r11 = (0 : Int)) → ((0 : Int) = 0 ∨ (0 : Int) = 1)) ∧ ((¬ (¬ r11 = (0 : Int))) → (((r6 = (1 : Int)) → ((1 : Int) = 0 ∨ (1 : Int) = 1)) ∧ ((¬ (r6 = (1 : Int))) → (((r6 = (2 : Int)) → ((1 : Int) = 0 ∨ (1 : Int) = 1)) ∧ ((¬ (r6 = (2 : Int))) → (((r6 = (4 : Int)) → ((1 : Int) = 0 ∨ (1 : Int) = 1)) ∧ ((¬ (r6 = (4 : Int))) → (((r6 = (8 : Int)) → ((1 : Int) = 0 ∨ (1 : Int) = 1)) ∧ ((¬ (r6 = (8 : Int))) → (((r6 = (16 : Int)) → ((1 : Int) = 0 ∨ (1 : Int) = 1)) ∧ ((¬ (r6 = (16 : Int))) → (((r6 = (32 : Int)) → ((1 : Int) = 0 ∨ (1 : Int) = 1)) ∧ ((¬ (r6 = (32 : Int))) → (((¬ r6 = (128 : Int)) → ((0 : Int) = 0 ∨ (0 : Int) = 1)) ∧ ((¬ (¬ r6 = (128 : Int))) → ((1 : Int) = 0 ∨ (1 : Int) = 1))))))))))))))))))) := by
  intro p1
  intro S
  intro h1_
  intro h2_
  rintro ⟨h3_, h4_⟩
  refine ⟨(la_isAlone_0 h3_ h4_), ?_⟩
  intro r6
  intro h5_
  intro h6_
  intro r11
  intro h7_
  intro h8_
  refine ⟨la_isAlone_1, ?_⟩
  intro h9_
  have h10_ := (h8_.resolve_right (la_isAlone_2 h9_))
  refine ⟨la_isAlone_3, ?_⟩
  intro h11_
  refine ⟨la_isAlone_4, ?_⟩
  intro h12_
  refine ⟨la_isAlone_5, ?_⟩
  intro h13_
  refine ⟨la_isAlone_6, ?_⟩
  intro h14_
  refine ⟨la_isAlone_7, ?_⟩
  intro h15_
  refine ⟨la_isAlone_8, ?_⟩
  intro h16_
  refine ⟨la_isAlone_9, ?_⟩
  intro h17_
  exact la_isAlone_22
set_option maxRecDepth 8000 in
set_option maxHeartbeats 2000000 in
theorem t_isAlone : ∀ (p1 : Int) (S : sv_S), sm_ok S → sv_R p1 → (0 ≤ p1 ∧ p1 < 647800) → sv_T sm_XS sm_cs sm_L sm_sh 2 (q_isAlone p1 S) 212 0 (lv_args 0 [.ref 0, sv_I p1]) [] S := by
  intro p1 S hok hp1 hpre
  have h := f_isAlone p1 S hok hp1 hpre
  have hM := sm_h212
  show sv_T sm_XS sm_cs sm_L sm_sh 2 (q_isAlone p1 S) 212 0 [(0, .ref 0), (1, sv_I p1)] [] S
  refine sv_aload_n hM dX12_isAlone_0 rfl rfl ?_
  refine sv_iload_n hM dX12_isAlone_1 rfl rfl ?_
  obtain ⟨o1, h⟩ := h
  refine sv_callV hM dX12_isAlone_2 sm_iv_1059 (by decide) (sm_a0 _) rfl rfl (Nat.le_of_ble_eq_true rfl) sm_h210 (Nat.le_of_ble_eq_true rfl) (Nat.le_of_ble_eq_true rfl) (F' := 1) (Nat.le_of_ble_eq_true rfl) rfl (t_plainly p1 S hok hp1 o1) (fun v S1 hq => ?_)
  obtain ⟨r6, rfl, hr6, ok3, md4, hpo5⟩ := hq
  obtain rfl : S = S1 := (funext fun j => md4 j (by intro q; cases q)).symm
  show sv_T sm_XS sm_cs sm_L sm_sh 2 (q_isAlone p1 S) 212 5 [(0, .ref 0), (1, sv_I p1)] [sv_I r6] S
  have h := h r6 hr6 hpo5
  refine sv_istore_n hM dX12_isAlone_5 (by decide) rfl ?_
  show sv_T sm_XS sm_cs sm_L sm_sh 2 (q_isAlone p1 S) 212 6 [(0, .ref 0), (1, sv_I p1), (2, sv_I r6)] [] S
  refine sv_aload_n hM dX12_isAlone_6 rfl rfl ?_
  refine sv_iload_n hM dX12_isAlone_7 rfl rfl ?_
  refine sv_callV hM dX12_isAlone_8 sm_iv_1062 (by decide) (sm_a0 _) rfl rfl (Nat.le_of_ble_eq_true rfl) sm_h209 (Nat.le_of_ble_eq_true rfl) (Nat.le_of_ble_eq_true rfl) (F' := 0) (Nat.le_of_ble_eq_true rfl) rfl (t_hasLabels p1 S ok3 hp1 o1) (fun v S1 hq => ?_)
  obtain ⟨r11, rfl, hr11, ok8, md9, hpo10⟩ := hq
  obtain rfl : S = S1 := (funext fun j => md9 j (by intro q; cases q)).symm
  show sv_T sm_XS sm_cs sm_L sm_sh 2 (q_isAlone p1 S) 212 11 [(0, .ref 0), (1, sv_I p1), (2, sv_I r6)] [sv_I r11] S
  have h := h r11 hr11 hpo10
  refine sv_cond_ne hM dX12_isAlone_11 hr11 (t := 58) rfl rfl (fun hc => ?_) (fun hc => ?_)
  · have h := h.1 (hc)
    refine sv_iconst (d := (0 : Int)) hM dX12_isAlone_58 rfl rfl ?_
    exact sv_iret hM dX12_isAlone_59 rfl (sv_nz (⟨by decide, by decide⟩ : 0 ≤ (0 : Int) ∧ (0 : Int) ≤ 1)) ⟨(0 : Int), rfl, sv_R01 (⟨by decide, by decide⟩ : 0 ≤ (0 : Int) ∧ (0 : Int) ≤ 1), ok8, sv_mod.rf, h⟩
  · have h := h.2 (hc)
    refine sv_iload_n hM dX12_isAlone_14 rfl rfl ?_
    refine sv_iconst (d := (1 : Int)) hM dX12_isAlone_15 rfl rfl ?_
    refine sv_icmp_eq hM dX12_isAlone_16 hr6 (⟨by decide, by decide⟩ : sv_R (1 : Int)) (t := 54) rfl rfl (fun hc => ?_) (fun hc => ?_)
    · have h := h.1 (hc)
      refine sv_iconst (d := (1 : Int)) hM dX12_isAlone_54 rfl rfl ?_
      refine sv_goto hM dX12_isAlone_55 (pc' := 59) rfl ?_
      exact sv_iret hM dX12_isAlone_59 rfl (sv_nz (⟨by decide, by decide⟩ : 0 ≤ (1 : Int) ∧ (1 : Int) ≤ 1)) ⟨(1 : Int), rfl, sv_R01 (⟨by decide, by decide⟩ : 0 ≤ (1 : Int) ∧ (1 : Int) ≤ 1), ok8, sv_mod.rf, h⟩
    · have h := h.2 (hc)
      refine sv_iload_n hM dX12_isAlone_19 rfl rfl ?_
      refine sv_iconst (d := (2 : Int)) hM dX12_isAlone_20 rfl rfl ?_
      refine sv_icmp_eq hM dX12_isAlone_21 hr6 (⟨by decide, by decide⟩ : sv_R (2 : Int)) (t := 54) rfl rfl (fun hc => ?_) (fun hc => ?_)
      · have h := h.1 (hc)
        refine sv_iconst (d := (1 : Int)) hM dX12_isAlone_54 rfl rfl ?_
        refine sv_goto hM dX12_isAlone_55 (pc' := 59) rfl ?_
        exact sv_iret hM dX12_isAlone_59 rfl (sv_nz (⟨by decide, by decide⟩ : 0 ≤ (1 : Int) ∧ (1 : Int) ≤ 1)) ⟨(1 : Int), rfl, sv_R01 (⟨by decide, by decide⟩ : 0 ≤ (1 : Int) ∧ (1 : Int) ≤ 1), ok8, sv_mod.rf, h⟩
      · have h := h.2 (hc)
        refine sv_iload_n hM dX12_isAlone_24 rfl rfl ?_
        refine sv_iconst (d := (4 : Int)) hM dX12_isAlone_25 rfl rfl ?_
        refine sv_icmp_eq hM dX12_isAlone_26 hr6 (⟨by decide, by decide⟩ : sv_R (4 : Int)) (t := 54) rfl rfl (fun hc => ?_) (fun hc => ?_)
        · have h := h.1 (hc)
          refine sv_iconst (d := (1 : Int)) hM dX12_isAlone_54 rfl rfl ?_
          refine sv_goto hM dX12_isAlone_55 (pc' := 59) rfl ?_
          exact sv_iret hM dX12_isAlone_59 rfl (sv_nz (⟨by decide, by decide⟩ : 0 ≤ (1 : Int) ∧ (1 : Int) ≤ 1)) ⟨(1 : Int), rfl, sv_R01 (⟨by decide, by decide⟩ : 0 ≤ (1 : Int) ∧ (1 : Int) ≤ 1), ok8, sv_mod.rf, h⟩
        · have h := h.2 (hc)
          refine sv_iload_n hM dX12_isAlone_29 rfl rfl ?_
          refine sv_bipush (d := (8 : Int)) hM dX12_isAlone_30 rfl rfl ?_
          refine sv_icmp_eq hM dX12_isAlone_32 hr6 (⟨by decide, by decide⟩ : sv_R (8 : Int)) (t := 54) rfl rfl (fun hc => ?_) (fun hc => ?_)
          · have h := h.1 (hc)
            refine sv_iconst (d := (1 : Int)) hM dX12_isAlone_54 rfl rfl ?_
            refine sv_goto hM dX12_isAlone_55 (pc' := 59) rfl ?_
            exact sv_iret hM dX12_isAlone_59 rfl (sv_nz (⟨by decide, by decide⟩ : 0 ≤ (1 : Int) ∧ (1 : Int) ≤ 1)) ⟨(1 : Int), rfl, sv_R01 (⟨by decide, by decide⟩ : 0 ≤ (1 : Int) ∧ (1 : Int) ≤ 1), ok8, sv_mod.rf, h⟩
          · have h := h.2 (hc)
            refine sv_iload_n hM dX12_isAlone_35 rfl rfl ?_
            refine sv_bipush (d := (16 : Int)) hM dX12_isAlone_36 rfl rfl ?_
            refine sv_icmp_eq hM dX12_isAlone_38 hr6 (⟨by decide, by decide⟩ : sv_R (16 : Int)) (t := 54) rfl rfl (fun hc => ?_) (fun hc => ?_)
            · have h := h.1 (hc)
              refine sv_iconst (d := (1 : Int)) hM dX12_isAlone_54 rfl rfl ?_
              refine sv_goto hM dX12_isAlone_55 (pc' := 59) rfl ?_
              exact sv_iret hM dX12_isAlone_59 rfl (sv_nz (⟨by decide, by decide⟩ : 0 ≤ (1 : Int) ∧ (1 : Int) ≤ 1)) ⟨(1 : Int), rfl, sv_R01 (⟨by decide, by decide⟩ : 0 ≤ (1 : Int) ∧ (1 : Int) ≤ 1), ok8, sv_mod.rf, h⟩
            · have h := h.2 (hc)
              refine sv_iload_n hM dX12_isAlone_41 rfl rfl ?_
              refine sv_bipush (d := (32 : Int)) hM dX12_isAlone_42 rfl rfl ?_
              refine sv_icmp_eq hM dX12_isAlone_44 hr6 (⟨by decide, by decide⟩ : sv_R (32 : Int)) (t := 54) rfl rfl (fun hc => ?_) (fun hc => ?_)
              · have h := h.1 (hc)
                refine sv_iconst (d := (1 : Int)) hM dX12_isAlone_54 rfl rfl ?_
                refine sv_goto hM dX12_isAlone_55 (pc' := 59) rfl ?_
                exact sv_iret hM dX12_isAlone_59 rfl (sv_nz (⟨by decide, by decide⟩ : 0 ≤ (1 : Int) ∧ (1 : Int) ≤ 1)) ⟨(1 : Int), rfl, sv_R01 (⟨by decide, by decide⟩ : 0 ≤ (1 : Int) ∧ (1 : Int) ≤ 1), ok8, sv_mod.rf, h⟩
              · have h := h.2 (hc)
                refine sv_iload_n hM dX12_isAlone_47 rfl rfl ?_
                refine sv_sipush (d := (128 : Int)) hM dX12_isAlone_48 rfl rfl ?_
                refine sv_icmp_ne hM dX12_isAlone_51 hr6 (⟨by decide, by decide⟩ : sv_R (128 : Int)) (t := 58) rfl rfl (fun hc => ?_) (fun hc => ?_)
                · have h := h.1 (hc)
                  refine sv_iconst (d := (0 : Int)) hM dX12_isAlone_58 rfl rfl ?_
                  exact sv_iret hM dX12_isAlone_59 rfl (sv_nz (⟨by decide, by decide⟩ : 0 ≤ (0 : Int) ∧ (0 : Int) ≤ 1)) ⟨(0 : Int), rfl, sv_R01 (⟨by decide, by decide⟩ : 0 ≤ (0 : Int) ∧ (0 : Int) ≤ 1), ok8, sv_mod.rf, h⟩
                · have h := h.2 (hc)
                  refine sv_iconst (d := (1 : Int)) hM dX12_isAlone_54 rfl rfl ?_
                  refine sv_goto hM dX12_isAlone_55 (pc' := 59) rfl ?_
                  exact sv_iret hM dX12_isAlone_59 rfl (sv_nz (⟨by decide, by decide⟩ : 0 ≤ (1 : Int) ∧ (1 : Int) ≤ 1)) ⟨(1 : Int), rfl, sv_R01 (⟨by decide, by decide⟩ : 0 ≤ (1 : Int) ∧ (1 : Int) ≤ 1), ok8, sv_mod.rf, h⟩
def q_addSort (p1 : Int) (p2 : Int) (S : sv_S) : Option Value → sv_S → Prop := fun v S' => v = none ∧ sm_ok S' ∧ sv_mod [68, 69, 70] S S' ∧ (sm_pt (S' 68) (S' 69) (S' 70) = sm_pt (S 68) (S 69) (S 70))
theorem la_addSort_0 : (0 : Int) ≤ 647790 ∧ (647790 : Int) < 647800 := by omega
theorem la_addSort_1 : (635639 : Int) ≤ 647790 := by omega
theorem la_addSort_2 : ¬ (647790 : Int) < 635639 := by omega
theorem la_addSort_3 {x0 : Int} (h0 : 635639 ≤ x0) (h1 : x0 < 647790) : (0 : Int) ≤ 647790 ∧ (647790 : Int) < 647800 ∧ 0 ≤ x0 ∧ x0 < 647800 := by omega
theorem la_addSort_4 {x0 : Int} (h0 : 635639 ≤ x0) : ¬ x0 < 635639 := by omega
theorem la_addSort_5 {x0 x1 x2 x3 : Int} (h0 : x0 = x1) (h1 : x2 = x0) (h2 : x3 = x2) : x3 = x1 := by omega
set_option maxHeartbeats 2000000 in
theorem f_addSort : ∀ (p1 : Int) (p2 : Int) (S : sv_S), sm_ok S → sv_R p1 → sv_R p2 → (635639 ≤ p1 ∧ p1 < 647790) → (0 ≤ (647790 : Int) ∧ (647790 : Int) < 647800) ∧ (∀ g2 : sv_S, (635639 ≤ (647790 : Int) → sm_pt (g2 68) (g2 69) (g2 70) = sm_pt (S 68) (S 69) (S 70)) → (∀ g7 : sv_S, ((0 ≤ p2 → p2 < 1024 → (g7 68 (647790 : Int)) % 1024 = p2) ∧ (635639 ≤ (647790 : Int) → sm_pt (g7 68) (g2 69) (g2 70) = sm_pt (g2 68) (g2 69) (g2 70)) ∧ ((647790 : Int) < 635639 → sm_pt (g7 68) (g2 69) (g2 70) = sm_pt (g2 68) (g2 69) (g2 70) + sm_rs (g2 68 (647790 : Int)) (g2 69 (647790 : Int)) (g2 70 (647790 : Int)) - sm_rs (g7 68 (647790 : Int)) (g2 69 (647790 : Int)) (g2 70 (647790 : Int)))) → (0 ≤ (647790 : Int) ∧ (647790 : Int) < 647800 ∧ 0 ≤ p1 ∧ p1 < 647800) ∧ (∀ r17 : Int, sv_R r17 → ∀ g13 : sv_S, ((635639 ≤ p1 → sm_pt (g13 68) (g13 69) (g13 70) = sm_pt (g7 68) (g2 69) (g2 70)) ∧ (r17 = 0 ∨ r17 = 1) ∧ (p1 < 635639 → sm_pt (g13 68) (g13 69) (g13 70) + r17 ≤ sm_pt (g7 68) (g2 69) (g2 70))) → (sm_pt (g13 68) (g13 69) (g13 70) = sm_pt (S 68) (S 69) (S 70))))) := by
  intro p1
  intro p2
  intro S
  intro h1_
  intro h2_
  intro h3_
  rintro ⟨h4_, h5_⟩
  refine ⟨la_addSort_0, ?_⟩
  intro g2
  intro h6_
  have h7_ := (h6_ la_addSort_1)
  intro g7
  rintro ⟨h8_, ⟨h9_, h10_⟩⟩
  have h11_ := (h9_ la_addSort_1)
  refine ⟨(la_addSort_3 h4_ h5_), ?_⟩
  intro r17
  intro h12_
  intro g13
  rintro ⟨h13_, ⟨h14_, h15_⟩⟩
  have h16_ := (h13_ h4_)
  exact (la_addSort_5 h7_ h11_ h16_)
set_option maxRecDepth 8000 in
set_option maxHeartbeats 2000000 in
theorem t_addSort : ∀ (p1 : Int) (p2 : Int) (S : sv_S), sm_ok S → sv_R p1 → sv_R p2 → (635639 ≤ p1 ∧ p1 < 647790) → sv_T sm_XS sm_cs sm_L sm_sh 2 (q_addSort p1 p2 S) 213 0 (lv_args 0 [.ref 0, sv_I p1, sv_I p2]) [] S := by
  intro p1 p2 S hok hp1 hp2 hpre
  have h := f_addSort p1 p2 S hok hp1 hp2 hpre
  have hM := sm_h213
  show sv_T sm_XS sm_cs sm_L sm_sh 2 (q_addSort p1 p2 S) 213 0 [(0, .ref 0), (1, sv_I p1), (2, sv_I p2)] [] S
  refine sv_ldc_w (d := (647790 : Int)) hM dX12_addSort_0 sm_ck_1065 rfl rfl ?_
  refine sv_istore_n hM dX12_addSort_3 (by decide) rfl ?_
  show sv_T sm_XS sm_cs sm_L sm_sh 2 (q_addSort p1 p2 S) 213 4 [(0, .ref 0), (1, sv_I p1), (2, sv_I p2), (3, sv_I (647790 : Int))] [] S
  refine sv_aload_n hM dX12_addSort_4 rfl rfl ?_
  refine sv_iload_n hM dX12_addSort_5 rfl rfl ?_
  obtain ⟨o1, h⟩ := h
  refine sv_callV hM dX12_addSort_6 sm_iv_1066 (by decide) (sm_a0 _) rfl rfl (Nat.le_of_ble_eq_true rfl) sm_h206 (Nat.le_of_ble_eq_true rfl) (Nat.le_of_ble_eq_true rfl) (F' := 0) (Nat.le_of_ble_eq_true rfl) rfl (t_empty (647790 : Int) S hok (⟨by decide, by decide⟩ : sv_R (647790 : Int)) o1) (fun v S1 hq => ?_)
  obtain ⟨rfl, ok3, md4, hpo5⟩ := hq
  obtain ⟨g2, rfl⟩ : ∃ g, S1 = sv_sts S [68, 69, 70] g := ⟨_, md4.eq⟩
  show sv_T sm_XS sm_cs sm_L sm_sh 2 (q_addSort p1 p2 S) 213 9 [(0, .ref 0), (1, sv_I p1), (2, sv_I p2), (3, sv_I (647790 : Int))] [] (sv_sts S [68, 69, 70] g2)
  have md6 : sv_mod [68, 69, 70] S (sv_sts S [68, 69, 70] g2) := sv_mod.sts sv_mod.rf (by decide)
  have h := h g2 hpo5
  refine sv_aload_n hM dX12_addSort_9 rfl rfl ?_
  refine sv_iload_n hM dX12_addSort_10 rfl rfl ?_
  refine sv_iload_n hM dX12_addSort_11 rfl rfl ?_
  refine sv_iconst (d := (0 : Int)) hM dX12_addSort_12 rfl rfl ?_
  refine sv_iconst (d := (0 : Int)) hM dX12_addSort_13 rfl rfl ?_
  refine sv_callV hM dX12_addSort_14 sm_iv_1056 (by decide) (sm_a0 _) rfl rfl (Nat.le_of_ble_eq_true rfl) sm_h205 (Nat.le_of_ble_eq_true rfl) (Nat.le_of_ble_eq_true rfl) (F' := 0) (Nat.le_of_ble_eq_true rfl) rfl (t_write (647790 : Int) p2 (0 : Int) (0 : Int) (sv_sts S [68, 69, 70] g2) ok3 (⟨by decide, by decide⟩ : sv_R (647790 : Int)) hp2 (⟨by decide, by decide⟩ : sv_R (0 : Int)) (⟨by decide, by decide⟩ : sv_R (0 : Int)) o1) (fun v S1 hq => ?_)
  obtain ⟨rfl, ok8, md9, hpo10⟩ := hq
  obtain ⟨g7, rfl⟩ : ∃ g, S1 = sv_sts (sv_sts S [68, 69, 70] g2) [68] g := ⟨_, md9.eq⟩
  show sv_T sm_XS sm_cs sm_L sm_sh 2 (q_addSort p1 p2 S) 213 17 [(0, .ref 0), (1, sv_I p1), (2, sv_I p2), (3, sv_I (647790 : Int))] [] (sv_sts (sv_sts S [68, 69, 70] g2) [68] g7)
  have md11 : sv_mod [68, 69, 70] S (sv_sts (sv_sts S [68, 69, 70] g2) [68] g7) := sv_mod.sts md6 (by decide)
  have h := h g7 hpo10
  refine sv_aload_n hM dX12_addSort_17 rfl rfl ?_
  refine sv_iload_n hM dX12_addSort_18 rfl rfl ?_
  refine sv_iload_n hM dX12_addSort_19 rfl rfl ?_
  obtain ⟨o12, h⟩ := h
  refine sv_callV hM dX12_addSort_20 sm_iv_1069 (by decide) (sm_a0 _) rfl rfl (Nat.le_of_ble_eq_true rfl) sm_h208 (Nat.le_of_ble_eq_true rfl) (Nat.le_of_ble_eq_true rfl) (F' := 1) (Nat.le_of_ble_eq_true rfl) rfl (t_join (647790 : Int) p1 (sv_sts (sv_sts S [68, 69, 70] g2) [68] g7) ok8 (⟨by decide, by decide⟩ : sv_R (647790 : Int)) hp1 o12) (fun v S1 hq => ?_)
  obtain ⟨r17, rfl, hr17, ok14, md15, hpo16⟩ := hq
  obtain ⟨g13, rfl⟩ : ∃ g, S1 = sv_sts (sv_sts (sv_sts S [68, 69, 70] g2) [68] g7) [68, 69, 70] g := ⟨_, md15.eq⟩
  show sv_T sm_XS sm_cs sm_L sm_sh 2 (q_addSort p1 p2 S) 213 23 [(0, .ref 0), (1, sv_I p1), (2, sv_I p2), (3, sv_I (647790 : Int))] [sv_I r17] (sv_sts (sv_sts (sv_sts S [68, 69, 70] g2) [68] g7) [68, 69, 70] g13)
  have md18 : sv_mod [68, 69, 70] S (sv_sts (sv_sts (sv_sts S [68, 69, 70] g2) [68] g7) [68, 69, 70] g13) := sv_mod.sts md11 (by decide)
  have h := h r17 hr17 g13 hpo16
  refine sv_istore hM dX12_addSort_23 (by decide) rfl ?_
  show sv_T sm_XS sm_cs sm_L sm_sh 2 (q_addSort p1 p2 S) 213 25 [(0, .ref 0), (1, sv_I p1), (2, sv_I p2), (3, sv_I (647790 : Int)), (4, sv_I r17)] [] (sv_sts (sv_sts (sv_sts S [68, 69, 70] g2) [68] g7) [68, 69, 70] g13)
  exact sv_vret hM dX12_addSort_25 rfl ⟨rfl, ok14, md18, h⟩
def q_addNumber (p1 : Int) (p2 : Int) (S : sv_S) : Option Value → sv_S → Prop := fun v S' => v = none ∧ sm_ok S' ∧ sv_mod [68, 69, 70] S S' ∧ (sm_pt (S' 68) (S' 69) (S' 70) = sm_pt (S 68) (S 69) (S 70))
theorem la_addNumber_0 : (0 : Int) ≤ 647790 ∧ (647790 : Int) < 647800 := by omega
theorem la_addNumber_1 : (635639 : Int) ≤ 647790 := by omega
theorem la_addNumber_2 : (0 : Int) ≤ 32 := by omega
theorem la_addNumber_3 : ¬ (647790 : Int) < 635639 := by omega
theorem la_addNumber_4 : (32 : Int) < 1024 := by omega
theorem la_addNumber_5 {x0 : Int} (h0 : 635639 ≤ x0) (h1 : x0 < 647790) : (0 : Int) ≤ 647790 ∧ (647790 : Int) < 647800 ∧ 0 ≤ x0 ∧ x0 < 647800 := by omega
theorem la_addNumber_6 {x0 : Int} (h0 : 635639 ≤ x0) : ¬ x0 < 635639 := by omega
theorem la_addNumber_7 {x0 x1 x2 x3 : Int} (h0 : x0 = x1) (h1 : x2 = x0) (h2 : x3 = x2) : x3 = x1 := by omega
set_option maxHeartbeats 2000000 in
theorem f_addNumber : ∀ (p1 : Int) (p2 : Int) (S : sv_S), sm_ok S → sv_R p1 → sv_R p2 → (635639 ≤ p1 ∧ p1 < 647790) → (0 ≤ (647790 : Int) ∧ (647790 : Int) < 647800) ∧ (∀ g2 : sv_S, (635639 ≤ (647790 : Int) → sm_pt (g2 68) (g2 69) (g2 70) = sm_pt (S 68) (S 69) (S 70)) → (∀ g7 : sv_S, ((0 ≤ (32 : Int) → (32 : Int) < 1024 → (g7 68 (647790 : Int)) % 1024 = (32 : Int)) ∧ (635639 ≤ (647790 : Int) → sm_pt (g7 68) (g2 69) (g2 70) = sm_pt (g2 68) (g2 69) (g2 70)) ∧ ((647790 : Int) < 635639 → sm_pt (g7 68) (g2 69) (g2 70) = sm_pt (g2 68) (g2 69) (g2 70) + sm_rs (g2 68 (647790 : Int)) (g2 69 (647790 : Int)) (g2 70 (647790 : Int)) - sm_rs (g7 68 (647790 : Int)) (g2 69 (647790 : Int)) (g2 70 (647790 : Int)))) → (0 ≤ (647790 : Int) ∧ (647790 : Int) < 647800 ∧ 0 ≤ p1 ∧ p1 < 647800) ∧ (∀ r17 : Int, sv_R r17 → ∀ g13 : sv_S, ((635639 ≤ p1 → sm_pt (g13 68) (g13 69) (g13 70) = sm_pt (g7 68) (g2 69) (g2 70)) ∧ (r17 = 0 ∨ r17 = 1) ∧ (p1 < 635639 → sm_pt (g13 68) (g13 69) (g13 70) + r17 ≤ sm_pt (g7 68) (g2 69) (g2 70))) → (sm_pt (g13 68) (g13 69) (g13 70) = sm_pt (S 68) (S 69) (S 70))))) := by
  intro p1
  intro p2
  intro S
  intro h1_
  intro h2_
  intro h3_
  rintro ⟨h4_, h5_⟩
  refine ⟨la_addNumber_0, ?_⟩
  intro g2
  intro h6_
  have h7_ := (h6_ la_addNumber_1)
  intro g7
  rintro ⟨h8_, ⟨h9_, h10_⟩⟩
  have h11_ := (h8_ la_addNumber_2)
  have h12_ := (h9_ la_addNumber_1)
  have h13_ := (h11_ la_addNumber_4)
  refine ⟨(la_addNumber_5 h4_ h5_), ?_⟩
  intro r17
  intro h14_
  intro g13
  rintro ⟨h15_, ⟨h16_, h17_⟩⟩
  have h18_ := (h15_ h4_)
  exact (la_addNumber_7 h7_ h12_ h18_)
set_option maxRecDepth 8000 in
set_option maxHeartbeats 2000000 in
theorem t_addNumber : ∀ (p1 : Int) (p2 : Int) (S : sv_S), sm_ok S → sv_R p1 → sv_R p2 → (635639 ≤ p1 ∧ p1 < 647790) → sv_T sm_XS sm_cs sm_L sm_sh 2 (q_addNumber p1 p2 S) 214 0 (lv_args 0 [.ref 0, sv_I p1, sv_I p2]) [] S := by
  intro p1 p2 S hok hp1 hp2 hpre
  have h := f_addNumber p1 p2 S hok hp1 hp2 hpre
  have hM := sm_h214
  show sv_T sm_XS sm_cs sm_L sm_sh 2 (q_addNumber p1 p2 S) 214 0 [(0, .ref 0), (1, sv_I p1), (2, sv_I p2)] [] S
  refine sv_ldc_w (d := (647790 : Int)) hM dX12_addNumber_0 sm_ck_1065 rfl rfl ?_
  refine sv_istore_n hM dX12_addNumber_3 (by decide) rfl ?_
  show sv_T sm_XS sm_cs sm_L sm_sh 2 (q_addNumber p1 p2 S) 214 4 [(0, .ref 0), (1, sv_I p1), (2, sv_I p2), (3, sv_I (647790 : Int))] [] S
  refine sv_aload_n hM dX12_addNumber_4 rfl rfl ?_
  refine sv_iload_n hM dX12_addNumber_5 rfl rfl ?_
  obtain ⟨o1, h⟩ := h
  refine sv_callV hM dX12_addNumber_6 sm_iv_1066 (by decide) (sm_a0 _) rfl rfl (Nat.le_of_ble_eq_true rfl) sm_h206 (Nat.le_of_ble_eq_true rfl) (Nat.le_of_ble_eq_true rfl) (F' := 0) (Nat.le_of_ble_eq_true rfl) rfl (t_empty (647790 : Int) S hok (⟨by decide, by decide⟩ : sv_R (647790 : Int)) o1) (fun v S1 hq => ?_)
  obtain ⟨rfl, ok3, md4, hpo5⟩ := hq
  obtain ⟨g2, rfl⟩ : ∃ g, S1 = sv_sts S [68, 69, 70] g := ⟨_, md4.eq⟩
  show sv_T sm_XS sm_cs sm_L sm_sh 2 (q_addNumber p1 p2 S) 214 9 [(0, .ref 0), (1, sv_I p1), (2, sv_I p2), (3, sv_I (647790 : Int))] [] (sv_sts S [68, 69, 70] g2)
  have md6 : sv_mod [68, 69, 70] S (sv_sts S [68, 69, 70] g2) := sv_mod.sts sv_mod.rf (by decide)
  have h := h g2 hpo5
  refine sv_aload_n hM dX12_addNumber_9 rfl rfl ?_
  refine sv_iload_n hM dX12_addNumber_10 rfl rfl ?_
  refine sv_bipush (d := (32 : Int)) hM dX12_addNumber_11 rfl rfl ?_
  refine sv_iconst (d := (0 : Int)) hM dX12_addNumber_13 rfl rfl ?_
  refine sv_iload_n hM dX12_addNumber_14 rfl rfl ?_
  refine sv_callV hM dX12_addNumber_15 sm_iv_1056 (by decide) (sm_a0 _) rfl rfl (Nat.le_of_ble_eq_true rfl) sm_h205 (Nat.le_of_ble_eq_true rfl) (Nat.le_of_ble_eq_true rfl) (F' := 0) (Nat.le_of_ble_eq_true rfl) rfl (t_write (647790 : Int) (32 : Int) (0 : Int) p2 (sv_sts S [68, 69, 70] g2) ok3 (⟨by decide, by decide⟩ : sv_R (647790 : Int)) (⟨by decide, by decide⟩ : sv_R (32 : Int)) (⟨by decide, by decide⟩ : sv_R (0 : Int)) hp2 o1) (fun v S1 hq => ?_)
  obtain ⟨rfl, ok8, md9, hpo10⟩ := hq
  obtain ⟨g7, rfl⟩ : ∃ g, S1 = sv_sts (sv_sts S [68, 69, 70] g2) [68] g := ⟨_, md9.eq⟩
  show sv_T sm_XS sm_cs sm_L sm_sh 2 (q_addNumber p1 p2 S) 214 18 [(0, .ref 0), (1, sv_I p1), (2, sv_I p2), (3, sv_I (647790 : Int))] [] (sv_sts (sv_sts S [68, 69, 70] g2) [68] g7)
  have md11 : sv_mod [68, 69, 70] S (sv_sts (sv_sts S [68, 69, 70] g2) [68] g7) := sv_mod.sts md6 (by decide)
  have h := h g7 hpo10
  refine sv_aload_n hM dX12_addNumber_18 rfl rfl ?_
  refine sv_iload_n hM dX12_addNumber_19 rfl rfl ?_
  refine sv_iload_n hM dX12_addNumber_20 rfl rfl ?_
  obtain ⟨o12, h⟩ := h
  refine sv_callV hM dX12_addNumber_21 sm_iv_1069 (by decide) (sm_a0 _) rfl rfl (Nat.le_of_ble_eq_true rfl) sm_h208 (Nat.le_of_ble_eq_true rfl) (Nat.le_of_ble_eq_true rfl) (F' := 1) (Nat.le_of_ble_eq_true rfl) rfl (t_join (647790 : Int) p1 (sv_sts (sv_sts S [68, 69, 70] g2) [68] g7) ok8 (⟨by decide, by decide⟩ : sv_R (647790 : Int)) hp1 o12) (fun v S1 hq => ?_)
  obtain ⟨r17, rfl, hr17, ok14, md15, hpo16⟩ := hq
  obtain ⟨g13, rfl⟩ : ∃ g, S1 = sv_sts (sv_sts (sv_sts S [68, 69, 70] g2) [68] g7) [68, 69, 70] g := ⟨_, md15.eq⟩
  show sv_T sm_XS sm_cs sm_L sm_sh 2 (q_addNumber p1 p2 S) 214 24 [(0, .ref 0), (1, sv_I p1), (2, sv_I p2), (3, sv_I (647790 : Int))] [sv_I r17] (sv_sts (sv_sts (sv_sts S [68, 69, 70] g2) [68] g7) [68, 69, 70] g13)
  have md18 : sv_mod [68, 69, 70] S (sv_sts (sv_sts (sv_sts S [68, 69, 70] g2) [68] g7) [68, 69, 70] g13) := sv_mod.sts md11 (by decide)
  have h := h r17 hr17 g13 hpo16
  refine sv_istore hM dX12_addNumber_24 (by decide) rfl ?_
  show sv_T sm_XS sm_cs sm_L sm_sh 2 (q_addNumber p1 p2 S) 214 26 [(0, .ref 0), (1, sv_I p1), (2, sv_I p2), (3, sv_I (647790 : Int)), (4, sv_I r17)] [] (sv_sts (sv_sts (sv_sts S [68, 69, 70] g2) [68] g7) [68, 69, 70] g13)
  exact sv_vret hM dX12_addNumber_26 rfl ⟨rfl, ok14, md18, h⟩
def q_addString (p1 : Int) (p2 : Int) (S : sv_S) : Option Value → sv_S → Prop := fun v S' => v = none ∧ sm_ok S' ∧ sv_mod [68, 69, 70] S S' ∧ (sm_pt (S' 68) (S' 69) (S' 70) = sm_pt (S 68) (S 69) (S 70))
theorem la_addString_0 : (0 : Int) ≤ 647790 ∧ (647790 : Int) < 647800 := by omega
theorem la_addString_1 : (635639 : Int) ≤ 647790 := by omega
theorem la_addString_2 : (0 : Int) ≤ 128 := by omega
theorem la_addString_3 : ¬ (647790 : Int) < 635639 := by omega
theorem la_addString_4 : (128 : Int) < 1024 := by omega
theorem la_addString_5 {x0 : Int} (h0 : 635639 ≤ x0) (h1 : x0 < 647790) : (0 : Int) ≤ 647790 ∧ (647790 : Int) < 647800 ∧ 0 ≤ x0 ∧ x0 < 647800 := by omega
theorem la_addString_6 {x0 : Int} (h0 : 635639 ≤ x0) : ¬ x0 < 635639 := by omega
theorem la_addString_7 {x0 x1 x2 x3 : Int} (h0 : x0 = x1) (h1 : x2 = x0) (h2 : x3 = x2) : x3 = x1 := by omega
theorem la_addString_8 {x0 : Int} (h0 : ¬ ¬ x0 = (-1)) : x0 ≤ (-1) := by omega
theorem la_addString_9 {x0 : Int} (h0 : x0 ≤ (-1)) (h1 : ¬ x0 = (-1)) : x0 < (-1) := by omega
theorem la_addString_10 : (0 : Int) ≤ 256 := by omega
theorem la_addString_11 : (256 : Int) < 1024 := by omega
set_option maxHeartbeats 2000000 in
theorem f_addString : ∀ (p1 : Int) (p2 : Int) (S : sv_S), sm_ok S → sv_R p1 → sv_R p2 → (635639 ≤ p1 ∧ p1 < 647790) → (0 ≤ (647790 : Int) ∧ (647790 : Int) < 647800) ∧ (∀ g2 : sv_S, (635639 ≤ (647790 : Int) → sm_pt (g2 68) (g2 69) (g2 70) = sm_pt (S 68) (S 69) (S 70)) → (((¬ p2 = (-1 : Int)) → (((¬ p2 = (-1 : Int)) → (∀ g7 : sv_S, ((0 ≤ (128 : Int) → (128 : Int) < 1024 → (g7 68 (647790 : Int)) % 1024 = (128 : Int)) ∧ (635639 ≤ (647790 : Int) → sm_pt (g7 68) (g2 69) (g2 70) = sm_pt (g2 68) (g2 69) (g2 70)) ∧ ((647790 : Int) < 635639 → sm_pt (g7 68) (g2 69) (g2 70) = sm_pt (g2 68) (g2 69) (g2 70) + sm_rs (g2 68 (647790 : Int)) (g2 69 (647790 : Int)) (g2 70 (647790 : Int)) - sm_rs (g7 68 (647790 : Int)) (g2 69 (647790 : Int)) (g2 70 (647790 : Int)))) → (0 ≤ (647790 : Int) ∧ (647790 : Int) < 647800 ∧ 0 ≤ p1 ∧ p1 < 647800) ∧ (∀ r17 : Int, sv_R r17 → ∀ g13 : sv_S, ((635639 ≤ p1 → sm_pt (g13 68) (g13 69) (g13 70) = sm_pt (g7 68) (g2 69) (g2 70)) ∧ (r17 = 0 ∨ r17 = 1) ∧ (p1 < 635639 → sm_pt (g13 68) (g13 69) (g13 70) + r17 ≤ sm_pt (g7 68) (g2 69) (g2 70))) → (sm_pt (g13 68) (g13 69) (g13 70) = sm_pt (S 68) (S 69) (S 70))))) ∧ ((¬ (¬ p2 = (-1 : Int))) → (∀ g19 : sv_S, ((0 ≤ (128 : Int) → (128 : Int) < 1024 → (g19 68 (647790 : Int)) % 1024 = (128 : Int)) ∧ (635639 ≤ (647790 : Int) → sm_pt (g19 68) (g2 69) (g2 70) = sm_pt (g2 68) (g2 69) (g2 70)) ∧ ((647790 : Int) < 635639 → sm_pt (g19 68) (g2 69) (g2 70) = sm_pt (g2 68) (g2 69) (g2 70) + sm_rs (g2 68 (647790 : Int)) (g2 69 (647790 : Int)) (g2 70 (647790 : Int)) - sm_rs (g19 68 (647790 : Int)) (g2 69 (647790 : Int)) (g2 70 (647790 : Int)))) → (0 ≤ (647790 : Int) ∧ (647790 : Int) < 647800 ∧ 0 ≤ p1 ∧ p1 < 647800) ∧ (∀ r29 : Int, sv_R r29 → ∀ g25 : sv_S, ((635639 ≤ p1 → sm_pt (g25 68) (g25 69) (g25 70) = sm_pt (g19 68) (g2 69) (g2 70)) ∧ (r29 = 0 ∨ r29 = 1) ∧ (p1 < 635639 → sm_pt (g25 68) (g25 69) (g25 70) + r29 ≤ sm_pt (g19 68) (g2 69) (g2 70))) → (sm_pt (g25 68) (g25 69) (g25 70) = sm_pt (S 68) (S 69) (S 70))))))) ∧ ((¬ (¬ p2 = (-1 : Int))) → (((¬ p2 = (-1 : Int)) → (∀ g31 : sv_S, ((0 ≤ (256 : Int) → (256 : Int) < 1024 → (g31 68 (647790 : Int)) % 1024 = (256 : Int)) ∧ (635639 ≤ (647790 : Int) → sm_pt (g31 68) (g2 69) (g2 70) = sm_pt (g2 68) (g2 69) (g2 70)) ∧ ((647790 : Int) < 635639 → sm_pt (g31 68) (g2 69) (g2 70) = sm_pt (g2 68) (g2 69) (g2 70) + sm_rs (g2 68 (647790 : Int)) (g2 69 (647790 : Int)) (g2 70 (647790 : Int)) - sm_rs (g31 68 (647790 : Int)) (g2 69 (647790 : Int)) (g2 70 (647790 : Int)))) → (0 ≤ (647790 : Int) ∧ (647790 : Int) < 647800 ∧ 0 ≤ p1 ∧ p1 < 647800) ∧ (∀ r41 : Int, sv_R r41 → ∀ g37 : sv_S, ((635639 ≤ p1 → sm_pt (g37 68) (g37 69) (g37 70) = sm_pt (g31 68) (g2 69) (g2 70)) ∧ (r41 = 0 ∨ r41 = 1) ∧ (p1 < 635639 → sm_pt (g37 68) (g37 69) (g37 70) + r41 ≤ sm_pt (g31 68) (g2 69) (g2 70))) → (sm_pt (g37 68) (g37 69) (g37 70) = sm_pt (S 68) (S 69) (S 70))))) ∧ ((¬ (¬ p2 = (-1 : Int))) → (∀ g43 : sv_S, ((0 ≤ (256 : Int) → (256 : Int) < 1024 → (g43 68 (647790 : Int)) % 1024 = (256 : Int)) ∧ (635639 ≤ (647790 : Int) → sm_pt (g43 68) (g2 69) (g2 70) = sm_pt (g2 68) (g2 69) (g2 70)) ∧ ((647790 : Int) < 635639 → sm_pt (g43 68) (g2 69) (g2 70) = sm_pt (g2 68) (g2 69) (g2 70) + sm_rs (g2 68 (647790 : Int)) (g2 69 (647790 : Int)) (g2 70 (647790 : Int)) - sm_rs (g43 68 (647790 : Int)) (g2 69 (647790 : Int)) (g2 70 (647790 : Int)))) → (0 ≤ (647790 : Int) ∧ (647790 : Int) < 647800 ∧ 0 ≤ p1 ∧ p1 < 647800) ∧ (∀ r53 : Int, sv_R r53 → ∀ g49 : sv_S, ((635639 ≤ p1 → sm_pt (g49 68) (g49 69) (g49 70) = sm_pt (g43 68) (g2 69) (g2 70)) ∧ (r53 = 0 ∨ r53 = 1) ∧ (p1 < 635639 → sm_pt (g49 68) (g49 69) (g49 70) + r53 ≤ sm_pt (g43 68) (g2 69) (g2 70))) → (sm_pt (g49 68) (g49 69) (g49 70) = sm_pt (S 68) (S 69) (S 70))))))))) := by
  intro p1
  intro p2
  intro S
  intro h1_
  intro h2_
  intro h3_
  rintro ⟨h4_, h5_⟩
  refine ⟨la_addString_0, ?_⟩
  intro g2
  intro h6_
  have h7_ := (h6_ la_addString_1)
  refine ⟨?_, ?_⟩
  · skip
    intro h8_
    refine ⟨?_, ?_⟩
    · skip
      intro h9_
      intro g7
      rintro ⟨h10_, ⟨h11_, h12_⟩⟩
      have h13_ := (h10_ la_addString_2)
      have h14_ := (h11_ la_addString_1)
      have h15_ := (h13_ la_addString_4)
      refine ⟨(la_addString_5 h4_ h5_), ?_⟩
      intro r17
      intro h16_
      intro g13
      rintro ⟨h17_, ⟨h18_, h19_⟩⟩
      have h20_ := (h17_ h4_)
      exact (la_addString_7 h7_ h14_ h20_)
    intro h21_
    intro g19
    rintro ⟨h22_, ⟨h23_, h24_⟩⟩
    have h25_ := (h22_ la_addString_2)
    have h26_ := (h23_ la_addString_1)
    have h27_ := (h25_ la_addString_4)
    refine ⟨(la_addString_5 h4_ h5_), ?_⟩
    intro r29
    intro h28_
    intro g25
    rintro ⟨h29_, ⟨h30_, h31_⟩⟩
    have h32_ := (h29_ h4_)
    exact (la_addString_7 h7_ h26_ h32_)
  intro h33_
  refine ⟨?_, ?_⟩
  · skip
    intro h34_
    intro g31
    rintro ⟨h35_, ⟨h36_, h37_⟩⟩
    have h38_ := (h35_ la_addString_10)
    have h39_ := (h36_ la_addString_1)
    have h40_ := (h38_ la_addString_11)
    refine ⟨(la_addString_5 h4_ h5_), ?_⟩
    intro r41
    intro h41_
    intro g37
    rintro ⟨h42_, ⟨h43_, h44_⟩⟩
    have h45_ := (h42_ h4_)
    exact (la_addString_7 h7_ h39_ h45_)
  intro h46_
  intro g43
  rintro ⟨h47_, ⟨h48_, h49_⟩⟩
  have h50_ := (h47_ la_addString_10)
  have h51_ := (h48_ la_addString_1)
  have h52_ := (h50_ la_addString_11)
  refine ⟨(la_addString_5 h4_ h5_), ?_⟩
  intro r53
  intro h53_
  intro g49
  rintro ⟨h54_, ⟨h55_, h56_⟩⟩
  have h57_ := (h54_ h4_)
  exact (la_addString_7 h7_ h51_ h57_)
set_option maxRecDepth 8000 in
set_option maxHeartbeats 2000000 in
theorem t_addString : ∀ (p1 : Int) (p2 : Int) (S : sv_S), sm_ok S → sv_R p1 → sv_R p2 → (635639 ≤ p1 ∧ p1 < 647790) → sv_T sm_XS sm_cs sm_L sm_sh 2 (q_addString p1 p2 S) 215 0 (lv_args 0 [.ref 0, sv_I p1, sv_I p2]) [] S := by
  intro p1 p2 S hok hp1 hp2 hpre
  have h := f_addString p1 p2 S hok hp1 hp2 hpre
  have hM := sm_h215
  show sv_T sm_XS sm_cs sm_L sm_sh 2 (q_addString p1 p2 S) 215 0 [(0, .ref 0), (1, sv_I p1), (2, sv_I p2)] [] S
  refine sv_ldc_w (d := (647790 : Int)) hM dX12_addString_0 sm_ck_1065 rfl rfl ?_
  refine sv_istore_n hM dX12_addString_3 (by decide) rfl ?_
  show sv_T sm_XS sm_cs sm_L sm_sh 2 (q_addString p1 p2 S) 215 4 [(0, .ref 0), (1, sv_I p1), (2, sv_I p2), (3, sv_I (647790 : Int))] [] S
  refine sv_aload_n hM dX12_addString_4 rfl rfl ?_
  refine sv_iload_n hM dX12_addString_5 rfl rfl ?_
  obtain ⟨o1, h⟩ := h
  refine sv_callV hM dX12_addString_6 sm_iv_1066 (by decide) (sm_a0 _) rfl rfl (Nat.le_of_ble_eq_true rfl) sm_h206 (Nat.le_of_ble_eq_true rfl) (Nat.le_of_ble_eq_true rfl) (F' := 0) (Nat.le_of_ble_eq_true rfl) rfl (t_empty (647790 : Int) S hok (⟨by decide, by decide⟩ : sv_R (647790 : Int)) o1) (fun v S1 hq => ?_)
  obtain ⟨rfl, ok3, md4, hpo5⟩ := hq
  obtain ⟨g2, rfl⟩ : ∃ g, S1 = sv_sts S [68, 69, 70] g := ⟨_, md4.eq⟩
  show sv_T sm_XS sm_cs sm_L sm_sh 2 (q_addString p1 p2 S) 215 9 [(0, .ref 0), (1, sv_I p1), (2, sv_I p2), (3, sv_I (647790 : Int))] [] (sv_sts S [68, 69, 70] g2)
  have md6 : sv_mod [68, 69, 70] S (sv_sts S [68, 69, 70] g2) := sv_mod.sts sv_mod.rf (by decide)
  have h := h g2 hpo5
  refine sv_aload_n hM dX12_addString_9 rfl rfl ?_
  refine sv_iload_n hM dX12_addString_10 rfl rfl ?_
  refine sv_iload_n hM dX12_addString_11 rfl rfl ?_
  refine sv_iconst (d := (-1 : Int)) hM dX12_addString_12 rfl rfl ?_
  refine sv_icmp_ne hM dX12_addString_13 hp2 (⟨by decide, by decide⟩ : sv_R (-1 : Int)) (t := 22) rfl rfl (fun hc => ?_) (fun hc => ?_)
  · have h := h.1 (hc)
    refine sv_sipush (d := (128 : Int)) hM dX12_addString_22 rfl rfl ?_
    refine sv_iload_n hM dX12_addString_25 rfl rfl ?_
    refine sv_iconst (d := (-1 : Int)) hM dX12_addString_26 rfl rfl ?_
    refine sv_icmp_ne hM dX12_addString_27 hp2 (⟨by decide, by decide⟩ : sv_R (-1 : Int)) (t := 34) rfl rfl (fun hc => ?_) (fun hc => ?_)
    · have h := h.1 (hc)
      refine sv_iload_n hM dX12_addString_34 rfl rfl ?_
      refine sv_iconst (d := (0 : Int)) hM dX12_addString_35 rfl rfl ?_
      refine sv_callV hM dX12_addString_36 sm_iv_1056 (by decide) (sm_a0 _) rfl rfl (Nat.le_of_ble_eq_true rfl) sm_h205 (Nat.le_of_ble_eq_true rfl) (Nat.le_of_ble_eq_true rfl) (F' := 0) (Nat.le_of_ble_eq_true rfl) rfl (t_write (647790 : Int) (128 : Int) p2 (0 : Int) (sv_sts S [68, 69, 70] g2) ok3 (⟨by decide, by decide⟩ : sv_R (647790 : Int)) (⟨by decide, by decide⟩ : sv_R (128 : Int)) hp2 (⟨by decide, by decide⟩ : sv_R (0 : Int)) o1) (fun v S1 hq => ?_)
      obtain ⟨rfl, ok8, md9, hpo10⟩ := hq
      obtain ⟨g7, rfl⟩ : ∃ g, S1 = sv_sts (sv_sts S [68, 69, 70] g2) [68] g := ⟨_, md9.eq⟩
      show sv_T sm_XS sm_cs sm_L sm_sh 2 (q_addString p1 p2 S) 215 39 [(0, .ref 0), (1, sv_I p1), (2, sv_I p2), (3, sv_I (647790 : Int))] [] (sv_sts (sv_sts S [68, 69, 70] g2) [68] g7)
      have md11 : sv_mod [68, 69, 70] S (sv_sts (sv_sts S [68, 69, 70] g2) [68] g7) := sv_mod.sts md6 (by decide)
      have h := h g7 hpo10
      refine sv_aload_n hM dX12_addString_39 rfl rfl ?_
      refine sv_iload_n hM dX12_addString_40 rfl rfl ?_
      refine sv_iload_n hM dX12_addString_41 rfl rfl ?_
      obtain ⟨o12, h⟩ := h
      refine sv_callV hM dX12_addString_42 sm_iv_1069 (by decide) (sm_a0 _) rfl rfl (Nat.le_of_ble_eq_true rfl) sm_h208 (Nat.le_of_ble_eq_true rfl) (Nat.le_of_ble_eq_true rfl) (F' := 1) (Nat.le_of_ble_eq_true rfl) rfl (t_join (647790 : Int) p1 (sv_sts (sv_sts S [68, 69, 70] g2) [68] g7) ok8 (⟨by decide, by decide⟩ : sv_R (647790 : Int)) hp1 o12) (fun v S1 hq => ?_)
      obtain ⟨r17, rfl, hr17, ok14, md15, hpo16⟩ := hq
      obtain ⟨g13, rfl⟩ : ∃ g, S1 = sv_sts (sv_sts (sv_sts S [68, 69, 70] g2) [68] g7) [68, 69, 70] g := ⟨_, md15.eq⟩
      show sv_T sm_XS sm_cs sm_L sm_sh 2 (q_addString p1 p2 S) 215 45 [(0, .ref 0), (1, sv_I p1), (2, sv_I p2), (3, sv_I (647790 : Int))] [sv_I r17] (sv_sts (sv_sts (sv_sts S [68, 69, 70] g2) [68] g7) [68, 69, 70] g13)
      have md18 : sv_mod [68, 69, 70] S (sv_sts (sv_sts (sv_sts S [68, 69, 70] g2) [68] g7) [68, 69, 70] g13) := sv_mod.sts md11 (by decide)
      have h := h r17 hr17 g13 hpo16
      refine sv_istore hM dX12_addString_45 (by decide) rfl ?_
      show sv_T sm_XS sm_cs sm_L sm_sh 2 (q_addString p1 p2 S) 215 47 [(0, .ref 0), (1, sv_I p1), (2, sv_I p2), (3, sv_I (647790 : Int)), (4, sv_I r17)] [] (sv_sts (sv_sts (sv_sts S [68, 69, 70] g2) [68] g7) [68, 69, 70] g13)
      exact sv_vret hM dX12_addString_47 rfl ⟨rfl, ok14, md18, h⟩
    · have h := h.2 (hc)
      refine sv_iconst (d := (0 : Int)) hM dX12_addString_30 rfl rfl ?_
      refine sv_goto hM dX12_addString_31 (pc' := 35) rfl ?_
      refine sv_iconst (d := (0 : Int)) hM dX12_addString_35 rfl rfl ?_
      refine sv_callV hM dX12_addString_36 sm_iv_1056 (by decide) (sm_a0 _) rfl rfl (Nat.le_of_ble_eq_true rfl) sm_h205 (Nat.le_of_ble_eq_true rfl) (Nat.le_of_ble_eq_true rfl) (F' := 0) (Nat.le_of_ble_eq_true rfl) rfl (t_write (647790 : Int) (128 : Int) (0 : Int) (0 : Int) (sv_sts S [68, 69, 70] g2) ok3 (⟨by decide, by decide⟩ : sv_R (647790 : Int)) (⟨by decide, by decide⟩ : sv_R (128 : Int)) (⟨by decide, by decide⟩ : sv_R (0 : Int)) (⟨by decide, by decide⟩ : sv_R (0 : Int)) o1) (fun v S1 hq => ?_)
      obtain ⟨rfl, ok20, md21, hpo22⟩ := hq
      obtain ⟨g19, rfl⟩ : ∃ g, S1 = sv_sts (sv_sts S [68, 69, 70] g2) [68] g := ⟨_, md21.eq⟩
      show sv_T sm_XS sm_cs sm_L sm_sh 2 (q_addString p1 p2 S) 215 39 [(0, .ref 0), (1, sv_I p1), (2, sv_I p2), (3, sv_I (647790 : Int))] [] (sv_sts (sv_sts S [68, 69, 70] g2) [68] g19)
      have md23 : sv_mod [68, 69, 70] S (sv_sts (sv_sts S [68, 69, 70] g2) [68] g19) := sv_mod.sts md6 (by decide)
      have h := h g19 hpo22
      refine sv_aload_n hM dX12_addString_39 rfl rfl ?_
      refine sv_iload_n hM dX12_addString_40 rfl rfl ?_
      refine sv_iload_n hM dX12_addString_41 rfl rfl ?_
      obtain ⟨o24, h⟩ := h
      refine sv_callV hM dX12_addString_42 sm_iv_1069 (by decide) (sm_a0 _) rfl rfl (Nat.le_of_ble_eq_true rfl) sm_h208 (Nat.le_of_ble_eq_true rfl) (Nat.le_of_ble_eq_true rfl) (F' := 1) (Nat.le_of_ble_eq_true rfl) rfl (t_join (647790 : Int) p1 (sv_sts (sv_sts S [68, 69, 70] g2) [68] g19) ok20 (⟨by decide, by decide⟩ : sv_R (647790 : Int)) hp1 o24) (fun v S1 hq => ?_)
      obtain ⟨r29, rfl, hr29, ok26, md27, hpo28⟩ := hq
      obtain ⟨g25, rfl⟩ : ∃ g, S1 = sv_sts (sv_sts (sv_sts S [68, 69, 70] g2) [68] g19) [68, 69, 70] g := ⟨_, md27.eq⟩
      show sv_T sm_XS sm_cs sm_L sm_sh 2 (q_addString p1 p2 S) 215 45 [(0, .ref 0), (1, sv_I p1), (2, sv_I p2), (3, sv_I (647790 : Int))] [sv_I r29] (sv_sts (sv_sts (sv_sts S [68, 69, 70] g2) [68] g19) [68, 69, 70] g25)
      have md30 : sv_mod [68, 69, 70] S (sv_sts (sv_sts (sv_sts S [68, 69, 70] g2) [68] g19) [68, 69, 70] g25) := sv_mod.sts md23 (by decide)
      have h := h r29 hr29 g25 hpo28
      refine sv_istore hM dX12_addString_45 (by decide) rfl ?_
      show sv_T sm_XS sm_cs sm_L sm_sh 2 (q_addString p1 p2 S) 215 47 [(0, .ref 0), (1, sv_I p1), (2, sv_I p2), (3, sv_I (647790 : Int)), (4, sv_I r29)] [] (sv_sts (sv_sts (sv_sts S [68, 69, 70] g2) [68] g19) [68, 69, 70] g25)
      exact sv_vret hM dX12_addString_47 rfl ⟨rfl, ok26, md30, h⟩
  · have h := h.2 (hc)
    refine sv_sipush (d := (256 : Int)) hM dX12_addString_16 rfl rfl ?_
    refine sv_goto hM dX12_addString_19 (pc' := 25) rfl ?_
    refine sv_iload_n hM dX12_addString_25 rfl rfl ?_
    refine sv_iconst (d := (-1 : Int)) hM dX12_addString_26 rfl rfl ?_
    refine sv_icmp_ne hM dX12_addString_27 hp2 (⟨by decide, by decide⟩ : sv_R (-1 : Int)) (t := 34) rfl rfl (fun hc => ?_) (fun hc => ?_)
    · have h := h.1 (hc)
      refine sv_iload_n hM dX12_addString_34 rfl rfl ?_
      refine sv_iconst (d := (0 : Int)) hM dX12_addString_35 rfl rfl ?_
      refine sv_callV hM dX12_addString_36 sm_iv_1056 (by decide) (sm_a0 _) rfl rfl (Nat.le_of_ble_eq_true rfl) sm_h205 (Nat.le_of_ble_eq_true rfl) (Nat.le_of_ble_eq_true rfl) (F' := 0) (Nat.le_of_ble_eq_true rfl) rfl (t_write (647790 : Int) (256 : Int) p2 (0 : Int) (sv_sts S [68, 69, 70] g2) ok3 (⟨by decide, by decide⟩ : sv_R (647790 : Int)) (⟨by decide, by decide⟩ : sv_R (256 : Int)) hp2 (⟨by decide, by decide⟩ : sv_R (0 : Int)) o1) (fun v S1 hq => ?_)
      obtain ⟨rfl, ok32, md33, hpo34⟩ := hq
      obtain ⟨g31, rfl⟩ : ∃ g, S1 = sv_sts (sv_sts S [68, 69, 70] g2) [68] g := ⟨_, md33.eq⟩
      show sv_T sm_XS sm_cs sm_L sm_sh 2 (q_addString p1 p2 S) 215 39 [(0, .ref 0), (1, sv_I p1), (2, sv_I p2), (3, sv_I (647790 : Int))] [] (sv_sts (sv_sts S [68, 69, 70] g2) [68] g31)
      have md35 : sv_mod [68, 69, 70] S (sv_sts (sv_sts S [68, 69, 70] g2) [68] g31) := sv_mod.sts md6 (by decide)
      have h := h g31 hpo34
      refine sv_aload_n hM dX12_addString_39 rfl rfl ?_
      refine sv_iload_n hM dX12_addString_40 rfl rfl ?_
      refine sv_iload_n hM dX12_addString_41 rfl rfl ?_
      obtain ⟨o36, h⟩ := h
      refine sv_callV hM dX12_addString_42 sm_iv_1069 (by decide) (sm_a0 _) rfl rfl (Nat.le_of_ble_eq_true rfl) sm_h208 (Nat.le_of_ble_eq_true rfl) (Nat.le_of_ble_eq_true rfl) (F' := 1) (Nat.le_of_ble_eq_true rfl) rfl (t_join (647790 : Int) p1 (sv_sts (sv_sts S [68, 69, 70] g2) [68] g31) ok32 (⟨by decide, by decide⟩ : sv_R (647790 : Int)) hp1 o36) (fun v S1 hq => ?_)
      obtain ⟨r41, rfl, hr41, ok38, md39, hpo40⟩ := hq
      obtain ⟨g37, rfl⟩ : ∃ g, S1 = sv_sts (sv_sts (sv_sts S [68, 69, 70] g2) [68] g31) [68, 69, 70] g := ⟨_, md39.eq⟩
      show sv_T sm_XS sm_cs sm_L sm_sh 2 (q_addString p1 p2 S) 215 45 [(0, .ref 0), (1, sv_I p1), (2, sv_I p2), (3, sv_I (647790 : Int))] [sv_I r41] (sv_sts (sv_sts (sv_sts S [68, 69, 70] g2) [68] g31) [68, 69, 70] g37)
      have md42 : sv_mod [68, 69, 70] S (sv_sts (sv_sts (sv_sts S [68, 69, 70] g2) [68] g31) [68, 69, 70] g37) := sv_mod.sts md35 (by decide)
      have h := h r41 hr41 g37 hpo40
      refine sv_istore hM dX12_addString_45 (by decide) rfl ?_
      show sv_T sm_XS sm_cs sm_L sm_sh 2 (q_addString p1 p2 S) 215 47 [(0, .ref 0), (1, sv_I p1), (2, sv_I p2), (3, sv_I (647790 : Int)), (4, sv_I r41)] [] (sv_sts (sv_sts (sv_sts S [68, 69, 70] g2) [68] g31) [68, 69, 70] g37)
      exact sv_vret hM dX12_addString_47 rfl ⟨rfl, ok38, md42, h⟩
    · have h := h.2 (hc)
      refine sv_iconst (d := (0 : Int)) hM dX12_addString_30 rfl rfl ?_
      refine sv_goto hM dX12_addString_31 (pc' := 35) rfl ?_
      refine sv_iconst (d := (0 : Int)) hM dX12_addString_35 rfl rfl ?_
      refine sv_callV hM dX12_addString_36 sm_iv_1056 (by decide) (sm_a0 _) rfl rfl (Nat.le_of_ble_eq_true rfl) sm_h205 (Nat.le_of_ble_eq_true rfl) (Nat.le_of_ble_eq_true rfl) (F' := 0) (Nat.le_of_ble_eq_true rfl) rfl (t_write (647790 : Int) (256 : Int) (0 : Int) (0 : Int) (sv_sts S [68, 69, 70] g2) ok3 (⟨by decide, by decide⟩ : sv_R (647790 : Int)) (⟨by decide, by decide⟩ : sv_R (256 : Int)) (⟨by decide, by decide⟩ : sv_R (0 : Int)) (⟨by decide, by decide⟩ : sv_R (0 : Int)) o1) (fun v S1 hq => ?_)
      obtain ⟨rfl, ok44, md45, hpo46⟩ := hq
      obtain ⟨g43, rfl⟩ : ∃ g, S1 = sv_sts (sv_sts S [68, 69, 70] g2) [68] g := ⟨_, md45.eq⟩
      show sv_T sm_XS sm_cs sm_L sm_sh 2 (q_addString p1 p2 S) 215 39 [(0, .ref 0), (1, sv_I p1), (2, sv_I p2), (3, sv_I (647790 : Int))] [] (sv_sts (sv_sts S [68, 69, 70] g2) [68] g43)
      have md47 : sv_mod [68, 69, 70] S (sv_sts (sv_sts S [68, 69, 70] g2) [68] g43) := sv_mod.sts md6 (by decide)
      have h := h g43 hpo46
      refine sv_aload_n hM dX12_addString_39 rfl rfl ?_
      refine sv_iload_n hM dX12_addString_40 rfl rfl ?_
      refine sv_iload_n hM dX12_addString_41 rfl rfl ?_
      obtain ⟨o48, h⟩ := h
      refine sv_callV hM dX12_addString_42 sm_iv_1069 (by decide) (sm_a0 _) rfl rfl (Nat.le_of_ble_eq_true rfl) sm_h208 (Nat.le_of_ble_eq_true rfl) (Nat.le_of_ble_eq_true rfl) (F' := 1) (Nat.le_of_ble_eq_true rfl) rfl (t_join (647790 : Int) p1 (sv_sts (sv_sts S [68, 69, 70] g2) [68] g43) ok44 (⟨by decide, by decide⟩ : sv_R (647790 : Int)) hp1 o48) (fun v S1 hq => ?_)
      obtain ⟨r53, rfl, hr53, ok50, md51, hpo52⟩ := hq
      obtain ⟨g49, rfl⟩ : ∃ g, S1 = sv_sts (sv_sts (sv_sts S [68, 69, 70] g2) [68] g43) [68, 69, 70] g := ⟨_, md51.eq⟩
      show sv_T sm_XS sm_cs sm_L sm_sh 2 (q_addString p1 p2 S) 215 45 [(0, .ref 0), (1, sv_I p1), (2, sv_I p2), (3, sv_I (647790 : Int))] [sv_I r53] (sv_sts (sv_sts (sv_sts S [68, 69, 70] g2) [68] g43) [68, 69, 70] g49)
      have md54 : sv_mod [68, 69, 70] S (sv_sts (sv_sts (sv_sts S [68, 69, 70] g2) [68] g43) [68, 69, 70] g49) := sv_mod.sts md47 (by decide)
      have h := h r53 hr53 g49 hpo52
      refine sv_istore hM dX12_addString_45 (by decide) rfl ?_
      show sv_T sm_XS sm_cs sm_L sm_sh 2 (q_addString p1 p2 S) 215 47 [(0, .ref 0), (1, sv_I p1), (2, sv_I p2), (3, sv_I (647790 : Int)), (4, sv_I r53)] [] (sv_sts (sv_sts (sv_sts S [68, 69, 70] g2) [68] g43) [68, 69, 70] g49)
      exact sv_vret hM dX12_addString_47 rfl ⟨rfl, ok50, md54, h⟩
def q_addLabel (p1 : Int) (p2 : Int) (S : sv_S) : Option Value → sv_S → Prop := fun v S' => v = none ∧ sm_ok S' ∧ sv_mod [69, 70] S S' ∧ (sm_pt (S' 68) (S' 69) (S' 70) = sm_pt (S 68) (S 69) (S 70))
theorem la_addLabel_0 {x0 : Int} (h0 : 635639 ≤ x0) (h1 : x0 < 647800) : 0 ≤ x0 ∧ x0 < 647800 := by omega
set_option maxHeartbeats 2000000 in
theorem f_addLabel : ∀ (p1 : Int) (p2 : Int) (S : sv_S), sm_ok S → sv_R p1 → sv_R p2 → (635639 ≤ p1 ∧ p1 < 647800) → ((((64 : Int) ≤ p2) → (0 ≤ p1 ∧ p1 < 647800) ∧ (sv_RL (S 70 p1) → (∀ r3 : Int, sv_RL r3 → (∀ r4 : Int, sv_RL r4 → (sm_pt (S 68) (S 69) (fun i' : Int => if i' = p1 then r4 else (S 70) i') = sm_pt (S 68) (S 69) (S 70)))))) ∧ ((¬ ((64 : Int) ≤ p2)) → (0 ≤ p1 ∧ p1 < 647800) ∧ (sv_RL (S 69 p1) → (∀ r9 : Int, sv_RL r9 → (∀ r10 : Int, sv_RL r10 → (sm_pt (S 68) (fun i' : Int => if i' = p1 then r10 else (S 69) i') (S 70) = sm_pt (S 68) (S 69) (S 70))))))) := by
  intro p1
  intro p2
  intro S
  intro h1_
  intro h2_
  intro h3_
  rintro ⟨h4_, h5_⟩
  refine ⟨?_, ?_⟩
  · skip
    intro h6_
    refine ⟨(la_addLabel_0 h4_ h5_), ?_⟩
    intro h7_
    intro r3
    intro h8_
    intro r4
    intro h9_
    have e10_ : sm_pt (S 68) (S 69) (fun i' : Int => (if i' = p1 then r4 else (S 70) i')) = sm_pt (S 68) (S 69) (S 70) := sm_pt_H h4_
    exact e10_
  intro h11_
  refine ⟨(la_addLabel_0 h4_ h5_), ?_⟩
  intro h12_
  intro r9
  intro h13_
  intro r10
  intro h14_
  have e15_ : sm_pt (S 68) (fun i' : Int => (if i' = p1 then r10 else (S 69) i')) (S 70) = sm_pt (S 68) (S 69) (S 70) := sm_pt_L h4_
  exact e15_
set_option maxRecDepth 8000 in
set_option maxHeartbeats 2000000 in
theorem t_addLabel : ∀ (p1 : Int) (p2 : Int) (S : sv_S), sm_ok S → sv_R p1 → sv_R p2 → (635639 ≤ p1 ∧ p1 < 647800) → sv_T sm_XS sm_cs sm_L sm_sh 0 (q_addLabel p1 p2 S) 216 0 (lv_args 0 [.ref 0, sv_I p1, sv_I p2]) [] S := by
  intro p1 p2 S hok hp1 hp2 hpre
  have h := f_addLabel p1 p2 S hok hp1 hp2 hpre
  have hM := sm_h216
  show sv_T sm_XS sm_cs sm_L sm_sh 0 (q_addLabel p1 p2 S) 216 0 [(0, .ref 0), (1, sv_I p1), (2, sv_I p2)] [] S
  refine sv_iload_n hM dX12_addLabel_0 rfl rfl ?_
  refine sv_bipush (d := (64 : Int)) hM dX12_addLabel_1 rfl rfl ?_
  refine sv_icmp_ge hM dX12_addLabel_3 hp2 (⟨by decide, by decide⟩ : sv_R (64 : Int)) (t := 25) rfl rfl (fun hc => ?_) (fun hc => ?_)
  · have h := h.1 (hc)
    refine sv_aload_n hM dX12_addLabel_25 rfl rfl ?_
    refine sv_getA hM dX12_addLabel_26 sm_fl_223 (sm_a0 _) sm_k118 rfl ?_
    refine sv_iload_n hM dX12_addLabel_29 rfl rfl ?_
    refine sv_aload_n hM dX12_addLabel_30 rfl rfl ?_
    refine sv_getA hM dX12_addLabel_31 sm_fl_223 (sm_a0 _) sm_k118 rfl ?_
    refine sv_iload_n hM dX12_addLabel_34 rfl rfl ?_
    obtain ⟨o1, h⟩ := h
    have k2 : sv_RL (S 70 p1) := sm_okJ hok sm_r70 p1
    have h := h k2
    refine sv_lald hM dX12_addLabel_35 (sm_a70 _) (by decide) o1.1 o1.2 rfl (x := (S 70 p1)) rfl ?_
    refine sv_lconst (d := (1 : Int)) hM dX12_addLabel_36 rfl rfl ?_
    refine sv_iload_n hM dX12_addLabel_37 rfl rfl ?_
    refine sv_bipush (d := (64 : Int)) hM dX12_addLabel_38 rfl rfl ?_
    refine sv_isub hM dX12_addLabel_40 rfl ?_
    refine sv_anyL hM dX12_addLabel_41 rfl rfl (fun r3 hr3 _ => ?_)
    have h := h r3 hr3
    refine sv_anyL hM dX12_addLabel_42 rfl rfl (fun r4 hr4 _ => ?_)
    have h := h r4 hr4
    refine sv_last sm_X hM dX12_addLabel_43 (sm_a70 _) (by decide) o1.1 o1.2 rfl ?_
    have ok5 : sm_ok (sv_up S 70 p1 r4) := sm_upJ hok sm_r70 hr4
    have md6 : sv_mod [69, 70] S (sv_up S 70 p1 r4) := sv_mod.up sv_mod.rf (by decide)
    exact sv_vret hM dX12_addLabel_44 rfl ⟨rfl, ok5, md6, h⟩
  · have h := h.2 (hc)
    refine sv_aload_n hM dX12_addLabel_6 rfl rfl ?_
    refine sv_getA hM dX12_addLabel_7 sm_fl_220 (sm_a0 _) sm_k117 rfl ?_
    refine sv_iload_n hM dX12_addLabel_10 rfl rfl ?_
    refine sv_aload_n hM dX12_addLabel_11 rfl rfl ?_
    refine sv_getA hM dX12_addLabel_12 sm_fl_220 (sm_a0 _) sm_k117 rfl ?_
    refine sv_iload_n hM dX12_addLabel_15 rfl rfl ?_
    obtain ⟨o7, h⟩ := h
    have k8 : sv_RL (S 69 p1) := sm_okJ hok sm_r69 p1
    have h := h k8
    refine sv_lald hM dX12_addLabel_16 (sm_a69 _) (by decide) o7.1 o7.2 rfl (x := (S 69 p1)) rfl ?_
    refine sv_lconst (d := (1 : Int)) hM dX12_addLabel_17 rfl rfl ?_
    refine sv_iload_n hM dX12_addLabel_18 rfl rfl ?_
    refine sv_anyL hM dX12_addLabel_19 rfl rfl (fun r9 hr9 _ => ?_)
    have h := h r9 hr9
    refine sv_anyL hM dX12_addLabel_20 rfl rfl (fun r10 hr10 _ => ?_)
    have h := h r10 hr10
    refine sv_last sm_X hM dX12_addLabel_21 (sm_a69 _) (by decide) o7.1 o7.2 rfl ?_
    have ok11 : sm_ok (sv_up S 69 p1 r10) := sm_upJ hok sm_r69 hr10
    have md12 : sv_mod [69, 70] S (sv_up S 69 p1 r10) := sv_mod.up sv_mod.rf (by decide)
    refine sv_goto hM dX12_addLabel_22 (pc' := 44) rfl ?_
    exact sv_vret hM dX12_addLabel_44 rfl ⟨rfl, ok11, md12, h⟩
def q_isIn (p0 : Int) (p2 : Int) (p4 : Int) (S : sv_S) : Option Value → sv_S → Prop := fun v S' => ∃ r : Int, v = some (sv_I r) ∧ sv_R r ∧ sm_ok S' ∧ sv_mod [] S S' ∧ (r = sm_in p0 p2 p4 ∧ (r = 0 ∨ r = 1))
theorem la_isIn_0 {x0 : Int} (h0 : 64 ≤ x0) : ¬ x0 < 64 := by omega
theorem la_isIn_1 {x0 x1 x2 : Int} (h0 : x0 = x1) (h1 : 0 ≤ x1) (h2 : x1 ≤ 1) (h3 : x0 = x2) : ¬ x2 = 1 → 0 = x1 ∧ ((0 : Int) = 0 ∨ (0 : Int) = 1) := by omega
theorem la_isIn_2 {x0 x1 x2 : Int} (h0 : x0 = x1) (h1 : x1 ≤ 1) (h2 : x0 = x2) (h3 : ¬ ¬ x2 = 1) : 1 = x1 := by omega
theorem la_isIn_3 : (1 : Int) = 0 ∨ (1 : Int) = 1 := by omega
theorem la_isIn_4 {x0 : Int} (h0 : ¬ 64 ≤ x0) : x0 < 64 := by omega
theorem la_isIn_5 {x0 : Int} (h0 : ¬ 64 ≤ x0) : ¬ ¬ x0 < 64 := by omega
set_option maxHeartbeats 2000000 in
theorem f_isIn : ∀ (p0 : Int) (p2 : Int) (p4 : Int) (S : sv_S), sm_ok S → sv_RL p0 → sv_RL p2 → sv_R p4 → (0 ≤ p4 ∧ p4 < 128) → ((((64 : Int) ≤ p4) → (∀ r1 : Int, sv_RL r1 → sm_shr p2 (p4 - (64 : Int)) = r1 → ((p4 < 64 → 0 ≤ p4 → sm_shr p0 p4 = r1 → sm_land r1 1 = sm_in p0 p2 p4) → ((¬ p4 < 64 → p4 < 128 → sm_shr p2 (p4 - 64) = r1 → sm_land r1 1 = sm_in p0 p2 p4) → ((0 ≤ sm_in p0 p2 p4 ∧ sm_in p0 p2 p4 ≤ 1) → (∀ r5 : Int, sv_RL r5 → sm_land r1 (1 : Int) = r5 → (((¬ r5 = (1 : Int)) → ((0 : Int) = sm_in p0 p2 p4 ∧ ((0 : Int) = 0 ∨ (0 : Int) = 1))) ∧ ((¬ (¬ r5 = (1 : Int))) → ((1 : Int) = sm_in p0 p2 p4 ∧ ((1 : Int) = 0 ∨ (1 : Int) = 1)))))))))) ∧ ((¬ ((64 : Int) ≤ p4)) → (∀ r6 : Int, sv_RL r6 → sm_shr p0 p4 = r6 → ((p4 < 64 → 0 ≤ p4 → sm_shr p0 p4 = r6 → sm_land r6 1 = sm_in p0 p2 p4) → ((¬ p4 < 64 → p4 < 128 → sm_shr p2 (p4 - 64) = r6 → sm_land r6 1 = sm_in p0 p2 p4) → ((0 ≤ sm_in p0 p2 p4 ∧ sm_in p0 p2 p4 ≤ 1) → (∀ r10 : Int, sv_RL r10 → sm_land r6 (1 : Int) = r10 → (((¬ r10 = (1 : Int)) → ((0 : Int) = sm_in p0 p2 p4 ∧ ((0 : Int) = 0 ∨ (0 : Int) = 1))) ∧ ((¬ (¬ r10 = (1 : Int))) → ((1 : Int) = sm_in p0 p2 p4 ∧ ((1 : Int) = 0 ∨ (1 : Int) = 1))))))))))) := by
  intro p0
  intro p2
  intro p4
  intro S
  intro h1_
  intro h2_
  intro h3_
  intro h4_
  rintro ⟨h5_, h6_⟩
  refine ⟨?_, ?_⟩
  · skip
    intro h7_
    intro r1
    intro h8_
    intro h9_
    intro h10_
    intro h11_
    have h12_ := (h11_ (la_isIn_0 h7_))
    have h13_ := (h12_ h6_)
    have h14_ := (h13_ h9_)
    rintro ⟨h15_, h16_⟩
    intro r5
    intro h17_
    intro h18_
    refine ⟨(la_isIn_1 h14_ h15_ h16_ h18_), ?_⟩
    intro h19_
    refine ⟨(la_isIn_2 h14_ h16_ h18_ h19_), ?_⟩
    exact la_isIn_3
  intro h20_
  intro r6
  intro h21_
  intro h22_
  intro h23_
  have h24_ := (h23_ (la_isIn_4 h20_))
  have h25_ := (h24_ h5_)
  have h26_ := (h25_ h22_)
  intro h27_
  rintro ⟨h28_, h29_⟩
  intro r10
  intro h30_
  intro h31_
  refine ⟨(la_isIn_1 h26_ h28_ h29_ h31_), ?_⟩
  intro h32_
  refine ⟨(la_isIn_2 h26_ h29_ h31_ h32_), ?_⟩
  exact la_isIn_3
set_option maxRecDepth 8000 in
set_option maxHeartbeats 2000000 in
theorem t_isIn : ∀ (p0 : Int) (p2 : Int) (p4 : Int) (S : sv_S), sm_ok S → sv_RL p0 → sv_RL p2 → sv_R p4 → (0 ≤ p4 ∧ p4 < 128) → sv_T sm_XS sm_cs sm_L sm_sh 0 (q_isIn p0 p2 p4 S) 217 0 (lv_args 0 [sv_L p0, sv_L p2, sv_I p4]) [] S := by
  intro p0 p2 p4 S hok hp0 hp2 hp4 hpre
  have h := f_isIn p0 p2 p4 S hok hp0 hp2 hp4 hpre
  have hM := sm_h217
  show sv_T sm_XS sm_cs sm_L sm_sh 0 (q_isIn p0 p2 p4 S) 217 0 [(0, sv_L p0), (2, sv_L p2), (4, sv_I p4)] [] S
  refine sv_iload hM dX12_isIn_0 rfl rfl ?_
  refine sv_bipush (d := (64 : Int)) hM dX12_isIn_2 rfl rfl ?_
  refine sv_icmp_ge hM dX12_isIn_4 hp4 (⟨by decide, by decide⟩ : sv_R (64 : Int)) (t := 14) rfl rfl (fun hc => ?_) (fun hc => ?_)
  · have h := h.1 (hc)
    refine sv_lload_n hM dX12_isIn_14 rfl rfl ?_
    refine sv_iload hM dX12_isIn_15 rfl rfl ?_
    refine sv_bipush (d := (64 : Int)) hM dX12_isIn_17 rfl rfl ?_
    refine sv_isub hM dX12_isIn_19 rfl ?_
    refine sv_anyL hM dX12_isIn_20 rfl rfl (fun r1 hr1 er1 => ?_)
    have h := h r1 hr1 er1
    have k2 : (p4 < 64 → 0 ≤ p4 → sm_shr p0 p4 = r1 → sm_land r1 1 = sm_in p0 p2 p4) := sm_isIn1
    have h := h k2
    have k3 : (¬ p4 < 64 → p4 < 128 → sm_shr p2 (p4 - 64) = r1 → sm_land r1 1 = sm_in p0 p2 p4) := sm_isIn2
    have h := h k3
    have k4 : (0 ≤ sm_in p0 p2 p4 ∧ sm_in p0 p2 p4 ≤ 1) := sm_in_r
    have h := h k4
    refine sv_lconst (d := (1 : Int)) hM dX12_isIn_21 rfl rfl ?_
    refine sv_anyL hM dX12_isIn_22 rfl rfl (fun r5 hr5 er5 => ?_)
    have h := h r5 hr5 er5
    refine sv_lconst (d := (1 : Int)) hM dX12_isIn_23 rfl rfl ?_
    refine sv_lcmp hM dX12_isIn_24 hr5 (⟨by decide, by decide⟩ : sv_RL (1 : Int)) rfl ?_
    refine sv_cond_ne hM dX12_isIn_25 sv_Rcmp (t := 32) rfl rfl (fun hc => ?_) (fun hc => ?_)
    · have h := h.1 ((sv_cmp_ne).mp hc)
      refine sv_iconst (d := (0 : Int)) hM dX12_isIn_32 rfl rfl ?_
      exact sv_iret hM dX12_isIn_33 rfl (sv_nz (⟨by decide, by decide⟩ : 0 ≤ (0 : Int) ∧ (0 : Int) ≤ 1)) ⟨(0 : Int), rfl, sv_R01 (⟨by decide, by decide⟩ : 0 ≤ (0 : Int) ∧ (0 : Int) ≤ 1), hok, sv_mod.rf, h⟩
    · have h := h.2 (fun q => hc ((sv_cmp_ne).mpr q))
      refine sv_iconst (d := (1 : Int)) hM dX12_isIn_28 rfl rfl ?_
      refine sv_goto hM dX12_isIn_29 (pc' := 33) rfl ?_
      exact sv_iret hM dX12_isIn_33 rfl (sv_nz (⟨by decide, by decide⟩ : 0 ≤ (1 : Int) ∧ (1 : Int) ≤ 1)) ⟨(1 : Int), rfl, sv_R01 (⟨by decide, by decide⟩ : 0 ≤ (1 : Int) ∧ (1 : Int) ≤ 1), hok, sv_mod.rf, h⟩
  · have h := h.2 (hc)
    refine sv_lload_n hM dX12_isIn_7 rfl rfl ?_
    refine sv_iload hM dX12_isIn_8 rfl rfl ?_
    refine sv_anyL hM dX12_isIn_10 rfl rfl (fun r6 hr6 er6 => ?_)
    have h := h r6 hr6 er6
    refine sv_goto hM dX12_isIn_11 (pc' := 21) rfl ?_
    have k7 : (p4 < 64 → 0 ≤ p4 → sm_shr p0 p4 = r6 → sm_land r6 1 = sm_in p0 p2 p4) := sm_isIn1
    have h := h k7
    have k8 : (¬ p4 < 64 → p4 < 128 → sm_shr p2 (p4 - 64) = r6 → sm_land r6 1 = sm_in p0 p2 p4) := sm_isIn2
    have h := h k8
    have k9 : (0 ≤ sm_in p0 p2 p4 ∧ sm_in p0 p2 p4 ≤ 1) := sm_in_r
    have h := h k9
    refine sv_lconst (d := (1 : Int)) hM dX12_isIn_21 rfl rfl ?_
    refine sv_anyL hM dX12_isIn_22 rfl rfl (fun r10 hr10 er10 => ?_)
    have h := h r10 hr10 er10
    refine sv_lconst (d := (1 : Int)) hM dX12_isIn_23 rfl rfl ?_
    refine sv_lcmp hM dX12_isIn_24 hr10 (⟨by decide, by decide⟩ : sv_RL (1 : Int)) rfl ?_
    refine sv_cond_ne hM dX12_isIn_25 sv_Rcmp (t := 32) rfl rfl (fun hc => ?_) (fun hc => ?_)
    · have h := h.1 ((sv_cmp_ne).mp hc)
      refine sv_iconst (d := (0 : Int)) hM dX12_isIn_32 rfl rfl ?_
      exact sv_iret hM dX12_isIn_33 rfl (sv_nz (⟨by decide, by decide⟩ : 0 ≤ (0 : Int) ∧ (0 : Int) ≤ 1)) ⟨(0 : Int), rfl, sv_R01 (⟨by decide, by decide⟩ : 0 ≤ (0 : Int) ∧ (0 : Int) ≤ 1), hok, sv_mod.rf, h⟩
    · have h := h.2 (fun q => hc ((sv_cmp_ne).mpr q))
      refine sv_iconst (d := (1 : Int)) hM dX12_isIn_28 rfl rfl ?_
      refine sv_goto hM dX12_isIn_29 (pc' := 33) rfl ?_
      exact sv_iret hM dX12_isIn_33 rfl (sv_nz (⟨by decide, by decide⟩ : 0 ≤ (1 : Int) ∧ (1 : Int) ≤ 1)) ⟨(1 : Int), rfl, sv_R01 (⟨by decide, by decide⟩ : 0 ≤ (1 : Int) ∧ (1 : Int) ≤ 1), hok, sv_mod.rf, h⟩
def q_addValue (p1 : Int) (p2 : Int) (p3 : Int) (S : sv_S) : Option Value → sv_S → Prop := fun v S' => v = none ∧ sm_ok S' ∧ sv_mod [68, 69, 70] S S' ∧ (sm_pt (S' 68) (S' 69) (S' 70) = sm_pt (S 68) (S 69) (S 70))
theorem la_addValue_0 {x0 : Int} (h0 : 5 ≤ x0) (h1 : ¬ x0 = 5) : 5 < x0 := by omega
theorem la_addValue_1 {x0 : Int} (h0 : 5 < x0) : 6 ≤ x0 := by omega
theorem la_addValue_2 {x0 : Int} (h0 : 6 ≤ x0) (h1 : ¬ x0 = 6) : 6 < x0 := by omega
theorem la_addValue_3 {x0 : Int} (h0 : 635639 ≤ x0) (h1 : x0 < 647790) : 635639 ≤ x0 ∧ x0 < 647800 := by omega
theorem la_addValue_4 {x0 : Int} (h0 : 635639 ≤ x0) (h1 : x0 < 647790) : 635639 ≤ x0 ∧ x0 < 647790 := by omega
set_option maxHeartbeats 2000000 in
theorem f_addValue : ∀ (p1 : Int) (p2 : Int) (p3 : Int) (S : sv_S), sm_ok S → sv_R p1 → sv_R p2 → sv_R p3 → (635639 ≤ p1 ∧ p1 < 647790) → ((((5 : Int) ≤ p2) → (((¬ p2 = (5 : Int)) → (((¬ p2 = (6 : Int)) → (635639 ≤ p1 ∧ p1 < 647800) ∧ (∀ g2 : sv_S, (sm_pt (S 68) (g2 69) (g2 70) = sm_pt (S 68) (S 69) (S 70)) → (sm_pt (S 68) (g2 69) (g2 70) = sm_pt (S 68) (S 69) (S 70)))) ∧ ((¬ (¬ p2 = (6 : Int))) → (635639 ≤ p1 ∧ p1 < 647790) ∧ (∀ g8 : sv_S, (sm_pt (g8 68) (g8 69) (g8 70) = sm_pt (S 68) (S 69) (S 70)) → (sm_pt (g8 68) (g8 69) (g8 70) = sm_pt (S 68) (S 69) (S 70)))))) ∧ ((¬ (¬ p2 = (5 : Int))) → (635639 ≤ p1 ∧ p1 < 647790) ∧ (∀ g14 : sv_S, (sm_pt (g14 68) (g14 69) (g14 70) = sm_pt (S 68) (S 69) (S 70)) → (sm_pt (g14 68) (g14 69) (g14 70) = sm_pt (S 68) (S 69) (S 70)))))) ∧ ((¬ ((5 : Int) ≤ p2)) → (∀ r19 : Int, sv_R r19 → (635639 ≤ p1 ∧ p1 < 647790) ∧ (∀ g21 : sv_S, (sm_pt (g21 68) (g21 69) (g21 70) = sm_pt (S 68) (S 69) (S 70)) → (sm_pt (g21 68) (g21 69) (g21 70) = sm_pt (S 68) (S 69) (S 70)))))) := by
  intro p1
  intro p2
  intro p3
  intro S
  intro h1_
  intro h2_
  intro h3_
  intro h4_
  rintro ⟨h5_, h6_⟩
  refine ⟨?_, ?_⟩
  · skip
    intro h7_
    refine ⟨?_, ?_⟩
    · skip
      intro h8_
      refine ⟨?_, ?_⟩
      · skip
        intro h9_
        refine ⟨(la_addValue_3 h5_ h6_), ?_⟩
        intro g2
        intro h10_
        exact h10_
      intro h11_
      refine ⟨(la_addValue_4 h5_ h6_), ?_⟩
      intro g8
      intro h12_
      exact h12_
    intro h13_
    refine ⟨(la_addValue_4 h5_ h6_), ?_⟩
    intro g14
    intro h14_
    exact h14_
  intro h15_
  intro r19
  intro h16_
  refine ⟨(la_addValue_4 h5_ h6_), ?_⟩
  intro g21
  intro h17_
  exact h17_
set_option maxRecDepth 8000 in
set_option maxHeartbeats 2000000 in
theorem t_addValue : ∀ (p1 : Int) (p2 : Int) (p3 : Int) (S : sv_S), sm_ok S → sv_R p1 → sv_R p2 → sv_R p3 → (635639 ≤ p1 ∧ p1 < 647790) → sv_T sm_XS sm_cs sm_L sm_sh 3 (q_addValue p1 p2 p3 S) 218 0 (lv_args 0 [.ref 0, sv_I p1, sv_I p2, sv_I p3]) [] S := by
  intro p1 p2 p3 S hok hp1 hp2 hp3 hpre
  have h := f_addValue p1 p2 p3 S hok hp1 hp2 hp3 hpre
  have hM := sm_h218
  show sv_T sm_XS sm_cs sm_L sm_sh 3 (q_addValue p1 p2 p3 S) 218 0 [(0, .ref 0), (1, sv_I p1), (2, sv_I p2), (3, sv_I p3)] [] S
  refine sv_iload_n hM dX12_addValue_0 rfl rfl ?_
  refine sv_iconst (d := (5 : Int)) hM dX12_addValue_1 rfl rfl ?_
  refine sv_icmp_ge hM dX12_addValue_2 hp2 (⟨by decide, by decide⟩ : sv_R (5 : Int)) (t := 16) rfl rfl (fun hc => ?_) (fun hc => ?_)
  · have h := h.1 (hc)
    refine sv_iload_n hM dX12_addValue_16 rfl rfl ?_
    refine sv_iconst (d := (5 : Int)) hM dX12_addValue_17 rfl rfl ?_
    refine sv_icmp_ne hM dX12_addValue_18 hp2 (⟨by decide, by decide⟩ : sv_R (5 : Int)) (t := 30) rfl rfl (fun hc => ?_) (fun hc => ?_)
    · have h := h.1 (hc)
      refine sv_iload_n hM dX12_addValue_30 rfl rfl ?_
      refine sv_bipush (d := (6 : Int)) hM dX12_addValue_31 rfl rfl ?_
      refine sv_icmp_ne hM dX12_addValue_33 hp2 (⟨by decide, by decide⟩ : sv_R (6 : Int)) (t := 45) rfl rfl (fun hc => ?_) (fun hc => ?_)
      · have h := h.1 (hc)
        refine sv_aload_n hM dX12_addValue_45 rfl rfl ?_
        refine sv_iload_n hM dX12_addValue_46 rfl rfl ?_
        refine sv_iload_n hM dX12_addValue_47 rfl rfl ?_
        obtain ⟨o1, h⟩ := h
        refine sv_callV hM dX12_addValue_48 sm_iv_1081 (by decide) (sm_a0 _) rfl rfl (Nat.le_of_ble_eq_true rfl) sm_h216 (Nat.le_of_ble_eq_true rfl) (Nat.le_of_ble_eq_true rfl) (F' := 0) (Nat.le_of_ble_eq_true rfl) rfl (t_addLabel p1 p3 S hok hp1 hp3 o1) (fun v S1 hq => ?_)
        obtain ⟨rfl, ok3, md4, hpo5⟩ := hq
        obtain ⟨g2, rfl⟩ : ∃ g, S1 = sv_sts S [69, 70] g := ⟨_, md4.eq⟩
        show sv_T sm_XS sm_cs sm_L sm_sh 3 (q_addValue p1 p2 p3 S) 218 51 [(0, .ref 0), (1, sv_I p1), (2, sv_I p2), (3, sv_I p3)] [] (sv_sts S [69, 70] g2)
        have md6 : sv_mod [68, 69, 70] S (sv_sts S [69, 70] g2) := sv_mod.sts sv_mod.rf (by decide)
        have h := h g2 hpo5
        exact sv_vret hM dX12_addValue_51 rfl ⟨rfl, ok3, md6, h⟩
      · have h := h.2 (hc)
        refine sv_aload_n hM dX12_addValue_36 rfl rfl ?_
        refine sv_iload_n hM dX12_addValue_37 rfl rfl ?_
        refine sv_iload_n hM dX12_addValue_38 rfl rfl ?_
        obtain ⟨o7, h⟩ := h
        refine sv_callV hM dX12_addValue_39 sm_iv_1078 (by decide) (sm_a0 _) rfl rfl (Nat.le_of_ble_eq_true rfl) sm_h215 (Nat.le_of_ble_eq_true rfl) (Nat.le_of_ble_eq_true rfl) (F' := 2) (Nat.le_of_ble_eq_true rfl) rfl (t_addString p1 p3 S hok hp1 hp3 o7) (fun v S1 hq => ?_)
        obtain ⟨rfl, ok9, md10, hpo11⟩ := hq
        obtain ⟨g8, rfl⟩ : ∃ g, S1 = sv_sts S [68, 69, 70] g := ⟨_, md10.eq⟩
        show sv_T sm_XS sm_cs sm_L sm_sh 3 (q_addValue p1 p2 p3 S) 218 42 [(0, .ref 0), (1, sv_I p1), (2, sv_I p2), (3, sv_I p3)] [] (sv_sts S [68, 69, 70] g8)
        have md12 : sv_mod [68, 69, 70] S (sv_sts S [68, 69, 70] g8) := sv_mod.sts sv_mod.rf (by decide)
        have h := h g8 hpo11
        refine sv_goto hM dX12_addValue_42 (pc' := 51) rfl ?_
        exact sv_vret hM dX12_addValue_51 rfl ⟨rfl, ok9, md12, h⟩
    · have h := h.2 (hc)
      refine sv_aload_n hM dX12_addValue_21 rfl rfl ?_
      refine sv_iload_n hM dX12_addValue_22 rfl rfl ?_
      refine sv_iload_n hM dX12_addValue_23 rfl rfl ?_
      obtain ⟨o13, h⟩ := h
      refine sv_callV hM dX12_addValue_24 sm_iv_1075 (by decide) (sm_a0 _) rfl rfl (Nat.le_of_ble_eq_true rfl) sm_h214 (Nat.le_of_ble_eq_true rfl) (Nat.le_of_ble_eq_true rfl) (F' := 2) (Nat.le_of_ble_eq_true rfl) rfl (t_addNumber p1 p3 S hok hp1 hp3 o13) (fun v S1 hq => ?_)
      obtain ⟨rfl, ok15, md16, hpo17⟩ := hq
      obtain ⟨g14, rfl⟩ : ∃ g, S1 = sv_sts S [68, 69, 70] g := ⟨_, md16.eq⟩
      show sv_T sm_XS sm_cs sm_L sm_sh 3 (q_addValue p1 p2 p3 S) 218 27 [(0, .ref 0), (1, sv_I p1), (2, sv_I p2), (3, sv_I p3)] [] (sv_sts S [68, 69, 70] g14)
      have md18 : sv_mod [68, 69, 70] S (sv_sts S [68, 69, 70] g14) := sv_mod.sts sv_mod.rf (by decide)
      have h := h g14 hpo17
      refine sv_goto hM dX12_addValue_27 (pc' := 51) rfl ?_
      exact sv_vret hM dX12_addValue_51 rfl ⟨rfl, ok15, md18, h⟩
  · have h := h.2 (hc)
    refine sv_aload_n hM dX12_addValue_5 rfl rfl ?_
    refine sv_iload_n hM dX12_addValue_6 rfl rfl ?_
    refine sv_iconst (d := (1 : Int)) hM dX12_addValue_7 rfl rfl ?_
    refine sv_iload_n hM dX12_addValue_8 rfl rfl ?_
    refine sv_anyI hM dX12_addValue_9 rfl rfl (fun r19 hr19 _ => ?_)
    have h := h r19 hr19
    obtain ⟨o20, h⟩ := h
    refine sv_callV hM dX12_addValue_10 sm_iv_1072 (by decide) (sm_a0 _) rfl rfl (Nat.le_of_ble_eq_true rfl) sm_h213 (Nat.le_of_ble_eq_true rfl) (Nat.le_of_ble_eq_true rfl) (F' := 2) (Nat.le_of_ble_eq_true rfl) rfl (t_addSort p1 r19 S hok hp1 hr19 o20) (fun v S1 hq => ?_)
    obtain ⟨rfl, ok22, md23, hpo24⟩ := hq
    obtain ⟨g21, rfl⟩ : ∃ g, S1 = sv_sts S [68, 69, 70] g := ⟨_, md23.eq⟩
    show sv_T sm_XS sm_cs sm_L sm_sh 3 (q_addValue p1 p2 p3 S) 218 13 [(0, .ref 0), (1, sv_I p1), (2, sv_I p2), (3, sv_I p3)] [] (sv_sts S [68, 69, 70] g21)
    have md25 : sv_mod [68, 69, 70] S (sv_sts S [68, 69, 70] g21) := sv_mod.sts sv_mod.rf (by decide)
    have h := h g21 hpo24
    refine sv_goto hM dX12_addValue_13 (pc' := 51) rfl ?_
    exact sv_vret hM dX12_addValue_51 rfl ⟨rfl, ok22, md25, h⟩
def q_sortOfAlone (p1 : Int) (S : sv_S) : Option Value → sv_S → Prop := fun v S' => ∃ r : Int, v = some (sv_I r) ∧ sv_R r ∧ sm_ok S' ∧ sv_mod [] S S' ∧ (0 ≤ r ∧ r ≤ 6 ∧ (r = 6 → sm_iand ((S' 68 p1) % 1024) (-513) = 128))
theorem la_sortOfAlone_0 {x0 : Int} (h0 : 0 ≤ x0) (h1 : x0 < 647800) : 0 ≤ x0 ∧ x0 < 647800 := by omega
theorem la_sortOfAlone_1 {x0 x1 : Int} : ¬ x0 = 8 → (0 : Int) ≤ 4 ∧ (4 : Int) ≤ 6 ∧ ((4 : Int) = 6 → x1 = 128) := by omega
theorem la_sortOfAlone_2 {x0 : Int} (h0 : ¬ ¬ x0 = 8) : x0 ≤ 32 := by omega
theorem la_sortOfAlone_3 {x0 : Int} (h0 : x0 ≤ 32) (h1 : ¬ x0 = 32) : x0 < 32 := by omega
theorem la_sortOfAlone_4 {x0 : Int} (h0 : ¬ ¬ x0 = 8) : x0 ≤ 128 := by omega
theorem la_sortOfAlone_5 {x0 : Int} (h0 : x0 ≤ 128) (h1 : ¬ x0 = 128) : x0 < 128 := by omega
theorem la_sortOfAlone_6 {x0 : Int} (h0 : ¬ ¬ x0 = 8) : 1 ≤ x0 := by omega
theorem la_sortOfAlone_7 {x0 : Int} (h0 : 1 ≤ x0) (h1 : ¬ x0 = 1) : 1 < x0 := by omega
theorem la_sortOfAlone_8 {x0 : Int} (h0 : ¬ ¬ x0 = 8) : 2 ≤ x0 := by omega
theorem la_sortOfAlone_9 {x0 : Int} (h0 : 2 ≤ x0) (h1 : ¬ x0 = 2) : 2 < x0 := by omega
theorem la_sortOfAlone_10 {x0 : Int} (h0 : ¬ ¬ x0 = 8) : 4 ≤ x0 := by omega
theorem la_sortOfAlone_11 {x0 : Int} (h0 : 4 ≤ x0) (h1 : ¬ x0 = 4) : 4 < x0 := by omega
theorem la_sortOfAlone_12 : (0 : Int) ≤ 3 := by omega
theorem la_sortOfAlone_13 : (3 : Int) ≤ 6 := by omega
theorem la_sortOfAlone_14 {x0 : Int} (h0 : (3 : Int) = 6) : x0 = 128 := by omega
theorem la_sortOfAlone_15 {x0 : Int} (h0 : ¬ ¬ x0 = 4) : x0 ≤ 32 := by omega
theorem la_sortOfAlone_16 {x0 : Int} (h0 : ¬ ¬ x0 = 4) : x0 ≤ 128 := by omega
theorem la_sortOfAlone_17 {x0 : Int} (h0 : ¬ ¬ x0 = 4) : 1 ≤ x0 := by omega
theorem la_sortOfAlone_18 {x0 : Int} (h0 : ¬ ¬ x0 = 4) : 2 ≤ x0 := by omega
theorem la_sortOfAlone_19 : (0 : Int) ≤ 2 := by omega
theorem la_sortOfAlone_20 : (2 : Int) ≤ 6 := by omega
theorem la_sortOfAlone_21 {x0 : Int} (h0 : (2 : Int) = 6) : x0 = 128 := by omega
theorem la_sortOfAlone_22 {x0 : Int} (h0 : ¬ ¬ x0 = 2) : x0 ≤ 32 := by omega
theorem la_sortOfAlone_23 {x0 : Int} (h0 : ¬ ¬ x0 = 2) : x0 ≤ 128 := by omega
theorem la_sortOfAlone_24 {x0 : Int} (h0 : ¬ ¬ x0 = 2) : 1 ≤ x0 := by omega
theorem la_sortOfAlone_25 : (0 : Int) ≤ 1 := by omega
theorem la_sortOfAlone_26 : (1 : Int) ≤ 6 := by omega
theorem la_sortOfAlone_27 {x0 : Int} (h0 : (1 : Int) = 6) : x0 = 128 := by omega
theorem la_sortOfAlone_28 {x0 : Int} (h0 : ¬ ¬ x0 = 1) : x0 ≤ 32 := by omega
theorem la_sortOfAlone_29 {x0 : Int} (h0 : ¬ ¬ x0 = 1) : x0 ≤ 128 := by omega
theorem la_sortOfAlone_30 : (0 : Int) ≤ 0 := by omega
theorem la_sortOfAlone_31 : (0 : Int) ≤ 6 := by omega
theorem la_sortOfAlone_32 {x0 : Int} (h0 : (0 : Int) = 6) : x0 = 128 := by omega
theorem la_sortOfAlone_33 {x0 : Int} (h0 : ¬ ¬ x0 = 128) : 32 ≤ x0 := by omega
theorem la_sortOfAlone_34 {x0 : Int} (h0 : 32 ≤ x0) (h1 : ¬ x0 = 32) : 32 < x0 := by omega
theorem la_sortOfAlone_35 : (6 : Int) ≤ 6 := by omega
theorem la_sortOfAlone_36 {x0 x1 : Int} (h0 : x0 = x1) (h1 : ¬ ¬ x1 = 128) : x0 = 128 := by omega
theorem la_sortOfAlone_37 : (0 : Int) ≤ 5 := by omega
theorem la_sortOfAlone_38 : (5 : Int) ≤ 6 := by omega
theorem la_sortOfAlone_39 {x0 : Int} (h0 : (5 : Int) = 6) : x0 = 128 := by omega
set_option maxHeartbeats 2000000 in
theorem f_sortOfAlone : ∀ (p1 : Int) (S : sv_S), sm_ok S → sv_R p1 → (0 ≤ p1 ∧ p1 < 647800) → (0 ≤ p1 ∧ p1 < 647800) ∧ (∀ r6 : Int, sv_R r6 → (sm_iand ((S 68 p1) % 1024) (-513) = r6) → (((¬ r6 = (32 : Int)) → (((¬ r6 = (128 : Int)) → (((¬ r6 = (1 : Int)) → (((¬ r6 = (2 : Int)) → (((¬ r6 = (4 : Int)) → (((¬ r6 = (8 : Int)) → (0 ≤ (4 : Int) ∧ (4 : Int) ≤ 6 ∧ ((4 : Int) = 6 → sm_iand ((S 68 p1) % 1024) (-513) = 128))) ∧ ((¬ (¬ r6 = (8 : Int))) → (0 ≤ (3 : Int) ∧ (3 : Int) ≤ 6 ∧ ((3 : Int) = 6 → sm_iand ((S 68 p1) % 1024) (-513) = 128))))) ∧ ((¬ (¬ r6 = (4 : Int))) → (0 ≤ (2 : Int) ∧ (2 : Int) ≤ 6 ∧ ((2 : Int) = 6 → sm_iand ((S 68 p1) % 1024) (-513) = 128))))) ∧ ((¬ (¬ r6 = (2 : Int))) → (0 ≤ (1 : Int) ∧ (1 : Int) ≤ 6 ∧ ((1 : Int) = 6 → sm_iand ((S 68 p1) % 1024) (-513) = 128))))) ∧ ((¬ (¬ r6 = (1 : Int))) → (0 ≤ (0 : Int) ∧ (0 : Int) ≤ 6 ∧ ((0 : Int) = 6 → sm_iand ((S 68 p1) % 1024) (-513) = 128))))) ∧ ((¬ (¬ r6 = (128 : Int))) → (0 ≤ (6 : Int) ∧ (6 : Int) ≤ 6 ∧ ((6 : Int) = 6 → sm_iand ((S 68 p1) % 1024) (-513) = 128))))) ∧ ((¬ (¬ r6 = (32 : Int))) → (0 ≤ (5 : Int) ∧ (5 : Int) ≤ 6 ∧ ((5 : Int) = 6 → sm_iand ((S 68 p1) % 1024) (-513) = 128))))) := by
  intro p1
  intro S
  intro h1_
  intro h2_
  rintro ⟨h3_, h4_⟩
  refine ⟨(la_sortOfAlone_0 h3_ h4_), ?_⟩
  intro r6
  intro h5_
  intro h6_
  refine ⟨?_, ?_⟩
  · skip
    intro h7_
    refine ⟨?_, ?_⟩
    · skip
      intro h8_
      refine ⟨?_, ?_⟩
      · skip
        intro h9_
        refine ⟨?_, ?_⟩
        · skip
          intro h10_
          refine ⟨?_, ?_⟩
          · skip
            intro h11_
            refine ⟨la_sortOfAlone_1, ?_⟩
            intro h12_
            refine ⟨la_sortOfAlone_12, ?_⟩
            refine ⟨la_sortOfAlone_13, ?_⟩
            intro h13_
            exact (la_sortOfAlone_14 h13_)
          intro h14_
          refine ⟨la_sortOfAlone_19, ?_⟩
          refine ⟨la_sortOfAlone_20, ?_⟩
          intro h15_
          exact (la_sortOfAlone_21 h15_)
        intro h16_
        refine ⟨la_sortOfAlone_25, ?_⟩
        refine ⟨la_sortOfAlone_26, ?_⟩
        intro h17_
        exact (la_sortOfAlone_27 h17_)
      intro h18_
      refine ⟨la_sortOfAlone_30, ?_⟩
      refine ⟨la_sortOfAlone_31, ?_⟩
      intro h19_
      exact (la_sortOfAlone_32 h19_)
    intro h20_
    refine ⟨la_sortOfAlone_31, ?_⟩
    refine ⟨la_sortOfAlone_35, ?_⟩
    intro h21_
    exact (la_sortOfAlone_36 h6_ h20_)
  intro h22_
  refine ⟨la_sortOfAlone_37, ?_⟩
  refine ⟨la_sortOfAlone_38, ?_⟩
  intro h23_
  exact (la_sortOfAlone_39 h23_)
set_option maxRecDepth 8000 in
set_option maxHeartbeats 2000000 in
theorem t_sortOfAlone : ∀ (p1 : Int) (S : sv_S), sm_ok S → sv_R p1 → (0 ≤ p1 ∧ p1 < 647800) → sv_T sm_XS sm_cs sm_L sm_sh 2 (q_sortOfAlone p1 S) 219 0 (lv_args 0 [.ref 0, sv_I p1]) [] S := by
  intro p1 S hok hp1 hpre
  have h := f_sortOfAlone p1 S hok hp1 hpre
  have hM := sm_h219
  show sv_T sm_XS sm_cs sm_L sm_sh 2 (q_sortOfAlone p1 S) 219 0 [(0, .ref 0), (1, sv_I p1)] [] S
  refine sv_aload_n hM dX12_sortOfAlone_0 rfl rfl ?_
  refine sv_iload_n hM dX12_sortOfAlone_1 rfl rfl ?_
  obtain ⟨o1, h⟩ := h
  refine sv_callV hM dX12_sortOfAlone_2 sm_iv_1059 (by decide) (sm_a0 _) rfl rfl (Nat.le_of_ble_eq_true rfl) sm_h210 (Nat.le_of_ble_eq_true rfl) (Nat.le_of_ble_eq_true rfl) (F' := 1) (Nat.le_of_ble_eq_true rfl) rfl (t_plainly p1 S hok hp1 o1) (fun v S1 hq => ?_)
  obtain ⟨r6, rfl, hr6, ok3, md4, hpo5⟩ := hq
  obtain rfl : S = S1 := (funext fun j => md4 j (by intro q; cases q)).symm
  show sv_T sm_XS sm_cs sm_L sm_sh 2 (q_sortOfAlone p1 S) 219 5 [(0, .ref 0), (1, sv_I p1)] [sv_I r6] S
  have h := h r6 hr6 hpo5
  refine sv_istore_n hM dX12_sortOfAlone_5 (by decide) rfl ?_
  show sv_T sm_XS sm_cs sm_L sm_sh 2 (q_sortOfAlone p1 S) 219 6 [(0, .ref 0), (1, sv_I p1), (2, sv_I r6)] [] S
  refine sv_iload_n hM dX12_sortOfAlone_6 rfl rfl ?_
  refine sv_bipush (d := (32 : Int)) hM dX12_sortOfAlone_7 rfl rfl ?_
  refine sv_icmp_ne hM dX12_sortOfAlone_9 hr6 (⟨by decide, by decide⟩ : sv_R (32 : Int)) (t := 16) rfl rfl (fun hc => ?_) (fun hc => ?_)
  · have h := h.1 (hc)
    refine sv_iload_n hM dX12_sortOfAlone_16 rfl rfl ?_
    refine sv_sipush (d := (128 : Int)) hM dX12_sortOfAlone_17 rfl rfl ?_
    refine sv_icmp_ne hM dX12_sortOfAlone_20 hr6 (⟨by decide, by decide⟩ : sv_R (128 : Int)) (t := 28) rfl rfl (fun hc => ?_) (fun hc => ?_)
    · have h := h.1 (hc)
      refine sv_iload_n hM dX12_sortOfAlone_28 rfl rfl ?_
      refine sv_iconst (d := (1 : Int)) hM dX12_sortOfAlone_29 rfl rfl ?_
      refine sv_icmp_ne hM dX12_sortOfAlone_30 hr6 (⟨by decide, by decide⟩ : sv_R (1 : Int)) (t := 37) rfl rfl (fun hc => ?_) (fun hc => ?_)
      · have h := h.1 (hc)
        refine sv_iload_n hM dX12_sortOfAlone_37 rfl rfl ?_
        refine sv_iconst (d := (2 : Int)) hM dX12_sortOfAlone_38 rfl rfl ?_
        refine sv_icmp_ne hM dX12_sortOfAlone_39 hr6 (⟨by decide, by decide⟩ : sv_R (2 : Int)) (t := 46) rfl rfl (fun hc => ?_) (fun hc => ?_)
        · have h := h.1 (hc)
          refine sv_iload_n hM dX12_sortOfAlone_46 rfl rfl ?_
          refine sv_iconst (d := (4 : Int)) hM dX12_sortOfAlone_47 rfl rfl ?_
          refine sv_icmp_ne hM dX12_sortOfAlone_48 hr6 (⟨by decide, by decide⟩ : sv_R (4 : Int)) (t := 55) rfl rfl (fun hc => ?_) (fun hc => ?_)
          · have h := h.1 (hc)
            refine sv_iload_n hM dX12_sortOfAlone_55 rfl rfl ?_
            refine sv_bipush (d := (8 : Int)) hM dX12_sortOfAlone_56 rfl rfl ?_
            refine sv_icmp_ne hM dX12_sortOfAlone_58 hr6 (⟨by decide, by decide⟩ : sv_R (8 : Int)) (t := 65) rfl rfl (fun hc => ?_) (fun hc => ?_)
            · have h := h.1 (hc)
              refine sv_iconst (d := (4 : Int)) hM dX12_sortOfAlone_65 rfl rfl ?_
              exact sv_iret hM dX12_sortOfAlone_66 rfl rfl ⟨(4 : Int), rfl, (⟨by decide, by decide⟩ : sv_R (4 : Int)), ok3, sv_mod.rf, h⟩
            · have h := h.2 (hc)
              refine sv_iconst (d := (3 : Int)) hM dX12_sortOfAlone_61 rfl rfl ?_
              refine sv_goto hM dX12_sortOfAlone_62 (pc' := 66) rfl ?_
              exact sv_iret hM dX12_sortOfAlone_66 rfl rfl ⟨(3 : Int), rfl, (⟨by decide, by decide⟩ : sv_R (3 : Int)), ok3, sv_mod.rf, h⟩
          · have h := h.2 (hc)
            refine sv_iconst (d := (2 : Int)) hM dX12_sortOfAlone_51 rfl rfl ?_
            refine sv_goto hM dX12_sortOfAlone_52 (pc' := 66) rfl ?_
            exact sv_iret hM dX12_sortOfAlone_66 rfl rfl ⟨(2 : Int), rfl, (⟨by decide, by decide⟩ : sv_R (2 : Int)), ok3, sv_mod.rf, h⟩
        · have h := h.2 (hc)
          refine sv_iconst (d := (1 : Int)) hM dX12_sortOfAlone_42 rfl rfl ?_
          refine sv_goto hM dX12_sortOfAlone_43 (pc' := 66) rfl ?_
          exact sv_iret hM dX12_sortOfAlone_66 rfl rfl ⟨(1 : Int), rfl, (⟨by decide, by decide⟩ : sv_R (1 : Int)), ok3, sv_mod.rf, h⟩
      · have h := h.2 (hc)
        refine sv_iconst (d := (0 : Int)) hM dX12_sortOfAlone_33 rfl rfl ?_
        refine sv_goto hM dX12_sortOfAlone_34 (pc' := 66) rfl ?_
        exact sv_iret hM dX12_sortOfAlone_66 rfl rfl ⟨(0 : Int), rfl, (⟨by decide, by decide⟩ : sv_R (0 : Int)), ok3, sv_mod.rf, h⟩
    · have h := h.2 (hc)
      refine sv_bipush (d := (6 : Int)) hM dX12_sortOfAlone_23 rfl rfl ?_
      refine sv_goto hM dX12_sortOfAlone_25 (pc' := 66) rfl ?_
      exact sv_iret hM dX12_sortOfAlone_66 rfl rfl ⟨(6 : Int), rfl, (⟨by decide, by decide⟩ : sv_R (6 : Int)), ok3, sv_mod.rf, h⟩
  · have h := h.2 (hc)
    refine sv_iconst (d := (5 : Int)) hM dX12_sortOfAlone_12 rfl rfl ?_
    refine sv_goto hM dX12_sortOfAlone_13 (pc' := 66) rfl ?_
    exact sv_iret hM dX12_sortOfAlone_66 rfl rfl ⟨(5 : Int), rfl, (⟨by decide, by decide⟩ : sv_R (5 : Int)), ok3, sv_mod.rf, h⟩
def q_valueOfAlone (p1 : Int) (S : sv_S) : Option Value → sv_S → Prop := fun v S' => ∃ r : Int, v = some (sv_I r) ∧ sv_R r ∧ sm_ok S' ∧ sv_mod [] S S' ∧ (sm_iand ((S' 68 p1) % 1024) (-513) = 128 → 0 ≤ r ∧ r ≤ 127)
theorem la_valueOfAlone_0 {x0 : Int} (h0 : 0 ≤ x0) (h1 : x0 < 647800) : 0 ≤ x0 ∧ x0 < 647800 := by omega
theorem la_valueOfAlone_1 {x0 x1 : Int} : ¬ x0 = 128 → x1 = 128 → (0 : Int) ≤ 0 ∧ (0 : Int) ≤ 127 := by omega
theorem la_valueOfAlone_2 {x0 x1 x2 : Int} (h0 : x0 = x1) (h1 : x0 = x2) (h2 : ¬ ¬ x2 = 128) : 32 ≤ x1 := by omega
theorem la_valueOfAlone_3 {x0 : Int} (h0 : 32 ≤ x0) (h1 : ¬ x0 = 32) : 32 < x0 := by omega
theorem la_valueOfAlone_4 {x0 x1 : Int} (h0 : x0 = x1) (h1 : ¬ ¬ x1 = 32) (h2 : x0 = 128) : False := by omega
set_option maxHeartbeats 2000000 in
theorem f_valueOfAlone : ∀ (p1 : Int) (S : sv_S), sm_ok S → sv_R p1 → (0 ≤ p1 ∧ p1 < 647800) → (0 ≤ p1 ∧ p1 < 647800) ∧ (∀ r6 : Int, sv_R r6 → (sm_iand ((S 68 p1) % 1024) (-513) = r6) → (((¬ r6 = (32 : Int)) → (∀ r11 : Int, sv_R r11 → (sm_iand ((S 68 p1) % 1024) (-513) = r11) → (((¬ r11 = (128 : Int)) → (sm_iand ((S 68 p1) % 1024) (-513) = 128 → 0 ≤ (0 : Int) ∧ (0 : Int) ≤ 127)) ∧ ((¬ (¬ r11 = (128 : Int))) → (∀ r16 : Int, sv_R r16 → (0 ≤ r16 ∧ r16 ≤ 127) → (sm_iand ((S 68 p1) % 1024) (-513) = 128 → 0 ≤ r16 ∧ r16 ≤ 127)))))) ∧ ((¬ (¬ r6 = (32 : Int))) → (∀ r21 : Int, sv_R r21 → (True) → (sm_iand ((S 68 p1) % 1024) (-513) = 128 → 0 ≤ r21 ∧ r21 ≤ 127))))) := by
  intro p1
  intro S
  intro h1_
  intro h2_
  rintro ⟨h3_, h4_⟩
  refine ⟨(la_valueOfAlone_0 h3_ h4_), ?_⟩
  intro r6
  intro h5_
  intro h6_
  refine ⟨?_, ?_⟩
  · skip
    intro h7_
    intro r11
    intro h8_
    intro h9_
    refine ⟨la_valueOfAlone_1, ?_⟩
    intro h10_
    intro r16
    intro h11_
    rintro ⟨h12_, h13_⟩
    intro h14_
    refine ⟨h12_, ?_⟩
    exact h13_
  intro h15_
  intro r21
  intro h16_
  intro _
  intro h17_
  refine ⟨?_, ?_⟩
  · skip
    exact ((la_valueOfAlone_4 h6_ h15_ h17_)).elim
  exact ((la_valueOfAlone_4 h6_ h15_ h17_)).elim
set_option maxRecDepth 8000 in
set_option maxHeartbeats 2000000 in
theorem t_valueOfAlone : ∀ (p1 : Int) (S : sv_S), sm_ok S → sv_R p1 → (0 ≤ p1 ∧ p1 < 647800) → sv_T sm_XS sm_cs sm_L sm_sh 2 (q_valueOfAlone p1 S) 220 0 (lv_args 0 [.ref 0, sv_I p1]) [] S := by
  intro p1 S hok hp1 hpre
  have h := f_valueOfAlone p1 S hok hp1 hpre
  have hM := sm_h220
  show sv_T sm_XS sm_cs sm_L sm_sh 2 (q_valueOfAlone p1 S) 220 0 [(0, .ref 0), (1, sv_I p1)] [] S
  refine sv_aload_n hM dX12_valueOfAlone_0 rfl rfl ?_
  refine sv_iload_n hM dX12_valueOfAlone_1 rfl rfl ?_
  obtain ⟨o1, h⟩ := h
  refine sv_callV hM dX12_valueOfAlone_2 sm_iv_1059 (by decide) (sm_a0 _) rfl rfl (Nat.le_of_ble_eq_true rfl) sm_h210 (Nat.le_of_ble_eq_true rfl) (Nat.le_of_ble_eq_true rfl) (F' := 1) (Nat.le_of_ble_eq_true rfl) rfl (t_plainly p1 S hok hp1 o1) (fun v S1 hq => ?_)
  obtain ⟨r6, rfl, hr6, ok3, md4, hpo5⟩ := hq
  obtain rfl : S = S1 := (funext fun j => md4 j (by intro q; cases q)).symm
  show sv_T sm_XS sm_cs sm_L sm_sh 2 (q_valueOfAlone p1 S) 220 5 [(0, .ref 0), (1, sv_I p1)] [sv_I r6] S
  have h := h r6 hr6 hpo5
  refine sv_bipush (d := (32 : Int)) hM dX12_valueOfAlone_5 rfl rfl ?_
  refine sv_icmp_ne hM dX12_valueOfAlone_7 hr6 (⟨by decide, by decide⟩ : sv_R (32 : Int)) (t := 18) rfl rfl (fun hc => ?_) (fun hc => ?_)
  · have h := h.1 (hc)
    refine sv_aload_n hM dX12_valueOfAlone_18 rfl rfl ?_
    refine sv_iload_n hM dX12_valueOfAlone_19 rfl rfl ?_
    refine sv_callV hM dX12_valueOfAlone_20 sm_iv_1059 (by decide) (sm_a0 _) rfl rfl (Nat.le_of_ble_eq_true rfl) sm_h210 (Nat.le_of_ble_eq_true rfl) (Nat.le_of_ble_eq_true rfl) (F' := 1) (Nat.le_of_ble_eq_true rfl) rfl (t_plainly p1 S ok3 hp1 o1) (fun v S1 hq => ?_)
    obtain ⟨r11, rfl, hr11, ok8, md9, hpo10⟩ := hq
    obtain rfl : S = S1 := (funext fun j => md9 j (by intro q; cases q)).symm
    show sv_T sm_XS sm_cs sm_L sm_sh 2 (q_valueOfAlone p1 S) 220 23 [(0, .ref 0), (1, sv_I p1)] [sv_I r11] S
    have h := h r11 hr11 hpo10
    refine sv_sipush (d := (128 : Int)) hM dX12_valueOfAlone_23 rfl rfl ?_
    refine sv_icmp_ne hM dX12_valueOfAlone_26 hr11 (⟨by decide, by decide⟩ : sv_R (128 : Int)) (t := 37) rfl rfl (fun hc => ?_) (fun hc => ?_)
    · have h := h.1 (hc)
      refine sv_iconst (d := (0 : Int)) hM dX12_valueOfAlone_37 rfl rfl ?_
      exact sv_iret hM dX12_valueOfAlone_38 rfl rfl ⟨(0 : Int), rfl, (⟨by decide, by decide⟩ : sv_R (0 : Int)), ok8, sv_mod.rf, h⟩
    · have h := h.2 (hc)
      refine sv_aload_n hM dX12_valueOfAlone_29 rfl rfl ?_
      refine sv_iload_n hM dX12_valueOfAlone_30 rfl rfl ?_
      refine sv_callV hM dX12_valueOfAlone_31 sm_iv_1053 (by decide) (sm_a0 _) rfl rfl (Nat.le_of_ble_eq_true rfl) sm_h203 (Nat.le_of_ble_eq_true rfl) (Nat.le_of_ble_eq_true rfl) (F' := 0) (Nat.le_of_ble_eq_true rfl) rfl (t_name p1 S ok8 hp1 o1) (fun v S1 hq => ?_)
      obtain ⟨r16, rfl, hr16, ok13, md14, hpo15⟩ := hq
      obtain rfl : S = S1 := (funext fun j => md14 j (by intro q; cases q)).symm
      show sv_T sm_XS sm_cs sm_L sm_sh 2 (q_valueOfAlone p1 S) 220 34 [(0, .ref 0), (1, sv_I p1)] [sv_I r16] S
      have h := h r16 hr16 hpo15
      refine sv_goto hM dX12_valueOfAlone_34 (pc' := 38) rfl ?_
      exact sv_iret hM dX12_valueOfAlone_38 rfl rfl ⟨r16, rfl, hr16, ok13, sv_mod.rf, h⟩
  · have h := h.2 (hc)
    refine sv_aload_n hM dX12_valueOfAlone_10 rfl rfl ?_
    refine sv_iload_n hM dX12_valueOfAlone_11 rfl rfl ?_
    refine sv_callV hM dX12_valueOfAlone_12 sm_iv_1050 (by decide) (sm_a0 _) rfl rfl (Nat.le_of_ble_eq_true rfl) sm_h204 (Nat.le_of_ble_eq_true rfl) (Nat.le_of_ble_eq_true rfl) (F' := 0) (Nat.le_of_ble_eq_true rfl) rfl (t_number p1 S ok3 hp1 o1) (fun v S1 hq => ?_)
    obtain ⟨r21, rfl, hr21, ok18, md19, hpo20⟩ := hq
    obtain rfl : S = S1 := (funext fun j => md19 j (by intro q; cases q)).symm
    show sv_T sm_XS sm_cs sm_L sm_sh 2 (q_valueOfAlone p1 S) 220 15 [(0, .ref 0), (1, sv_I p1)] [sv_I r21] S
    have h := h r21 hr21 hpo20
    refine sv_goto hM dX12_valueOfAlone_15 (pc' := 38) rfl ?_
    exact sv_iret hM dX12_valueOfAlone_38 rfl rfl ⟨r21, rfl, hr21, ok18, sv_mod.rf, h⟩
def q_mayBeTrue (p1 : Int) (S : sv_S) : Option Value → sv_S → Prop := fun v S' => ∃ r : Int, v = some (sv_I r) ∧ sv_R r ∧ sm_ok S' ∧ sv_mod [] S S' ∧ (r = 0 ∨ r = 1)
theorem la_mayBeTrue_0 {x0 : Int} (h0 : 0 ≤ x0) (h1 : x0 < 647800) : 0 ≤ x0 ∧ x0 < 647800 := by omega
theorem la_mayBeTrue_1 {x0 : Int} : ¬ x0 = 0 → (1 : Int) = 0 ∨ (1 : Int) = 1 := by omega
theorem la_mayBeTrue_2 {x0 : Int} : x0 = 0 → (0 : Int) = 0 ∨ (0 : Int) = 1 := by omega
theorem la_mayBeTrue_3 {x0 : Int} (h0 : x0 = 1) : 0 ≤ x0 := by omega
theorem la_mayBeTrue_4 {x0 : Int} (h0 : 0 ≤ x0) (h1 : ¬ x0 = 0) : 0 < x0 := by omega
theorem la_mayBeTrue_5 : (1 : Int) = 0 ∨ (1 : Int) = 1 := by omega
theorem la_mayBeTrue_6 {x0 : Int} : ¬ x0 = 30 → (1 : Int) = 0 ∨ (1 : Int) = 1 := by omega
set_option maxHeartbeats 2000000 in
theorem f_mayBeTrue : ∀ (p1 : Int) (S : sv_S), sm_ok S → sv_R p1 → (0 ≤ p1 ∧ p1 < 647800) → (0 ≤ p1 ∧ p1 < 647800) ∧ (∀ r6 : Int, sv_R r6 → (r6 = (S 68 p1) % 1024 ∧ 0 ≤ r6 ∧ r6 ≤ 1023) → (∀ r7 : Int, (0 ≤ r7 ∧ r7 ≤ (324 : Int)) → (((¬ r7 = (0 : Int)) → ((1 : Int) = 0 ∨ (1 : Int) = 1)) ∧ ((¬ (¬ r7 = (0 : Int))) → (∀ r8 : Int, (0 ≤ r8 ∧ r8 ≤ (32 : Int)) → (((r8 = (0 : Int)) → (∀ r9 : Int, (0 ≤ r9 ∧ r9 ≤ (128 : Int)) → (((r9 = (0 : Int)) → (∀ r14 : Int, sv_R r14 → (r14 = 0 ∨ r14 = 1) → (((r14 = (0 : Int)) → ((0 : Int) = 0 ∨ (0 : Int) = 1)) ∧ ((¬ (r14 = (0 : Int))) → ((1 : Int) = 0 ∨ (1 : Int) = 1))))) ∧ ((¬ (r9 = (0 : Int))) → (∀ r19 : Int, sv_R r19 → (0 ≤ r19 ∧ r19 ≤ 127) → (((¬ r19 = (30 : Int)) → ((1 : Int) = 0 ∨ (1 : Int) = 1)) ∧ ((¬ (¬ r19 = (30 : Int))) → (∀ r24 : Int, sv_R r24 → (r24 = 0 ∨ r24 = 1) → (((r24 = (0 : Int)) → ((0 : Int) = 0 ∨ (0 : Int) = 1)) ∧ ((¬ (r24 = (0 : Int))) → ((1 : Int) = 0 ∨ (1 : Int) = 1))))))))))) ∧ ((¬ (r8 = (0 : Int))) → (∀ r29 : Int, sv_R r29 → (True) → (((¬ r29 = (0 : Int)) → ((1 : Int) = 0 ∨ (1 : Int) = 1)) ∧ ((¬ (¬ r29 = (0 : Int))) → (∀ r30 : Int, (0 ≤ r30 ∧ r30 ≤ (128 : Int)) → (((r30 = (0 : Int)) → (∀ r35 : Int, sv_R r35 → (r35 = 0 ∨ r35 = 1) → (((r35 = (0 : Int)) → ((0 : Int) = 0 ∨ (0 : Int) = 1)) ∧ ((¬ (r35 = (0 : Int))) → ((1 : Int) = 0 ∨ (1 : Int) = 1))))) ∧ ((¬ (r30 = (0 : Int))) → (∀ r40 : Int, sv_R r40 → (0 ≤ r40 ∧ r40 ≤ 127) → (((¬ r40 = (30 : Int)) → ((1 : Int) = 0 ∨ (1 : Int) = 1)) ∧ ((¬ (¬ r40 = (30 : Int))) → (∀ r45 : Int, sv_R r45 → (r45 = 0 ∨ r45 = 1) → (((r45 = (0 : Int)) → ((0 : Int) = 0 ∨ (0 : Int) = 1)) ∧ ((¬ (r45 = (0 : Int))) → ((1 : Int) = 0 ∨ (1 : Int) = 1)))))))))))))))))))) := by
  intro p1
  intro S
  intro h1_
  intro h2_
  rintro ⟨h3_, h4_⟩
  refine ⟨(la_mayBeTrue_0 h3_ h4_), ?_⟩
  intro r6
  intro h5_
  rintro ⟨h6_, ⟨h7_, h8_⟩⟩
  intro r7
  rintro ⟨h9_, h10_⟩
  refine ⟨la_mayBeTrue_1, ?_⟩
  intro h11_
  intro r8
  rintro ⟨h12_, h13_⟩
  refine ⟨?_, ?_⟩
  · skip
    intro h14_
    intro r9
    rintro ⟨h15_, h16_⟩
    refine ⟨?_, ?_⟩
    · skip
      intro h17_
      intro r14
      intro h18_
      intro h19_
      refine ⟨la_mayBeTrue_2, ?_⟩
      intro h20_
      have h21_ := (h19_.resolve_left h20_)
      exact la_mayBeTrue_5
    intro h22_
    intro r19
    intro h23_
    rintro ⟨h24_, h25_⟩
    refine ⟨la_mayBeTrue_6, ?_⟩
    intro h26_
    intro r24
    intro h27_
    intro h28_
    refine ⟨la_mayBeTrue_2, ?_⟩
    intro h29_
    have h30_ := (h28_.resolve_left h29_)
    exact la_mayBeTrue_5
  intro h31_
  intro r29
  intro h32_
  intro _
  refine ⟨la_mayBeTrue_1, ?_⟩
  intro h33_
  intro r30
  rintro ⟨h34_, h35_⟩
  refine ⟨?_, ?_⟩
  · skip
    intro h36_
    intro r35
    intro h37_
    intro h38_
    refine ⟨la_mayBeTrue_2, ?_⟩
    intro h39_
    have h40_ := (h38_.resolve_left h39_)
    exact la_mayBeTrue_5
  intro h41_
  intro r40
  intro h42_
  rintro ⟨h43_, h44_⟩
  refine ⟨la_mayBeTrue_6, ?_⟩
  intro h45_
  intro r45
  intro h46_
  intro h47_
  refine ⟨la_mayBeTrue_2, ?_⟩
  intro h48_
  have h49_ := (h47_.resolve_left h48_)
  exact la_mayBeTrue_5
set_option maxRecDepth 8000 in
set_option maxHeartbeats 2000000 in
theorem t_mayBeTrue : ∀ (p1 : Int) (S : sv_S), sm_ok S → sv_R p1 → (0 ≤ p1 ∧ p1 < 647800) → sv_T sm_XS sm_cs sm_L sm_sh 1 (q_mayBeTrue p1 S) 221 0 (lv_args 0 [.ref 0, sv_I p1]) [] S := by
  intro p1 S hok hp1 hpre
  have h := f_mayBeTrue p1 S hok hp1 hpre
  have hM := sm_h221
  show sv_T sm_XS sm_cs sm_L sm_sh 1 (q_mayBeTrue p1 S) 221 0 [(0, .ref 0), (1, sv_I p1)] [] S
  refine sv_aload_n hM dX12_mayBeTrue_0 rfl rfl ?_
  refine sv_iload_n hM dX12_mayBeTrue_1 rfl rfl ?_
  obtain ⟨o1, h⟩ := h
  refine sv_callV hM dX12_mayBeTrue_2 sm_iv_1047 (by decide) (sm_a0 _) rfl rfl (Nat.le_of_ble_eq_true rfl) sm_h202 (Nat.le_of_ble_eq_true rfl) (Nat.le_of_ble_eq_true rfl) (F' := 0) (Nat.le_of_ble_eq_true rfl) rfl (t_has p1 S hok hp1 o1) (fun v S1 hq => ?_)
  obtain ⟨r6, rfl, hr6, ok3, md4, hpo5⟩ := hq
  obtain rfl : S = S1 := (funext fun j => md4 j (by intro q; cases q)).symm
  show sv_T sm_XS sm_cs sm_L sm_sh 1 (q_mayBeTrue p1 S) 221 5 [(0, .ref 0), (1, sv_I p1)] [sv_I r6] S
  have h := h r6 hr6 hpo5
  refine sv_istore_n hM dX12_mayBeTrue_5 (by decide) rfl ?_
  show sv_T sm_XS sm_cs sm_L sm_sh 1 (q_mayBeTrue p1 S) 221 6 [(0, .ref 0), (1, sv_I p1), (2, sv_I r6)] [] S
  refine sv_iload_n hM dX12_mayBeTrue_6 rfl rfl ?_
  refine sv_sipush (d := (324 : Int)) hM dX12_mayBeTrue_7 rfl rfl ?_
  refine sv_iand hM dX12_mayBeTrue_10 ⟨by decide, by decide⟩ rfl (fun r7 hr7 => ?_)
  have h := h r7 hr7
  refine sv_cond_ne hM dX12_mayBeTrue_11 (⟨by omega, by omega⟩ : sv_R r7) (t := 55) rfl rfl (fun hc => ?_) (fun hc => ?_)
  · have h := h.1 (hc)
    refine sv_iconst (d := (1 : Int)) hM dX12_mayBeTrue_55 rfl rfl ?_
    refine sv_goto hM dX12_mayBeTrue_56 (pc' := 60) rfl ?_
    exact sv_iret hM dX12_mayBeTrue_60 rfl (sv_nz (⟨by decide, by decide⟩ : 0 ≤ (1 : Int) ∧ (1 : Int) ≤ 1)) ⟨(1 : Int), rfl, sv_R01 (⟨by decide, by decide⟩ : 0 ≤ (1 : Int) ∧ (1 : Int) ≤ 1), ok3, sv_mod.rf, h⟩
  · have h := h.2 (hc)
    refine sv_iload_n hM dX12_mayBeTrue_14 rfl rfl ?_
    refine sv_bipush (d := (32 : Int)) hM dX12_mayBeTrue_15 rfl rfl ?_
    refine sv_iand hM dX12_mayBeTrue_17 ⟨by decide, by decide⟩ rfl (fun r8 hr8 => ?_)
    have h := h r8 hr8
    refine sv_cond_eq hM dX12_mayBeTrue_18 (⟨by omega, by omega⟩ : sv_R r8) (t := 29) rfl rfl (fun hc => ?_) (fun hc => ?_)
    · have h := h.1 (hc)
      refine sv_iload_n hM dX12_mayBeTrue_29 rfl rfl ?_
      refine sv_sipush (d := (128 : Int)) hM dX12_mayBeTrue_30 rfl rfl ?_
      refine sv_iand hM dX12_mayBeTrue_33 ⟨by decide, by decide⟩ rfl (fun r9 hr9 => ?_)
      have h := h r9 hr9
      refine sv_cond_eq hM dX12_mayBeTrue_34 (⟨by omega, by omega⟩ : sv_R r9) (t := 47) rfl rfl (fun hc => ?_) (fun hc => ?_)
      · have h := h.1 (hc)
        refine sv_aload_n hM dX12_mayBeTrue_47 rfl rfl ?_
        refine sv_iload_n hM dX12_mayBeTrue_48 rfl rfl ?_
        refine sv_callV hM dX12_mayBeTrue_49 sm_iv_1062 (by decide) (sm_a0 _) rfl rfl (Nat.le_of_ble_eq_true rfl) sm_h209 (Nat.le_of_ble_eq_true rfl) (Nat.le_of_ble_eq_true rfl) (F' := 0) (Nat.le_of_ble_eq_true rfl) rfl (t_hasLabels p1 S ok3 hp1 o1) (fun v S1 hq => ?_)
        obtain ⟨r14, rfl, hr14, ok11, md12, hpo13⟩ := hq
        obtain rfl : S = S1 := (funext fun j => md12 j (by intro q; cases q)).symm
        show sv_T sm_XS sm_cs sm_L sm_sh 1 (q_mayBeTrue p1 S) 221 52 [(0, .ref 0), (1, sv_I p1), (2, sv_I r6)] [sv_I r14] S
        have h := h r14 hr14 hpo13
        refine sv_cond_eq hM dX12_mayBeTrue_52 hr14 (t := 59) rfl rfl (fun hc => ?_) (fun hc => ?_)
        · have h := h.1 (hc)
          refine sv_iconst (d := (0 : Int)) hM dX12_mayBeTrue_59 rfl rfl ?_
          exact sv_iret hM dX12_mayBeTrue_60 rfl (sv_nz (⟨by decide, by decide⟩ : 0 ≤ (0 : Int) ∧ (0 : Int) ≤ 1)) ⟨(0 : Int), rfl, sv_R01 (⟨by decide, by decide⟩ : 0 ≤ (0 : Int) ∧ (0 : Int) ≤ 1), ok11, sv_mod.rf, h⟩
        · have h := h.2 (hc)
          refine sv_iconst (d := (1 : Int)) hM dX12_mayBeTrue_55 rfl rfl ?_
          refine sv_goto hM dX12_mayBeTrue_56 (pc' := 60) rfl ?_
          exact sv_iret hM dX12_mayBeTrue_60 rfl (sv_nz (⟨by decide, by decide⟩ : 0 ≤ (1 : Int) ∧ (1 : Int) ≤ 1)) ⟨(1 : Int), rfl, sv_R01 (⟨by decide, by decide⟩ : 0 ≤ (1 : Int) ∧ (1 : Int) ≤ 1), ok11, sv_mod.rf, h⟩
      · have h := h.2 (hc)
        refine sv_aload_n hM dX12_mayBeTrue_37 rfl rfl ?_
        refine sv_iload_n hM dX12_mayBeTrue_38 rfl rfl ?_
        refine sv_callV hM dX12_mayBeTrue_39 sm_iv_1053 (by decide) (sm_a0 _) rfl rfl (Nat.le_of_ble_eq_true rfl) sm_h203 (Nat.le_of_ble_eq_true rfl) (Nat.le_of_ble_eq_true rfl) (F' := 0) (Nat.le_of_ble_eq_true rfl) rfl (t_name p1 S ok3 hp1 o1) (fun v S1 hq => ?_)
        obtain ⟨r19, rfl, hr19, ok16, md17, hpo18⟩ := hq
        obtain rfl : S = S1 := (funext fun j => md17 j (by intro q; cases q)).symm
        show sv_T sm_XS sm_cs sm_L sm_sh 1 (q_mayBeTrue p1 S) 221 42 [(0, .ref 0), (1, sv_I p1), (2, sv_I r6)] [sv_I r19] S
        have h := h r19 hr19 hpo18
        refine sv_bipush (d := (30 : Int)) hM dX12_mayBeTrue_42 rfl rfl ?_
        refine sv_icmp_ne hM dX12_mayBeTrue_44 hr19 (⟨by decide, by decide⟩ : sv_R (30 : Int)) (t := 55) rfl rfl (fun hc => ?_) (fun hc => ?_)
        · have h := h.1 (hc)
          refine sv_iconst (d := (1 : Int)) hM dX12_mayBeTrue_55 rfl rfl ?_
          refine sv_goto hM dX12_mayBeTrue_56 (pc' := 60) rfl ?_
          exact sv_iret hM dX12_mayBeTrue_60 rfl (sv_nz (⟨by decide, by decide⟩ : 0 ≤ (1 : Int) ∧ (1 : Int) ≤ 1)) ⟨(1 : Int), rfl, sv_R01 (⟨by decide, by decide⟩ : 0 ≤ (1 : Int) ∧ (1 : Int) ≤ 1), ok16, sv_mod.rf, h⟩
        · have h := h.2 (hc)
          refine sv_aload_n hM dX12_mayBeTrue_47 rfl rfl ?_
          refine sv_iload_n hM dX12_mayBeTrue_48 rfl rfl ?_
          refine sv_callV hM dX12_mayBeTrue_49 sm_iv_1062 (by decide) (sm_a0 _) rfl rfl (Nat.le_of_ble_eq_true rfl) sm_h209 (Nat.le_of_ble_eq_true rfl) (Nat.le_of_ble_eq_true rfl) (F' := 0) (Nat.le_of_ble_eq_true rfl) rfl (t_hasLabels p1 S ok16 hp1 o1) (fun v S1 hq => ?_)
          obtain ⟨r24, rfl, hr24, ok21, md22, hpo23⟩ := hq
          obtain rfl : S = S1 := (funext fun j => md22 j (by intro q; cases q)).symm
          show sv_T sm_XS sm_cs sm_L sm_sh 1 (q_mayBeTrue p1 S) 221 52 [(0, .ref 0), (1, sv_I p1), (2, sv_I r6)] [sv_I r24] S
          have h := h r24 hr24 hpo23
          refine sv_cond_eq hM dX12_mayBeTrue_52 hr24 (t := 59) rfl rfl (fun hc => ?_) (fun hc => ?_)
          · have h := h.1 (hc)
            refine sv_iconst (d := (0 : Int)) hM dX12_mayBeTrue_59 rfl rfl ?_
            exact sv_iret hM dX12_mayBeTrue_60 rfl (sv_nz (⟨by decide, by decide⟩ : 0 ≤ (0 : Int) ∧ (0 : Int) ≤ 1)) ⟨(0 : Int), rfl, sv_R01 (⟨by decide, by decide⟩ : 0 ≤ (0 : Int) ∧ (0 : Int) ≤ 1), ok21, sv_mod.rf, h⟩
          · have h := h.2 (hc)
            refine sv_iconst (d := (1 : Int)) hM dX12_mayBeTrue_55 rfl rfl ?_
            refine sv_goto hM dX12_mayBeTrue_56 (pc' := 60) rfl ?_
            exact sv_iret hM dX12_mayBeTrue_60 rfl (sv_nz (⟨by decide, by decide⟩ : 0 ≤ (1 : Int) ∧ (1 : Int) ≤ 1)) ⟨(1 : Int), rfl, sv_R01 (⟨by decide, by decide⟩ : 0 ≤ (1 : Int) ∧ (1 : Int) ≤ 1), ok21, sv_mod.rf, h⟩
    · have h := h.2 (hc)
      refine sv_aload_n hM dX12_mayBeTrue_21 rfl rfl ?_
      refine sv_iload_n hM dX12_mayBeTrue_22 rfl rfl ?_
      refine sv_callV hM dX12_mayBeTrue_23 sm_iv_1050 (by decide) (sm_a0 _) rfl rfl (Nat.le_of_ble_eq_true rfl) sm_h204 (Nat.le_of_ble_eq_true rfl) (Nat.le_of_ble_eq_true rfl) (F' := 0) (Nat.le_of_ble_eq_true rfl) rfl (t_number p1 S ok3 hp1 o1) (fun v S1 hq => ?_)
      obtain ⟨r29, rfl, hr29, ok26, md27, hpo28⟩ := hq
      obtain rfl : S = S1 := (funext fun j => md27 j (by intro q; cases q)).symm
      show sv_T sm_XS sm_cs sm_L sm_sh 1 (q_mayBeTrue p1 S) 221 26 [(0, .ref 0), (1, sv_I p1), (2, sv_I r6)] [sv_I r29] S
      have h := h r29 hr29 hpo28
      refine sv_cond_ne hM dX12_mayBeTrue_26 hr29 (t := 55) rfl rfl (fun hc => ?_) (fun hc => ?_)
      · have h := h.1 (hc)
        refine sv_iconst (d := (1 : Int)) hM dX12_mayBeTrue_55 rfl rfl ?_
        refine sv_goto hM dX12_mayBeTrue_56 (pc' := 60) rfl ?_
        exact sv_iret hM dX12_mayBeTrue_60 rfl (sv_nz (⟨by decide, by decide⟩ : 0 ≤ (1 : Int) ∧ (1 : Int) ≤ 1)) ⟨(1 : Int), rfl, sv_R01 (⟨by decide, by decide⟩ : 0 ≤ (1 : Int) ∧ (1 : Int) ≤ 1), ok26, sv_mod.rf, h⟩
      · have h := h.2 (hc)
        refine sv_iload_n hM dX12_mayBeTrue_29 rfl rfl ?_
        refine sv_sipush (d := (128 : Int)) hM dX12_mayBeTrue_30 rfl rfl ?_
        refine sv_iand hM dX12_mayBeTrue_33 ⟨by decide, by decide⟩ rfl (fun r30 hr30 => ?_)
        have h := h r30 hr30
        refine sv_cond_eq hM dX12_mayBeTrue_34 (⟨by omega, by omega⟩ : sv_R r30) (t := 47) rfl rfl (fun hc => ?_) (fun hc => ?_)
        · have h := h.1 (hc)
          refine sv_aload_n hM dX12_mayBeTrue_47 rfl rfl ?_
          refine sv_iload_n hM dX12_mayBeTrue_48 rfl rfl ?_
          refine sv_callV hM dX12_mayBeTrue_49 sm_iv_1062 (by decide) (sm_a0 _) rfl rfl (Nat.le_of_ble_eq_true rfl) sm_h209 (Nat.le_of_ble_eq_true rfl) (Nat.le_of_ble_eq_true rfl) (F' := 0) (Nat.le_of_ble_eq_true rfl) rfl (t_hasLabels p1 S ok26 hp1 o1) (fun v S1 hq => ?_)
          obtain ⟨r35, rfl, hr35, ok32, md33, hpo34⟩ := hq
          obtain rfl : S = S1 := (funext fun j => md33 j (by intro q; cases q)).symm
          show sv_T sm_XS sm_cs sm_L sm_sh 1 (q_mayBeTrue p1 S) 221 52 [(0, .ref 0), (1, sv_I p1), (2, sv_I r6)] [sv_I r35] S
          have h := h r35 hr35 hpo34
          refine sv_cond_eq hM dX12_mayBeTrue_52 hr35 (t := 59) rfl rfl (fun hc => ?_) (fun hc => ?_)
          · have h := h.1 (hc)
            refine sv_iconst (d := (0 : Int)) hM dX12_mayBeTrue_59 rfl rfl ?_
            exact sv_iret hM dX12_mayBeTrue_60 rfl (sv_nz (⟨by decide, by decide⟩ : 0 ≤ (0 : Int) ∧ (0 : Int) ≤ 1)) ⟨(0 : Int), rfl, sv_R01 (⟨by decide, by decide⟩ : 0 ≤ (0 : Int) ∧ (0 : Int) ≤ 1), ok32, sv_mod.rf, h⟩
          · have h := h.2 (hc)
            refine sv_iconst (d := (1 : Int)) hM dX12_mayBeTrue_55 rfl rfl ?_
            refine sv_goto hM dX12_mayBeTrue_56 (pc' := 60) rfl ?_
            exact sv_iret hM dX12_mayBeTrue_60 rfl (sv_nz (⟨by decide, by decide⟩ : 0 ≤ (1 : Int) ∧ (1 : Int) ≤ 1)) ⟨(1 : Int), rfl, sv_R01 (⟨by decide, by decide⟩ : 0 ≤ (1 : Int) ∧ (1 : Int) ≤ 1), ok32, sv_mod.rf, h⟩
        · have h := h.2 (hc)
          refine sv_aload_n hM dX12_mayBeTrue_37 rfl rfl ?_
          refine sv_iload_n hM dX12_mayBeTrue_38 rfl rfl ?_
          refine sv_callV hM dX12_mayBeTrue_39 sm_iv_1053 (by decide) (sm_a0 _) rfl rfl (Nat.le_of_ble_eq_true rfl) sm_h203 (Nat.le_of_ble_eq_true rfl) (Nat.le_of_ble_eq_true rfl) (F' := 0) (Nat.le_of_ble_eq_true rfl) rfl (t_name p1 S ok26 hp1 o1) (fun v S1 hq => ?_)
          obtain ⟨r40, rfl, hr40, ok37, md38, hpo39⟩ := hq
          obtain rfl : S = S1 := (funext fun j => md38 j (by intro q; cases q)).symm
          show sv_T sm_XS sm_cs sm_L sm_sh 1 (q_mayBeTrue p1 S) 221 42 [(0, .ref 0), (1, sv_I p1), (2, sv_I r6)] [sv_I r40] S
          have h := h r40 hr40 hpo39
          refine sv_bipush (d := (30 : Int)) hM dX12_mayBeTrue_42 rfl rfl ?_
          refine sv_icmp_ne hM dX12_mayBeTrue_44 hr40 (⟨by decide, by decide⟩ : sv_R (30 : Int)) (t := 55) rfl rfl (fun hc => ?_) (fun hc => ?_)
          · have h := h.1 (hc)
            refine sv_iconst (d := (1 : Int)) hM dX12_mayBeTrue_55 rfl rfl ?_
            refine sv_goto hM dX12_mayBeTrue_56 (pc' := 60) rfl ?_
            exact sv_iret hM dX12_mayBeTrue_60 rfl (sv_nz (⟨by decide, by decide⟩ : 0 ≤ (1 : Int) ∧ (1 : Int) ≤ 1)) ⟨(1 : Int), rfl, sv_R01 (⟨by decide, by decide⟩ : 0 ≤ (1 : Int) ∧ (1 : Int) ≤ 1), ok37, sv_mod.rf, h⟩
          · have h := h.2 (hc)
            refine sv_aload_n hM dX12_mayBeTrue_47 rfl rfl ?_
            refine sv_iload_n hM dX12_mayBeTrue_48 rfl rfl ?_
            refine sv_callV hM dX12_mayBeTrue_49 sm_iv_1062 (by decide) (sm_a0 _) rfl rfl (Nat.le_of_ble_eq_true rfl) sm_h209 (Nat.le_of_ble_eq_true rfl) (Nat.le_of_ble_eq_true rfl) (F' := 0) (Nat.le_of_ble_eq_true rfl) rfl (t_hasLabels p1 S ok37 hp1 o1) (fun v S1 hq => ?_)
            obtain ⟨r45, rfl, hr45, ok42, md43, hpo44⟩ := hq
            obtain rfl : S = S1 := (funext fun j => md43 j (by intro q; cases q)).symm
            show sv_T sm_XS sm_cs sm_L sm_sh 1 (q_mayBeTrue p1 S) 221 52 [(0, .ref 0), (1, sv_I p1), (2, sv_I r6)] [sv_I r45] S
            have h := h r45 hr45 hpo44
            refine sv_cond_eq hM dX12_mayBeTrue_52 hr45 (t := 59) rfl rfl (fun hc => ?_) (fun hc => ?_)
            · have h := h.1 (hc)
              refine sv_iconst (d := (0 : Int)) hM dX12_mayBeTrue_59 rfl rfl ?_
              exact sv_iret hM dX12_mayBeTrue_60 rfl (sv_nz (⟨by decide, by decide⟩ : 0 ≤ (0 : Int) ∧ (0 : Int) ≤ 1)) ⟨(0 : Int), rfl, sv_R01 (⟨by decide, by decide⟩ : 0 ≤ (0 : Int) ∧ (0 : Int) ≤ 1), ok42, sv_mod.rf, h⟩
            · have h := h.2 (hc)
              refine sv_iconst (d := (1 : Int)) hM dX12_mayBeTrue_55 rfl rfl ?_
              refine sv_goto hM dX12_mayBeTrue_56 (pc' := 60) rfl ?_
              exact sv_iret hM dX12_mayBeTrue_60 rfl (sv_nz (⟨by decide, by decide⟩ : 0 ≤ (1 : Int) ∧ (1 : Int) ≤ 1)) ⟨(1 : Int), rfl, sv_R01 (⟨by decide, by decide⟩ : 0 ≤ (1 : Int) ∧ (1 : Int) ≤ 1), ok42, sv_mod.rf, h⟩
def q_mayBeFalse (p1 : Int) (S : sv_S) : Option Value → sv_S → Prop := fun v S' => ∃ r : Int, v = some (sv_I r) ∧ sv_R r ∧ sm_ok S' ∧ sv_mod [] S S' ∧ (r = 0 ∨ r = 1)
theorem la_mayBeFalse_0 {x0 : Int} (h0 : 0 ≤ x0) (h1 : x0 < 647800) : 0 ≤ x0 ∧ x0 < 647800 := by omega
theorem la_mayBeFalse_1 {x0 : Int} : ¬ x0 = 0 → (1 : Int) = 0 ∨ (1 : Int) = 1 := by omega
theorem la_mayBeFalse_2 {x0 : Int} : x0 = 0 → (0 : Int) = 0 ∨ (0 : Int) = 1 := by omega
theorem la_mayBeFalse_3 {x0 : Int} (h0 : 0 ≤ x0) (h1 : ¬ x0 = 0) : 0 < x0 := by omega
theorem la_mayBeFalse_4 {x0 : Int} : ¬ x0 = 30 → (0 : Int) = 0 ∨ (0 : Int) = 1 := by omega
theorem la_mayBeFalse_5 : (1 : Int) = 0 ∨ (1 : Int) = 1 := by omega
theorem la_mayBeFalse_6 {x0 : Int} : x0 = 0 → (1 : Int) = 0 ∨ (1 : Int) = 1 := by omega
set_option maxHeartbeats 2000000 in
theorem f_mayBeFalse : ∀ (p1 : Int) (S : sv_S), sm_ok S → sv_R p1 → (0 ≤ p1 ∧ p1 < 647800) → (0 ≤ p1 ∧ p1 < 647800) ∧ (∀ r6 : Int, sv_R r6 → (r6 = (S 68 p1) % 1024 ∧ 0 ≤ r6 ∧ r6 ≤ 1023) → (∀ r7 : Int, (0 ≤ r7 ∧ r7 ≤ (347 : Int)) → (((¬ r7 = (0 : Int)) → ((1 : Int) = 0 ∨ (1 : Int) = 1)) ∧ ((¬ (¬ r7 = (0 : Int))) → (∀ r8 : Int, (0 ≤ r8 ∧ r8 ≤ (32 : Int)) → (((r8 = (0 : Int)) → (∀ r9 : Int, (0 ≤ r9 ∧ r9 ≤ (128 : Int)) → (((r9 = (0 : Int)) → ((0 : Int) = 0 ∨ (0 : Int) = 1)) ∧ ((¬ (r9 = (0 : Int))) → (∀ r14 : Int, sv_R r14 → (0 ≤ r14 ∧ r14 ≤ 127) → (((¬ r14 = (30 : Int)) → ((0 : Int) = 0 ∨ (0 : Int) = 1)) ∧ ((¬ (¬ r14 = (30 : Int))) → ((1 : Int) = 0 ∨ (1 : Int) = 1)))))))) ∧ ((¬ (r8 = (0 : Int))) → (∀ r19 : Int, sv_R r19 → (True) → (((r19 = (0 : Int)) → ((1 : Int) = 0 ∨ (1 : Int) = 1)) ∧ ((¬ (r19 = (0 : Int))) → (∀ r20 : Int, (0 ≤ r20 ∧ r20 ≤ (128 : Int)) → (((r20 = (0 : Int)) → ((0 : Int) = 0 ∨ (0 : Int) = 1)) ∧ ((¬ (r20 = (0 : Int))) → (∀ r25 : Int, sv_R r25 → (0 ≤ r25 ∧ r25 ≤ 127) → (((¬ r25 = (30 : Int)) → ((0 : Int) = 0 ∨ (0 : Int) = 1)) ∧ ((¬ (¬ r25 = (30 : Int))) → ((1 : Int) = 0 ∨ (1 : Int) = 1))))))))))))))))) := by
  intro p1
  intro S
  intro h1_
  intro h2_
  rintro ⟨h3_, h4_⟩
  refine ⟨(la_mayBeFalse_0 h3_ h4_), ?_⟩
  intro r6
  intro h5_
  rintro ⟨h6_, ⟨h7_, h8_⟩⟩
  intro r7
  rintro ⟨h9_, h10_⟩
  refine ⟨la_mayBeFalse_1, ?_⟩
  intro h11_
  intro r8
  rintro ⟨h12_, h13_⟩
  refine ⟨?_, ?_⟩
  · skip
    intro h14_
    intro r9
    rintro ⟨h15_, h16_⟩
    refine ⟨la_mayBeFalse_2, ?_⟩
    intro h17_
    intro r14
    intro h18_
    rintro ⟨h19_, h20_⟩
    refine ⟨la_mayBeFalse_4, ?_⟩
    intro h21_
    exact la_mayBeFalse_5
  intro h22_
  intro r19
  intro h23_
  intro _
  refine ⟨la_mayBeFalse_6, ?_⟩
  intro h24_
  intro r20
  rintro ⟨h25_, h26_⟩
  refine ⟨la_mayBeFalse_2, ?_⟩
  intro h27_
  intro r25
  intro h28_
  rintro ⟨h29_, h30_⟩
  refine ⟨la_mayBeFalse_4, ?_⟩
  intro h31_
  exact la_mayBeFalse_5
set_option maxRecDepth 8000 in
set_option maxHeartbeats 2000000 in
theorem t_mayBeFalse : ∀ (p1 : Int) (S : sv_S), sm_ok S → sv_R p1 → (0 ≤ p1 ∧ p1 < 647800) → sv_T sm_XS sm_cs sm_L sm_sh 1 (q_mayBeFalse p1 S) 222 0 (lv_args 0 [.ref 0, sv_I p1]) [] S := by
  intro p1 S hok hp1 hpre
  have h := f_mayBeFalse p1 S hok hp1 hpre
  have hM := sm_h222
  show sv_T sm_XS sm_cs sm_L sm_sh 1 (q_mayBeFalse p1 S) 222 0 [(0, .ref 0), (1, sv_I p1)] [] S
  refine sv_aload_n hM dX12_mayBeFalse_0 rfl rfl ?_
  refine sv_iload_n hM dX12_mayBeFalse_1 rfl rfl ?_
  obtain ⟨o1, h⟩ := h
  refine sv_callV hM dX12_mayBeFalse_2 sm_iv_1047 (by decide) (sm_a0 _) rfl rfl (Nat.le_of_ble_eq_true rfl) sm_h202 (Nat.le_of_ble_eq_true rfl) (Nat.le_of_ble_eq_true rfl) (F' := 0) (Nat.le_of_ble_eq_true rfl) rfl (t_has p1 S hok hp1 o1) (fun v S1 hq => ?_)
  obtain ⟨r6, rfl, hr6, ok3, md4, hpo5⟩ := hq
  obtain rfl : S = S1 := (funext fun j => md4 j (by intro q; cases q)).symm
  show sv_T sm_XS sm_cs sm_L sm_sh 1 (q_mayBeFalse p1 S) 222 5 [(0, .ref 0), (1, sv_I p1)] [sv_I r6] S
  have h := h r6 hr6 hpo5
  refine sv_istore_n hM dX12_mayBeFalse_5 (by decide) rfl ?_
  show sv_T sm_XS sm_cs sm_L sm_sh 1 (q_mayBeFalse p1 S) 222 6 [(0, .ref 0), (1, sv_I p1), (2, sv_I r6)] [] S
  refine sv_iload_n hM dX12_mayBeFalse_6 rfl rfl ?_
  refine sv_sipush (d := (347 : Int)) hM dX12_mayBeFalse_7 rfl rfl ?_
  refine sv_iand hM dX12_mayBeFalse_10 ⟨by decide, by decide⟩ rfl (fun r7 hr7 => ?_)
  have h := h r7 hr7
  refine sv_cond_ne hM dX12_mayBeFalse_11 (⟨by omega, by omega⟩ : sv_R r7) (t := 47) rfl rfl (fun hc => ?_) (fun hc => ?_)
  · have h := h.1 (hc)
    refine sv_iconst (d := (1 : Int)) hM dX12_mayBeFalse_47 rfl rfl ?_
    refine sv_goto hM dX12_mayBeFalse_48 (pc' := 52) rfl ?_
    exact sv_iret hM dX12_mayBeFalse_52 rfl (sv_nz (⟨by decide, by decide⟩ : 0 ≤ (1 : Int) ∧ (1 : Int) ≤ 1)) ⟨(1 : Int), rfl, sv_R01 (⟨by decide, by decide⟩ : 0 ≤ (1 : Int) ∧ (1 : Int) ≤ 1), ok3, sv_mod.rf, h⟩
  · have h := h.2 (hc)
    refine sv_iload_n hM dX12_mayBeFalse_14 rfl rfl ?_
    refine sv_bipush (d := (32 : Int)) hM dX12_mayBeFalse_15 rfl rfl ?_
    refine sv_iand hM dX12_mayBeFalse_17 ⟨by decide, by decide⟩ rfl (fun r8 hr8 => ?_)
    have h := h r8 hr8
    refine sv_cond_eq hM dX12_mayBeFalse_18 (⟨by omega, by omega⟩ : sv_R r8) (t := 29) rfl rfl (fun hc => ?_) (fun hc => ?_)
    · have h := h.1 (hc)
      refine sv_iload_n hM dX12_mayBeFalse_29 rfl rfl ?_
      refine sv_sipush (d := (128 : Int)) hM dX12_mayBeFalse_30 rfl rfl ?_
      refine sv_iand hM dX12_mayBeFalse_33 ⟨by decide, by decide⟩ rfl (fun r9 hr9 => ?_)
      have h := h r9 hr9
      refine sv_cond_eq hM dX12_mayBeFalse_34 (⟨by omega, by omega⟩ : sv_R r9) (t := 51) rfl rfl (fun hc => ?_) (fun hc => ?_)
      · have h := h.1 (hc)
        refine sv_iconst (d := (0 : Int)) hM dX12_mayBeFalse_51 rfl rfl ?_
        exact sv_iret hM dX12_mayBeFalse_52 rfl (sv_nz (⟨by decide, by decide⟩ : 0 ≤ (0 : Int) ∧ (0 : Int) ≤ 1)) ⟨(0 : Int), rfl, sv_R01 (⟨by decide, by decide⟩ : 0 ≤ (0 : Int) ∧ (0 : Int) ≤ 1), ok3, sv_mod.rf, h⟩
      · have h := h.2 (hc)
        refine sv_aload_n hM dX12_mayBeFalse_37 rfl rfl ?_
        refine sv_iload_n hM dX12_mayBeFalse_38 rfl rfl ?_
        refine sv_callV hM dX12_mayBeFalse_39 sm_iv_1053 (by decide) (sm_a0 _) rfl rfl (Nat.le_of_ble_eq_true rfl) sm_h203 (Nat.le_of_ble_eq_true rfl) (Nat.le_of_ble_eq_true rfl) (F' := 0) (Nat.le_of_ble_eq_true rfl) rfl (t_name p1 S ok3 hp1 o1) (fun v S1 hq => ?_)
        obtain ⟨r14, rfl, hr14, ok11, md12, hpo13⟩ := hq
        obtain rfl : S = S1 := (funext fun j => md12 j (by intro q; cases q)).symm
        show sv_T sm_XS sm_cs sm_L sm_sh 1 (q_mayBeFalse p1 S) 222 42 [(0, .ref 0), (1, sv_I p1), (2, sv_I r6)] [sv_I r14] S
        have h := h r14 hr14 hpo13
        refine sv_bipush (d := (30 : Int)) hM dX12_mayBeFalse_42 rfl rfl ?_
        refine sv_icmp_ne hM dX12_mayBeFalse_44 hr14 (⟨by decide, by decide⟩ : sv_R (30 : Int)) (t := 51) rfl rfl (fun hc => ?_) (fun hc => ?_)
        · have h := h.1 (hc)
          refine sv_iconst (d := (0 : Int)) hM dX12_mayBeFalse_51 rfl rfl ?_
          exact sv_iret hM dX12_mayBeFalse_52 rfl (sv_nz (⟨by decide, by decide⟩ : 0 ≤ (0 : Int) ∧ (0 : Int) ≤ 1)) ⟨(0 : Int), rfl, sv_R01 (⟨by decide, by decide⟩ : 0 ≤ (0 : Int) ∧ (0 : Int) ≤ 1), ok11, sv_mod.rf, h⟩
        · have h := h.2 (hc)
          refine sv_iconst (d := (1 : Int)) hM dX12_mayBeFalse_47 rfl rfl ?_
          refine sv_goto hM dX12_mayBeFalse_48 (pc' := 52) rfl ?_
          exact sv_iret hM dX12_mayBeFalse_52 rfl (sv_nz (⟨by decide, by decide⟩ : 0 ≤ (1 : Int) ∧ (1 : Int) ≤ 1)) ⟨(1 : Int), rfl, sv_R01 (⟨by decide, by decide⟩ : 0 ≤ (1 : Int) ∧ (1 : Int) ≤ 1), ok11, sv_mod.rf, h⟩
    · have h := h.2 (hc)
      refine sv_aload_n hM dX12_mayBeFalse_21 rfl rfl ?_
      refine sv_iload_n hM dX12_mayBeFalse_22 rfl rfl ?_
      refine sv_callV hM dX12_mayBeFalse_23 sm_iv_1050 (by decide) (sm_a0 _) rfl rfl (Nat.le_of_ble_eq_true rfl) sm_h204 (Nat.le_of_ble_eq_true rfl) (Nat.le_of_ble_eq_true rfl) (F' := 0) (Nat.le_of_ble_eq_true rfl) rfl (t_number p1 S ok3 hp1 o1) (fun v S1 hq => ?_)
      obtain ⟨r19, rfl, hr19, ok16, md17, hpo18⟩ := hq
      obtain rfl : S = S1 := (funext fun j => md17 j (by intro q; cases q)).symm
      show sv_T sm_XS sm_cs sm_L sm_sh 1 (q_mayBeFalse p1 S) 222 26 [(0, .ref 0), (1, sv_I p1), (2, sv_I r6)] [sv_I r19] S
      have h := h r19 hr19 hpo18
      refine sv_cond_eq hM dX12_mayBeFalse_26 hr19 (t := 47) rfl rfl (fun hc => ?_) (fun hc => ?_)
      · have h := h.1 (hc)
        refine sv_iconst (d := (1 : Int)) hM dX12_mayBeFalse_47 rfl rfl ?_
        refine sv_goto hM dX12_mayBeFalse_48 (pc' := 52) rfl ?_
        exact sv_iret hM dX12_mayBeFalse_52 rfl (sv_nz (⟨by decide, by decide⟩ : 0 ≤ (1 : Int) ∧ (1 : Int) ≤ 1)) ⟨(1 : Int), rfl, sv_R01 (⟨by decide, by decide⟩ : 0 ≤ (1 : Int) ∧ (1 : Int) ≤ 1), ok16, sv_mod.rf, h⟩
      · have h := h.2 (hc)
        refine sv_iload_n hM dX12_mayBeFalse_29 rfl rfl ?_
        refine sv_sipush (d := (128 : Int)) hM dX12_mayBeFalse_30 rfl rfl ?_
        refine sv_iand hM dX12_mayBeFalse_33 ⟨by decide, by decide⟩ rfl (fun r20 hr20 => ?_)
        have h := h r20 hr20
        refine sv_cond_eq hM dX12_mayBeFalse_34 (⟨by omega, by omega⟩ : sv_R r20) (t := 51) rfl rfl (fun hc => ?_) (fun hc => ?_)
        · have h := h.1 (hc)
          refine sv_iconst (d := (0 : Int)) hM dX12_mayBeFalse_51 rfl rfl ?_
          exact sv_iret hM dX12_mayBeFalse_52 rfl (sv_nz (⟨by decide, by decide⟩ : 0 ≤ (0 : Int) ∧ (0 : Int) ≤ 1)) ⟨(0 : Int), rfl, sv_R01 (⟨by decide, by decide⟩ : 0 ≤ (0 : Int) ∧ (0 : Int) ≤ 1), ok16, sv_mod.rf, h⟩
        · have h := h.2 (hc)
          refine sv_aload_n hM dX12_mayBeFalse_37 rfl rfl ?_
          refine sv_iload_n hM dX12_mayBeFalse_38 rfl rfl ?_
          refine sv_callV hM dX12_mayBeFalse_39 sm_iv_1053 (by decide) (sm_a0 _) rfl rfl (Nat.le_of_ble_eq_true rfl) sm_h203 (Nat.le_of_ble_eq_true rfl) (Nat.le_of_ble_eq_true rfl) (F' := 0) (Nat.le_of_ble_eq_true rfl) rfl (t_name p1 S ok16 hp1 o1) (fun v S1 hq => ?_)
          obtain ⟨r25, rfl, hr25, ok22, md23, hpo24⟩ := hq
          obtain rfl : S = S1 := (funext fun j => md23 j (by intro q; cases q)).symm
          show sv_T sm_XS sm_cs sm_L sm_sh 1 (q_mayBeFalse p1 S) 222 42 [(0, .ref 0), (1, sv_I p1), (2, sv_I r6)] [sv_I r25] S
          have h := h r25 hr25 hpo24
          refine sv_bipush (d := (30 : Int)) hM dX12_mayBeFalse_42 rfl rfl ?_
          refine sv_icmp_ne hM dX12_mayBeFalse_44 hr25 (⟨by decide, by decide⟩ : sv_R (30 : Int)) (t := 51) rfl rfl (fun hc => ?_) (fun hc => ?_)
          · have h := h.1 (hc)
            refine sv_iconst (d := (0 : Int)) hM dX12_mayBeFalse_51 rfl rfl ?_
            exact sv_iret hM dX12_mayBeFalse_52 rfl (sv_nz (⟨by decide, by decide⟩ : 0 ≤ (0 : Int) ∧ (0 : Int) ≤ 1)) ⟨(0 : Int), rfl, sv_R01 (⟨by decide, by decide⟩ : 0 ≤ (0 : Int) ∧ (0 : Int) ≤ 1), ok22, sv_mod.rf, h⟩
          · have h := h.2 (hc)
            refine sv_iconst (d := (1 : Int)) hM dX12_mayBeFalse_47 rfl rfl ?_
            refine sv_goto hM dX12_mayBeFalse_48 (pc' := 52) rfl ?_
            exact sv_iret hM dX12_mayBeFalse_52 rfl (sv_nz (⟨by decide, by decide⟩ : 0 ≤ (1 : Int) ∧ (1 : Int) ≤ 1)) ⟨(1 : Int), rfl, sv_R01 (⟨by decide, by decide⟩ : 0 ≤ (1 : Int) ∧ (1 : Int) ≤ 1), ok22, sv_mod.rf, h⟩
